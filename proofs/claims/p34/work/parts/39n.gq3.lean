theorem o1_9 {x y : Int32} (h : x.toInt = y.toInt + 1) (h2 : y.toInt ≤ 100) : x = y + 1 := by
  have := b_rg y
  exact Int32.toInt_inj.mp (h.trans (i_add (a := y.toInt) (b := 1) rfl rfl (by omega) (by omega)).symm)
-- where a letter stands in the row of letters
def jIx (x z : Int32) : Prop := (∃ k : Nat, k < 10 ∧ z.toInt = (k : Int) ∧ bJ.getD k 0 = x.toInt8.toInt32) ∨ (z = -1 ∧ ∀ k, k < 10 → bJ.getD k 0 ≠ x.toInt8.toInt32)
set_option maxRecDepth 100000 in
theorem jIx_t : ∀ n, n < 256 → (∀ k, k < 10 → bJ.getD k 0 = (nI n).toInt8.toInt32 → qFct (n : Int) = (k : Int)) ∧ ((∀ k, k < 10 → bJ.getD k 0 ≠ (nI n).toInt8.toInt32) → qFct (n : Int) = -1) := by decide +kernel
theorem jIx_q {x z : Int32} (h : jIx x z) (h0 : 0 ≤ x.toInt) (h1 : x.toInt ≤ 255) : z.toInt = qFct x.toInt := by
  obtain ⟨n, hn, rfl⟩ := nI_of (x := x) (fun h2 => by have := b_lt h2; have h3 : (0 : Int32).toInt = 0 := rfl; omega)
  rw [nI_toInt (by omega)] at h1 ⊢
  obtain ⟨a, b⟩ := jIx_t n (by omega)
  rcases h with ⟨k, k1, k2, k3⟩ | ⟨z1, z2⟩
  · rw [a k k1 k3]; exact k2
  · rw [b z2, z1]; rfl
set_option maxHeartbeats 4000000 in
set_option maxRecDepth 100000 in
theorem c_X6_peek9 (l : Launch) (D : va_G) (cy : Nat → ClassId) (a : Nat → Nat) (i : Nat → Int32) (r : Nat → Nat → Int32) (q : Nat → Option Nat) (tl : va_W) (hRi : yRi i) (hRr : yRr r) (h4 : 0 ≤ (i 4).toInt) : Met l yX6_peek (Cond.code yX6_peek cX6_peek 1 (some .int) :: gT) { frames := 1, cells := 0, slots := 0, locals := 24 } (va_Pc [.ref (a 10)] (rP D cy (xW cy a i r q (a 20) (a 12) ++ tl))) (vp_Si (fun z => z.toInt = qTX (i 3) (r 11) (i 4).toInt.toNat ∧ (-1 ≤ z.toInt ∧ z.toInt ≤ 255))) 0 0 (fun _ => False) := by
  refine Met.ofQ (cc := cX6_peek) (maxL := 1) (ret := (some .int)) (by decide) rfl ?_
  intro p e s m args below meth c s₁ B hml hv Q hQ
  obtain ⟨rfl, hP, hK⟩ := hv
  have hx := B.exec
  have hb := B.bytes
  have hr := B.returns
  have hlocks := B.notSynchronized
  have hT : ∀ w ∈ gT, w.before _ s = true := fun w h => atoms_spec (ws := (Cond.code yX6_peek cX6_peek 1 (some .int) :: gT)) B.pre w (List.mem_cons_of_mem _ h)
  have hown : s.vm.findClass RX6 = some m.cls := findClass_of_methodNamed B.named
  have hl := lv_entry ([.ref (a 10)]) (n := 1) (Nat.le_of_ble_eq_true rfl)
  rw [lg_entry_eq]
  generalize (lg_sl ([.ref (a 10)]) ++ List.replicate (1 - (lg_sl ([.ref (a 10)])).length) Slot.unset).toArray = ls at hl ⊢
  have hl : lv_has ls 1 [(0, .ref (a 10))] := hl
  have hEi : mEi [] i i := Ei_rf
  have hEr : mEr [] r r := Er_rf
  refine lv_aload_n hx hb dX6_peek_0 rfl (lv_at hl 0 rfl) ?_
  refine va_get (D := D) (ci := 6) (v := .int (i 4)) (C := RX6) (T := TX6) (N := 5) hx hb hT iX6 hown hK hP 10 rfl rfl 3 (by decide) (hT _ t_648) (fun _ h9 => h9) rfl dX6_peek_1 ?_
  refine lv_if_lt (tgt := 34) hx hb dX6_peek_4 (by decide) (fun c_1 => by have c_1 : (i 4).toInt < 0 := b_lt c_1; omega) (fun c_1 => ?_)
  have c_1 : 0 ≤ (i 4).toInt := b_nlt c_1
  refine lv_aload_n hx hb dX6_peek_7 rfl (lv_at hl 0 rfl) ?_
  refine va_get (D := D) (ci := 6) (v := .int (i 4)) (C := RX6) (T := TX6) (N := 5) hx hb hT iX6 hown hK hP 10 rfl rfl 3 (by decide) (hT _ t_648) (fun _ h9 => h9) rfl dX6_peek_8 ?_
  refine lv_aload_n hx hb dX6_peek_11 rfl (lv_at hl 0 rfl) ?_
  refine va_get (D := D) (ci := 6) (v := .int (i 3)) (C := RX6) (T := TX6) (N := 5) hx hb hT iX6 hown hK hP 10 rfl rfl 2 (by decide) (hT _ t_649) (fun _ h9 => h9) rfl dX6_peek_12 ?_
  have hg_2 : 0 ≤ (i 3).toInt ∧ (i 3).toInt ≤ 200 := hRi 3
  refine lv_icmp_ge (tgt := 34) hx hb dX6_peek_15 (by decide) (fun c_3 => ?_) (fun c_3 => ?_)
  · have c_3 : (i 3).toInt ≤ (i 4).toInt := b_le c_3
    refine lv_iconst (v := (-1)) hx hb dX6_peek_34 (by decide) ?_
    subst hQ
    exact W.iret (v := (-1)) hx hb hr (fun t ht hW => ⟨_, rfl, ⟨by unfold qTX; rw [if_neg (by omega)]; rfl, by decide⟩, ht⟩) (fun q hq => absurd hq List.not_mem_nil) dX6_peek_35
  · have c_3 : (i 4).toInt < (i 3).toInt := b_nle c_3
    refine lv_aload_n hx hb dX6_peek_18 rfl (lv_at hl 0 rfl) ?_
    refine va_get (D := D) (ci := 6) (v := .ref (a 11)) (C := RX6) (T := TX6) (N := 5) hx hb hT iX6 hown hK hP 10 rfl rfl 1 (by decide) (hT _ t_650) (fun _ h9 => h9) rfl dX6_peek_19 ?_
    refine lv_aload_n hx hb dX6_peek_22 rfl (lv_at hl 0 rfl) ?_
    refine va_get (D := D) (ci := 6) (v := .int (i 4)) (C := RX6) (T := TX6) (N := 5) hx hb hT iX6 hown hK hP 10 rfl rfl 3 (by decide) (hT _ t_648) (fun _ h9 => h9) rfl dX6_peek_23 ?_
    refine va_bald hx hb hK hP 11 1 rfl rfl (vp_inI (by omega) (by omega)) dX6_peek_26 ?_
    refine lv_topi (fun v_4 ev_4 => ?_)
    refine lv_sipush (v := 255) hx hb dX6_peek_27 (by decide) ?_
    refine lv_iand hx hb dX6_peek_30 ?_
    refine lv_topi (fun v_5 ev_5 => ?_)
    have hmv_5 : 0 ≤ v_5.toInt ∧ v_5.toInt ≤ 255 := by rw [ev_5]; exact b_andm v_4 8 (by decide) (by decide)
    refine lv_goto (tgt := 35) hx hb dX6_peek_31 (by decide) ?_
    subst hQ
    exact W.iret (v := v_5) hx hb hr (fun t ht hW => ⟨_, rfl, ⟨by unfold qTX; rw [if_pos (by omega), ev_5, ev_4]; rfl, by omega⟩, ht⟩) (fun q hq => absurd hq List.not_mem_nil) dX6_peek_35
set_option maxHeartbeats 4000000 in
set_option maxRecDepth 100000 in
theorem c_X5_add9 (l : Launch) (D : va_G) (cy : Nat → ClassId) (a : Nat → Nat) (i : Nat → Int32) (r : Nat → Nat → Int32) (q : Nat → Option Nat) (tl : va_W) (p0 p1 : Int32) (sz : Nat) (hRi : yRi i) (hRr : yRr r) : Met l yX5_add (Cond.code yX5_add cX5_add 3 (some .int) :: gT) { frames := 1, cells := 0, slots := 0, locals := 24 } (va_Pc [.ref (a 12), .int p0, .int p1] (rQ D cy (xW cy a i r q (a 20) (a 12) ++ tl) sz)) (va_Qi (fun (z : Int32) (u : (Nat → Int32) × (Nat → Nat → Int32)) => yRi u.1 ∧ yRr u.2 ∧ mEi [7] i u.1 ∧ mEr [17, 18] r u.2 ∧ ((-1 ≤ z.toInt ∧ z.toInt ≤ 200) ∧ ((i 7).toInt < 200 → z = i 7 ∧ (u.1 7).toInt = (i 7).toInt + 1 ∧ u.2 17 = upd (r 17) (i 7).toInt.toNat p0 ∧ u.2 18 = upd (r 18) (i 7).toInt.toNat p1))) (fun (u : (Nat → Int32) × (Nat → Nat → Int32)) t => va_P D vwCl (xW cy a u.1 u.2 q (a 20) (a 12) ++ tl) t.heap ∧ va_K D vwCl (vT cy) t ∧ va_D (va_A (xW cy a i r q (a 20) (a 12) ++ tl) sz) (xW cy a u.1 u.2 q (a 20) (a 12) ++ tl)) (va_A (xW cy a i r q (a 20) (a 12) ++ tl) sz)) 0 0 (va_A (xW cy a i r q (a 20) (a 12) ++ tl) sz) := by
  refine Met.ofQ (cc := cX5_add) (maxL := 3) (ret := (some .int)) (by decide) rfl ?_
  intro p e s m args below meth c s₁ B hml hv Q hQ
  obtain ⟨rfl, hsz, hP, hK, hD0⟩ := hv
  have hx := B.exec
  have hb := B.bytes
  have hr := B.returns
  have hlocks := B.notSynchronized
  have hT : ∀ w ∈ gT, w.before _ s = true := fun w h => atoms_spec (ws := (Cond.code yX5_add cX5_add 3 (some .int) :: gT)) B.pre w (List.mem_cons_of_mem _ h)
  have hown : s.vm.findClass RX5 = some m.cls := findClass_of_methodNamed B.named
  subst hsz
  have hD := hD0.self (sz := s.heap.size)
  generalize hAe : va_A (xW cy a i r q (a 20) (a 12) ++ tl) s.heap.size = A at hD hQ
  have hA : ∀ q : Nat, s.heap.size ≤ q → A q := fun q h => by rw [← hAe]; exact Or.inr h
  have hS : va_S A s.heap s.heap [] := va_S.rf
  have hl := lv_entry ([.ref (a 12), .int p0, .int p1]) (n := 3) (Nat.le_of_ble_eq_true rfl)
  rw [lg_entry_eq]
  generalize (lg_sl ([.ref (a 12), .int p0, .int p1]) ++ List.replicate (3 - (lg_sl ([.ref (a 12), .int p0, .int p1])).length) Slot.unset).toArray = ls at hl ⊢
  have hl : lv_has ls 3 [(0, .ref (a 12)), (1, .int p0), (2, .int p1)] := hl
  have hEi : mEi [7] i i := Ei_rf
  have hEr : mEr [17, 18] r r := Er_rf
  have hg7 : 0 ≤ (i 7).toInt ∧ (i 7).toInt ≤ 200 := hRi 7
  refine lv_aload_n hx hb dX5_add_0 rfl (lv_at hl 0 rfl) ?_
  refine va_get (D := D) (ci := 5) (v := .int (i 7)) (C := RX5) (T := TX5) (N := 9) hx hb hT iX5 hown hK hP 12 rfl rfl 1 (by decide) (hT _ t_643) (fun _ h9 => h9) rfl dX5_add_1 ?_
  have hg_1 : 0 ≤ (i 7).toInt ∧ (i 7).toInt ≤ 200 := hRi 7
  refine lv_sipush (v := 200) hx hb dX5_add_4 (by decide) ?_
  refine lv_icmp_lt (tgt := 12) hx hb dX5_add_7 (by decide) (fun c_2 => ?_) (fun c_2 => ?_)
  · have c_2 : (i 7).toInt < 200 := b_lt c_2
    refine lv_aload_n hx hb dX5_add_12 rfl (lv_at hl 0 rfl) ?_
    refine va_get (D := D) (ci := 5) (v := .ref (a 17)) (C := RX5) (T := TX5) (N := 9) hx hb hT iX5 hown hK hP 12 rfl rfl 6 (by decide) (hT _ t_364) (fun _ h9 => h9) rfl dX5_add_13 ?_
    refine lv_aload_n hx hb dX5_add_16 rfl (lv_at hl 0 rfl) ?_
    refine va_get (D := D) (ci := 5) (v := .int (i 7)) (C := RX5) (T := TX5) (N := 9) hx hb hT iX5 hown hK hP 12 rfl rfl 1 (by decide) (hT _ t_643) (fun _ h9 => h9) rfl dX5_add_17 ?_
    refine lv_iload_n hx hb dX5_add_20 rfl (lv_at hl 1 rfl) ?_
    refine va_iast hx hb hK hP hD hS 17 0 rfl rfl (vp_inI (by omega) (by omega)) dX5_add_21 (fun H locs hP hD hS => ?_)
    rw [zS17] at hP hD
    have hRr : yRr (va_up r 17 (upd (r 17) ((i 7).toNatClampNeg) p0)) := Yr_upd hRr 17 ((i 7).toNatClampNeg) p0 (b_rg _)
    have hEr : mEr [17, 18] _ (va_up r 17 (upd (r 17) ((i 7).toNatClampNeg) p0)) := Er_up hEr 17 _ (by decide)
    refine lv_aload_n hx hb dX5_add_22 rfl (lv_at hl 0 rfl) ?_
    refine va_get (D := D) (ci := 5) (v := .ref (a 18)) (C := RX5) (T := TX5) (N := 9) hx hb hT iX5 hown hK hP 12 rfl rfl 7 (by decide) (hT _ t_365) (fun _ h9 => h9) rfl dX5_add_23 ?_
    refine lv_aload_n hx hb dX5_add_26 rfl (lv_at hl 0 rfl) ?_
    refine va_get (D := D) (ci := 5) (v := .int (i 7)) (C := RX5) (T := TX5) (N := 9) hx hb hT iX5 hown hK hP 12 rfl rfl 1 (by decide) (hT _ t_643) (fun _ h9 => h9) rfl dX5_add_27 ?_
    refine lv_iload_n hx hb dX5_add_30 rfl (lv_at hl 2 rfl) ?_
    refine va_iast hx hb hK hP hD hS 18 0 rfl rfl (vp_inI (by omega) (by omega)) dX5_add_31 (fun H locs hP hD hS => ?_)
    rw [zS18] at hP hD
    have hRr : yRr (va_up (va_up r 17 (upd (r 17) ((i 7).toNatClampNeg) p0)) 18 (upd (r 18) ((i 7).toNatClampNeg) p1)) := Yr_upd hRr 18 ((i 7).toNatClampNeg) p1 (b_rg _)
    have hEr : mEr [17, 18] _ (va_up (va_up r 17 (upd (r 17) ((i 7).toNatClampNeg) p0)) 18 (upd (r 18) ((i 7).toNatClampNeg) p1)) := Er_up hEr 18 _ (by decide)
    refine lv_aload_n hx hb dX5_add_32 rfl (lv_at hl 0 rfl) ?_
    refine lv_dup hx hb dX5_add_33 rfl ?_
    refine va_get (D := D) (ci := 5) (v := .int (i 7)) (C := RX5) (T := TX5) (N := 9) hx hb hT iX5 hown hK hP 12 rfl rfl 1 (by decide) (hT _ t_643) (fun _ h9 => h9) rfl dX5_add_34 ?_
    refine lv_iconst (v := 1) hx hb dX5_add_37 (by decide) ?_
    refine lv_iadd hx hb dX5_add_38 ?_
    refine lv_topi (fun v_3 ev_3 => ?_)
    have hv_3 : v_3.toInt = (i 7).toInt + 1 := by rw [ev_3]; have := b_rg (i 7); exact i_add (a := (i 7).toInt) (b := 1) rfl rfl (by omega) (by omega)
    refine va_put (D := D) (ci := 5) (v := .int v_3) (ty := .int) (C := RX5) (T := TX5) (N := 9) hx hb hT iX5 tyX5 tyX5_ok nmX5 hown hK hP hD hS 12 rfl rfl 1 (by decide) (hT _ t_643) (fun _ h9 => h9) rfl (by decide +kernel) rfl rfl (Nat.le_of_ble_eq_true rfl) dX5_add_39 (fun H locs hP hD hS => ?_)
    rw [zP7] at hP hD
    have hRi := Yi_upd hRi 7 v_3 ⟨by show (0 : Int) ≤ v_3.toInt; omega, by show v_3.toInt ≤ (200 : Int); omega⟩
    have hEi := Ei_upd hEi 7 v_3 (by decide)
    refine lv_aload_n hx hb dX5_add_42 rfl (lv_at hl 0 rfl) ?_
    refine va_get (D := D) (ci := 5) (v := .int v_3) (C := RX5) (T := TX5) (N := 9) hx hb hT iX5 hown hK hP 12 rfl rfl 1 (by decide) (hT _ t_643) (fun _ h9 => h9) rfl dX5_add_43 ?_
    refine lv_iconst (v := 1) hx hb dX5_add_46 (by decide) ?_
    refine lv_isub hx hb dX5_add_47 ?_
    refine lv_topi (fun v_4 ev_4 => ?_)
    have hv_4 : v_4.toInt = v_3.toInt - 1 := by rw [ev_4]; have := b_rg v_3; exact i_sub (a := v_3.toInt) (b := 1) rfl rfl (by omega) (by omega)
    subst hQ
    have hpo9 : (-1 ≤ v_4.toInt ∧ v_4.toInt ≤ 200) ∧ ((i 7).toInt < 200 → v_4 = i 7 ∧ ((upd i 7 v_3) 7).toInt = (i 7).toInt + 1 ∧ (va_up (va_up r 17 (upd (r 17) ((i 7).toNatClampNeg) p0)) 18 (upd (r 18) ((i 7).toNatClampNeg) p1)) 17 = upd (r 17) (i 7).toInt.toNat p0 ∧ (va_up (va_up r 17 (upd (r 17) ((i 7).toNatClampNeg) p0)) 18 (upd (r 18) ((i 7).toNatClampNeg) p1)) 18 = upd (r 18) (i 7).toInt.toNat p1) := ⟨by omega, fun _ => ⟨Int32.toInt_inj.mp (by omega), by show v_3.toInt = _; omega, rfl, rfl⟩⟩
    exact W.iret (v := v_4) hx hb hr (fun t ht hW => ⟨⟨_, (upd i 7 v_3, va_up (va_up r 17 (upd (r 17) ((i 7).toNatClampNeg) p0)) 18 (upd (r 18) ((i 7).toNatClampNeg) p1)), rfl, ⟨hRi, hRr, hEi, hEr, hpo9⟩, by rw [ht]; exact hP, va_K.moved hW.alike hK, hD⟩, hS.F ht⟩) hS.2.2 dX5_add_48
  · have c_2 : 200 ≤ (i 7).toInt := b_nlt c_2
    refine lv_iconst (v := (-1)) hx hb dX5_add_10 (by decide) ?_
    subst hQ
    have hpo9 : (-1 ≤ ((-1) : Int32).toInt ∧ ((-1) : Int32).toInt ≤ 200) ∧ ((i 7).toInt < 200 → ((-1) : Int32) = i 7 ∧ (i 7).toInt = (i 7).toInt + 1 ∧ r 17 = upd (r 17) (i 7).toInt.toNat p0 ∧ r 18 = upd (r 18) (i 7).toInt.toNat p1) := ⟨by decide, fun h9 => absurd h9 (by omega)⟩
    exact W.iret (v := (-1)) hx hb hr (fun t ht hW => ⟨⟨_, (i, r), rfl, ⟨hRi, hRr, hEi, hEr, hpo9⟩, by rw [ht]; exact hP, va_K.moved hW.alike hK, hD⟩, hS.F ht⟩) hS.2.2 dX5_add_11
set_option maxHeartbeats 4000000 in
set_option maxRecDepth 100000 in
theorem c_X5_aim9 (l : Launch) (D : va_G) (cy : Nat → ClassId) (a : Nat → Nat) (i : Nat → Int32) (r : Nat → Nat → Int32) (q : Nat → Option Nat) (tl : va_W) (p0 : Int32) (sz : Nat) (hRi : yRi i) (hRr : yRr r) : Met l yX5_aim (Cond.code yX5_aim cX5_aim 2 none :: gT) { frames := 1, cells := 0, slots := 0, locals := 24 } (va_Pc [.ref (a 12), .int p0] (rQ D cy (xW cy a i r q (a 20) (a 12) ++ tl) sz)) (va_Qv (fun u : Nat → Nat → Int32 => yRr u ∧ mEr [18] r u ∧ ((0 ≤ p0.toInt ∧ p0.toInt < (i 7).toInt → u 18 = upd (r 18) p0.toInt.toNat (i 7)) ∧ (p0.toInt < 0 → u 18 = r 18))) (fun (u : Nat → Nat → Int32) t => va_P D vwCl (xW cy a i u q (a 20) (a 12) ++ tl) t.heap ∧ va_K D vwCl (vT cy) t ∧ va_D (va_A (xW cy a i r q (a 20) (a 12) ++ tl) sz) (xW cy a i u q (a 20) (a 12) ++ tl)) (va_A (xW cy a i r q (a 20) (a 12) ++ tl) sz)) 0 0 (va_A (xW cy a i r q (a 20) (a 12) ++ tl) sz) := by
  refine Met.ofQ (cc := cX5_aim) (maxL := 2) (ret := none) (by decide) rfl ?_
  intro p e s m args below meth c s₁ B hml hv Q hQ
  obtain ⟨rfl, hsz, hP, hK, hD0⟩ := hv
  have hx := B.exec
  have hb := B.bytes
  have hr := B.returns
  have hlocks := B.notSynchronized
  have hT : ∀ w ∈ gT, w.before _ s = true := fun w h => atoms_spec (ws := (Cond.code yX5_aim cX5_aim 2 none :: gT)) B.pre w (List.mem_cons_of_mem _ h)
  have hown : s.vm.findClass RX5 = some m.cls := findClass_of_methodNamed B.named
  subst hsz
  have hD := hD0.self (sz := s.heap.size)
  generalize hAe : va_A (xW cy a i r q (a 20) (a 12) ++ tl) s.heap.size = A at hD hQ
  have hA : ∀ q : Nat, s.heap.size ≤ q → A q := fun q h => by rw [← hAe]; exact Or.inr h
  have hS : va_S A s.heap s.heap [] := va_S.rf
  have hl := lv_entry ([.ref (a 12), .int p0]) (n := 2) (Nat.le_of_ble_eq_true rfl)
  rw [lg_entry_eq]
  generalize (lg_sl ([.ref (a 12), .int p0]) ++ List.replicate (2 - (lg_sl ([.ref (a 12), .int p0])).length) Slot.unset).toArray = ls at hl ⊢
  have hl : lv_has ls 2 [(0, .ref (a 12)), (1, .int p0)] := hl
  have hEi : mEi [] i i := Ei_rf
  have hEr : mEr [18] r r := Er_rf
  refine lv_iload_n hx hb dX5_aim_0 rfl (lv_at hl 1 rfl) ?_
  refine lv_if_lt (tgt := 22) hx hb dX5_aim_1 (by decide) (fun c_1 => ?_) (fun c_1 => ?_)
  · have c_1 : p0.toInt < 0 := b_lt c_1
    subst hQ
    have hpo9 : (0 ≤ p0.toInt ∧ p0.toInt < (i 7).toInt → r 18 = upd (r 18) p0.toInt.toNat (i 7)) ∧ (p0.toInt < 0 → r 18 = r 18) := ⟨fun h9 => absurd h9 (by omega), fun _ => rfl⟩
    exact W.vret hx hb hr (fun t ht hW => ⟨⟨r, rfl, ⟨hRr, hEr, hpo9⟩, by rw [ht]; exact hP, va_K.moved hW.alike hK, hD⟩, hS.F ht⟩) hS.2.2 dX5_aim_22
  · have c_1 : 0 ≤ p0.toInt := b_nlt c_1
    refine lv_iload_n hx hb dX5_aim_4 rfl (lv_at hl 1 rfl) ?_
    refine lv_aload_n hx hb dX5_aim_5 rfl (lv_at hl 0 rfl) ?_
    refine va_get (D := D) (ci := 5) (v := .int (i 7)) (C := RX5) (T := TX5) (N := 9) hx hb hT iX5 hown hK hP 12 rfl rfl 1 (by decide) (hT _ t_643) (fun _ h9 => h9) rfl dX5_aim_6 ?_
    have hg_2 : 0 ≤ (i 7).toInt ∧ (i 7).toInt ≤ 200 := hRi 7
    refine lv_icmp_ge (tgt := 22) hx hb dX5_aim_9 (by decide) (fun c_3 => ?_) (fun c_3 => ?_)
    · have c_3 : (i 7).toInt ≤ p0.toInt := b_le c_3
      subst hQ
      have hpo9 : (0 ≤ p0.toInt ∧ p0.toInt < (i 7).toInt → r 18 = upd (r 18) p0.toInt.toNat (i 7)) ∧ (p0.toInt < 0 → r 18 = r 18) := ⟨fun h9 => absurd h9 (by omega), fun _ => rfl⟩
      exact W.vret hx hb hr (fun t ht hW => ⟨⟨r, rfl, ⟨hRr, hEr, hpo9⟩, by rw [ht]; exact hP, va_K.moved hW.alike hK, hD⟩, hS.F ht⟩) hS.2.2 dX5_aim_22
    · have c_3 : p0.toInt < (i 7).toInt := b_nle c_3
      refine lv_aload_n hx hb dX5_aim_12 rfl (lv_at hl 0 rfl) ?_
      refine va_get (D := D) (ci := 5) (v := .ref (a 18)) (C := RX5) (T := TX5) (N := 9) hx hb hT iX5 hown hK hP 12 rfl rfl 7 (by decide) (hT _ t_365) (fun _ h9 => h9) rfl dX5_aim_13 ?_
      refine lv_iload_n hx hb dX5_aim_16 rfl (lv_at hl 1 rfl) ?_
      refine lv_aload_n hx hb dX5_aim_17 rfl (lv_at hl 0 rfl) ?_
      refine va_get (D := D) (ci := 5) (v := .int (i 7)) (C := RX5) (T := TX5) (N := 9) hx hb hT iX5 hown hK hP 12 rfl rfl 1 (by decide) (hT _ t_643) (fun _ h9 => h9) rfl dX5_aim_18 ?_
      refine va_iast hx hb hK hP hD hS 18 0 rfl rfl (vp_inI (by omega) (by omega)) dX5_aim_21 (fun H locs hP hD hS => ?_)
      rw [zS18] at hP hD
      have hRr : yRr (va_up r 18 (upd (r 18) p0.toNatClampNeg (i 7))) := Yr_upd hRr 18 (p0.toNatClampNeg) (i 7) (b_rg _)
      have hEr : mEr [18] _ (va_up r 18 (upd (r 18) p0.toNatClampNeg (i 7))) := Er_up hEr 18 _ (by decide)
      subst hQ
      have hpo9 : (0 ≤ p0.toInt ∧ p0.toInt < (i 7).toInt → (va_up r 18 (upd (r 18) p0.toNatClampNeg (i 7))) 18 = upd (r 18) p0.toInt.toNat (i 7)) ∧ (p0.toInt < 0 → (va_up r 18 (upd (r 18) p0.toNatClampNeg (i 7))) 18 = r 18) := ⟨fun _ => rfl, fun h9 => absurd h9 (by omega)⟩
      exact W.vret hx hb hr (fun t ht hW => ⟨⟨(va_up r 18 (upd (r 18) p0.toNatClampNeg (i 7))), rfl, ⟨hRr, hEr, hpo9⟩, by rw [ht]; exact hP, va_K.moved hW.alike hK, hD⟩, hS.F ht⟩) hS.2.2 dX5_aim_22
set_option maxHeartbeats 4000000 in
set_option maxRecDepth 100000 in
theorem c_X6_refuse9 (l : Launch) (D : va_G) (cy : Nat → ClassId) (a : Nat → Nat) (i : Nat → Int32) (r : Nat → Nat → Int32) (q : Nat → Option Nat) (tl : va_W) (p0 : Int32) (sz : Nat) (hRi : yRi i) (hRr : yRr r) (q0 : 0 ≤ p0.toInt ∧ p0.toInt ≤ 5) (h4 : 0 ≤ (i 4).toInt ∧ (i 4).toInt ≤ 300) : Met l yX6_refuse (Cond.code yX6_refuse cX6_refuse 2 (some .boolean) :: gT) { frames := 1, cells := 0, slots := 0, locals := 24 } (va_Pc [.ref (a 10), .int p0] (rQ D cy (xW cy a i r q (a 20) (a 12) ++ tl) sz)) (va_Qi (fun (z : Int32) (u : (Nat → Int32) × (Nat → Nat → Int32)) => yRi u.1 ∧ yRr u.2 ∧ mEi [5] i u.1 ∧ mEr [] r u.2 ∧ (z = 0 ∧ (u.1 5).toInt = -1000 * p0.toInt - (i 4).toInt)) (fun (u : (Nat → Int32) × (Nat → Nat → Int32)) t => va_P D vwCl (xW cy a u.1 u.2 q (a 20) (a 12) ++ tl) t.heap ∧ va_K D vwCl (vT cy) t ∧ va_D (va_A (xW cy a i r q (a 20) (a 12) ++ tl) sz) (xW cy a u.1 u.2 q (a 20) (a 12) ++ tl)) (va_A (xW cy a i r q (a 20) (a 12) ++ tl) sz)) 0 0 (va_A (xW cy a i r q (a 20) (a 12) ++ tl) sz) := by
  refine Met.ofQ (cc := cX6_refuse) (maxL := 2) (ret := (some .boolean)) (by decide) rfl ?_
  intro p e s m args below meth c s₁ B hml hv Q hQ
  obtain ⟨rfl, hsz, hP, hK, hD0⟩ := hv
  have hx := B.exec
  have hb := B.bytes
  have hr := B.returns
  have hlocks := B.notSynchronized
  have hT : ∀ w ∈ gT, w.before _ s = true := fun w h => atoms_spec (ws := (Cond.code yX6_refuse cX6_refuse 2 (some .boolean) :: gT)) B.pre w (List.mem_cons_of_mem _ h)
  have hown : s.vm.findClass RX6 = some m.cls := findClass_of_methodNamed B.named
  subst hsz
  have hD := hD0.self (sz := s.heap.size)
  generalize hAe : va_A (xW cy a i r q (a 20) (a 12) ++ tl) s.heap.size = A at hD hQ
  have hA : ∀ q : Nat, s.heap.size ≤ q → A q := fun q h => by rw [← hAe]; exact Or.inr h
  have hS : va_S A s.heap s.heap [] := va_S.rf
  have hl := lv_entry ([.ref (a 10), .int p0]) (n := 2) (Nat.le_of_ble_eq_true rfl)
  rw [lg_entry_eq]
  generalize (lg_sl ([.ref (a 10), .int p0]) ++ List.replicate (2 - (lg_sl ([.ref (a 10), .int p0])).length) Slot.unset).toArray = ls at hl ⊢
  have hl : lv_has ls 2 [(0, .ref (a 10)), (1, .int p0)] := hl
  have hEi : mEi [5] i i := Ei_rf
  have hEr : mEr [] r r := Er_rf
  refine lv_aload_n hx hb dX6_refuse_0 rfl (lv_at hl 0 rfl) ?_
  refine lv_sipush (v := (-1000)) hx hb dX6_refuse_1 (by decide) ?_
  refine lv_iload_n hx hb dX6_refuse_4 rfl (lv_at hl 1 rfl) ?_
  refine lv_imul hx hb dX6_refuse_5 ?_
  refine lv_topi (fun v_1 ev_1 => ?_)
  have hv_1 : v_1.toInt = (-1000) * p0.toInt := by rw [ev_1]; have := b_rg p0; exact i_mul (a := (-1000)) (b := p0.toInt) rfl rfl (by omega) (by omega)
  refine lv_aload_n hx hb dX6_refuse_6 rfl (lv_at hl 0 rfl) ?_
  refine va_get (D := D) (ci := 6) (v := .int (i 4)) (C := RX6) (T := TX6) (N := 5) hx hb hT iX6 hown hK hP 10 rfl rfl 3 (by decide) (hT _ t_648) (fun _ h9 => h9) rfl dX6_refuse_7 ?_
  refine lv_isub hx hb dX6_refuse_10 ?_
  refine lv_topi (fun v_2 ev_2 => ?_)
  have hv_2 : v_2.toInt = v_1.toInt - (i 4).toInt := by rw [ev_2]; have := b_rg v_1; have := b_rg (i 4); exact i_sub (a := v_1.toInt) (b := (i 4).toInt) rfl rfl (by omega) (by omega)
  refine va_put (D := D) (ci := 6) (v := .int v_2) (ty := .int) (C := RX6) (T := TX6) (N := 5) hx hb hT iX6 tyX6 tyX6_ok nmX6 hown hK hP hD hS 10 rfl rfl 4 (by decide) (hT _ t_651) (fun _ h9 => h9) rfl (by decide +kernel) rfl rfl (Nat.le_of_ble_eq_true rfl) dX6_refuse_11 (fun H locs hP hD hS => ?_)
  rw [zP5] at hP hD
  have hRi := Yi_upd hRi 5 v_2 (b_rg _)
  have hEi := Ei_upd hEi 5 v_2 (by decide)
  refine lv_iconst (v := 0) hx hb dX6_refuse_14 (by decide) ?_
  subst hQ
  have hpo9 : (0 : Int32) = 0 ∧ ((upd i 5 v_2) 5).toInt = -1000 * p0.toInt - (i 4).toInt := ⟨rfl, by show v_2.toInt = _; omega⟩
  exact W.zret hx hb hr rfl (fun t ht hW => ⟨⟨_, (upd i 5 v_2, r), rfl, ⟨hRi, hRr, hEi, hEr, hpo9⟩, by rw [ht]; exact hP, va_K.moved hW.alike hK, hD⟩, hS.F ht⟩) hS.2.2 dX6_refuse_15
set_option maxHeartbeats 4000000 in
set_option maxRecDepth 100000 in
theorem c_X6_pass9 (l : Launch) (D : va_G) (cy : Nat → ClassId) (a : Nat → Nat) (i : Nat → Int32) (r : Nat → Nat → Int32) (q : Nat → Option Nat) (tl : va_W) (p0 : Int32) (sz : Nat) (hRi : yRi i) (hRr : yRr r) (h4 : 0 ≤ (i 4).toInt ∧ (i 4).toInt ≤ 200) : Met l yX6_pass (Cond.code yX6_pass cX6_pass 2 (some .boolean) :: gT) { frames := 2, cells := 0, slots := 0, locals := 45 } (va_Pc [.ref (a 10), .int p0] (rQ D cy (xW cy a i r q (a 20) (a 12) ++ tl) sz)) (va_Qi (fun (z : Int32) (u : (Nat → Int32) × (Nat → Nat → Int32)) => yRi u.1 ∧ yRr u.2 ∧ mEi [4, 5] i u.1 ∧ mEr [] r u.2 ∧ ((z = 1 ∧ qTX (i 3) (r 11) (i 4).toInt.toNat = p0.toInt ∧ (u.1 4).toInt = (i 4).toInt + 1 ∧ u.1 5 = i 5) ∨ (z = 0 ∧ qTX (i 3) (r 11) (i 4).toInt.toNat ≠ p0.toInt ∧ (u.1 5).toInt = -1000 - (i 4).toInt ∧ u.1 4 = i 4))) (fun (u : (Nat → Int32) × (Nat → Nat → Int32)) t => va_P D vwCl (xW cy a u.1 u.2 q (a 20) (a 12) ++ tl) t.heap ∧ va_K D vwCl (vT cy) t ∧ va_D (va_A (xW cy a i r q (a 20) (a 12) ++ tl) sz) (xW cy a u.1 u.2 q (a 20) (a 12) ++ tl)) (va_A (xW cy a i r q (a 20) (a 12) ++ tl) sz)) 0 0 (va_A (xW cy a i r q (a 20) (a 12) ++ tl) sz) := by
  refine Met.ofQ (cc := cX6_pass) (maxL := 2) (ret := (some .boolean)) (by decide) rfl ?_
  intro p e s m args below meth c s₁ B hml hv Q hQ
  obtain ⟨rfl, hsz, hP, hK, hD0⟩ := hv
  have hx := B.exec
  have hb := B.bytes
  have hr := B.returns
  have hlocks := B.notSynchronized
  have hT : ∀ w ∈ gT, w.before _ s = true := fun w h => atoms_spec (ws := (Cond.code yX6_pass cX6_pass 2 (some .boolean) :: gT)) B.pre w (List.mem_cons_of_mem _ h)
  have hown : s.vm.findClass RX6 = some m.cls := findClass_of_methodNamed B.named
  subst hsz
  have hD := hD0.self (sz := s.heap.size)
  generalize hAe : va_A (xW cy a i r q (a 20) (a 12) ++ tl) s.heap.size = A at hD hQ
  have hA : ∀ q : Nat, s.heap.size ≤ q → A q := fun q h => by rw [← hAe]; exact Or.inr h
  have hS : va_S A s.heap s.heap [] := va_S.rf
  have hl := lv_entry ([.ref (a 10), .int p0]) (n := 2) (Nat.le_of_ble_eq_true rfl)
  rw [lg_entry_eq]
  generalize (lg_sl ([.ref (a 10), .int p0]) ++ List.replicate (2 - (lg_sl ([.ref (a 10), .int p0])).length) Slot.unset).toArray = ls at hl ⊢
  have hl : lv_has ls 2 [(0, .ref (a 10)), (1, .int p0)] := hl
  have hEi : mEi [4, 5] i i := Ei_rf
  have hEr : mEr [] r r := Er_rf
  refine lv_aload_n hx hb dX6_pass_0 rfl (lv_at hl 0 rfl) ?_
  refine vp_callSi (W.runV (As := []) (rest := []) ⟨hx, hb, hml, hown, hT⟩ (c_X6_peek9 l D cy a i r q tl hRi hRr (show 0 ≤ (i 4).toInt by omega)) (cwV 0 hT (gV t_652 t_654 t_655 t_656 t_653) rfl rfl rfl (by decide +kernel) ⟨Nat.le_of_ble_eq_true rfl, Nat.le_of_ble_eq_true rfl⟩) (rP_v hP hK (va_recv hK hP (ci := 6) (q0 := 10) rfl rfl)) rfl rfl hl.1 rfl (lv_room (Nat.le_of_ble_eq_true rfl)) dX6_pass_1 ⟨Nat.le_of_ble_eq_true rfl, Nat.le_of_ble_eq_true rfl⟩) (fun r_1 hr_1 => ?_)
  have hqr_1 : r_1.toInt = qTX (i 3) (r 11) (i 4).toInt.toNat := by have h9 := hr_1.1; exact h9
  have hr_1 : -1 ≤ r_1.toInt ∧ r_1.toInt ≤ 255 := hr_1.2
  refine lv_iload_n hx hb dX6_pass_4 rfl (lv_at hl 1 rfl) ?_
  refine lv_icmp_eq (tgt := 14) hx hb dX6_pass_5 (by decide) (fun c_2 => ?_) (fun c_2 => ?_)
  · have c_2 : r_1.toInt = p0.toInt := b_eq c_2
    refine lv_aload_n hx hb dX6_pass_14 rfl (lv_at hl 0 rfl) ?_
    refine lv_dup hx hb dX6_pass_15 rfl ?_
    refine va_get (D := D) (ci := 6) (v := .int (i 4)) (C := RX6) (T := TX6) (N := 5) hx hb hT iX6 hown hK hP 10 rfl rfl 3 (by decide) (hT _ t_648) (fun _ h9 => h9) rfl dX6_pass_16 ?_
    refine lv_iconst (v := 1) hx hb dX6_pass_19 (by decide) ?_
    refine lv_iadd hx hb dX6_pass_20 ?_
    refine lv_topi (fun v_3 ev_3 => ?_)
    have hv_3 : v_3.toInt = (i 4).toInt + 1 := by rw [ev_3]; have := b_rg (i 4); exact i_add (a := (i 4).toInt) (b := 1) rfl rfl (by omega) (by omega)
    refine va_put (D := D) (ci := 6) (v := .int v_3) (ty := .int) (C := RX6) (T := TX6) (N := 5) hx hb hT iX6 tyX6 tyX6_ok nmX6 hown hK hP hD hS 10 rfl rfl 3 (by decide) (hT _ t_648) (fun _ h9 => h9) rfl (by decide +kernel) rfl rfl (Nat.le_of_ble_eq_true rfl) dX6_pass_21 (fun H locs hP hD hS => ?_)
    rw [zP4] at hP hD
    have hRi := Yi_upd hRi 4 v_3 (b_rg _)
    have hEi := Ei_upd hEi 4 v_3 (by decide)
    refine lv_iconst (v := 1) hx hb dX6_pass_24 (by decide) ?_
    subst hQ
    have hpo9 : ((1 : Int32) = 1 ∧ qTX (i 3) (r 11) (i 4).toInt.toNat = p0.toInt ∧ ((upd i 4 v_3) 4).toInt = (i 4).toInt + 1 ∧ (upd i 4 v_3) 5 = i 5) ∨ ((1 : Int32) = 0 ∧ qTX (i 3) (r 11) (i 4).toInt.toNat ≠ p0.toInt ∧ ((upd i 4 v_3) 5).toInt = -1000 - (i 4).toInt ∧ (upd i 4 v_3) 4 = i 4) := (Or.inl ⟨rfl, by omega, by show v_3.toInt = _; omega, rfl⟩)
    exact W.zret hx hb hr rfl (fun t ht hW => ⟨⟨_, (upd i 4 v_3, r), rfl, ⟨hRi, hRr, hEi, hEr, hpo9⟩, by rw [ht]; exact hP, va_K.moved hW.alike hK, hD⟩, hS.F ht⟩) hS.2.2 dX6_pass_25
  · have c_2 : r_1.toInt ≠ p0.toInt := b_ne c_2
    refine lv_aload_n hx hb dX6_pass_8 rfl (lv_at hl 0 rfl) ?_
    refine lv_iconst (v := 1) hx hb dX6_pass_9 (by decide) ?_
    have hF_4 := rF hD hS hA
    refine va_calli (va_runV (As := [.int 1]) (rest := []) ⟨hx, hb, hml, hown, hT⟩ (c_X6_refuse9 l D cy a i r q tl 1 _ hRi hRr (by decide) (show 0 ≤ (i 4).toInt ∧ (i 4).toInt ≤ 300 by omega)) (cwV 1 hT (gV t_657 t_658 t_659 t_660 t_653) rfl rfl rfl (by decide +kernel) ⟨Nat.le_of_ble_eq_true rfl, Nat.le_of_ble_eq_true rfl⟩) (rQ_v hP hK hD (va_recv hK hP (ci := 6) (q0 := 10) rfl rfl)) rfl rfl hl.1 rfl (lv_room (Nat.le_of_ble_eq_true rfl)) dX6_pass_10 ⟨Nat.le_of_ble_eq_true rfl, Nat.le_of_ble_eq_true rfl⟩) hS (fun q _ h => hF_4 q h) hF_4 (fun r_5 u_6 t H1 locs ht hvm hr_5 hB hz1 hk1 hS => ?_)
    obtain ⟨i6, r6⟩ := u_6
    obtain ⟨hP, hK1, hD1⟩ := hB
    rw [ht] at hP
    have hD := hD1.weaken (fun k q _ h => hF_4 q.1 h)
    obtain ⟨hRi, hRr, hE1, hE2, hr_5⟩ := hr_5
    have hRi : yRi i6 := hRi
    have hE1 : mEi [5] i i6 := hE1
    have hRr : yRr r6 := hRr
    have hE2 : mEr [] r r6 := hE2
    have hP : va_P D vwCl (xW cy a i6 r6 q (a 20) (a 12) ++ tl) H1 := hP
    have hD : va_D A (xW cy a i6 r6 q (a 20) (a 12) ++ tl) := hD
    have hEi : mEi [4, 5] _ i6 := Ei_tr hEi hE1 (by decide)
    have hEr : mEr [] _ r6 := Er_tr hEr hE2 (by decide)
    obtain ⟨rfl, hF9⟩ := hr_5
    have hF9 : (i6 5).toInt = -1000 * 1 - (i 4).toInt := hF9
    have hF4 : i6 4 = (i 4) := hE1 4 (by decide)
    subst hQ
    have hpo9 : ((0 : Int32) = 1 ∧ qTX (i 3) (r 11) (i 4).toInt.toNat = p0.toInt ∧ (i6 4).toInt = (i 4).toInt + 1 ∧ i6 5 = i 5) ∨ ((0 : Int32) = 0 ∧ qTX (i 3) (r 11) (i 4).toInt.toNat ≠ p0.toInt ∧ (i6 5).toInt = -1000 - (i 4).toInt ∧ i6 4 = i 4) := (Or.inr ⟨rfl, fun h9 => by omega, by omega, hF4⟩)
    exact W.zret hx hb hr rfl (fun t ht hW => ⟨⟨_, (i6, r6), rfl, ⟨hRi, hRr, hEi, hEr, hpo9⟩, by rw [ht]; exact hP, va_K.moved hW.alike hK, hD⟩, hS.F ht⟩) hS.2.2 dX6_pass_13
set_option maxHeartbeats 4000000 in
set_option maxRecDepth 100000 in
theorem c_X6_number9 (l : Launch) (D : va_G) (cy : Nat → ClassId) (a : Nat → Nat) (i : Nat → Int32) (r : Nat → Nat → Int32) (q : Nat → Option Nat) (tl : va_W) (sz : Nat) (hRi : yRi i) (hRr : yRr r) (h4 : 0 ≤ (i 4).toInt ∧ (i 4).toInt ≤ (i 3).toInt) (hd : 48 ≤ (qTX (i 3) (r 11)) (i 4).toInt.toNat ∧ (qTX (i 3) (r 11)) (i 4).toInt.toNat ≤ 57) : Met l yX6_number (Cond.code yX6_number cX6_number 4 (some .boolean) :: gT) { frames := 2, cells := 0, slots := 0, locals := 46 } (va_Pc [.ref (a 10)] (rQ D cy (xW cy a i r q (a 20) (a 12) ++ tl) sz)) (va_Qi (fun (z : Int32) (u : (Nat → Int32) × (Nat → Nat → Int32)) => yRi u.1 ∧ yRr u.2 ∧ mEi [4, 5, 7] i u.1 ∧ mEr [17, 18] r u.2 ∧ ((z = 1 ∧ qCnt (qTX (i 3) (r 11)) (i 4).toInt.toNat 6 ≠ 6 ∧ 1 ≤ qCnt (qTX (i 3) (r 11)) (i 4).toInt.toNat 6 ∧ (u.1 4).toInt = (i 4).toInt + ((qCnt (qTX (i 3) (r 11)) (i 4).toInt.toNat 6 : Nat) : Int) ∧ (u.1 4).toInt ≤ (i 3).toInt ∧ u.1 5 = i 5 ∧ ∃ u9 : Int32, u9.toInt = qVal (qTX (i 3) (r 11)) (i 4).toInt.toNat (qCnt (qTX (i 3) (r 11)) (i 4).toInt.toNat 6) ∧ u9.toInt ≤ 99999 ∧ 0 ≤ u9.toInt ∧ qAdd i r u.1 u.2 48 u9) ∨ (z = 0 ∧ qCnt (qTX (i 3) (r 11)) (i 4).toInt.toNat 6 = 6 ∧ (u.1 5).toInt = -2000 - ((i 4).toInt + 5) ∧ (i 4).toInt ≤ (u.1 4).toInt ∧ (u.1 4).toInt ≤ (i 3).toInt))) (fun (u : (Nat → Int32) × (Nat → Nat → Int32)) t => va_P D vwCl (xW cy a u.1 u.2 q (a 20) (a 12) ++ tl) t.heap ∧ va_K D vwCl (vT cy) t ∧ va_D (va_A (xW cy a i r q (a 20) (a 12) ++ tl) sz) (xW cy a u.1 u.2 q (a 20) (a 12) ++ tl)) (va_A (xW cy a i r q (a 20) (a 12) ++ tl) sz)) 0 0 (va_A (xW cy a i r q (a 20) (a 12) ++ tl) sz) := by
  refine Met.ofQ (cc := cX6_number) (maxL := 4) (ret := (some .boolean)) (by decide) rfl ?_
  intro p e s m args below meth c s₁ B hml hv Q hQ
  obtain ⟨rfl, hsz, hP, hK, hD0⟩ := hv
  have hx := B.exec
  have hb := B.bytes
  have hr := B.returns
  have hlocks := B.notSynchronized
  have hT : ∀ w ∈ gT, w.before _ s = true := fun w h => atoms_spec (ws := (Cond.code yX6_number cX6_number 4 (some .boolean) :: gT)) B.pre w (List.mem_cons_of_mem _ h)
  have hown : s.vm.findClass RX6 = some m.cls := findClass_of_methodNamed B.named
  subst hsz
  have hD := hD0.self (sz := s.heap.size)
  generalize hAe : va_A (xW cy a i r q (a 20) (a 12) ++ tl) s.heap.size = A at hD hQ
  have hA : ∀ q : Nat, s.heap.size ≤ q → A q := fun q h => by rw [← hAe]; exact Or.inr h
  have hS : va_S A s.heap s.heap [] := va_S.rf
  have hl := lv_entry ([.ref (a 10)]) (n := 4) (Nat.le_of_ble_eq_true rfl)
  rw [lg_entry_eq]
  generalize (lg_sl ([.ref (a 10)]) ++ List.replicate (4 - (lg_sl ([.ref (a 10)])).length) Slot.unset).toArray = ls at hl ⊢
  have hl : lv_has ls 4 [(0, .ref (a 10))] := hl
  have hEi : mEi [4, 5, 7] i i := Ei_rf
  have hEr : mEr [17, 18] r r := Er_rf
  have hg3 : 0 ≤ (i 3).toInt ∧ (i 3).toInt ≤ 200 := hRi 3
  refine lv_iconst (v := 0) hx hb dX6_number_0 (by decide) ?_
  refine lv_istore_n (lv' := [(1, .int 0), (0, .ref (a 10))]) hx hb dX6_number_1 rfl hl (by decide) rfl (fun ls hl => ?_)
  refine lv_aload_n hx hb dX6_number_2 rfl (lv_at hl 1 rfl) ?_
  refine vp_callSi (W.runV (As := []) (rest := []) ⟨hx, hb, hml, hown, hT⟩ (c_X6_peek9 l D cy a i r q tl hRi hRr (show 0 ≤ (i 4).toInt by omega)) (cwV 0 hT (gV t_652 t_654 t_655 t_656 t_653) rfl rfl rfl (by decide +kernel) ⟨Nat.le_of_ble_eq_true rfl, Nat.le_of_ble_eq_true rfl⟩) (rP_v hP hK (va_recv hK hP (ci := 6) (q0 := 10) rfl rfl)) rfl rfl hl.1 rfl (lv_room (Nat.le_of_ble_eq_true rfl)) dX6_number_3 ⟨Nat.le_of_ble_eq_true rfl, Nat.le_of_ble_eq_true rfl⟩) (fun r_1 hr_1 => ?_)
  have hqr_1 : r_1.toInt = qTX (i 3) (r 11) (i 4).toInt.toNat := by have h9 := hr_1.1; exact h9
  have hr_1 : -1 ≤ r_1.toInt ∧ r_1.toInt ≤ 255 := hr_1.2
  refine lv_istore_n (lv' := [(2, .int r_1), (1, .int 0), (0, .ref (a 10))]) hx hb dX6_number_6 rfl hl (by decide) rfl (fun ls hl => ?_)
  refine lv_iconst (v := 0) hx hb dX6_number_7 (by decide) ?_
  refine lv_istore_n (lv' := [(3, .int 0), (2, .int r_1), (1, .int 0), (0, .ref (a 10))]) hx hb dX6_number_8 rfl hl (by decide) rfl (fun ls hl => ?_)
  have loop_2 : ∀ (n : Nat) (x2_3 : Int32) (x2_2 : Int32) (x2_1 : Int32) (i2 : Nat → Int32) (r2 : Nat → Nat → Int32) (H : Heap) (locs : List Loc) (ls : Array Slot), (5 - x2_3.toInt).toNat < n → (0 ≤ x2_3.toInt ∧ x2_3.toInt ≤ 5) → (-1 ≤ x2_2.toInt ∧ x2_2.toInt ≤ 255) → yRi i2 → mEi [4, 5, 7] i i2 → yRr r2 → mEr [17, 18] r r2 → ((qNu (qTX (i 3) (r 11)) (i 4).toInt.toNat (x2_3.toNatClampNeg) x2_1.toInt ∧ x2_2.toInt = (qTX (i 3) (r 11)) ((i 4).toInt.toNat + x2_3.toNatClampNeg)) ∧ ((i2 4).toInt = (i 4).toInt + x2_3.toInt ∧ (i2 4).toInt ≤ (i 3).toInt) ∧ (i2 7 = i 7 ∧ r2 17 = r 17 ∧ r2 18 = r 18 ∧ i2 5 = i 5)) → va_P D vwCl (xW cy a i2 r2 q (a 20) (a 12) ++ tl) H → va_D A (xW cy a i2 r2 q (a 20) (a 12) ++ tl) → va_S A s.heap H locs → lv_has ls 4 [(3, .int x2_3), (2, .int x2_2), (1, .int x2_1), (0, .ref (a 10))] → W p l e ({ frames := 2, cells := 0, slots := 0, locals := 46 } : Room) s m ([.ref (a 10)] : List Value).toArray below meth c H locs 0 0 Q (F0 m 9 ls []) := by
    intro n
    induction n with
    | zero =>
      intro x2_3 x2_2 x2_1 i2 r2 H locs ls hm2 hf2_0 hf2_1 hRi hEi hRr hEr hx2 hP hD hS hl
      exact absurd hm2 (by omega)
    | succ n ih2 =>
      intro x2_3 x2_2 x2_1 i2 r2 H locs ls hm2 hf2_0 hf2_1 hRi hEi hRr hEr hx2 hP hD hS hl
      refine lv_iload_n hx hb dX6_number_9 rfl (lv_at hl 0 rfl) ?_
      obtain ⟨⟨hN9, hs9⟩, ⟨h49, h39⟩, h79, h17, h18, h59⟩ := hx2
      have hNb := qNu_b hN9 (by show x2_3.toInt.toNat ≤ 5; omega)
      have hkn : ((x2_3.toNatClampNeg : Nat) : Int) = x2_3.toInt := by show ((x2_3.toInt.toNat : Nat) : Int) = _; omega
      have hi4 : 0 ≤ (i2 4).toInt ∧ (i2 4).toInt ≤ 200 := by omega
      refine lv_iconst (v := 5) hx hb dX6_number_10 (by decide) ?_
      refine lv_icmp_ge (tgt := 57) hx hb dX6_number_11 (by decide) (fun c_3 => ?_) (fun c_3 => ?_)
      · have c_3 : 5 ≤ x2_3.toInt := b_le c_3
        refine lv_iload_n hx hb dX6_number_57 rfl (lv_at hl 1 rfl) ?_
        refine lv_bipush (v := 48) hx hb dX6_number_58 (by decide) ?_
        refine lv_icmp_lt (tgt := 75) hx hb dX6_number_60 (by decide) (fun c_4 => ?_) (fun c_4 => ?_)
        · have c_4 : x2_2.toInt < 48 := b_lt c_4
          refine lv_aload_n hx hb dX6_number_75 rfl (lv_at hl 3 rfl) ?_
          refine va_get (D := D) (ci := 6) (v := .ref (a 12)) (C := RX6) (T := TX6) (N := 5) hx hb hT iX6 hown hK hP 10 rfl rfl 0 (by decide) (hT _ t_661) (fun _ h9 => h9) rfl dX6_number_76 ?_
          refine lv_bipush (v := 48) hx hb dX6_number_79 (by decide) ?_
          refine lv_iload_n hx hb dX6_number_81 rfl (lv_at hl 2 rfl) ?_
          have hF_5 := rF hD hS hA
          refine va_calli (va_runV (As := [.int 48, .int x2_1]) (rest := []) ⟨hx, hb, hml, hown, hT⟩ (c_X5_add9 l D cy a i2 r2 q tl 48 x2_1 _ hRi hRr) (cwV 2 hT (gV t_662 t_663 t_664 t_665 t_367) rfl rfl rfl (by decide +kernel) ⟨Nat.le_of_ble_eq_true rfl, Nat.le_of_ble_eq_true rfl⟩) (rQ_v hP hK hD (va_recv hK hP (ci := 5) (q0 := 12) rfl rfl)) rfl rfl hl.1 rfl (lv_room (Nat.le_of_ble_eq_true rfl)) dX6_number_82 ⟨Nat.le_of_ble_eq_true rfl, Nat.le_of_ble_eq_true rfl⟩) hS (fun q _ h => hF_5 q h) hF_5 (fun r_6 u_7 t H1 locs ht hvm hr_6 hB hz1 hk1 hS => ?_)
          obtain ⟨i7, r7⟩ := u_7
          obtain ⟨hP, hK1, hD1⟩ := hB
          rw [ht] at hP
          have hD := hD1.weaken (fun k q _ h => hF_5 q.1 h)
          obtain ⟨hRi, hRr, hE1, hE2, hr_6⟩ := hr_6
          have hRi : yRi i7 := hRi
          have hE1 : mEi [7] i2 i7 := hE1
          have hRr : yRr r7 := hRr
          have hE2 : mEr [17, 18] r2 r7 := hE2
          have hP : va_P D vwCl (xW cy a i7 r7 q (a 20) (a 12) ++ tl) H1 := hP
          have hD : va_D A (xW cy a i7 r7 q (a 20) (a 12) ++ tl) := hD
          have hEi : mEi [4, 5, 7] _ i7 := Ei_tr hEi hE1 (by decide)
          have hEr : mEr [17, 18] _ r7 := Er_tr hEr hE2 (by decide)
          obtain ⟨hZr_6, hr_6⟩ := hr_6
          have hZr_6 : -1 ≤ r_6.toInt ∧ r_6.toInt ≤ 200 := hZr_6
          have hAr_6 : qAdd i2 r2 i7 r7 (48 : Int32) x2_1 := fun h9 => (hr_6 h9).2
          have hJr_6 : (i2 7).toInt < 200 → r_6.toInt = (i2 7).toInt := fun h9 => congrArg Int32.toInt (hr_6 h9).1
          have hBr_6 : i7 4 = (i2 4) := hE1 4 (by decide)
          have hBtr_6 : (i7 4).toInt = (i2 4).toInt := congrArg Int32.toInt hBr_6
          clear hr_6
          have hr_6 : True := trivial
          have h5r_6 : i7 5 = i 5 := (hE1 5 (by decide)).trans h59
          refine lv_pop hx hb dX6_number_85 rfl ?_
          refine lv_iconst (v := 1) hx hb dX6_number_86 (by decide) ?_
          subst hQ
          have hnd : ¬ (48 ≤ (qTX (i 3) (r 11)) ((i 4).toInt.toNat + x2_3.toNatClampNeg) ∧ (qTX (i 3) (r 11)) ((i 4).toInt.toNat + x2_3.toNatClampNeg) ≤ 57) := by rw [← hs9]; omega
          have hcn : qCnt (qTX (i 3) (r 11)) (i 4).toInt.toNat 6 = x2_3.toNatClampNeg := qCnt_eq 6 _ _ (by show x2_3.toInt.toNat < 6; omega) hN9.1 hnd
          have hc1 : 1 ≤ x2_3.toNatClampNeg := by
            by_cases h9 : x2_3.toNatClampNeg = 0
            · rw [h9, Nat.add_zero] at hnd; exact absurd hd hnd
            · omega
          have hAd : qAdd i r i7 r7 48 x2_1 := by have h9 := hAr_6; unfold qAdd at *; rw [h79, h17, h18] at h9; exact h9
          have hpo9 : ((1 : Int32) = 1 ∧ qCnt (qTX (i 3) (r 11)) (i 4).toInt.toNat 6 ≠ 6 ∧ 1 ≤ qCnt (qTX (i 3) (r 11)) (i 4).toInt.toNat 6 ∧ (i7 4).toInt = (i 4).toInt + ((qCnt (qTX (i 3) (r 11)) (i 4).toInt.toNat 6 : Nat) : Int) ∧ (i7 4).toInt ≤ (i 3).toInt ∧ i7 5 = i 5 ∧ ∃ u9 : Int32, u9.toInt = qVal (qTX (i 3) (r 11)) (i 4).toInt.toNat (qCnt (qTX (i 3) (r 11)) (i 4).toInt.toNat 6) ∧ u9.toInt ≤ 99999 ∧ 0 ≤ u9.toInt ∧ qAdd i r i7 r7 48 u9) ∨ ((1 : Int32) = 0 ∧ qCnt (qTX (i 3) (r 11)) (i 4).toInt.toNat 6 = 6 ∧ (i7 5).toInt = -2000 - ((i 4).toInt + 5) ∧ (i 4).toInt ≤ (i7 4).toInt ∧ (i7 4).toInt ≤ (i 3).toInt) := (Or.inl ⟨rfl, by rw [hcn]; show x2_3.toInt.toNat ≠ 6; omega, by rw [hcn]; exact hc1, by rw [hcn, hkn, hBr_6]; exact h49, by rw [hBr_6]; exact h39, h5r_6, x2_1, by rw [hcn]; exact hN9.2, by omega, by omega, hAd⟩)
          exact W.zret hx hb hr rfl (fun t ht hW => ⟨⟨_, (i7, r7), rfl, ⟨hRi, hRr, hEi, hEr, hpo9⟩, by rw [ht]; exact hP, va_K.moved hW.alike hK, hD⟩, hS.F ht⟩) hS.2.2 dX6_number_87
        · have c_4 : 48 ≤ x2_2.toInt := b_nlt c_4
          refine lv_iload_n hx hb dX6_number_63 rfl (lv_at hl 1 rfl) ?_
          refine lv_bipush (v := 57) hx hb dX6_number_64 (by decide) ?_
          refine lv_icmp_gt (tgt := 75) hx hb dX6_number_66 (by decide) (fun c_8 => ?_) (fun c_8 => ?_)
          · have c_8 : 57 < x2_2.toInt := b_lt c_8
            refine lv_aload_n hx hb dX6_number_75 rfl (lv_at hl 3 rfl) ?_
            refine va_get (D := D) (ci := 6) (v := .ref (a 12)) (C := RX6) (T := TX6) (N := 5) hx hb hT iX6 hown hK hP 10 rfl rfl 0 (by decide) (hT _ t_661) (fun _ h9 => h9) rfl dX6_number_76 ?_
            refine lv_bipush (v := 48) hx hb dX6_number_79 (by decide) ?_
            refine lv_iload_n hx hb dX6_number_81 rfl (lv_at hl 2 rfl) ?_
            have hF_9 := rF hD hS hA
            refine va_calli (va_runV (As := [.int 48, .int x2_1]) (rest := []) ⟨hx, hb, hml, hown, hT⟩ (c_X5_add9 l D cy a i2 r2 q tl 48 x2_1 _ hRi hRr) (cwV 2 hT (gV t_662 t_663 t_664 t_665 t_367) rfl rfl rfl (by decide +kernel) ⟨Nat.le_of_ble_eq_true rfl, Nat.le_of_ble_eq_true rfl⟩) (rQ_v hP hK hD (va_recv hK hP (ci := 5) (q0 := 12) rfl rfl)) rfl rfl hl.1 rfl (lv_room (Nat.le_of_ble_eq_true rfl)) dX6_number_82 ⟨Nat.le_of_ble_eq_true rfl, Nat.le_of_ble_eq_true rfl⟩) hS (fun q _ h => hF_9 q h) hF_9 (fun r_10 u_11 t H1 locs ht hvm hr_10 hB hz1 hk1 hS => ?_)
            obtain ⟨i11, r11⟩ := u_11
            obtain ⟨hP, hK1, hD1⟩ := hB
            rw [ht] at hP
            have hD := hD1.weaken (fun k q _ h => hF_9 q.1 h)
            obtain ⟨hRi, hRr, hE1, hE2, hr_10⟩ := hr_10
            have hRi : yRi i11 := hRi
            have hE1 : mEi [7] i2 i11 := hE1
            have hRr : yRr r11 := hRr
            have hE2 : mEr [17, 18] r2 r11 := hE2
            have hP : va_P D vwCl (xW cy a i11 r11 q (a 20) (a 12) ++ tl) H1 := hP
            have hD : va_D A (xW cy a i11 r11 q (a 20) (a 12) ++ tl) := hD
            have hEi : mEi [4, 5, 7] _ i11 := Ei_tr hEi hE1 (by decide)
            have hEr : mEr [17, 18] _ r11 := Er_tr hEr hE2 (by decide)
            obtain ⟨hZr_10, hr_10⟩ := hr_10
            have hZr_10 : -1 ≤ r_10.toInt ∧ r_10.toInt ≤ 200 := hZr_10
            have hAr_10 : qAdd i2 r2 i11 r11 (48 : Int32) x2_1 := fun h9 => (hr_10 h9).2
            have hJr_10 : (i2 7).toInt < 200 → r_10.toInt = (i2 7).toInt := fun h9 => congrArg Int32.toInt (hr_10 h9).1
            have hBr_10 : i11 4 = (i2 4) := hE1 4 (by decide)
            have hBtr_10 : (i11 4).toInt = (i2 4).toInt := congrArg Int32.toInt hBr_10
            clear hr_10
            have hr_10 : True := trivial
            have h5r_10 : i11 5 = i 5 := (hE1 5 (by decide)).trans h59
            refine lv_pop hx hb dX6_number_85 rfl ?_
            refine lv_iconst (v := 1) hx hb dX6_number_86 (by decide) ?_
            subst hQ
            have hnd : ¬ (48 ≤ (qTX (i 3) (r 11)) ((i 4).toInt.toNat + x2_3.toNatClampNeg) ∧ (qTX (i 3) (r 11)) ((i 4).toInt.toNat + x2_3.toNatClampNeg) ≤ 57) := by rw [← hs9]; omega
            have hcn : qCnt (qTX (i 3) (r 11)) (i 4).toInt.toNat 6 = x2_3.toNatClampNeg := qCnt_eq 6 _ _ (by show x2_3.toInt.toNat < 6; omega) hN9.1 hnd
            have hc1 : 1 ≤ x2_3.toNatClampNeg := by
              by_cases h9 : x2_3.toNatClampNeg = 0
              · rw [h9, Nat.add_zero] at hnd; exact absurd hd hnd
              · omega
            have hAd : qAdd i r i11 r11 48 x2_1 := by have h9 := hAr_10; unfold qAdd at *; rw [h79, h17, h18] at h9; exact h9
            have hpo9 : ((1 : Int32) = 1 ∧ qCnt (qTX (i 3) (r 11)) (i 4).toInt.toNat 6 ≠ 6 ∧ 1 ≤ qCnt (qTX (i 3) (r 11)) (i 4).toInt.toNat 6 ∧ (i11 4).toInt = (i 4).toInt + ((qCnt (qTX (i 3) (r 11)) (i 4).toInt.toNat 6 : Nat) : Int) ∧ (i11 4).toInt ≤ (i 3).toInt ∧ i11 5 = i 5 ∧ ∃ u9 : Int32, u9.toInt = qVal (qTX (i 3) (r 11)) (i 4).toInt.toNat (qCnt (qTX (i 3) (r 11)) (i 4).toInt.toNat 6) ∧ u9.toInt ≤ 99999 ∧ 0 ≤ u9.toInt ∧ qAdd i r i11 r11 48 u9) ∨ ((1 : Int32) = 0 ∧ qCnt (qTX (i 3) (r 11)) (i 4).toInt.toNat 6 = 6 ∧ (i11 5).toInt = -2000 - ((i 4).toInt + 5) ∧ (i 4).toInt ≤ (i11 4).toInt ∧ (i11 4).toInt ≤ (i 3).toInt) := (Or.inl ⟨rfl, by rw [hcn]; show x2_3.toInt.toNat ≠ 6; omega, by rw [hcn]; exact hc1, by rw [hcn, hkn, hBr_10]; exact h49, by rw [hBr_10]; exact h39, h5r_10, x2_1, by rw [hcn]; exact hN9.2, by omega, by omega, hAd⟩)
            exact W.zret hx hb hr rfl (fun t ht hW => ⟨⟨_, (i11, r11), rfl, ⟨hRi, hRr, hEi, hEr, hpo9⟩, by rw [ht]; exact hP, va_K.moved hW.alike hK, hD⟩, hS.F ht⟩) hS.2.2 dX6_number_87
          · have c_8 : x2_2.toInt ≤ 57 := b_nlt c_8
            refine lv_aload_n hx hb dX6_number_69 rfl (lv_at hl 3 rfl) ?_
            refine lv_iconst (v := 2) hx hb dX6_number_70 (by decide) ?_
            have hF_12 := rF hD hS hA
            refine va_calli (va_runV (As := [.int 2]) (rest := []) ⟨hx, hb, hml, hown, hT⟩ (c_X6_refuse9 l D cy a i2 r2 q tl 2 _ hRi hRr (by decide) (show 0 ≤ (i2 4).toInt ∧ (i2 4).toInt ≤ 300 by omega)) (cwV 1 hT (gV t_657 t_658 t_659 t_660 t_653) rfl rfl rfl (by decide +kernel) ⟨Nat.le_of_ble_eq_true rfl, Nat.le_of_ble_eq_true rfl⟩) (rQ_v hP hK hD (va_recv hK hP (ci := 6) (q0 := 10) rfl rfl)) rfl rfl hl.1 rfl (lv_room (Nat.le_of_ble_eq_true rfl)) dX6_number_71 ⟨Nat.le_of_ble_eq_true rfl, Nat.le_of_ble_eq_true rfl⟩) hS (fun q _ h => hF_12 q h) hF_12 (fun r_13 u_14 t H1 locs ht hvm hr_13 hB hz1 hk1 hS => ?_)
            obtain ⟨i14, r14⟩ := u_14
            obtain ⟨hP, hK1, hD1⟩ := hB
            rw [ht] at hP
            have hD := hD1.weaken (fun k q _ h => hF_12 q.1 h)
            obtain ⟨hRi, hRr, hE1, hE2, hr_13⟩ := hr_13
            have hRi : yRi i14 := hRi
            have hE1 : mEi [5] i2 i14 := hE1
            have hRr : yRr r14 := hRr
            have hE2 : mEr [] r2 r14 := hE2
            have hP : va_P D vwCl (xW cy a i14 r14 q (a 20) (a 12) ++ tl) H1 := hP
            have hD : va_D A (xW cy a i14 r14 q (a 20) (a 12) ++ tl) := hD
            have hEi : mEi [4, 5, 7] _ i14 := Ei_tr hEi hE1 (by decide)
            have hEr : mEr [17, 18] _ r14 := Er_tr hEr hE2 (by decide)
            obtain ⟨rfl, hF9⟩ := hr_13
            have hF9 : (i14 5).toInt = -1000 * 2 - (i2 4).toInt := hF9
            have hF4 : i14 4 = (i2 4) := hE1 4 (by decide)
            subst hQ
            have h5 : x2_3.toInt = 5 := by omega
            have h5n : x2_3.toNatClampNeg = 5 := by show x2_3.toInt.toNat = 5; omega
            rw [h5n] at hN9 hs9
            have hcn : qCnt (qTX (i 3) (r 11)) (i 4).toInt.toNat 6 = 6 := qCnt_all 6 _ (fun j hj => by by_cases h9 : j = 5; (· rw [h9, ← hs9]; omega); (· exact hN9.1 j (by omega)))
            have hpo9 : ((0 : Int32) = 1 ∧ qCnt (qTX (i 3) (r 11)) (i 4).toInt.toNat 6 ≠ 6 ∧ 1 ≤ qCnt (qTX (i 3) (r 11)) (i 4).toInt.toNat 6 ∧ (i14 4).toInt = (i 4).toInt + ((qCnt (qTX (i 3) (r 11)) (i 4).toInt.toNat 6 : Nat) : Int) ∧ (i14 4).toInt ≤ (i 3).toInt ∧ i14 5 = i 5 ∧ ∃ u9 : Int32, u9.toInt = qVal (qTX (i 3) (r 11)) (i 4).toInt.toNat (qCnt (qTX (i 3) (r 11)) (i 4).toInt.toNat 6) ∧ u9.toInt ≤ 99999 ∧ 0 ≤ u9.toInt ∧ qAdd i r i14 r14 48 u9) ∨ ((0 : Int32) = 0 ∧ qCnt (qTX (i 3) (r 11)) (i 4).toInt.toNat 6 = 6 ∧ (i14 5).toInt = -2000 - ((i 4).toInt + 5) ∧ (i 4).toInt ≤ (i14 4).toInt ∧ (i14 4).toInt ≤ (i 3).toInt) := (Or.inr ⟨rfl, hcn, by omega, by rw [hF4]; omega, by rw [hF4]; omega⟩)
            exact W.zret hx hb hr rfl (fun t ht hW => ⟨⟨_, (i14, r14), rfl, ⟨hRi, hRr, hEi, hEr, hpo9⟩, by rw [ht]; exact hP, va_K.moved hW.alike hK, hD⟩, hS.F ht⟩) hS.2.2 dX6_number_74
      · have c_3 : x2_3.toInt < 5 := b_nle c_3
        refine lv_iload_n hx hb dX6_number_14 rfl (lv_at hl 1 rfl) ?_
        refine lv_bipush (v := 48) hx hb dX6_number_15 (by decide) ?_
        refine lv_icmp_lt (tgt := 57) hx hb dX6_number_17 (by decide) (fun c_15 => ?_) (fun c_15 => ?_)
        · have c_15 : x2_2.toInt < 48 := b_lt c_15
          refine lv_iload_n hx hb dX6_number_57 rfl (lv_at hl 1 rfl) ?_
          refine lv_bipush (v := 48) hx hb dX6_number_58 (by decide) ?_
          refine lv_icmp_lt (tgt := 75) hx hb dX6_number_60 (by decide) (fun c_16 => ?_) (fun c_16 => by have c_16 : 48 ≤ x2_2.toInt := b_nlt c_16; omega)
          have c_16 : x2_2.toInt < 48 := b_lt c_16
          refine lv_aload_n hx hb dX6_number_75 rfl (lv_at hl 3 rfl) ?_
          refine va_get (D := D) (ci := 6) (v := .ref (a 12)) (C := RX6) (T := TX6) (N := 5) hx hb hT iX6 hown hK hP 10 rfl rfl 0 (by decide) (hT _ t_661) (fun _ h9 => h9) rfl dX6_number_76 ?_
          refine lv_bipush (v := 48) hx hb dX6_number_79 (by decide) ?_
          refine lv_iload_n hx hb dX6_number_81 rfl (lv_at hl 2 rfl) ?_
          have hF_17 := rF hD hS hA
          refine va_calli (va_runV (As := [.int 48, .int x2_1]) (rest := []) ⟨hx, hb, hml, hown, hT⟩ (c_X5_add9 l D cy a i2 r2 q tl 48 x2_1 _ hRi hRr) (cwV 2 hT (gV t_662 t_663 t_664 t_665 t_367) rfl rfl rfl (by decide +kernel) ⟨Nat.le_of_ble_eq_true rfl, Nat.le_of_ble_eq_true rfl⟩) (rQ_v hP hK hD (va_recv hK hP (ci := 5) (q0 := 12) rfl rfl)) rfl rfl hl.1 rfl (lv_room (Nat.le_of_ble_eq_true rfl)) dX6_number_82 ⟨Nat.le_of_ble_eq_true rfl, Nat.le_of_ble_eq_true rfl⟩) hS (fun q _ h => hF_17 q h) hF_17 (fun r_18 u_19 t H1 locs ht hvm hr_18 hB hz1 hk1 hS => ?_)
          obtain ⟨i19, r19⟩ := u_19
          obtain ⟨hP, hK1, hD1⟩ := hB
          rw [ht] at hP
          have hD := hD1.weaken (fun k q _ h => hF_17 q.1 h)
          obtain ⟨hRi, hRr, hE1, hE2, hr_18⟩ := hr_18
          have hRi : yRi i19 := hRi
          have hE1 : mEi [7] i2 i19 := hE1
          have hRr : yRr r19 := hRr
          have hE2 : mEr [17, 18] r2 r19 := hE2
          have hP : va_P D vwCl (xW cy a i19 r19 q (a 20) (a 12) ++ tl) H1 := hP
          have hD : va_D A (xW cy a i19 r19 q (a 20) (a 12) ++ tl) := hD
          have hEi : mEi [4, 5, 7] _ i19 := Ei_tr hEi hE1 (by decide)
          have hEr : mEr [17, 18] _ r19 := Er_tr hEr hE2 (by decide)
          obtain ⟨hZr_18, hr_18⟩ := hr_18
          have hZr_18 : -1 ≤ r_18.toInt ∧ r_18.toInt ≤ 200 := hZr_18
          have hAr_18 : qAdd i2 r2 i19 r19 (48 : Int32) x2_1 := fun h9 => (hr_18 h9).2
          have hJr_18 : (i2 7).toInt < 200 → r_18.toInt = (i2 7).toInt := fun h9 => congrArg Int32.toInt (hr_18 h9).1
          have hBr_18 : i19 4 = (i2 4) := hE1 4 (by decide)
          have hBtr_18 : (i19 4).toInt = (i2 4).toInt := congrArg Int32.toInt hBr_18
          clear hr_18
          have hr_18 : True := trivial
          have h5r_18 : i19 5 = i 5 := (hE1 5 (by decide)).trans h59
          refine lv_pop hx hb dX6_number_85 rfl ?_
          refine lv_iconst (v := 1) hx hb dX6_number_86 (by decide) ?_
          subst hQ
          have hnd : ¬ (48 ≤ (qTX (i 3) (r 11)) ((i 4).toInt.toNat + x2_3.toNatClampNeg) ∧ (qTX (i 3) (r 11)) ((i 4).toInt.toNat + x2_3.toNatClampNeg) ≤ 57) := by rw [← hs9]; omega
          have hcn : qCnt (qTX (i 3) (r 11)) (i 4).toInt.toNat 6 = x2_3.toNatClampNeg := qCnt_eq 6 _ _ (by show x2_3.toInt.toNat < 6; omega) hN9.1 hnd
          have hc1 : 1 ≤ x2_3.toNatClampNeg := by
            by_cases h9 : x2_3.toNatClampNeg = 0
            · rw [h9, Nat.add_zero] at hnd; exact absurd hd hnd
            · omega
          have hAd : qAdd i r i19 r19 48 x2_1 := by have h9 := hAr_18; unfold qAdd at *; rw [h79, h17, h18] at h9; exact h9
          have hpo9 : ((1 : Int32) = 1 ∧ qCnt (qTX (i 3) (r 11)) (i 4).toInt.toNat 6 ≠ 6 ∧ 1 ≤ qCnt (qTX (i 3) (r 11)) (i 4).toInt.toNat 6 ∧ (i19 4).toInt = (i 4).toInt + ((qCnt (qTX (i 3) (r 11)) (i 4).toInt.toNat 6 : Nat) : Int) ∧ (i19 4).toInt ≤ (i 3).toInt ∧ i19 5 = i 5 ∧ ∃ u9 : Int32, u9.toInt = qVal (qTX (i 3) (r 11)) (i 4).toInt.toNat (qCnt (qTX (i 3) (r 11)) (i 4).toInt.toNat 6) ∧ u9.toInt ≤ 99999 ∧ 0 ≤ u9.toInt ∧ qAdd i r i19 r19 48 u9) ∨ ((1 : Int32) = 0 ∧ qCnt (qTX (i 3) (r 11)) (i 4).toInt.toNat 6 = 6 ∧ (i19 5).toInt = -2000 - ((i 4).toInt + 5) ∧ (i 4).toInt ≤ (i19 4).toInt ∧ (i19 4).toInt ≤ (i 3).toInt) := (Or.inl ⟨rfl, by rw [hcn]; show x2_3.toInt.toNat ≠ 6; omega, by rw [hcn]; exact hc1, by rw [hcn, hkn, hBr_18]; exact h49, by rw [hBr_18]; exact h39, h5r_18, x2_1, by rw [hcn]; exact hN9.2, by omega, by omega, hAd⟩)
          exact W.zret hx hb hr rfl (fun t ht hW => ⟨⟨_, (i19, r19), rfl, ⟨hRi, hRr, hEi, hEr, hpo9⟩, by rw [ht]; exact hP, va_K.moved hW.alike hK, hD⟩, hS.F ht⟩) hS.2.2 dX6_number_87
        · have c_15 : 48 ≤ x2_2.toInt := b_nlt c_15
          refine lv_iload_n hx hb dX6_number_20 rfl (lv_at hl 1 rfl) ?_
          refine lv_bipush (v := 57) hx hb dX6_number_21 (by decide) ?_
          refine lv_icmp_gt (tgt := 57) hx hb dX6_number_23 (by decide) (fun c_20 => ?_) (fun c_20 => ?_)
          · have c_20 : 57 < x2_2.toInt := b_lt c_20
            refine lv_iload_n hx hb dX6_number_57 rfl (lv_at hl 1 rfl) ?_
            refine lv_bipush (v := 48) hx hb dX6_number_58 (by decide) ?_
            refine lv_icmp_lt (tgt := 75) hx hb dX6_number_60 (by decide) (fun c_21 => by have c_21 : x2_2.toInt < 48 := b_lt c_21; omega) (fun c_21 => ?_)
            have c_21 : 48 ≤ x2_2.toInt := b_nlt c_21
            refine lv_iload_n hx hb dX6_number_63 rfl (lv_at hl 1 rfl) ?_
            refine lv_bipush (v := 57) hx hb dX6_number_64 (by decide) ?_
            refine lv_icmp_gt (tgt := 75) hx hb dX6_number_66 (by decide) (fun c_22 => ?_) (fun c_22 => by have c_22 : x2_2.toInt ≤ 57 := b_nlt c_22; omega)
            have c_22 : 57 < x2_2.toInt := b_lt c_22
            refine lv_aload_n hx hb dX6_number_75 rfl (lv_at hl 3 rfl) ?_
            refine va_get (D := D) (ci := 6) (v := .ref (a 12)) (C := RX6) (T := TX6) (N := 5) hx hb hT iX6 hown hK hP 10 rfl rfl 0 (by decide) (hT _ t_661) (fun _ h9 => h9) rfl dX6_number_76 ?_
            refine lv_bipush (v := 48) hx hb dX6_number_79 (by decide) ?_
            refine lv_iload_n hx hb dX6_number_81 rfl (lv_at hl 2 rfl) ?_
            have hF_23 := rF hD hS hA
            refine va_calli (va_runV (As := [.int 48, .int x2_1]) (rest := []) ⟨hx, hb, hml, hown, hT⟩ (c_X5_add9 l D cy a i2 r2 q tl 48 x2_1 _ hRi hRr) (cwV 2 hT (gV t_662 t_663 t_664 t_665 t_367) rfl rfl rfl (by decide +kernel) ⟨Nat.le_of_ble_eq_true rfl, Nat.le_of_ble_eq_true rfl⟩) (rQ_v hP hK hD (va_recv hK hP (ci := 5) (q0 := 12) rfl rfl)) rfl rfl hl.1 rfl (lv_room (Nat.le_of_ble_eq_true rfl)) dX6_number_82 ⟨Nat.le_of_ble_eq_true rfl, Nat.le_of_ble_eq_true rfl⟩) hS (fun q _ h => hF_23 q h) hF_23 (fun r_24 u_25 t H1 locs ht hvm hr_24 hB hz1 hk1 hS => ?_)
            obtain ⟨i25, r25⟩ := u_25
            obtain ⟨hP, hK1, hD1⟩ := hB
            rw [ht] at hP
            have hD := hD1.weaken (fun k q _ h => hF_23 q.1 h)
            obtain ⟨hRi, hRr, hE1, hE2, hr_24⟩ := hr_24
            have hRi : yRi i25 := hRi
            have hE1 : mEi [7] i2 i25 := hE1
            have hRr : yRr r25 := hRr
            have hE2 : mEr [17, 18] r2 r25 := hE2
            have hP : va_P D vwCl (xW cy a i25 r25 q (a 20) (a 12) ++ tl) H1 := hP
            have hD : va_D A (xW cy a i25 r25 q (a 20) (a 12) ++ tl) := hD
            have hEi : mEi [4, 5, 7] _ i25 := Ei_tr hEi hE1 (by decide)
            have hEr : mEr [17, 18] _ r25 := Er_tr hEr hE2 (by decide)
            obtain ⟨hZr_24, hr_24⟩ := hr_24
            have hZr_24 : -1 ≤ r_24.toInt ∧ r_24.toInt ≤ 200 := hZr_24
            have hAr_24 : qAdd i2 r2 i25 r25 (48 : Int32) x2_1 := fun h9 => (hr_24 h9).2
            have hJr_24 : (i2 7).toInt < 200 → r_24.toInt = (i2 7).toInt := fun h9 => congrArg Int32.toInt (hr_24 h9).1
            have hBr_24 : i25 4 = (i2 4) := hE1 4 (by decide)
            have hBtr_24 : (i25 4).toInt = (i2 4).toInt := congrArg Int32.toInt hBr_24
            clear hr_24
            have hr_24 : True := trivial
            have h5r_24 : i25 5 = i 5 := (hE1 5 (by decide)).trans h59
            refine lv_pop hx hb dX6_number_85 rfl ?_
            refine lv_iconst (v := 1) hx hb dX6_number_86 (by decide) ?_
            subst hQ
            have hnd : ¬ (48 ≤ (qTX (i 3) (r 11)) ((i 4).toInt.toNat + x2_3.toNatClampNeg) ∧ (qTX (i 3) (r 11)) ((i 4).toInt.toNat + x2_3.toNatClampNeg) ≤ 57) := by rw [← hs9]; omega
            have hcn : qCnt (qTX (i 3) (r 11)) (i 4).toInt.toNat 6 = x2_3.toNatClampNeg := qCnt_eq 6 _ _ (by show x2_3.toInt.toNat < 6; omega) hN9.1 hnd
            have hc1 : 1 ≤ x2_3.toNatClampNeg := by
              by_cases h9 : x2_3.toNatClampNeg = 0
              · rw [h9, Nat.add_zero] at hnd; exact absurd hd hnd
              · omega
            have hAd : qAdd i r i25 r25 48 x2_1 := by have h9 := hAr_24; unfold qAdd at *; rw [h79, h17, h18] at h9; exact h9
            have hpo9 : ((1 : Int32) = 1 ∧ qCnt (qTX (i 3) (r 11)) (i 4).toInt.toNat 6 ≠ 6 ∧ 1 ≤ qCnt (qTX (i 3) (r 11)) (i 4).toInt.toNat 6 ∧ (i25 4).toInt = (i 4).toInt + ((qCnt (qTX (i 3) (r 11)) (i 4).toInt.toNat 6 : Nat) : Int) ∧ (i25 4).toInt ≤ (i 3).toInt ∧ i25 5 = i 5 ∧ ∃ u9 : Int32, u9.toInt = qVal (qTX (i 3) (r 11)) (i 4).toInt.toNat (qCnt (qTX (i 3) (r 11)) (i 4).toInt.toNat 6) ∧ u9.toInt ≤ 99999 ∧ 0 ≤ u9.toInt ∧ qAdd i r i25 r25 48 u9) ∨ ((1 : Int32) = 0 ∧ qCnt (qTX (i 3) (r 11)) (i 4).toInt.toNat 6 = 6 ∧ (i25 5).toInt = -2000 - ((i 4).toInt + 5) ∧ (i 4).toInt ≤ (i25 4).toInt ∧ (i25 4).toInt ≤ (i 3).toInt) := (Or.inl ⟨rfl, by rw [hcn]; show x2_3.toInt.toNat ≠ 6; omega, by rw [hcn]; exact hc1, by rw [hcn, hkn, hBr_24]; exact h49, by rw [hBr_24]; exact h39, h5r_24, x2_1, by rw [hcn]; exact hN9.2, by omega, by omega, hAd⟩)
            exact W.zret hx hb hr rfl (fun t ht hW => ⟨⟨_, (i25, r25), rfl, ⟨hRi, hRr, hEi, hEr, hpo9⟩, by rw [ht]; exact hP, va_K.moved hW.alike hK, hD⟩, hS.F ht⟩) hS.2.2 dX6_number_87
          · have c_20 : x2_2.toInt ≤ 57 := b_nlt c_20
            have hv9 : x2_1.toInt ≤ 9999 := hNb.2.2 (by show x2_3.toInt.toNat ≤ 4; omega)
            have hlt9 := qTX_lt (e := i 3) (t := r 11) (p := (i 4).toInt.toNat + x2_3.toNatClampNeg) (by rw [← hs9]; omega)
            refine lv_bipush (v := 10) hx hb dX6_number_26 (by decide) ?_
            refine lv_iload_n hx hb dX6_number_28 rfl (lv_at hl 2 rfl) ?_
            refine lv_imul hx hb dX6_number_29 ?_
            refine lv_topi (fun v_26 ev_26 => ?_)
            have hv_26 : v_26.toInt = 10 * x2_1.toInt := by rw [ev_26]; have := b_rg x2_1; exact i_mul (a := 10) (b := x2_1.toInt) rfl rfl (by omega) (by omega)
            refine lv_iload_n hx hb dX6_number_30 rfl (lv_at hl 1 rfl) ?_
            refine lv_bipush (v := 48) hx hb dX6_number_31 (by decide) ?_
            refine lv_isub hx hb dX6_number_33 ?_
            refine lv_topi (fun v_27 ev_27 => ?_)
            have hv_27 : v_27.toInt = x2_2.toInt - 48 := by rw [ev_27]; have := b_rg x2_2; exact i_sub (a := x2_2.toInt) (b := 48) rfl rfl (by omega) (by omega)
            refine lv_iadd hx hb dX6_number_34 ?_
            refine lv_topi (fun v_28 ev_28 => ?_)
            have hv_28 : v_28.toInt = v_26.toInt + v_27.toInt := by rw [ev_28]; have := b_rg v_26; have := b_rg v_27; exact i_add (a := v_26.toInt) (b := v_27.toInt) rfl rfl (by omega) (by omega)
            refine lv_istore_n (lv' := [(1, .int v_28), (3, .int x2_3), (2, .int x2_2), (0, .ref (a 10))]) hx hb dX6_number_35 rfl hl (by decide) rfl (fun ls hl => ?_)
            refine lv_aload_n hx hb dX6_number_36 rfl (lv_at hl 3 rfl) ?_
            refine lv_dup hx hb dX6_number_37 rfl ?_
            refine va_get (D := D) (ci := 6) (v := .int (i2 4)) (C := RX6) (T := TX6) (N := 5) hx hb hT iX6 hown hK hP 10 rfl rfl 3 (by decide) (hT _ t_648) (fun _ h9 => h9) rfl dX6_number_38 ?_
            refine lv_iconst (v := 1) hx hb dX6_number_41 (by decide) ?_
            refine lv_iadd hx hb dX6_number_42 ?_
            refine lv_topi (fun v_29 ev_29 => ?_)
            have hv_29 : v_29.toInt = (i2 4).toInt + 1 := by rw [ev_29]; have := b_rg (i2 4); exact i_add (a := (i2 4).toInt) (b := 1) rfl rfl (by omega) (by omega)
            refine va_put (D := D) (ci := 6) (v := .int v_29) (ty := .int) (C := RX6) (T := TX6) (N := 5) hx hb hT iX6 tyX6 tyX6_ok nmX6 hown hK hP hD hS 10 rfl rfl 3 (by decide) (hT _ t_648) (fun _ h9 => h9) rfl (by decide +kernel) rfl rfl (Nat.le_of_ble_eq_true rfl) dX6_number_43 (fun H locs hP hD hS => ?_)
            rw [zP4] at hP hD
            have hRi := Yi_upd hRi 4 v_29 (b_rg _)
            have hEi := Ei_upd hEi 4 v_29 (by decide)
            refine lv_aload_n hx hb dX6_number_46 rfl (lv_at hl 3 rfl) ?_
            refine vp_callSi (W.runV (As := []) (rest := []) ⟨hx, hb, hml, hown, hT⟩ (c_X6_peek9 l D cy a (upd i2 4 v_29) r2 q tl hRi hRr (show 0 ≤ v_29.toInt by omega)) (cwV 0 hT (gV t_652 t_654 t_655 t_656 t_653) rfl rfl rfl (by decide +kernel) ⟨Nat.le_of_ble_eq_true rfl, Nat.le_of_ble_eq_true rfl⟩) (rP_v hP hK (va_recv hK hP (ci := 6) (q0 := 10) rfl rfl)) rfl rfl hl.1 rfl (lv_room (Nat.le_of_ble_eq_true rfl)) dX6_number_47 ⟨Nat.le_of_ble_eq_true rfl, Nat.le_of_ble_eq_true rfl⟩) (fun r_30 hr_30 => ?_)
            have hqr_30 : r_30.toInt = qTX (i 3) (r 11) v_29.toInt.toNat := by have h9 := hr_30.1; rw [show (upd i2 4 v_29) 3 = i 3 from hEi 3 (by decide)] at h9; rw [show (r2) 11 = r 11 from hEr 11 (by decide)] at h9; exact h9
            have hr_30 : -1 ≤ r_30.toInt ∧ r_30.toInt ≤ 255 := hr_30.2
            refine lv_istore_n (lv' := [(2, .int r_30), (1, .int v_28), (3, .int x2_3), (0, .ref (a 10))]) hx hb dX6_number_50 rfl hl (by decide) rfl (fun ls hl => ?_)
            obtain ⟨x_31, ex_31⟩ : ∃ y : Int32, y = x2_3 + 1 := ⟨_, rfl⟩
            refine lv_iinc (v := x_31) (lv' := [(3, .int x_31), (2, .int r_30), (1, .int v_28), (0, .ref (a 10))]) hx hb dX6_number_51 hl (k := 2) rfl (by rw [ex_31]; rfl) (by decide) rfl (fun ls hl => ?_)
            have hx_31 : x_31.toInt = x2_3.toInt + 1 := by rw [ex_31]; have := b_rg x2_3; exact i_add (a := x2_3.toInt) (b := 1) rfl rfl (by omega) (by omega)
            refine lv_goto (tgt := 9) hx hb dX6_number_54 (by decide) ?_
            have hk : x_31.toNatClampNeg = x2_3.toNatClampNeg + 1 := by show x_31.toInt.toNat = x2_3.toInt.toNat + 1; omega
            have hN8 : qNu (qTX (i 3) (r 11)) (i 4).toInt.toNat (x_31.toNatClampNeg) v_28.toInt := qNu_s hN9 (by rw [← hs9]; omega) hk (by rw [← hs9]; omega)
            have hs8 : r_30.toInt = (qTX (i 3) (r 11)) ((i 4).toInt.toNat + x_31.toNatClampNeg) := by rw [hqr_30]; exact congrArg (qTX (i 3) (r 11)) (by rw [hk]; omega)
            exact ih2 x_31 r_30 v_28 (upd i2 4 v_29) r2 _ _ _ (by first | omega | (simp only [Int.toNat]; omega)) (by first | omega | decide) (by first | omega | decide) hRi hEi hRr hEr ⟨⟨hN8, hs8⟩, ⟨by show v_29.toInt = _; omega, by show v_29.toInt ≤ _; omega⟩, h79, h17, h18, h59⟩ hP hD hS (lv_sub hl [0, 1, 2, 3] rfl)
  exact loop_2 _ 0 r_1 0 i r _ _ _ (Nat.lt_succ_self _) (by first | omega | decide) (by first | omega | decide) hRi hEi hRr hEr ⟨⟨qNu_0, hqr_1⟩, ⟨by have h9 : (0 : Int32).toInt = 0 := rfl; omega, by omega⟩, rfl, rfl, rfl, rfl⟩ hP hD hS hl
set_option maxHeartbeats 4000000 in
set_option maxRecDepth 100000 in
theorem c_J1_indexOfChar9 (l : Launch) (kq vq : Nat) (p0 : Int32) : Met l yJ1_indexOfChar_4cfef (Cond.code yJ1_indexOfChar_4cfef cJ1_indexOfChar_4cfef 6 (some .int) :: gT) { frames := 1, cells := 0, slots := 0, locals := 24 } (va_Pc [.ref vq, .int p0, .int 0, .int 10] (sJ kq vq)) (vp_Si (fun z => jIx p0 z ∧ (-1 ≤ z.toInt ∧ z.toInt ≤ 9))) 0 0 (fun _ => False) := by
  refine Met.ofQ (cc := cJ1_indexOfChar_4cfef) (maxL := 6) (ret := (some .int)) (by decide) rfl ?_
  intro p e s m args below meth c s₁ B hml hv Q hQ
  obtain ⟨rfl, hJ⟩ := hv
  have hx := B.exec
  have hb := B.bytes
  have hr := B.returns
  have hlocks := B.notSynchronized
  have hT : ∀ w ∈ gT, w.before _ s = true := fun w h => atoms_spec (ws := (Cond.code yJ1_indexOfChar_4cfef cJ1_indexOfChar_4cfef 6 (some .int) :: gT)) B.pre w (List.mem_cons_of_mem _ h)
  have hown : s.vm.findClass RJ1 = some m.cls := findClass_of_methodNamed B.named
  have hl := lv_entry ([.ref vq, .int p0, .int 0, .int 10]) (n := 6) (Nat.le_of_ble_eq_true rfl)
  rw [lg_entry_eq]
  generalize (lg_sl ([.ref vq, .int p0, .int 0, .int 10]) ++ List.replicate (6 - (lg_sl ([.ref vq, .int p0, .int 0, .int 10])).length) Slot.unset).toArray = ls at hl ⊢
  have hl : lv_has ls 6 [(0, .ref vq), (1, .int p0), (2, .int 0), (3, .int 10)] := hl
  have hSJ : va_S (fun _ => False) s.heap s.heap [] := va_S.rf
  refine lv_iload_n hx hb dJ1_indexOfChar_4cfef_0 rfl (lv_at hl 1 rfl) ?_
  obtain ⟨v_1, ev_1⟩ : ∃ y : Int32, p0.toInt8.toInt32 = y := ⟨_, rfl⟩
  refine lv_i2b (v := v_1) hx hb dJ1_indexOfChar_4cfef_1 ev_1 ?_
  refine lv_istore (lv' := [(4, .int v_1), (0, .ref vq), (1, .int p0), (2, .int 0), (3, .int 10)]) hx hb dJ1_indexOfChar_4cfef_2 hl (by decide) rfl (fun ls hl => ?_)
  refine lv_iload_n hx hb dJ1_indexOfChar_4cfef_4 rfl (lv_at hl 3 rfl) ?_
  refine lv_istore (lv' := [(5, .int 0), (4, .int v_1), (0, .ref vq), (1, .int p0), (2, .int 0), (3, .int 10)]) hx hb dJ1_indexOfChar_4cfef_5 hl (by decide) rfl (fun ls hl => ?_)
  have loop_2 : ∀ (n : Nat) (x2_5 : Int32) (ls : Array Slot), (10 - x2_5.toInt).toNat < n → (0 ≤ x2_5.toInt ∧ x2_5.toInt ≤ 10) → (∀ k, k < x2_5.toNatClampNeg → bJ.getD k 0 ≠ p0.toInt8.toInt32) → lv_has ls 6 [(5, .int x2_5), (4, .int v_1), (0, .ref vq), (1, .int p0), (2, .int 0), (3, .int 10)] → W p l e ({ frames := 1, cells := 0, slots := 0, locals := 24 } : Room) s m ([.ref vq, .int p0, .int 0, .int 10] : List Value).toArray below meth c s.heap [] 0 0 Q (F0 m 7 ls []) := by
    intro n
    induction n with
    | zero =>
      intro x2_5 ls hm2 hf2_0 hx2 hl
      exact absurd hm2 (by omega)
    | succ n ih2 =>
      intro x2_5 ls hm2 hf2_0 hx2 hl
      refine lv_iload hx hb dJ1_indexOfChar_4cfef_7 (lv_at hl 0 rfl) ?_
      refine lv_iload_n hx hb dJ1_indexOfChar_4cfef_9 rfl (lv_at hl 5 rfl) ?_
      refine lv_icmp_ge (tgt := 31) hx hb dJ1_indexOfChar_4cfef_10 (by decide) (fun c_3 => ?_) (fun c_3 => ?_)
      · have c_3 : 10 ≤ x2_5.toInt := b_le c_3
        refine lv_iconst (v := (-1)) hx hb dJ1_indexOfChar_4cfef_31 (by decide) ?_
        subst hQ
        exact W.iret (v := (-1)) hx hb hr (fun t ht hW => ⟨_, rfl, ⟨Or.inr ⟨rfl, fun k hk => hx2 k (by show k < x2_5.toInt.toNat; omega)⟩, by decide⟩, ht⟩) (fun q hq => absurd hq List.not_mem_nil) dJ1_indexOfChar_4cfef_32
      · have c_3 : x2_5.toInt < 10 := b_nle c_3
        refine lv_aload_n hx hb dJ1_indexOfChar_4cfef_13 rfl (lv_at hl 2 rfl) ?_
        refine lv_iload hx hb dJ1_indexOfChar_4cfef_14 (lv_at hl 0 rfl) ?_
        obtain ⟨v_4, ev_4⟩ : ∃ y : Int32, bJ.getD x2_5.toNatClampNeg 0 = y := ⟨_, rfl⟩
        refine va_tb (v := .int v_4) hx hb hJ.2.2.2.1 hSJ (vp_inI (by omega) (by omega)) (congrArg Value.int ev_4) dJ1_indexOfChar_4cfef_16 ?_
        refine lv_iload hx hb dJ1_indexOfChar_4cfef_17 (lv_at hl 1 rfl) ?_
        refine lv_icmp_ne (tgt := 25) hx hb dJ1_indexOfChar_4cfef_19 (by decide) (fun c_5 => ?_) (fun c_5 => ?_)
        · have c_5 : v_4.toInt ≠ v_1.toInt := b_ne c_5
          obtain ⟨x_6, ex_6⟩ : ∃ y : Int32, y = x2_5 + 1 := ⟨_, rfl⟩
          refine lv_iinc (v := x_6) (lv' := [(5, .int x_6), (4, .int v_1), (0, .ref vq), (1, .int p0), (2, .int 0), (3, .int 10)]) hx hb dJ1_indexOfChar_4cfef_25 hl (k := 0) rfl (by rw [ex_6]; rfl) (by decide) rfl (fun ls hl => ?_)
          have hx_6 : x_6.toInt = x2_5.toInt + 1 := by rw [ex_6]; have := b_rg x2_5; exact i_add (a := x2_5.toInt) (b := 1) rfl rfl (by omega) (by omega)
          refine lv_goto (tgt := 7) hx hb dJ1_indexOfChar_4cfef_28 (by decide) ?_
          have hk : x_6.toNatClampNeg = x2_5.toNatClampNeg + 1 := by show x_6.toInt.toNat = x2_5.toInt.toNat + 1; omega
          exact ih2 x_6 _ (by first | omega | (simp only [Int.toNat]; omega)) (by first | omega | decide)  (fun k hk2 => (Nat.lt_succ_iff_lt_or_eq.mp (by rw [hk] at hk2; exact hk2)).elim (fun h8 => hx2 k h8) (fun h8 => by rw [h8, ev_4, ev_1]; exact fun h7 => c_5 (congrArg Int32.toInt h7)))  (lv_sub hl [0, 1, 2, 3, 4, 5] rfl)
        · have c_5 : v_4.toInt = v_1.toInt := b_nne c_5
          refine lv_iload hx hb dJ1_indexOfChar_4cfef_22 (lv_at hl 0 rfl) ?_
          subst hQ
          exact W.iret (v := x2_5) hx hb hr (fun t ht hW => ⟨_, rfl, ⟨Or.inl ⟨x2_5.toNatClampNeg, by show x2_5.toInt.toNat < 10; omega, by show x2_5.toInt = ((x2_5.toInt.toNat : Nat) : Int); omega, by rw [ev_4, ev_1]; exact Int32.toInt_inj.mp c_5⟩, by omega⟩, ht⟩) (fun q hq => absurd hq List.not_mem_nil) dJ1_indexOfChar_4cfef_24
  exact loop_2 _ 0 _ (Nat.lt_succ_self _) (by first | omega | decide)  (fun k hk => absurd (show k < 0 from hk) (Nat.not_lt_zero k))  hl
set_option maxHeartbeats 4000000 in
set_option maxRecDepth 100000 in
theorem c_J1_indexOf9 (l : Launch) (kq vq : Nat) (p0 : Int32) : Met l yJ1_indexOf_4cfef (Cond.code yJ1_indexOf_4cfef cJ1_indexOf_4cfef 4 (some .int) :: gT) { frames := 2, cells := 0, slots := 0, locals := 49 } (va_Pc [.ref vq, .int p0, .int 0, .int 10] (sJ kq vq)) (vp_Si (fun z => (0 ≤ p0.toInt ∧ p0.toInt ≤ 255 → jIx p0 z) ∧ (-1 ≤ z.toInt ∧ z.toInt ≤ 9))) 0 0 (fun _ => False) := by
  refine Met.ofQ (cc := cJ1_indexOf_4cfef) (maxL := 4) (ret := (some .int)) (by decide) rfl ?_
  intro p e s m args below meth c s₁ B hml hv Q hQ
  obtain ⟨rfl, hJ⟩ := hv
  have hx := B.exec
  have hb := B.bytes
  have hr := B.returns
  have hlocks := B.notSynchronized
  have hT : ∀ w ∈ gT, w.before _ s = true := fun w h => atoms_spec (ws := (Cond.code yJ1_indexOf_4cfef cJ1_indexOf_4cfef 4 (some .int) :: gT)) B.pre w (List.mem_cons_of_mem _ h)
  have hown : s.vm.findClass RJ1 = some m.cls := findClass_of_methodNamed B.named
  have hl := lv_entry ([.ref vq, .int p0, .int 0, .int 10]) (n := 4) (Nat.le_of_ble_eq_true rfl)
  rw [lg_entry_eq]
  generalize (lg_sl ([.ref vq, .int p0, .int 0, .int 10]) ++ List.replicate (4 - (lg_sl ([.ref vq, .int p0, .int 0, .int 10])).length) Slot.unset).toArray = ls at hl ⊢
  have hl : lv_has ls 4 [(0, .ref vq), (1, .int p0), (2, .int 0), (3, .int 10)] := hl
  have hSJ : va_S (fun _ => False) s.heap s.heap [] := va_S.rf
  refine lv_iload_n hx hb dJ1_indexOf_4cfef_0 rfl (lv_at hl 1 rfl) ?_
  refine vp_callSi (W.runS (As := [.int p0]) (rest := []) ⟨hx, hb, hml, hown, hT⟩ (c_J1_canEncode_9a6ad l p0) (va_cwS 1 hT (gS t_619 t_621 t_622 t_620) rfl rfl rfl (by decide +kernel) ⟨Nat.le_of_ble_eq_true rfl, Nat.le_of_ble_eq_true rfl⟩) preT rfl rfl hl.1 rfl (lv_room (Nat.le_of_ble_eq_true rfl)) dJ1_indexOf_4cfef_1 ⟨Nat.le_of_ble_eq_true rfl, Nat.le_of_ble_eq_true rfl⟩) (fun r_1 hr_1 => ?_)
  have hr_1 : BR r_1 (0 ≤ p0.toInt ∧ p0.toInt ≤ 255) 1 0 := hr_1
  rcases hr_1 with ⟨rfl, h_2⟩ | ⟨rfl, h_2⟩
  · skip
    refine lv_if_ne (tgt := 9) hx hb dJ1_indexOf_4cfef_4 (by decide) (fun c_3 => ?_) (fun c_3 => absurd c_3 (by decide))
    refine lv_iload_n hx hb dJ1_indexOf_4cfef_9 rfl (lv_at hl 2 rfl) ?_
    refine lv_iconst (v := 0) hx hb dJ1_indexOf_4cfef_10 (by decide) ?_
    refine va_mmax hx hb (by rw [hml]; exact hl.1.symm) hown (hT _ t_623) (hT _ t_307) (hT _ t_289) (hT _ t_308) (Nat.le_of_ble_eq_true rfl) (Nat.le_of_ble_eq_true rfl) (Nat.le_of_ble_eq_true rfl) (Nat.le_of_ble_eq_true rfl) dJ1_indexOf_4cfef_11 ?_
    refine lv_topi (fun v_4 ev_4 => ?_)
    obtain rfl : v_4 = 0 := ev_4.trans (by decide)
    refine lv_istore_n (lv' := [(2, .int 0), (0, .ref vq), (1, .int p0), (3, .int 10)]) hx hb dJ1_indexOf_4cfef_14 rfl hl (by decide) rfl (fun ls hl => ?_)
    refine lv_iload_n hx hb dJ1_indexOf_4cfef_15 rfl (lv_at hl 3 rfl) ?_
    refine lv_aload_n hx hb dJ1_indexOf_4cfef_16 rfl (lv_at hl 1 rfl) ?_
    refine va_tlen (v := 10) hx hb hJ.2.2.2.1 hSJ rfl dJ1_indexOf_4cfef_17 ?_
    refine va_mmin hx hb (by rw [hml]; exact hl.1.symm) hown (hT _ t_624) (hT _ t_380) (hT _ t_289) (hT _ t_381) (Nat.le_of_ble_eq_true rfl) (Nat.le_of_ble_eq_true rfl) (Nat.le_of_ble_eq_true rfl) (Nat.le_of_ble_eq_true rfl) dJ1_indexOf_4cfef_18 ?_
    refine lv_topi (fun v_5 ev_5 => ?_)
    obtain rfl : v_5 = 10 := ev_5.trans (by decide)
    refine lv_istore_n (lv' := [(3, .int 10), (2, .int 0), (0, .ref vq), (1, .int p0)]) hx hb dJ1_indexOf_4cfef_21 rfl hl (by decide) rfl (fun ls hl => ?_)
    refine lv_iload_n hx hb dJ1_indexOf_4cfef_22 rfl (lv_at hl 1 rfl) ?_
    refine lv_iload_n hx hb dJ1_indexOf_4cfef_23 rfl (lv_at hl 0 rfl) ?_
    refine lv_icmp_lt (tgt := 29) hx hb dJ1_indexOf_4cfef_24 (by decide) (fun c_6 => ?_) (fun c_6 => absurd (by decide) c_6)
    refine lv_aload_n hx hb dJ1_indexOf_4cfef_29 rfl (lv_at hl 2 rfl) ?_
    refine lv_iload_n hx hb dJ1_indexOf_4cfef_30 rfl (lv_at hl 3 rfl) ?_
    refine lv_iload_n hx hb dJ1_indexOf_4cfef_31 rfl (lv_at hl 1 rfl) ?_
    refine lv_iload_n hx hb dJ1_indexOf_4cfef_32 rfl (lv_at hl 0 rfl) ?_
    refine vp_callSi (W.runS (As := [.ref vq, .int p0, .int 0, .int 10]) (rest := []) ⟨hx, hb, hml, hown, hT⟩ (c_J1_indexOfChar9 l kq vq p0) (va_cwS 4 hT (gS t_625 t_626 t_627 t_620) rfl rfl rfl (by decide +kernel) ⟨Nat.le_of_ble_eq_true rfl, Nat.le_of_ble_eq_true rfl⟩) (sJ_s hJ hSJ) rfl rfl hl.1 rfl (lv_room (Nat.le_of_ble_eq_true rfl)) dJ1_indexOf_4cfef_33 ⟨Nat.le_of_ble_eq_true rfl, Nat.le_of_ble_eq_true rfl⟩) (fun r_7 hr_7 => ?_)
    have hjr_7 : jIx p0 r_7 := hr_7.1
    have hr_7 : -1 ≤ r_7.toInt ∧ r_7.toInt ≤ 9 := hr_7.2
    subst hQ
    exact W.iret (v := r_7) hx hb hr (fun t ht hW => ⟨_, rfl, ⟨fun _ => hjr_7, by omega⟩, ht⟩) (fun q hq => absurd hq List.not_mem_nil) dJ1_indexOf_4cfef_36
  · skip
    refine lv_if_ne (tgt := 9) hx hb dJ1_indexOf_4cfef_4 (by decide) (fun c_8 => absurd (by decide) c_8) (fun c_8 => ?_)
    refine lv_iconst (v := (-1)) hx hb dJ1_indexOf_4cfef_7 (by decide) ?_
    subst hQ
    exact W.iret (v := (-1)) hx hb hr (fun t ht hW => ⟨_, rfl, ⟨fun h9 => absurd h9 (by omega), by decide⟩, ht⟩) (fun q hq => absurd hq List.not_mem_nil) dJ1_indexOf_4cfef_8
set_option maxHeartbeats 4000000 in
set_option maxRecDepth 100000 in
theorem c_J0_indexOf29 (l : Launch) (kq vq : Nat) (p0 : Int32) : Met l yJ0_indexOf_7cf53 (Cond.code yJ0_indexOf_7cf53 cJ0_indexOf_7cf53 3 (some .int) :: gT) { frames := 3, cells := 0, slots := 0, locals := 72 } (va_Pc [.ref kq, .int p0, .int 0] (sJ kq vq)) (vp_Si (fun z => (0 ≤ p0.toInt ∧ p0.toInt ≤ 255 → jIx p0 z) ∧ (-1 ≤ z.toInt ∧ z.toInt ≤ 9))) 0 0 (fun _ => False) := by
  refine Met.ofQ (cc := cJ0_indexOf_7cf53) (maxL := 3) (ret := (some .int)) (by decide) rfl ?_
  intro p e s m args below meth c s₁ B hml hv Q hQ
  obtain ⟨rfl, hJ⟩ := hv
  have hx := B.exec
  have hb := B.bytes
  have hr := B.returns
  have hlocks := B.notSynchronized
  have hT : ∀ w ∈ gT, w.before _ s = true := fun w h => atoms_spec (ws := (Cond.code yJ0_indexOf_7cf53 cJ0_indexOf_7cf53 3 (some .int) :: gT)) B.pre w (List.mem_cons_of_mem _ h)
  have hown : s.vm.findClass RJ0 = some m.cls := findClass_of_methodNamed B.named
  have hl := lv_entry ([.ref kq, .int p0, .int 0]) (n := 3) (Nat.le_of_ble_eq_true rfl)
  rw [lg_entry_eq]
  generalize (lg_sl ([.ref kq, .int p0, .int 0]) ++ List.replicate (3 - (lg_sl ([.ref kq, .int p0, .int 0])).length) Slot.unset).toArray = ls at hl ⊢
  have hl : lv_has ls 3 [(0, .ref kq), (1, .int p0), (2, .int 0)] := hl
  have hSJ : va_S (fun _ => False) s.heap s.heap [] := va_S.rf
  refine lv_aload_n hx hb dJ0_indexOf_7cf53_0 rfl (lv_at hl 0 rfl) ?_
  refine vp_callSi (W.runV (As := []) (rest := []) ⟨hx, hb, hml, hown, hT⟩ (c_J0_isLatin1_aae02 l kq vq) (cwV 0 hT (gV t_628 t_629 t_630 t_631 t_615) rfl rfl rfl (by decide +kernel) ⟨Nat.le_of_ble_eq_true rfl, Nat.le_of_ble_eq_true rfl⟩) (sJ_v hJ hSJ) rfl rfl hl.1 rfl (lv_room (Nat.le_of_ble_eq_true rfl)) dJ0_indexOf_7cf53_1 ⟨Nat.le_of_ble_eq_true rfl, Nat.le_of_ble_eq_true rfl⟩) (fun r_1 hr_1 => ?_)
  subst hr_1
  refine lv_if_eq (tgt := 23) hx hb dJ0_indexOf_7cf53_4 (by decide) (fun c_2 => absurd c_2 (by decide)) (fun c_2 => ?_)
  refine lv_aload_n hx hb dJ0_indexOf_7cf53_7 rfl (lv_at hl 0 rfl) ?_
  refine vk_getf (o := "java/lang/String") hx hb hJ.2.2.1 hSJ hown (hT _ t_613) (fun _ h9 => h9) dJ0_indexOf_7cf53_8 ?_
  refine lv_iload_n hx hb dJ0_indexOf_7cf53_11 rfl (lv_at hl 1 rfl) ?_
  refine lv_iload_n hx hb dJ0_indexOf_7cf53_12 rfl (lv_at hl 2 rfl) ?_
  refine lv_aload_n hx hb dJ0_indexOf_7cf53_13 rfl (lv_at hl 0 rfl) ?_
  refine vp_callSi (W.runV (As := []) (rest := [.int 0, .int p0, .ref vq]) ⟨hx, hb, hml, hown, hT⟩ (c_J0_length_8abf5 l kq vq) (cwV 0 hT (gV t_632 t_633 t_634 t_635 t_615) rfl rfl rfl (by decide +kernel) ⟨Nat.le_of_ble_eq_true rfl, Nat.le_of_ble_eq_true rfl⟩) (sJ_v hJ hSJ) rfl rfl hl.1 rfl (lv_room (Nat.le_of_ble_eq_true rfl)) dJ0_indexOf_7cf53_14 ⟨Nat.le_of_ble_eq_true rfl, Nat.le_of_ble_eq_true rfl⟩) (fun r_3 hr_3 => ?_)
  subst hr_3
  refine vp_callSi (W.runS (As := [.ref vq, .int p0, .int 0, .int 10]) (rest := []) ⟨hx, hb, hml, hown, hT⟩ (c_J1_indexOf9 l kq vq p0) (va_cwS 4 hT (gS t_636 t_637 t_638 t_620) rfl rfl rfl (by decide +kernel) ⟨Nat.le_of_ble_eq_true rfl, Nat.le_of_ble_eq_true rfl⟩) (sJ_s hJ hSJ) rfl rfl hl.1 rfl (lv_room (Nat.le_of_ble_eq_true rfl)) dJ0_indexOf_7cf53_17 ⟨Nat.le_of_ble_eq_true rfl, Nat.le_of_ble_eq_true rfl⟩) (fun r_4 hr_4 => ?_)
  have hjr_4 : 0 ≤ p0.toInt ∧ p0.toInt ≤ 255 → jIx p0 r_4 := hr_4.1
  have hr_4 : -1 ≤ r_4.toInt ∧ r_4.toInt ≤ 9 := hr_4.2
  refine lv_goto (tgt := 36) hx hb dJ0_indexOf_7cf53_20 (by decide) ?_
  subst hQ
  exact W.iret (v := r_4) hx hb hr (fun t ht hW => ⟨_, rfl, ⟨hjr_4, by omega⟩, ht⟩) (fun q hq => absurd hq List.not_mem_nil) dJ0_indexOf_7cf53_36
set_option maxHeartbeats 4000000 in
set_option maxRecDepth 100000 in
theorem c_J0_indexOf19 (l : Launch) (kq vq : Nat) (p0 : Int32) : Met l yJ0_indexOf_0f7a4 (Cond.code yJ0_indexOf_0f7a4 cJ0_indexOf_0f7a4 2 (some .int) :: gT) { frames := 4, cells := 0, slots := 0, locals := 94 } (va_Pc [.ref kq, .int p0] (sJ kq vq)) (vp_Si (fun z => (0 ≤ p0.toInt ∧ p0.toInt ≤ 255 → jIx p0 z) ∧ (-1 ≤ z.toInt ∧ z.toInt ≤ 9))) 0 0 (fun _ => False) := by
  refine Met.ofQ (cc := cJ0_indexOf_0f7a4) (maxL := 2) (ret := (some .int)) (by decide) rfl ?_
  intro p e s m args below meth c s₁ B hml hv Q hQ
  obtain ⟨rfl, hJ⟩ := hv
  have hx := B.exec
  have hb := B.bytes
  have hr := B.returns
  have hlocks := B.notSynchronized
  have hT : ∀ w ∈ gT, w.before _ s = true := fun w h => atoms_spec (ws := (Cond.code yJ0_indexOf_0f7a4 cJ0_indexOf_0f7a4 2 (some .int) :: gT)) B.pre w (List.mem_cons_of_mem _ h)
  have hown : s.vm.findClass RJ0 = some m.cls := findClass_of_methodNamed B.named
  have hl := lv_entry ([.ref kq, .int p0]) (n := 2) (Nat.le_of_ble_eq_true rfl)
  rw [lg_entry_eq]
  generalize (lg_sl ([.ref kq, .int p0]) ++ List.replicate (2 - (lg_sl ([.ref kq, .int p0])).length) Slot.unset).toArray = ls at hl ⊢
  have hl : lv_has ls 2 [(0, .ref kq), (1, .int p0)] := hl
  have hSJ : va_S (fun _ => False) s.heap s.heap [] := va_S.rf
  refine lv_aload_n hx hb dJ0_indexOf_0f7a4_0 rfl (lv_at hl 0 rfl) ?_
  refine lv_iload_n hx hb dJ0_indexOf_0f7a4_1 rfl (lv_at hl 1 rfl) ?_
  refine lv_iconst (v := 0) hx hb dJ0_indexOf_0f7a4_2 (by decide) ?_
  refine vp_callSi (W.runV (As := [.int p0, .int 0]) (rest := []) ⟨hx, hb, hml, hown, hT⟩ (c_J0_indexOf29 l kq vq p0) (cwV 2 hT (gV t_639 t_640 t_641 t_642 t_615) rfl rfl rfl (by decide +kernel) ⟨Nat.le_of_ble_eq_true rfl, Nat.le_of_ble_eq_true rfl⟩) (sJ_v hJ hSJ) rfl rfl hl.1 rfl (lv_room (Nat.le_of_ble_eq_true rfl)) dJ0_indexOf_0f7a4_3 ⟨Nat.le_of_ble_eq_true rfl, Nat.le_of_ble_eq_true rfl⟩) (fun r_1 hr_1 => ?_)
  have hjr_1 : 0 ≤ p0.toInt ∧ p0.toInt ≤ 255 → jIx p0 r_1 := hr_1.1
  have hr_1 : -1 ≤ r_1.toInt ∧ r_1.toInt ≤ 9 := hr_1.2
  subst hQ
  exact W.iret (v := r_1) hx hb hr (fun t ht hW => ⟨_, rfl, ⟨hjr_1, by omega⟩, ht⟩) (fun q hq => absurd hq List.not_mem_nil) dJ0_indexOf_0f7a4_6
theorem i2c_id {x : Int32} (h0 : 0 ≤ x.toInt) (h1 : x.toInt ≤ 255) : (x.toUInt32 % 65536).toInt32 = x := by
  obtain ⟨n, hn, rfl⟩ := nI_of (x := x) (fun h2 => by have := b_lt h2; have h3 : (0 : Int32).toInt = 0 := rfl; omega)
  rw [nI_toInt (by omega)] at h1
  have ht : ∀ n, n < 256 → ((nI n).toUInt32 % 65536).toInt32 = nI n := by decide +kernel
  exact ht n (by omega)
set_option maxHeartbeats 4000000 in
set_option maxRecDepth 100000 in
theorem c_X6_factor_kq (l : Launch) (D : va_G) (cy : Nat → ClassId) (a : Nat → Nat) (i : Nat → Int32) (r : Nat → Nat → Int32) (q : Nat → Option Nat) (tl : va_W) (kq vq : Nat) (p0 : Int32) (sz : Nat) (hRi : yRi i) (hRr : yRr r) (h4 : 0 ≤ (i 4).toInt ∧ (i 4).toInt ≤ (i 3).toInt) (F9 L9 F1 L1 : Nat) (hF9 : 5 ≤ F9 ∧ 115 ≤ L9) (q0 : 0 ≤ p0.toInt ∧ p0.toInt ≤ 6) (hX1 : ∀ k9 : Int32, k9.toInt = p0.toInt + 1 → k9.toInt ≤ 6 → ∀ (i : Nat → Int32) (r : Nat → Nat → Int32) (sz : Nat) (hRi : yRi i) (hRr : yRr r) (h4 : 0 ≤ (i 4).toInt ∧ (i 4).toInt ≤ (i 3).toInt), Met l yX6_expression (Cond.code yX6_expression cX6_expression 7 (some .boolean) :: gT) { frames := F1, cells := 0, slots := 0, locals := L1 } (va_Pc [.ref (a 10), .int k9, .int 1] (rS D cy (xW cy a i r q (a 20) (a 12) ++ tl) sz kq vq)) (va_Qi (fun (z : Int32) (u : (Nat → Int32) × (Nat → Nat → Int32)) => yRi u.1 ∧ yRr u.2 ∧ mEi [4, 5, 7] i u.1 ∧ mEr [17, 18] r u.2 ∧ ((z = 0 ∨ z = 1) ∧ ((0 ≤ (u.1 4).toInt ∧ (u.1 4).toInt ≤ (i 3).toInt) ∧ (z.toInt ≠ 0 → (i 4).toInt < (u.1 4).toInt ∧ u.1 5 = i 5)) ∧ qX (qTX (i 3) (r 11)) 0 4 k9 qK4 qE4 True i r u.1 u.2 z)) (fun (u : (Nat → Int32) × (Nat → Nat → Int32)) t => va_P D vwCl (xW cy a u.1 u.2 q (a 20) (a 12) ++ tl) t.heap ∧ va_K D vwCl (vT cy) t ∧ va_D (va_A (xW cy a i r q (a 20) (a 12) ++ tl) sz) (xW cy a u.1 u.2 q (a 20) (a 12) ++ tl)) (va_A (xW cy a i r q (a 20) (a 12) ++ tl) sz)) 0 0 (va_A (xW cy a i r q (a 20) (a 12) ++ tl) sz)) (hR1 : F1 + 1 ≤ F9 ∧ 8 + (7 + 11) + L1 ≤ L9) : Met l yX6_factor (Cond.code yX6_factor cX6_factor 4 (some .boolean) :: gT) { frames := F9, cells := 0, slots := 0, locals := L9 } (va_Pc [.ref (a 10), .int p0] (rS D cy (xW cy a i r q (a 20) (a 12) ++ tl) sz kq vq)) (va_Qi (fun (z : Int32) (u : (Nat → Int32) × (Nat → Nat → Int32)) => yRi u.1 ∧ yRr u.2 ∧ mEi [4, 5, 7] i u.1 ∧ mEr [17, 18] r u.2 ∧ ((z = 0 ∨ z = 1) ∧ ((0 ≤ (u.1 4).toInt ∧ (u.1 4).toInt ≤ (i 3).toInt) ∧ (z.toInt ≠ 0 → (i 4).toInt < (u.1 4).toInt ∧ u.1 5 = i 5)) ∧ qX (qTX (i 3) (r 11)) 0 1 p0 qTt qTt True i r u.1 u.2 z)) (fun (u : (Nat → Int32) × (Nat → Nat → Int32)) t => va_P D vwCl (xW cy a u.1 u.2 q (a 20) (a 12) ++ tl) t.heap ∧ va_K D vwCl (vT cy) t ∧ va_D (va_A (xW cy a i r q (a 20) (a 12) ++ tl) sz) (xW cy a u.1 u.2 q (a 20) (a 12) ++ tl)) (va_A (xW cy a i r q (a 20) (a 12) ++ tl) sz)) 0 0 (va_A (xW cy a i r q (a 20) (a 12) ++ tl) sz) := by
  refine Met.ofQ (cc := cX6_factor) (maxL := 4) (ret := (some .boolean)) (by decide) rfl ?_
  intro p e s m args below meth c s₁ B hml hv Q hQ
  obtain ⟨rfl, hsk, hsz, hP, hK, hD0⟩ := hv
  have hx := B.exec
  have hb := B.bytes
  have hr := B.returns
  have hlocks := B.notSynchronized
  have hT : ∀ w ∈ gT, w.before _ s = true := fun w h => atoms_spec (ws := (Cond.code yX6_factor cX6_factor 4 (some .boolean) :: gT)) B.pre w (List.mem_cons_of_mem _ h)
  have hown : s.vm.findClass RX6 = some m.cls := findClass_of_methodNamed B.named
  subst hsz
  have hD := hD0.self (sz := s.heap.size)
  generalize hAe : va_A (xW cy a i r q (a 20) (a 12) ++ tl) s.heap.size = A at hD hQ hsk
  have hA : ∀ q : Nat, s.heap.size ≤ q → A q := fun q h => by rw [← hAe]; exact Or.inr h
  have hS : va_S A s.heap s.heap [] := va_S.rf
  have hl := lv_entry ([.ref (a 10), .int p0]) (n := 4) (Nat.le_of_ble_eq_true rfl)
  rw [lg_entry_eq]
  generalize (lg_sl ([.ref (a 10), .int p0]) ++ List.replicate (4 - (lg_sl ([.ref (a 10), .int p0])).length) Slot.unset).toArray = ls at hl ⊢
  have hl : lv_has ls 4 [(0, .ref (a 10)), (1, .int p0)] := hl
  have hEi : mEi [4, 5, 7] i i := Ei_rf
  have hEr : mEr [17, 18] r r := Er_rf
  have hg3 : 0 ≤ (i 3).toInt ∧ (i 3).toInt ≤ 200 := hRi 3
  refine lv_aload_n hx hb dX6_factor_0 rfl (lv_at hl 0 rfl) ?_
  refine vp_callSi (W.runV (As := []) (rest := []) ⟨hx, hb, hml, hown, hT⟩ (c_X6_peek9 l D cy a i r q tl hRi hRr (show 0 ≤ (i 4).toInt by omega)) (cwV 0 hT (gV t_652 t_654 t_655 t_656 t_653) rfl rfl rfl (by decide +kernel) ⟨Nat.le_trans (m := 5) (Nat.le_of_ble_eq_true rfl) hF9.1, Nat.le_trans (m := 115) (Nat.le_of_ble_eq_true rfl) hF9.2⟩) (rP_v hP hK (va_recv hK hP (ci := 6) (q0 := 10) rfl rfl)) rfl rfl hl.1 rfl (lv_room (Nat.le_of_ble_eq_true rfl)) dX6_factor_1 ⟨Nat.le_of_ble_eq_true rfl, Nat.le_of_ble_eq_true rfl⟩) (fun r_1 hr_1 => ?_)
  have hqr_1 : r_1.toInt = qTX (i 3) (r 11) (i 4).toInt.toNat := by have h9 := hr_1.1; exact h9
  have hr_1 : -1 ≤ r_1.toInt ∧ r_1.toInt ≤ 255 := hr_1.2
  refine lv_istore_n (lv' := [(2, .int r_1), (0, .ref (a 10)), (1, .int p0)]) hx hb dX6_factor_4 rfl hl (by decide) rfl (fun ls hl => ?_)
  refine lv_iload_n hx hb dX6_factor_5 rfl (lv_at hl 0 rfl) ?_
  refine lv_bipush (v := 91) hx hb dX6_factor_6 (by decide) ?_
  refine lv_icmp_ne (tgt := 59) hx hb dX6_factor_8 (by decide) (fun c_2 => ?_) (fun c_2 => ?_)
  · have c_2 : r_1.toInt ≠ 91 := b_ne c_2
    refine lv_iload_n hx hb dX6_factor_59 rfl (lv_at hl 0 rfl) ?_
    refine lv_bipush (v := 48) hx hb dX6_factor_60 (by decide) ?_
    refine lv_icmp_lt (tgt := 76) hx hb dX6_factor_62 (by decide) (fun c_3 => ?_) (fun c_3 => ?_)
    · have c_3 : r_1.toInt < 48 := b_lt c_3
      refine lv_iload_n hx hb dX6_factor_76 rfl (lv_at hl 0 rfl) ?_
      refine lv_iconst (v := (-1)) hx hb dX6_factor_77 (by decide) ?_
      refine lv_icmp_ne (tgt := 85) hx hb dX6_factor_78 (by decide) (fun c_4 => ?_) (fun c_4 => ?_)
      · have c_4 : r_1.toInt ≠ (-1) := b_ne c_4
        refine va_ldcS hx hb hown hsk.1 dX6_factor_85 ?_
        refine lv_iload_n hx hb dX6_factor_87 rfl (lv_at hl 0 rfl) ?_
        obtain ⟨v_5, ev_5⟩ : ∃ y : Int32, (r_1.toUInt32 % 65536).toInt32 = y := ⟨_, rfl⟩
        refine lv_i2c (v := v_5) hx hb dX6_factor_88 ev_5 ?_
        have hcc : v_5 = r_1 := by rw [← ev_5]; exact i2c_id (by omega) (by omega)
        have hpl := qTX_lt (e := i 3) (t := r 11) (p := (i 4).toInt.toNat) (by omega)
        refine vp_callSi (W.runV (As := [.int v_5]) (rest := []) ⟨hx, hb, hml, hown, hT⟩ (c_J0_indexOf19 l kq vq v_5) (cwV 1 hT (gV t_666 t_667 t_668 t_669 t_615) rfl rfl rfl (by decide +kernel) ⟨Nat.le_trans (m := 5) (Nat.le_of_ble_eq_true rfl) hF9.1, Nat.le_trans (m := 115) (Nat.le_of_ble_eq_true rfl) hF9.2⟩) (sJ_v hsk.2 hS) rfl rfl hl.1 rfl (lv_room (Nat.le_of_ble_eq_true rfl)) dX6_factor_89 ⟨Nat.le_of_ble_eq_true rfl, Nat.le_of_ble_eq_true rfl⟩) (fun r_6 hr_6 => ?_)
        have hjr_6 : 0 ≤ v_5.toInt ∧ v_5.toInt ≤ 255 → jIx v_5 r_6 := hr_6.1
        have hr_6 : -1 ≤ r_6.toInt ∧ r_6.toInt ≤ 9 := hr_6.2
        have hfc : r_6.toInt = qFct r_1.toInt := by have h9 := hjr_6; rw [hcc] at h9; exact jIx_q (h9 (by omega)) (by omega) (by omega)
        clear hjr_6
        refine lv_istore_n (lv' := [(3, .int r_6), (2, .int r_1), (0, .ref (a 10)), (1, .int p0)]) hx hb dX6_factor_92 rfl hl (by decide) rfl (fun ls hl => ?_)
        refine lv_iload_n hx hb dX6_factor_93 rfl (lv_at hl 0 rfl) ?_
        refine lv_if_ge (tgt := 103) hx hb dX6_factor_94 (by decide) (fun c_7 => ?_) (fun c_7 => ?_)
        · have c_7 : 0 ≤ r_6.toInt := b_le c_7
          refine lv_aload_n hx hb dX6_factor_103 rfl (lv_at hl 2 rfl) ?_
          refine lv_dup hx hb dX6_factor_104 rfl ?_
          refine va_get (D := D) (ci := 6) (v := .int (i 4)) (C := RX6) (T := TX6) (N := 5) hx hb hT iX6 hown hK hP 10 rfl rfl 3 (by decide) (hT _ t_648) (fun _ h9 => h9) rfl dX6_factor_105 ?_
          refine lv_iconst (v := 1) hx hb dX6_factor_108 (by decide) ?_
          refine lv_iadd hx hb dX6_factor_109 ?_
          refine lv_topi (fun v_8 ev_8 => ?_)
          have hv_8 : v_8.toInt = (i 4).toInt + 1 := by rw [ev_8]; have := b_rg (i 4); exact i_add (a := (i 4).toInt) (b := 1) rfl rfl (by omega) (by omega)
          refine va_put (D := D) (ci := 6) (v := .int v_8) (ty := .int) (C := RX6) (T := TX6) (N := 5) hx hb hT iX6 tyX6 tyX6_ok nmX6 hown hK hP hD hS 10 rfl rfl 3 (by decide) (hT _ t_648) (fun _ h9 => h9) rfl (by decide +kernel) rfl rfl (Nat.le_of_ble_eq_true rfl) dX6_factor_110 (fun H locs hP hD hS => ?_)
          rw [zP4] at hP hD
          have hRi := Yi_upd hRi 4 v_8 (b_rg _)
          have hEi := Ei_upd hEi 4 v_8 (by decide)
          refine lv_aload_n hx hb dX6_factor_113 rfl (lv_at hl 2 rfl) ?_
          refine va_get (D := D) (ci := 6) (v := .ref (a 12)) (C := RX6) (T := TX6) (N := 5) hx hb hT iX6 hown hK hP 10 rfl rfl 0 (by decide) (hT _ t_661) (fun _ h9 => h9) rfl dX6_factor_114 ?_
          refine lv_bipush (v := 107) hx hb dX6_factor_117 (by decide) ?_
          refine lv_iload_n hx hb dX6_factor_119 rfl (lv_at hl 0 rfl) ?_
          have hF_9 := rF hD hS hA
          refine va_calli (va_runV (As := [.int 107, .int r_6]) (rest := []) ⟨hx, hb, hml, hown, hT⟩ (c_X5_add9 l D cy a (upd i 4 v_8) r q tl 107 r_6 _ hRi hRr) (cwV 2 hT (gV t_662 t_663 t_664 t_665 t_367) rfl rfl rfl (by decide +kernel) ⟨Nat.le_trans (m := 5) (Nat.le_of_ble_eq_true rfl) hF9.1, Nat.le_trans (m := 115) (Nat.le_of_ble_eq_true rfl) hF9.2⟩) (rQ_v hP hK hD (va_recv hK hP (ci := 5) (q0 := 12) rfl rfl)) rfl rfl hl.1 rfl (lv_room (Nat.le_of_ble_eq_true rfl)) dX6_factor_120 ⟨Nat.le_of_ble_eq_true rfl, Nat.le_of_ble_eq_true rfl⟩) hS (fun q _ h => hF_9 q h) hF_9 (fun r_10 u_11 t H1 locs ht hvm hr_10 hB hz1 hk1 hS => ?_)
          obtain ⟨i11, r11⟩ := u_11
          obtain ⟨hP, hK1, hD1⟩ := hB
          rw [ht] at hP
          have hD := hD1.weaken (fun k q _ h => hF_9 q.1 h)
          obtain ⟨hRi, hRr, hE1, hE2, hr_10⟩ := hr_10
          have hRi : yRi i11 := hRi
          have hE1 : mEi [7] (upd i 4 v_8) i11 := hE1
          have hRr : yRr r11 := hRr
          have hE2 : mEr [17, 18] r r11 := hE2
          have hP : va_P D vwCl (xW cy a i11 r11 q (a 20) (a 12) ++ tl) H1 := hP
          have hD : va_D A (xW cy a i11 r11 q (a 20) (a 12) ++ tl) := hD
          have hEi : mEi [4, 5, 7] _ i11 := Ei_tr hEi hE1 (by decide)
          have hEr : mEr [17, 18] _ r11 := Er_tr hEr hE2 (by decide)
          obtain ⟨hZr_10, hr_10⟩ := hr_10
          have hZr_10 : -1 ≤ r_10.toInt ∧ r_10.toInt ≤ 200 := hZr_10
          have hAr_10 : qAdd (upd i 4 v_8) r i11 r11 (107 : Int32) r_6 := fun h9 => (hr_10 h9).2
          have hJr_10 : ((upd i 4 v_8) 7).toInt < 200 → r_10.toInt = ((upd i 4 v_8) 7).toInt := fun h9 => congrArg Int32.toInt (hr_10 h9).1
          have hBr_10 : i11 4 = v_8 := hE1 4 (by decide)
          have hBtr_10 : (i11 4).toInt = v_8.toInt := congrArg Int32.toInt hBr_10
          clear hr_10
          have hr_10 : True := trivial
          have h5r_10 : i11 5 = i 5 := (hE1 5 (by decide)).trans rfl
          refine lv_pop hx hb dX6_factor_123 rfl ?_
          refine lv_iconst (v := 1) hx hb dX6_factor_124 (by decide) ?_
          subst hQ
          have hfn : ((r_6.toNatClampNeg : Nat) : Int) = r_6.toInt := by show ((r_6.toInt.toNat : Nat) : Int) = _; omega
          have hR9 : ∀ (m n b rc : Nat) (hf : qE) (w c : Nat → Int32), qR (qTX (i 3) (r 11)) (qc 0 (i 4).toInt.toNat p0 m n b rc hf w c) (qc 1 ((i 4).toInt.toNat + 1) p0 m (n + 1) b rc hf w (upd c n (nI (1048576 * 1 + r_6.toNatClampNeg)))) := fun m n b rc hf w c => by have h9 := qm_let (tx := (qTX (i 3) (r 11))) (p := (i 4).toInt.toNat) (o := p0) (m := m) (n := n) (b := b) (rc := rc) (hf := hf) (w := w) (c := c) (by omega) (by omega) (by rw [← hqr_1, ← hfc]; omega); rw [← hqr_1, ← hfc] at h9; exact h9
          have hAd : qAdd i r i11 r11 107 r_6 := hAr_10
          have hpo9 : ((1 : Int32) = 0 ∨ (1 : Int32) = 1) ∧ ((0 ≤ (i11 4).toInt ∧ (i11 4).toInt ≤ (i 3).toInt) ∧ ((1 : Int32).toInt ≠ 0 → (i 4).toInt < (i11 4).toInt ∧ i11 5 = i 5)) ∧ qX (qTX (i 3) (r 11)) 0 1 p0 qTt qTt True i r i11 r11 (1 : Int32) := ⟨Or.inr rfl, ⟨⟨by rw [hBr_10]; omega, by rw [hBr_10]; omega⟩, (fun _ => ⟨by rw [hBr_10]; omega, h5r_10⟩)⟩, qX_note hR9 h4.1 (by omega) (Nat.le_refl 1) (by rw [hBr_10]; omega) hAd (by decide) (by have h9 : r_6.toNatClampNeg = r_6.toInt.toNat := rfl; omega) rfl hfn.symm⟩
          exact W.zret hx hb hr rfl (fun t ht hW => ⟨⟨_, (i11, r11), rfl, ⟨hRi, hRr, hEi, hEr, hpo9⟩, by rw [ht]; exact hP, va_K.moved hW.alike hK, hD⟩, hS.F ht⟩) hS.2.2 dX6_factor_125
        · have c_7 : r_6.toInt < 0 := b_nle c_7
          refine lv_aload_n hx hb dX6_factor_97 rfl (lv_at hl 2 rfl) ?_
          refine lv_iconst (v := 1) hx hb dX6_factor_98 (by decide) ?_
          have hF_12 := rF hD hS hA
          refine va_calli (va_runV (As := [.int 1]) (rest := []) ⟨hx, hb, hml, hown, hT⟩ (c_X6_refuse9 l D cy a i r q tl 1 _ hRi hRr (by decide) (show 0 ≤ (i 4).toInt ∧ (i 4).toInt ≤ 300 by omega)) (cwV 1 hT (gV t_657 t_658 t_659 t_660 t_653) rfl rfl rfl (by decide +kernel) ⟨Nat.le_trans (m := 5) (Nat.le_of_ble_eq_true rfl) hF9.1, Nat.le_trans (m := 115) (Nat.le_of_ble_eq_true rfl) hF9.2⟩) (rQ_v hP hK hD (va_recv hK hP (ci := 6) (q0 := 10) rfl rfl)) rfl rfl hl.1 rfl (lv_room (Nat.le_of_ble_eq_true rfl)) dX6_factor_99 ⟨Nat.le_of_ble_eq_true rfl, Nat.le_of_ble_eq_true rfl⟩) hS (fun q _ h => hF_12 q h) hF_12 (fun r_13 u_14 t H1 locs ht hvm hr_13 hB hz1 hk1 hS => ?_)
          obtain ⟨i14, r14⟩ := u_14
          obtain ⟨hP, hK1, hD1⟩ := hB
          rw [ht] at hP
          have hD := hD1.weaken (fun k q _ h => hF_12 q.1 h)
          obtain ⟨hRi, hRr, hE1, hE2, hr_13⟩ := hr_13
          have hRi : yRi i14 := hRi
          have hE1 : mEi [5] i i14 := hE1
          have hRr : yRr r14 := hRr
          have hE2 : mEr [] r r14 := hE2
          have hP : va_P D vwCl (xW cy a i14 r14 q (a 20) (a 12) ++ tl) H1 := hP
          have hD : va_D A (xW cy a i14 r14 q (a 20) (a 12) ++ tl) := hD
          have hEi : mEi [4, 5, 7] _ i14 := Ei_tr hEi hE1 (by decide)
          have hEr : mEr [17, 18] _ r14 := Er_tr hEr hE2 (by decide)
          obtain ⟨rfl, hF9⟩ := hr_13
          have hF9 : (i14 5).toInt = -1000 * 1 - (i 4).toInt := hF9
          have hF4 : i14 4 = (i 4) := hE1 4 (by decide)
          subst hQ
          have hpo9 : ((0 : Int32) = 0 ∨ (0 : Int32) = 1) ∧ ((0 ≤ (i14 4).toInt ∧ (i14 4).toInt ≤ (i 3).toInt) ∧ ((0 : Int32).toInt ≠ 0 → (i 4).toInt < (i14 4).toInt ∧ i14 5 = i 5)) ∧ qX (qTX (i 3) (r 11)) 0 1 p0 qTt qTt True i r i14 r14 (0 : Int32) := ⟨Or.inl rfl, ⟨⟨by rw [hF4]; omega, by rw [hF4]; omega⟩, fun h9 => absurd rfl h9⟩, qX_fail (p9 := (i 4).toInt.toNat) (k9 := 1) (kz := 1) (fun m n b rc hf w c => qm_nof (by omega) (by omega) (by rw [← hqr_1, ← hfc]; omega)) (by omega)⟩
          exact W.zret hx hb hr rfl (fun t ht hW => ⟨⟨_, (i14, r14), rfl, ⟨hRi, hRr, hEi, hEr, hpo9⟩, by rw [ht]; exact hP, va_K.moved hW.alike hK, hD⟩, hS.F ht⟩) hS.2.2 dX6_factor_102
      · have c_4 : r_1.toInt = (-1) := b_nne c_4
        refine lv_iconst (v := (-1)) hx hb dX6_factor_81 (by decide) ?_
        refine lv_goto (tgt := 92) hx hb dX6_factor_82 (by decide) ?_
        refine lv_istore_n (lv' := [(3, .int (-1)), (2, .int r_1), (0, .ref (a 10)), (1, .int p0)]) hx hb dX6_factor_92 rfl hl (by decide) rfl (fun ls hl => ?_)
        refine lv_iload_n hx hb dX6_factor_93 rfl (lv_at hl 0 rfl) ?_
        refine lv_if_ge (tgt := 103) hx hb dX6_factor_94 (by decide) (fun c_15 => absurd c_15 (by decide)) (fun c_15 => ?_)
        refine lv_aload_n hx hb dX6_factor_97 rfl (lv_at hl 2 rfl) ?_
        refine lv_iconst (v := 1) hx hb dX6_factor_98 (by decide) ?_
        have hF_16 := rF hD hS hA
        refine va_calli (va_runV (As := [.int 1]) (rest := []) ⟨hx, hb, hml, hown, hT⟩ (c_X6_refuse9 l D cy a i r q tl 1 _ hRi hRr (by decide) (show 0 ≤ (i 4).toInt ∧ (i 4).toInt ≤ 300 by omega)) (cwV 1 hT (gV t_657 t_658 t_659 t_660 t_653) rfl rfl rfl (by decide +kernel) ⟨Nat.le_trans (m := 5) (Nat.le_of_ble_eq_true rfl) hF9.1, Nat.le_trans (m := 115) (Nat.le_of_ble_eq_true rfl) hF9.2⟩) (rQ_v hP hK hD (va_recv hK hP (ci := 6) (q0 := 10) rfl rfl)) rfl rfl hl.1 rfl (lv_room (Nat.le_of_ble_eq_true rfl)) dX6_factor_99 ⟨Nat.le_of_ble_eq_true rfl, Nat.le_of_ble_eq_true rfl⟩) hS (fun q _ h => hF_16 q h) hF_16 (fun r_17 u_18 t H1 locs ht hvm hr_17 hB hz1 hk1 hS => ?_)
        obtain ⟨i18, r18⟩ := u_18
        obtain ⟨hP, hK1, hD1⟩ := hB
        rw [ht] at hP
        have hD := hD1.weaken (fun k q _ h => hF_16 q.1 h)
        obtain ⟨hRi, hRr, hE1, hE2, hr_17⟩ := hr_17
        have hRi : yRi i18 := hRi
        have hE1 : mEi [5] i i18 := hE1
        have hRr : yRr r18 := hRr
        have hE2 : mEr [] r r18 := hE2
        have hP : va_P D vwCl (xW cy a i18 r18 q (a 20) (a 12) ++ tl) H1 := hP
        have hD : va_D A (xW cy a i18 r18 q (a 20) (a 12) ++ tl) := hD
        have hEi : mEi [4, 5, 7] _ i18 := Ei_tr hEi hE1 (by decide)
        have hEr : mEr [17, 18] _ r18 := Er_tr hEr hE2 (by decide)
        obtain ⟨rfl, hF9⟩ := hr_17
        have hF9 : (i18 5).toInt = -1000 * 1 - (i 4).toInt := hF9
        have hF4 : i18 4 = (i 4) := hE1 4 (by decide)
        subst hQ
        have hpo9 : ((0 : Int32) = 0 ∨ (0 : Int32) = 1) ∧ ((0 ≤ (i18 4).toInt ∧ (i18 4).toInt ≤ (i 3).toInt) ∧ ((0 : Int32).toInt ≠ 0 → (i 4).toInt < (i18 4).toInt ∧ i18 5 = i 5)) ∧ qX (qTX (i 3) (r 11)) 0 1 p0 qTt qTt True i r i18 r18 (0 : Int32) := ⟨Or.inl rfl, ⟨⟨by rw [hF4]; omega, by rw [hF4]; omega⟩, fun h9 => absurd rfl h9⟩, qX_fail (p9 := (i 4).toInt.toNat) (k9 := 1) (kz := 1) (fun m n b rc hf w c => qm_nof (by omega) (by omega) (by rw [show qTX (i 3) (r 11) (i 4).toInt.toNat = -1 by omega]; decide)) (by omega)⟩
        exact W.zret hx hb hr rfl (fun t ht hW => ⟨⟨_, (i18, r18), rfl, ⟨hRi, hRr, hEi, hEr, hpo9⟩, by rw [ht]; exact hP, va_K.moved hW.alike hK, hD⟩, hS.F ht⟩) hS.2.2 dX6_factor_102
    · have c_3 : 48 ≤ r_1.toInt := b_nlt c_3
      refine lv_iload_n hx hb dX6_factor_65 rfl (lv_at hl 0 rfl) ?_
      refine lv_bipush (v := 57) hx hb dX6_factor_66 (by decide) ?_
      refine lv_icmp_gt (tgt := 76) hx hb dX6_factor_68 (by decide) (fun c_19 => ?_) (fun c_19 => ?_)
      · have c_19 : 57 < r_1.toInt := b_lt c_19
        refine lv_iload_n hx hb dX6_factor_76 rfl (lv_at hl 0 rfl) ?_
        refine lv_iconst (v := (-1)) hx hb dX6_factor_77 (by decide) ?_
        refine lv_icmp_ne (tgt := 85) hx hb dX6_factor_78 (by decide) (fun c_20 => ?_) (fun c_20 => by have c_20 : r_1.toInt = (-1) := b_nne c_20; omega)
        have c_20 : r_1.toInt ≠ (-1) := b_ne c_20
        refine va_ldcS hx hb hown hsk.1 dX6_factor_85 ?_
        refine lv_iload_n hx hb dX6_factor_87 rfl (lv_at hl 0 rfl) ?_
        obtain ⟨v_21, ev_21⟩ : ∃ y : Int32, (r_1.toUInt32 % 65536).toInt32 = y := ⟨_, rfl⟩
        refine lv_i2c (v := v_21) hx hb dX6_factor_88 ev_21 ?_
        have hcc : v_21 = r_1 := by rw [← ev_21]; exact i2c_id (by omega) (by omega)
        have hpl := qTX_lt (e := i 3) (t := r 11) (p := (i 4).toInt.toNat) (by omega)
        refine vp_callSi (W.runV (As := [.int v_21]) (rest := []) ⟨hx, hb, hml, hown, hT⟩ (c_J0_indexOf19 l kq vq v_21) (cwV 1 hT (gV t_666 t_667 t_668 t_669 t_615) rfl rfl rfl (by decide +kernel) ⟨Nat.le_trans (m := 5) (Nat.le_of_ble_eq_true rfl) hF9.1, Nat.le_trans (m := 115) (Nat.le_of_ble_eq_true rfl) hF9.2⟩) (sJ_v hsk.2 hS) rfl rfl hl.1 rfl (lv_room (Nat.le_of_ble_eq_true rfl)) dX6_factor_89 ⟨Nat.le_of_ble_eq_true rfl, Nat.le_of_ble_eq_true rfl⟩) (fun r_22 hr_22 => ?_)
        have hjr_22 : 0 ≤ v_21.toInt ∧ v_21.toInt ≤ 255 → jIx v_21 r_22 := hr_22.1
        have hr_22 : -1 ≤ r_22.toInt ∧ r_22.toInt ≤ 9 := hr_22.2
        have hfc : r_22.toInt = qFct r_1.toInt := by have h9 := hjr_22; rw [hcc] at h9; exact jIx_q (h9 (by omega)) (by omega) (by omega)
        clear hjr_22
        refine lv_istore_n (lv' := [(3, .int r_22), (2, .int r_1), (0, .ref (a 10)), (1, .int p0)]) hx hb dX6_factor_92 rfl hl (by decide) rfl (fun ls hl => ?_)
        refine lv_iload_n hx hb dX6_factor_93 rfl (lv_at hl 0 rfl) ?_
        refine lv_if_ge (tgt := 103) hx hb dX6_factor_94 (by decide) (fun c_23 => ?_) (fun c_23 => ?_)
        · have c_23 : 0 ≤ r_22.toInt := b_le c_23
          refine lv_aload_n hx hb dX6_factor_103 rfl (lv_at hl 2 rfl) ?_
          refine lv_dup hx hb dX6_factor_104 rfl ?_
          refine va_get (D := D) (ci := 6) (v := .int (i 4)) (C := RX6) (T := TX6) (N := 5) hx hb hT iX6 hown hK hP 10 rfl rfl 3 (by decide) (hT _ t_648) (fun _ h9 => h9) rfl dX6_factor_105 ?_
          refine lv_iconst (v := 1) hx hb dX6_factor_108 (by decide) ?_
          refine lv_iadd hx hb dX6_factor_109 ?_
          refine lv_topi (fun v_24 ev_24 => ?_)
          have hv_24 : v_24.toInt = (i 4).toInt + 1 := by rw [ev_24]; have := b_rg (i 4); exact i_add (a := (i 4).toInt) (b := 1) rfl rfl (by omega) (by omega)
          refine va_put (D := D) (ci := 6) (v := .int v_24) (ty := .int) (C := RX6) (T := TX6) (N := 5) hx hb hT iX6 tyX6 tyX6_ok nmX6 hown hK hP hD hS 10 rfl rfl 3 (by decide) (hT _ t_648) (fun _ h9 => h9) rfl (by decide +kernel) rfl rfl (Nat.le_of_ble_eq_true rfl) dX6_factor_110 (fun H locs hP hD hS => ?_)
          rw [zP4] at hP hD
          have hRi := Yi_upd hRi 4 v_24 (b_rg _)
          have hEi := Ei_upd hEi 4 v_24 (by decide)
          refine lv_aload_n hx hb dX6_factor_113 rfl (lv_at hl 2 rfl) ?_
          refine va_get (D := D) (ci := 6) (v := .ref (a 12)) (C := RX6) (T := TX6) (N := 5) hx hb hT iX6 hown hK hP 10 rfl rfl 0 (by decide) (hT _ t_661) (fun _ h9 => h9) rfl dX6_factor_114 ?_
          refine lv_bipush (v := 107) hx hb dX6_factor_117 (by decide) ?_
          refine lv_iload_n hx hb dX6_factor_119 rfl (lv_at hl 0 rfl) ?_
          have hF_25 := rF hD hS hA
          refine va_calli (va_runV (As := [.int 107, .int r_22]) (rest := []) ⟨hx, hb, hml, hown, hT⟩ (c_X5_add9 l D cy a (upd i 4 v_24) r q tl 107 r_22 _ hRi hRr) (cwV 2 hT (gV t_662 t_663 t_664 t_665 t_367) rfl rfl rfl (by decide +kernel) ⟨Nat.le_trans (m := 5) (Nat.le_of_ble_eq_true rfl) hF9.1, Nat.le_trans (m := 115) (Nat.le_of_ble_eq_true rfl) hF9.2⟩) (rQ_v hP hK hD (va_recv hK hP (ci := 5) (q0 := 12) rfl rfl)) rfl rfl hl.1 rfl (lv_room (Nat.le_of_ble_eq_true rfl)) dX6_factor_120 ⟨Nat.le_of_ble_eq_true rfl, Nat.le_of_ble_eq_true rfl⟩) hS (fun q _ h => hF_25 q h) hF_25 (fun r_26 u_27 t H1 locs ht hvm hr_26 hB hz1 hk1 hS => ?_)
          obtain ⟨i27, r27⟩ := u_27
          obtain ⟨hP, hK1, hD1⟩ := hB
          rw [ht] at hP
          have hD := hD1.weaken (fun k q _ h => hF_25 q.1 h)
          obtain ⟨hRi, hRr, hE1, hE2, hr_26⟩ := hr_26
          have hRi : yRi i27 := hRi
          have hE1 : mEi [7] (upd i 4 v_24) i27 := hE1
          have hRr : yRr r27 := hRr
          have hE2 : mEr [17, 18] r r27 := hE2
          have hP : va_P D vwCl (xW cy a i27 r27 q (a 20) (a 12) ++ tl) H1 := hP
          have hD : va_D A (xW cy a i27 r27 q (a 20) (a 12) ++ tl) := hD
          have hEi : mEi [4, 5, 7] _ i27 := Ei_tr hEi hE1 (by decide)
          have hEr : mEr [17, 18] _ r27 := Er_tr hEr hE2 (by decide)
          obtain ⟨hZr_26, hr_26⟩ := hr_26
          have hZr_26 : -1 ≤ r_26.toInt ∧ r_26.toInt ≤ 200 := hZr_26
          have hAr_26 : qAdd (upd i 4 v_24) r i27 r27 (107 : Int32) r_22 := fun h9 => (hr_26 h9).2
          have hJr_26 : ((upd i 4 v_24) 7).toInt < 200 → r_26.toInt = ((upd i 4 v_24) 7).toInt := fun h9 => congrArg Int32.toInt (hr_26 h9).1
          have hBr_26 : i27 4 = v_24 := hE1 4 (by decide)
          have hBtr_26 : (i27 4).toInt = v_24.toInt := congrArg Int32.toInt hBr_26
          clear hr_26
          have hr_26 : True := trivial
          have h5r_26 : i27 5 = i 5 := (hE1 5 (by decide)).trans rfl
          refine lv_pop hx hb dX6_factor_123 rfl ?_
          refine lv_iconst (v := 1) hx hb dX6_factor_124 (by decide) ?_
          subst hQ
          have hfn : ((r_22.toNatClampNeg : Nat) : Int) = r_22.toInt := by show ((r_22.toInt.toNat : Nat) : Int) = _; omega
          have hR9 : ∀ (m n b rc : Nat) (hf : qE) (w c : Nat → Int32), qR (qTX (i 3) (r 11)) (qc 0 (i 4).toInt.toNat p0 m n b rc hf w c) (qc 1 ((i 4).toInt.toNat + 1) p0 m (n + 1) b rc hf w (upd c n (nI (1048576 * 1 + r_22.toNatClampNeg)))) := fun m n b rc hf w c => by have h9 := qm_let (tx := (qTX (i 3) (r 11))) (p := (i 4).toInt.toNat) (o := p0) (m := m) (n := n) (b := b) (rc := rc) (hf := hf) (w := w) (c := c) (by omega) (by omega) (by rw [← hqr_1, ← hfc]; omega); rw [← hqr_1, ← hfc] at h9; exact h9
          have hAd : qAdd i r i27 r27 107 r_22 := hAr_26
          have hpo9 : ((1 : Int32) = 0 ∨ (1 : Int32) = 1) ∧ ((0 ≤ (i27 4).toInt ∧ (i27 4).toInt ≤ (i 3).toInt) ∧ ((1 : Int32).toInt ≠ 0 → (i 4).toInt < (i27 4).toInt ∧ i27 5 = i 5)) ∧ qX (qTX (i 3) (r 11)) 0 1 p0 qTt qTt True i r i27 r27 (1 : Int32) := ⟨Or.inr rfl, ⟨⟨by rw [hBr_26]; omega, by rw [hBr_26]; omega⟩, (fun _ => ⟨by rw [hBr_26]; omega, h5r_26⟩)⟩, qX_note hR9 h4.1 (by omega) (Nat.le_refl 1) (by rw [hBr_26]; omega) hAd (by decide) (by have h9 : r_22.toNatClampNeg = r_22.toInt.toNat := rfl; omega) rfl hfn.symm⟩
          exact W.zret hx hb hr rfl (fun t ht hW => ⟨⟨_, (i27, r27), rfl, ⟨hRi, hRr, hEi, hEr, hpo9⟩, by rw [ht]; exact hP, va_K.moved hW.alike hK, hD⟩, hS.F ht⟩) hS.2.2 dX6_factor_125
        · have c_23 : r_22.toInt < 0 := b_nle c_23
          refine lv_aload_n hx hb dX6_factor_97 rfl (lv_at hl 2 rfl) ?_
          refine lv_iconst (v := 1) hx hb dX6_factor_98 (by decide) ?_
          have hF_28 := rF hD hS hA
          refine va_calli (va_runV (As := [.int 1]) (rest := []) ⟨hx, hb, hml, hown, hT⟩ (c_X6_refuse9 l D cy a i r q tl 1 _ hRi hRr (by decide) (show 0 ≤ (i 4).toInt ∧ (i 4).toInt ≤ 300 by omega)) (cwV 1 hT (gV t_657 t_658 t_659 t_660 t_653) rfl rfl rfl (by decide +kernel) ⟨Nat.le_trans (m := 5) (Nat.le_of_ble_eq_true rfl) hF9.1, Nat.le_trans (m := 115) (Nat.le_of_ble_eq_true rfl) hF9.2⟩) (rQ_v hP hK hD (va_recv hK hP (ci := 6) (q0 := 10) rfl rfl)) rfl rfl hl.1 rfl (lv_room (Nat.le_of_ble_eq_true rfl)) dX6_factor_99 ⟨Nat.le_of_ble_eq_true rfl, Nat.le_of_ble_eq_true rfl⟩) hS (fun q _ h => hF_28 q h) hF_28 (fun r_29 u_30 t H1 locs ht hvm hr_29 hB hz1 hk1 hS => ?_)
          obtain ⟨i30, r30⟩ := u_30
          obtain ⟨hP, hK1, hD1⟩ := hB
          rw [ht] at hP
          have hD := hD1.weaken (fun k q _ h => hF_28 q.1 h)
          obtain ⟨hRi, hRr, hE1, hE2, hr_29⟩ := hr_29
          have hRi : yRi i30 := hRi
          have hE1 : mEi [5] i i30 := hE1
          have hRr : yRr r30 := hRr
          have hE2 : mEr [] r r30 := hE2
          have hP : va_P D vwCl (xW cy a i30 r30 q (a 20) (a 12) ++ tl) H1 := hP
          have hD : va_D A (xW cy a i30 r30 q (a 20) (a 12) ++ tl) := hD
          have hEi : mEi [4, 5, 7] _ i30 := Ei_tr hEi hE1 (by decide)
          have hEr : mEr [17, 18] _ r30 := Er_tr hEr hE2 (by decide)
          obtain ⟨rfl, hF9⟩ := hr_29
          have hF9 : (i30 5).toInt = -1000 * 1 - (i 4).toInt := hF9
          have hF4 : i30 4 = (i 4) := hE1 4 (by decide)
          subst hQ
          have hpo9 : ((0 : Int32) = 0 ∨ (0 : Int32) = 1) ∧ ((0 ≤ (i30 4).toInt ∧ (i30 4).toInt ≤ (i 3).toInt) ∧ ((0 : Int32).toInt ≠ 0 → (i 4).toInt < (i30 4).toInt ∧ i30 5 = i 5)) ∧ qX (qTX (i 3) (r 11)) 0 1 p0 qTt qTt True i r i30 r30 (0 : Int32) := ⟨Or.inl rfl, ⟨⟨by rw [hF4]; omega, by rw [hF4]; omega⟩, fun h9 => absurd rfl h9⟩, qX_fail (p9 := (i 4).toInt.toNat) (k9 := 1) (kz := 1) (fun m n b rc hf w c => qm_nof (by omega) (by omega) (by rw [← hqr_1, ← hfc]; omega)) (by omega)⟩
          exact W.zret hx hb hr rfl (fun t ht hW => ⟨⟨_, (i30, r30), rfl, ⟨hRi, hRr, hEi, hEr, hpo9⟩, by rw [ht]; exact hP, va_K.moved hW.alike hK, hD⟩, hS.F ht⟩) hS.2.2 dX6_factor_102
      · have c_19 : r_1.toInt ≤ 57 := b_nlt c_19
        refine lv_aload_n hx hb dX6_factor_71 rfl (lv_at hl 1 rfl) ?_
        have hF_31 := rF hD hS hA
        refine va_calli (va_runV (As := []) (rest := []) ⟨hx, hb, hml, hown, hT⟩ (c_X6_number9 l D cy a i r q tl _ hRi hRr h4 (by omega)) (cwV 0 hT (gV t_670 t_671 t_672 t_673 t_653) rfl rfl rfl (by decide +kernel) ⟨Nat.le_trans (m := 5) (Nat.le_of_ble_eq_true rfl) hF9.1, Nat.le_trans (m := 115) (Nat.le_of_ble_eq_true rfl) hF9.2⟩) (rQ_v hP hK hD (va_recv hK hP (ci := 6) (q0 := 10) rfl rfl)) rfl rfl hl.1 rfl (lv_room (Nat.le_of_ble_eq_true rfl)) dX6_factor_72 ⟨Nat.le_of_ble_eq_true rfl, Nat.le_of_ble_eq_true rfl⟩) hS (fun q _ h => hF_31 q h) hF_31 (fun r_32 u_33 t H1 locs ht hvm hr_32 hB hz1 hk1 hS => ?_)
        obtain ⟨i33, r33⟩ := u_33
        obtain ⟨hP, hK1, hD1⟩ := hB
        rw [ht] at hP
        have hD := hD1.weaken (fun k q _ h => hF_31 q.1 h)
        obtain ⟨hRi, hRr, hE1, hE2, hr_32⟩ := hr_32
        have hRi : yRi i33 := hRi
        have hE1 : mEi [4, 5, 7] i i33 := hE1
        have hRr : yRr r33 := hRr
        have hE2 : mEr [17, 18] r r33 := hE2
        have hP : va_P D vwCl (xW cy a i33 r33 q (a 20) (a 12) ++ tl) H1 := hP
        have hD : va_D A (xW cy a i33 r33 q (a 20) (a 12) ++ tl) := hD
        have hEi : mEi [4, 5, 7] _ i33 := Ei_tr hEi hE1 (by decide)
        have hEr : mEr [17, 18] _ r33 := Er_tr hEr hE2 (by decide)
        have h3r_32 : i 3 = i 3 := (hE1 3 (by decide)).symm.trans (hEi 3 (by decide))
        have h11r_32 : r 11 = r 11 := (hE2 11 (by decide)).symm.trans (hEr 11 (by decide))
        dsimp only at hr_32
        rcases hr_32 with ⟨rfl, hn1, hn2, hn3, hn4, hn6, u9, hu1, hu2, hu3, hn5⟩ | ⟨rfl, hn1, hn2, hn3, hn4⟩
        · have h5r_32 : i33 5 = i 5 := hn6.trans rfl
          subst hQ
          have hvn : (qVal (qTX (i 3) (r 11)) (i 4).toInt.toNat (qCnt (qTX (i 3) (r 11)) (i 4).toInt.toNat 6)).toNat = u9.toInt.toNat := by rw [hu1]
          have hR9 : ∀ (m n b rc : Nat) (hf : qE) (w c : Nat → Int32), qR (qTX (i 3) (r 11)) (qc 0 (i 4).toInt.toNat p0 m n b rc hf w c) (qc 1 ((i 4).toInt.toNat + qCnt (qTX (i 3) (r 11)) (i 4).toInt.toNat 6) p0 m (n + 1) b rc hf w (upd c n (nI (1048576 * 0 + u9.toInt.toNat)))) := fun m n b rc hf w c => by rw [show 1048576 * 0 + u9.toInt.toNat = u9.toInt.toNat by omega, ← hvn]; exact qm_num (by omega) hn1
          have hpo9 : ((1 : Int32) = 0 ∨ (1 : Int32) = 1) ∧ ((0 ≤ (i33 4).toInt ∧ (i33 4).toInt ≤ (i 3).toInt) ∧ ((1 : Int32).toInt ≠ 0 → (i 4).toInt < (i33 4).toInt ∧ i33 5 = i 5)) ∧ qX (qTX (i 3) (r 11)) 0 1 p0 qTt qTt True i r i33 r33 (1 : Int32) := ⟨Or.inr rfl, ⟨⟨by omega, hn4⟩, (fun _ => ⟨by omega, h5r_32⟩)⟩, qX_note hR9 h4.1 (by have h9 := qTX_lt (e := i 3) (t := r 11) (p := (i 4).toInt.toNat) (by omega); omega) hn2 hn3 hn5 (by decide) (by omega) rfl (by omega)⟩
          exact W.zret hx hb hr rfl (fun t ht hW => ⟨⟨_, (i33, r33), rfl, ⟨hRi, hRr, hEi, hEr, hpo9⟩, by rw [ht]; exact hP, va_K.moved hW.alike hK, hD⟩, hS.F ht⟩) hS.2.2 dX6_factor_75
        · skip
          subst hQ
          have hpo9 : ((0 : Int32) = 0 ∨ (0 : Int32) = 1) ∧ ((0 ≤ (i33 4).toInt ∧ (i33 4).toInt ≤ (i 3).toInt) ∧ ((0 : Int32).toInt ≠ 0 → (i 4).toInt < (i33 4).toInt ∧ i33 5 = i 5)) ∧ qX (qTX (i 3) (r 11)) 0 1 p0 qTt qTt True i r i33 r33 (0 : Int32) := ⟨Or.inl rfl, ⟨⟨by omega, hn4⟩, fun h9 => absurd rfl h9⟩, qX_fail (p9 := (i 4).toInt.toNat + 5) (k9 := 2) (kz := 2) (fun m n b rc hf w c => qm_num6 (by omega) hn1) (by omega)⟩
          exact W.zret hx hb hr rfl (fun t ht hW => ⟨⟨_, (i33, r33), rfl, ⟨hRi, hRr, hEi, hEr, hpo9⟩, by rw [ht]; exact hP, va_K.moved hW.alike hK, hD⟩, hS.F ht⟩) hS.2.2 dX6_factor_75
  · have c_2 : r_1.toInt = 91 := b_nne c_2
    have hlo := qTX_lt (e := i 3) (t := r 11) (p := (i 4).toInt.toNat) (by omega)
    refine lv_iload_n hx hb dX6_factor_11 rfl (lv_at hl 2 rfl) ?_
    refine lv_bipush (v := 6) hx hb dX6_factor_12 (by decide) ?_
    refine lv_icmp_lt (tgt := 23) hx hb dX6_factor_14 (by decide) (fun c_34 => ?_) (fun c_34 => ?_)
    · have c_34 : p0.toInt < 6 := b_lt c_34
      refine lv_aload_n hx hb dX6_factor_23 rfl (lv_at hl 1 rfl) ?_
      refine lv_dup hx hb dX6_factor_24 rfl ?_
      refine va_get (D := D) (ci := 6) (v := .int (i 4)) (C := RX6) (T := TX6) (N := 5) hx hb hT iX6 hown hK hP 10 rfl rfl 3 (by decide) (hT _ t_648) (fun _ h9 => h9) rfl dX6_factor_25 ?_
      refine lv_iconst (v := 1) hx hb dX6_factor_28 (by decide) ?_
      refine lv_iadd hx hb dX6_factor_29 ?_
      refine lv_topi (fun v_35 ev_35 => ?_)
      have hv_35 : v_35.toInt = (i 4).toInt + 1 := by rw [ev_35]; have := b_rg (i 4); exact i_add (a := (i 4).toInt) (b := 1) rfl rfl (by omega) (by omega)
      refine va_put (D := D) (ci := 6) (v := .int v_35) (ty := .int) (C := RX6) (T := TX6) (N := 5) hx hb hT iX6 tyX6 tyX6_ok nmX6 hown hK hP hD hS 10 rfl rfl 3 (by decide) (hT _ t_648) (fun _ h9 => h9) rfl (by decide +kernel) rfl rfl (Nat.le_of_ble_eq_true rfl) dX6_factor_30 (fun H locs hP hD hS => ?_)
      rw [zP4] at hP hD
      have hRi := Yi_upd hRi 4 v_35 (b_rg _)
      have hEi := Ei_upd hEi 4 v_35 (by decide)
      refine lv_aload_n hx hb dX6_factor_33 rfl (lv_at hl 1 rfl) ?_
      refine lv_iload_n hx hb dX6_factor_34 rfl (lv_at hl 2 rfl) ?_
      refine lv_iconst (v := 1) hx hb dX6_factor_35 (by decide) ?_
      refine lv_iadd hx hb dX6_factor_36 ?_
      refine lv_topi (fun v_36 ev_36 => ?_)
      have hv_36 : v_36.toInt = p0.toInt + 1 := by rw [ev_36]; have := b_rg p0; exact i_add (a := p0.toInt) (b := 1) rfl rfl (by omega) (by omega)
      refine lv_iconst (v := 1) hx hb dX6_factor_37 (by decide) ?_
      have hF_37 := rF hD hS hA
      refine va_calli (va_runV (As := [.int v_36, .int 1]) (rest := []) ⟨hx, hb, hml, hown, hT⟩ (hX1 v_36 (by omega) (by omega) (upd i 4 v_35) r _ hRi hRr (show 0 ≤ v_35.toInt ∧ v_35.toInt ≤ ((upd i 4 v_35) 3).toInt from ⟨by omega, by rw [show (upd i 4 v_35) 3 = i 3 from hEi 3 (by decide)]; omega⟩)) (cwV 2 hT (gV t_674 t_675 t_676 t_677 t_653) rfl rfl rfl (by decide +kernel) hR1) (rS_v hsk hS hF_37 hP hK hD (va_recv hK hP (ci := 6) (q0 := 10) rfl rfl)) rfl rfl hl.1 rfl (lv_room (Nat.le_of_ble_eq_true rfl)) dX6_factor_38 ⟨Nat.le_of_ble_eq_true rfl, Nat.le_of_ble_eq_true rfl⟩) hS (fun q _ h => hF_37 q h) hF_37 (fun r_38 u_39 t H1 locs ht hvm hr_38 hB hz1 hk1 hS => ?_)
      obtain ⟨i39, r39⟩ := u_39
      obtain ⟨hP, hK1, hD1⟩ := hB
      rw [ht] at hP
      have hD := hD1.weaken (fun k q _ h => hF_37 q.1 h)
      obtain ⟨hRi, hRr, hE1, hE2, hr_38⟩ := hr_38
      have hRi : yRi i39 := hRi
      have hE1 : mEi [4, 5, 7] (upd i 4 v_35) i39 := hE1
      have hRr : yRr r39 := hRr
      have hE2 : mEr [17, 18] r r39 := hE2
      have hP : va_P D vwCl (xW cy a i39 r39 q (a 20) (a 12) ++ tl) H1 := hP
      have hD : va_D A (xW cy a i39 r39 q (a 20) (a 12) ++ tl) := hD
      have hEi : mEi [4, 5, 7] _ i39 := Ei_tr hEi hE1 (by decide)
      have hEr : mEr [17, 18] _ r39 := Er_tr hEr hE2 (by decide)
      have h3r_38 : (upd i 4 v_35) 3 = i 3 := (hE1 3 (by decide)).symm.trans (hEi 3 (by decide))
      have h11r_38 : r 11 = r 11 := (hE2 11 (by decide)).symm.trans (hEr 11 (by decide))
      obtain ⟨hzr_38, ⟨⟨har_38, hbr_38⟩, hcr_38⟩, hXr_38⟩ := hr_38
      have har_38 : 0 ≤ (i39 4).toInt := har_38
      have hbr_38 : (i39 4).toInt ≤ (i 3).toInt := by rw [← h3r_38]; exact hbr_38
      try dsimp only at hXr_38
      rw [h3r_38, h11r_38] at hXr_38
      rcases hzr_38 with rfl | rfl
      · skip
        refine lv_if_eq (tgt := 57) hx hb dX6_factor_41 (by decide) (fun c_40 => ?_) (fun c_40 => absurd (by decide) c_40)
        refine lv_iconst (v := 0) hx hb dX6_factor_57 (by decide) ?_
        subst hQ
        have ho1 : v_36 = p0 + 1 := o1_9 (by omega) (by omega)
        rw [ho1] at hXr_38
        have hpo9 : ((0 : Int32) = 0 ∨ (0 : Int32) = 1) ∧ ((0 ≤ (i39 4).toInt ∧ (i39 4).toInt ≤ (i 3).toInt) ∧ ((0 : Int32).toInt ≠ 0 → (i 4).toInt < (i39 4).toInt ∧ i39 5 = i 5)) ∧ qX (qTX (i 3) (r 11)) 0 1 p0 qTt qTt True i r i39 r39 (0 : Int32) := ⟨Or.inl rfl, ⟨⟨har_38, hbr_38⟩, fun h9 => absurd rfl h9⟩, qf_brkE (i1 := (upd i 4 v_35)) (r1 := r) (i2 := i39) (r2 := r39) (ne6 (by omega)) (by omega) h4.1 (by show v_35.toInt = _; omega) rfl rfl rfl hXr_38⟩
        exact W.zret hx hb hr rfl (fun t ht hW => ⟨⟨_, (i39, r39), rfl, ⟨hRi, hRr, hEi, hEr, hpo9⟩, by rw [ht]; exact hP, va_K.moved hW.alike hK, hD⟩, hS.F ht⟩) hS.2.2 dX6_factor_58
      · skip
        have h5r_38 : i39 5 = i 5 := (hcr_38 (by decide)).2.trans rfl
        have hcr_38 : v_35.toInt < (i39 4).toInt := (hcr_38 (by decide)).1
        refine lv_if_eq (tgt := 57) hx hb dX6_factor_41 (by decide) (fun c_41 => absurd c_41 (by decide)) (fun c_41 => ?_)
        refine lv_aload_n hx hb dX6_factor_44 rfl (lv_at hl 1 rfl) ?_
        refine lv_bipush (v := 93) hx hb dX6_factor_45 (by decide) ?_
        have hF_42 := rF hD hS hA
        refine va_calli (va_runV (As := [.int 93]) (rest := []) ⟨hx, hb, hml, hown, hT⟩ (c_X6_pass9 l D cy a i39 r39 q tl 93 _ hRi hRr (show 0 ≤ (i39 4).toInt ∧ (i39 4).toInt ≤ 200 by omega)) (cwV 1 hT (gV t_678 t_679 t_680 t_681 t_653) rfl rfl rfl (by decide +kernel) ⟨Nat.le_trans (m := 5) (Nat.le_of_ble_eq_true rfl) hF9.1, Nat.le_trans (m := 115) (Nat.le_of_ble_eq_true rfl) hF9.2⟩) (rQ_v hP hK hD (va_recv hK hP (ci := 6) (q0 := 10) rfl rfl)) rfl rfl hl.1 rfl (lv_room (Nat.le_of_ble_eq_true rfl)) dX6_factor_47 ⟨Nat.le_of_ble_eq_true rfl, Nat.le_of_ble_eq_true rfl⟩) hS (fun q _ h => hF_42 q h) hF_42 (fun r_43 u_44 t H1 locs ht hvm hr_43 hB hz1 hk1 hS => ?_)
        obtain ⟨i44, r44⟩ := u_44
        obtain ⟨hP, hK1, hD1⟩ := hB
        rw [ht] at hP
        have hD := hD1.weaken (fun k q _ h => hF_42 q.1 h)
        obtain ⟨hRi, hRr, hE1, hE2, hr_43⟩ := hr_43
        have hRi : yRi i44 := hRi
        have hE1 : mEi [4, 5] i39 i44 := hE1
        have hRr : yRr r44 := hRr
        have hE2 : mEr [] r39 r44 := hE2
        have hP : va_P D vwCl (xW cy a i44 r44 q (a 20) (a 12) ++ tl) H1 := hP
        have hD : va_D A (xW cy a i44 r44 q (a 20) (a 12) ++ tl) := hD
        have hEi : mEi [4, 5, 7] _ i44 := Ei_tr hEi hE1 (by decide)
        have hEr : mEr [17, 18] _ r44 := Er_tr hEr hE2 (by decide)
        have h3r_43 : i39 3 = i 3 := (hE1 3 (by decide)).symm.trans (hEi 3 (by decide))
        have h11r_43 : r39 11 = r 11 := (hE2 11 (by decide)).symm.trans (hEr 11 (by decide))
        rw [h3r_43, h11r_43] at hr_43
        rcases hr_43 with ⟨rfl, hp1, hp2, hp5⟩ | ⟨rfl, hp1, hp2, hp3⟩
        · have hp1 : qTX (i 3) (r 11) (i39 4).toInt.toNat = 93 := hp1
          have h5r_43 : i44 5 = i 5 := hp5.trans h5r_38
          have hp2 : (i44 4).toInt = (i39 4).toInt + 1 := hp2
          have hpl := qTX_lt (e := i 3) (t := r 11) (p := (i39 4).toInt.toNat) (by omega)
          refine lv_if_eq (tgt := 57) hx hb dX6_factor_50 (by decide) (fun c_45 => absurd c_45 (by decide)) (fun c_45 => ?_)
          refine lv_iconst (v := 1) hx hb dX6_factor_53 (by decide) ?_
          refine lv_goto (tgt := 58) hx hb dX6_factor_54 (by decide) ?_
          subst hQ
          have ho1 : v_36 = p0 + 1 := o1_9 (by omega) (by omega)
          rw [ho1] at hXr_38
          have hpo9 : ((1 : Int32) = 0 ∨ (1 : Int32) = 1) ∧ ((0 ≤ (i44 4).toInt ∧ (i44 4).toInt ≤ (i 3).toInt) ∧ ((1 : Int32).toInt ≠ 0 → (i 4).toInt < (i44 4).toInt ∧ i44 5 = i 5)) ∧ qX (qTX (i 3) (r 11)) 0 1 p0 qTt qTt True i r i44 r44 (1 : Int32) := ⟨Or.inr rfl, ⟨⟨by omega, by omega⟩, (fun _ => ⟨by omega, h5r_43⟩)⟩, qf_brk (i1 := (upd i 4 v_35)) (r1 := r) (i2 := i39) (r2 := r39) (ne6 (by omega)) (by omega) h4.1 (by show v_35.toInt = _; omega) rfl rfl rfl hXr_38 har_38 (Or.inl ⟨rfl, hp1, hp2, hE1 7 (by decide), hE2 17 (by decide), hE2 18 (by decide)⟩)⟩
          exact W.zret hx hb hr rfl (fun t ht hW => ⟨⟨_, (i44, r44), rfl, ⟨hRi, hRr, hEi, hEr, hpo9⟩, by rw [ht]; exact hP, va_K.moved hW.alike hK, hD⟩, hS.F ht⟩) hS.2.2 dX6_factor_58
        · have hp1 : qTX (i 3) (r 11) (i39 4).toInt.toNat ≠ 93 := hp1
          have hp2 : (i44 5).toInt = -1000 - (i39 4).toInt := hp2
          have hp3 : i44 4 = (i39 4) := hp3
          refine lv_if_eq (tgt := 57) hx hb dX6_factor_50 (by decide) (fun c_46 => ?_) (fun c_46 => absurd (by decide) c_46)
          refine lv_iconst (v := 0) hx hb dX6_factor_57 (by decide) ?_
          subst hQ
          have ho1 : v_36 = p0 + 1 := o1_9 (by omega) (by omega)
          rw [ho1] at hXr_38
          have hpo9 : ((0 : Int32) = 0 ∨ (0 : Int32) = 1) ∧ ((0 ≤ (i44 4).toInt ∧ (i44 4).toInt ≤ (i 3).toInt) ∧ ((0 : Int32).toInt ≠ 0 → (i 4).toInt < (i44 4).toInt ∧ i44 5 = i 5)) ∧ qX (qTX (i 3) (r 11)) 0 1 p0 qTt qTt True i r i44 r44 (0 : Int32) := ⟨Or.inl rfl, ⟨⟨by rw [hp3]; exact har_38, by rw [hp3]; exact hbr_38⟩, fun h9 => absurd rfl h9⟩, qf_brk (i1 := (upd i 4 v_35)) (r1 := r) (i2 := i39) (r2 := r39) (ne6 (by omega)) (by omega) h4.1 (by show v_35.toInt = _; omega) rfl rfl rfl hXr_38 har_38 (Or.inr ⟨rfl, hp1, by omega⟩)⟩
          exact W.zret hx hb hr rfl (fun t ht hW => ⟨⟨_, (i44, r44), rfl, ⟨hRi, hRr, hEi, hEr, hpo9⟩, by rw [ht]; exact hP, va_K.moved hW.alike hK, hD⟩, hS.F ht⟩) hS.2.2 dX6_factor_58
    · have c_34 : 6 ≤ p0.toInt := b_nlt c_34
      refine lv_aload_n hx hb dX6_factor_17 rfl (lv_at hl 1 rfl) ?_
      refine lv_iconst (v := 5) hx hb dX6_factor_18 (by decide) ?_
      have hF_47 := rF hD hS hA
      refine va_calli (va_runV (As := [.int 5]) (rest := []) ⟨hx, hb, hml, hown, hT⟩ (c_X6_refuse9 l D cy a i r q tl 5 _ hRi hRr (by decide) (show 0 ≤ (i 4).toInt ∧ (i 4).toInt ≤ 300 by omega)) (cwV 1 hT (gV t_657 t_658 t_659 t_660 t_653) rfl rfl rfl (by decide +kernel) ⟨Nat.le_trans (m := 5) (Nat.le_of_ble_eq_true rfl) hF9.1, Nat.le_trans (m := 115) (Nat.le_of_ble_eq_true rfl) hF9.2⟩) (rQ_v hP hK hD (va_recv hK hP (ci := 6) (q0 := 10) rfl rfl)) rfl rfl hl.1 rfl (lv_room (Nat.le_of_ble_eq_true rfl)) dX6_factor_19 ⟨Nat.le_of_ble_eq_true rfl, Nat.le_of_ble_eq_true rfl⟩) hS (fun q _ h => hF_47 q h) hF_47 (fun r_48 u_49 t H1 locs ht hvm hr_48 hB hz1 hk1 hS => ?_)
      obtain ⟨i49, r49⟩ := u_49
      obtain ⟨hP, hK1, hD1⟩ := hB
      rw [ht] at hP
      have hD := hD1.weaken (fun k q _ h => hF_47 q.1 h)
      obtain ⟨hRi, hRr, hE1, hE2, hr_48⟩ := hr_48
      have hRi : yRi i49 := hRi
      have hE1 : mEi [5] i i49 := hE1
      have hRr : yRr r49 := hRr
      have hE2 : mEr [] r r49 := hE2
      have hP : va_P D vwCl (xW cy a i49 r49 q (a 20) (a 12) ++ tl) H1 := hP
      have hD : va_D A (xW cy a i49 r49 q (a 20) (a 12) ++ tl) := hD
      have hEi : mEi [4, 5, 7] _ i49 := Ei_tr hEi hE1 (by decide)
      have hEr : mEr [17, 18] _ r49 := Er_tr hEr hE2 (by decide)
      obtain ⟨rfl, hF9⟩ := hr_48
      have hF9 : (i49 5).toInt = -1000 * 5 - (i 4).toInt := hF9
      have hF4 : i49 4 = (i 4) := hE1 4 (by decide)
      subst hQ
      have hpo9 : ((0 : Int32) = 0 ∨ (0 : Int32) = 1) ∧ ((0 ≤ (i49 4).toInt ∧ (i49 4).toInt ≤ (i 3).toInt) ∧ ((0 : Int32).toInt ≠ 0 → (i 4).toInt < (i49 4).toInt ∧ i49 5 = i 5)) ∧ qX (qTX (i 3) (r 11)) 0 1 p0 qTt qTt True i r i49 r49 (0 : Int32) := ⟨Or.inl rfl, ⟨⟨by rw [hF4]; omega, by rw [hF4]; omega⟩, fun h9 => absurd rfl h9⟩, qX_fail (p9 := (i 4).toInt.toNat) (k9 := 5) (kz := 5) (fun m n b rc hf w c => qm_brk6 (by omega) (Int32.toInt_inj.mp (show p0.toInt = 6 by omega))) (by omega)⟩
      exact W.zret hx hb hr rfl (fun t ht hW => ⟨⟨_, (i49, r49), rfl, ⟨hRi, hRr, hEi, hEr, hpo9⟩, by rw [ht]; exact hP, va_K.moved hW.alike hK, hD⟩, hS.F ht⟩) hS.2.2 dX6_factor_22
theorem qSum_nt {x : Int} (h1 : x ≠ 42) (h2 : x ≠ 47) (h3 : x ≠ 37) : ¬ 4 ≤ qSum x := by
  unfold qSum
  rw [if_neg h1, if_neg h2, if_neg h3]
  by_cases a : x = 43
  · rw [if_pos a]; decide
  · rw [if_neg a]
    by_cases b : x = 45
    · rw [if_pos b]; decide
    · rw [if_neg b]; decide
theorem qSum_np {x : Int} (h1 : x ≠ 43) (h2 : x ≠ 45) : ¬ (2 ≤ qSum x ∧ qSum x ≤ 3) := by
  unfold qSum
  rw [if_neg h1, if_neg h2]
  by_cases a : x = 42
  · rw [if_pos a]; decide
  · rw [if_neg a]
    by_cases b : x = 47
    · rw [if_pos b]; decide
    · rw [if_neg b]
      by_cases c : x = 37
      · rw [if_pos c]; decide
      · rw [if_neg c]; decide
theorem qCmp_n {x : Int} (h1 : x ≠ 60) (h2 : x ≠ 62) (h3 : x ≠ 61) : ¬ 7 ≤ qCmp x := by
  unfold qCmp; rw [if_neg h1, if_neg h2, if_neg h3]; decide
set_option maxHeartbeats 4000000 in
set_option maxRecDepth 100000 in
theorem c_X6_expression_kq0 (l : Launch) (D : va_G) (cy : Nat → ClassId) (a : Nat → Nat) (i : Nat → Int32) (r : Nat → Nat → Int32) (q : Nat → Option Nat) (tl : va_W) (kq vq : Nat) (p0 : Int32) (sz : Nat) (hRi : yRi i) (hRr : yRr r) (h4 : 0 ≤ (i 4).toInt ∧ (i 4).toInt ≤ (i 3).toInt) (F9 L9 F1 L1 : Nat) (hF9 : 2 ≤ F9 ∧ 46 ≤ L9) (q0 : 0 ≤ p0.toInt ∧ p0.toInt ≤ 6) (hX1 : ∀ k9 : Int32, k9 = p0 → ∀ (i : Nat → Int32) (r : Nat → Nat → Int32) (sz : Nat) (hRi : yRi i) (hRr : yRr r) (h4 : 0 ≤ (i 4).toInt ∧ (i 4).toInt ≤ (i 3).toInt), Met l yX6_factor (Cond.code yX6_factor cX6_factor 4 (some .boolean) :: gT) { frames := F1, cells := 0, slots := 0, locals := L1 } (va_Pc [.ref (a 10), .int k9] (rS D cy (xW cy a i r q (a 20) (a 12) ++ tl) sz kq vq)) (va_Qi (fun (z : Int32) (u : (Nat → Int32) × (Nat → Nat → Int32)) => yRi u.1 ∧ yRr u.2 ∧ mEi [4, 5, 7] i u.1 ∧ mEr [17, 18] r u.2 ∧ ((z = 0 ∨ z = 1) ∧ ((0 ≤ (u.1 4).toInt ∧ (u.1 4).toInt ≤ (i 3).toInt) ∧ (z.toInt ≠ 0 → (i 4).toInt < (u.1 4).toInt ∧ u.1 5 = i 5)) ∧ qX (qTX (i 3) (r 11)) 0 1 k9 qTt qTt True i r u.1 u.2 z)) (fun (u : (Nat → Int32) × (Nat → Nat → Int32)) t => va_P D vwCl (xW cy a u.1 u.2 q (a 20) (a 12) ++ tl) t.heap ∧ va_K D vwCl (vT cy) t ∧ va_D (va_A (xW cy a i r q (a 20) (a 12) ++ tl) sz) (xW cy a u.1 u.2 q (a 20) (a 12) ++ tl)) (va_A (xW cy a i r q (a 20) (a 12) ++ tl) sz)) 0 0 (va_A (xW cy a i r q (a 20) (a 12) ++ tl) sz)) (hR1 : F1 + 1 ≤ F9 ∧ 8 + (4 + 11) + L1 ≤ L9) : Met l yX6_expression (Cond.code yX6_expression cX6_expression 7 (some .boolean) :: gT) { frames := F9, cells := 0, slots := 0, locals := L9 } (va_Pc [.ref (a 10), .int p0, .int 0] (rS D cy (xW cy a i r q (a 20) (a 12) ++ tl) sz kq vq)) (va_Qi (fun (z : Int32) (u : (Nat → Int32) × (Nat → Nat → Int32)) => yRi u.1 ∧ yRr u.2 ∧ mEi [4, 5, 7] i u.1 ∧ mEr [17, 18] r u.2 ∧ ((z = 0 ∨ z = 1) ∧ ((0 ≤ (u.1 4).toInt ∧ (u.1 4).toInt ≤ (i 3).toInt) ∧ (z.toInt ≠ 0 → (i 4).toInt < (u.1 4).toInt ∧ u.1 5 = i 5)) ∧ qX (qTX (i 3) (r 11)) 0 3 p0 qK3 qE3 True i r u.1 u.2 z)) (fun (u : (Nat → Int32) × (Nat → Nat → Int32)) t => va_P D vwCl (xW cy a u.1 u.2 q (a 20) (a 12) ++ tl) t.heap ∧ va_K D vwCl (vT cy) t ∧ va_D (va_A (xW cy a i r q (a 20) (a 12) ++ tl) sz) (xW cy a u.1 u.2 q (a 20) (a 12) ++ tl)) (va_A (xW cy a i r q (a 20) (a 12) ++ tl) sz)) 0 0 (va_A (xW cy a i r q (a 20) (a 12) ++ tl) sz) := by
  refine Met.ofQ (cc := cX6_expression) (maxL := 7) (ret := (some .boolean)) (by decide) rfl ?_
  intro p e s m args below meth c s₁ B hml hv Q hQ
  obtain ⟨rfl, hsk, hsz, hP, hK, hD0⟩ := hv
  have hx := B.exec
  have hb := B.bytes
  have hr := B.returns
  have hlocks := B.notSynchronized
  have hT : ∀ w ∈ gT, w.before _ s = true := fun w h => atoms_spec (ws := (Cond.code yX6_expression cX6_expression 7 (some .boolean) :: gT)) B.pre w (List.mem_cons_of_mem _ h)
  have hown : s.vm.findClass RX6 = some m.cls := findClass_of_methodNamed B.named
  subst hsz
  have hD := hD0.self (sz := s.heap.size)
  generalize hAe : va_A (xW cy a i r q (a 20) (a 12) ++ tl) s.heap.size = A at hD hQ hsk
  have hA : ∀ q : Nat, s.heap.size ≤ q → A q := fun q h => by rw [← hAe]; exact Or.inr h
  have hS : va_S A s.heap s.heap [] := va_S.rf
  have hl := lv_entry ([.ref (a 10), .int p0, .int 0]) (n := 7) (Nat.le_of_ble_eq_true rfl)
  rw [lg_entry_eq]
  generalize (lg_sl ([.ref (a 10), .int p0, .int 0]) ++ List.replicate (7 - (lg_sl ([.ref (a 10), .int p0, .int 0])).length) Slot.unset).toArray = ls at hl ⊢
  have hl : lv_has ls 7 [(0, .ref (a 10)), (1, .int p0), (2, .int 0)] := hl
  have hEi : mEi [4, 5, 7] i i := Ei_rf
  have hEr : mEr [17, 18] r r := Er_rf
  have hg3 : 0 ≤ (i 3).toInt ∧ (i 3).toInt ≤ 200 := hRi 3
  refine lv_iconst (v := (-1)) hx hb dX6_expression_0 (by decide) ?_
  refine lv_istore_n (lv' := [(3, .int (-1)), (0, .ref (a 10)), (1, .int p0), (2, .int 0)]) hx hb dX6_expression_1 rfl hl (by decide) rfl (fun ls hl => ?_)
  refine lv_iconst (v := 0) hx hb dX6_expression_2 (by decide) ?_
  refine lv_istore (lv' := [(4, .int 0), (3, .int (-1)), (0, .ref (a 10)), (1, .int p0), (2, .int 0)]) hx hb dX6_expression_3 hl (by decide) rfl (fun ls hl => ?_)
  have loop_1 : ∀ (n : Nat) (x1_4 : Int32) (x1_3 : Int32) (i1 : Nat → Int32) (r1 : Nat → Nat → Int32) (H : Heap) (locs : List Loc) (ls : Array Slot), (200 - x1_4.toInt).toNat < n → (0 ≤ x1_4.toInt ∧ x1_4.toInt ≤ 200) → (-1 ≤ x1_3.toInt ∧ x1_3.toInt ≤ 255) → yRi i1 → mEi [4, 5, 7] i i1 → yRr r1 → mEr [17, 18] r r1 → (qLT (qTX (i 3) (r 11)) p0 i r i1 r1 x1_3 ∧ (0 ≤ (i1 4).toInt ∧ (i1 4).toInt ≤ (i 3).toInt ∧ (i 4).toInt ≤ (i1 4).toInt) ∧ 2 * x1_4.toInt ≤ (i1 4).toInt ∧ i1 5 = i 5) → va_P D vwCl (xW cy a i1 r1 q (a 20) (a 12) ++ tl) H → va_D A (xW cy a i1 r1 q (a 20) (a 12) ++ tl) → va_S A s.heap H locs → lv_has ls 7 [(4, .int x1_4), (3, .int x1_3), (0, .ref (a 10)), (1, .int p0), (2, .int 0)] → W p l e ({ frames := F9, cells := 0, slots := 0, locals := L9 } : Room) s m ([.ref (a 10), .int p0, .int 0] : List Value).toArray below meth c H locs 0 0 Q (F0 m 5 ls []) := by
    intro n
    induction n with
    | zero =>
      intro x1_4 x1_3 i1 r1 H locs ls hm1 hf1_0 hf1_1 hRi hEi hRr hEr hx1 hP hD hS hl
      exact absurd hm1 (by omega)
    | succ n ih1 =>
      intro x1_4 x1_3 i1 r1 H locs ls hm1 hf1_0 hf1_1 hRi hEi hRr hEr hx1 hP hD hS hl
      refine lv_iload hx hb dX6_expression_5 (lv_at hl 0 rfl) ?_
      obtain ⟨hL9, ⟨hl1, hl2, hl3⟩, hl4, hl5⟩ := hx1
      refine lv_sipush (v := 200) hx hb dX6_expression_7 (by decide) ?_
      refine lv_icmp_ge (tgt := 132) hx hb dX6_expression_10 (by decide) (fun c_2 => by have c_2 : 200 ≤ x1_4.toInt := b_le c_2; omega) (fun c_2 => ?_)
      have c_2 : x1_4.toInt < 200 := b_nle c_2
      refine lv_iload_n hx hb dX6_expression_13 rfl (lv_at hl 4 rfl) ?_
      refine lv_if_eq (tgt := 26) hx hb dX6_expression_14 (by decide) (fun c_3 => ?_) (fun c_3 => absurd (by decide) c_3)
      refine lv_aload_n hx hb dX6_expression_26 rfl (lv_at hl 2 rfl) ?_
      refine lv_iload_n hx hb dX6_expression_27 rfl (lv_at hl 3 rfl) ?_
      have hF_4 := rF hD hS hA
      refine va_calli (va_runV (As := [.int p0]) (rest := []) ⟨hx, hb, hml, hown, hT⟩ (hX1 p0 rfl i1 r1 _ hRi hRr (show 0 ≤ (i1 4).toInt ∧ (i1 4).toInt ≤ (i1 3).toInt from ⟨by omega, by rw [show (i1) 3 = i 3 from hEi 3 (by decide)]; omega⟩)) (cwV 1 hT (gV t_682 t_683 t_684 t_685 t_653) rfl rfl rfl (by decide +kernel) hR1) (rS_v hsk hS hF_4 hP hK hD (va_recv hK hP (ci := 6) (q0 := 10) rfl rfl)) rfl rfl hl.1 rfl (lv_room (Nat.le_of_ble_eq_true rfl)) dX6_expression_28 ⟨Nat.le_of_ble_eq_true rfl, Nat.le_of_ble_eq_true rfl⟩) hS (fun q _ h => hF_4 q h) hF_4 (fun r_5 u_6 t H1 locs ht hvm hr_5 hB hz1 hk1 hS => ?_)
      obtain ⟨i6, r6⟩ := u_6
      obtain ⟨hP, hK1, hD1⟩ := hB
      rw [ht] at hP
      have hD := hD1.weaken (fun k q _ h => hF_4 q.1 h)
      obtain ⟨hRi, hRr, hE1, hE2, hr_5⟩ := hr_5
      have hRi : yRi i6 := hRi
      have hE1 : mEi [4, 5, 7] i1 i6 := hE1
      have hRr : yRr r6 := hRr
      have hE2 : mEr [17, 18] r1 r6 := hE2
      have hP : va_P D vwCl (xW cy a i6 r6 q (a 20) (a 12) ++ tl) H1 := hP
      have hD : va_D A (xW cy a i6 r6 q (a 20) (a 12) ++ tl) := hD
      have hEi : mEi [4, 5, 7] _ i6 := Ei_tr hEi hE1 (by decide)
      have hEr : mEr [17, 18] _ r6 := Er_tr hEr hE2 (by decide)
      have h3r_5 : i1 3 = i 3 := (hE1 3 (by decide)).symm.trans (hEi 3 (by decide))
      have h11r_5 : r1 11 = r 11 := (hE2 11 (by decide)).symm.trans (hEr 11 (by decide))
      obtain ⟨hzr_5, ⟨⟨har_5, hbr_5⟩, hcr_5⟩, hXr_5⟩ := hr_5
      have har_5 : 0 ≤ (i6 4).toInt := har_5
      have hbr_5 : (i6 4).toInt ≤ (i 3).toInt := by rw [← h3r_5]; exact hbr_5
      try dsimp only at hXr_5
      rw [h3r_5, h11r_5] at hXr_5
      rcases hzr_5 with rfl | rfl
      · skip
        refine lv_istore (lv' := [(5, .int 0), (4, .int x1_4), (3, .int x1_3), (0, .ref (a 10)), (1, .int p0), (2, .int 0)]) hx hb dX6_expression_31 hl (by decide) rfl (fun ls hl => ?_)
        refine lv_iload hx hb dX6_expression_33 (lv_at hl 0 rfl) ?_
        refine lv_if_ne (tgt := 40) hx hb dX6_expression_35 (by decide) (fun c_7 => absurd (by decide) c_7) (fun c_7 => ?_)
        refine lv_iconst (v := 0) hx hb dX6_expression_38 (by decide) ?_
        subst hQ
        have hpo9 : ((0 : Int32) = 0 ∨ (0 : Int32) = 1) ∧ ((0 ≤ (i6 4).toInt ∧ (i6 4).toInt ≤ (i 3).toInt) ∧ ((0 : Int32).toInt ≠ 0 → (i 4).toInt < (i6 4).toInt ∧ i6 5 = i 5)) ∧ qX (qTX (i 3) (r 11)) 0 3 p0 qK3 qE3 True i r i6 r6 (0 : Int32) := ⟨Or.inl rfl, ⟨⟨har_5, hbr_5⟩, fun h9 => absurd rfl h9⟩, qLT_f hL9 hXr_5⟩
        exact W.zret hx hb hr rfl (fun t ht hW => ⟨⟨_, (i6, r6), rfl, ⟨hRi, hRr, hEi, hEr, hpo9⟩, by rw [ht]; exact hP, va_K.moved hW.alike hK, hD⟩, hS.F ht⟩) hS.2.2 dX6_expression_39
      · skip
        have h5r_5 : i6 5 = i 5 := (hcr_5 (by decide)).2.trans hl5
        have hcr_5 : (i1 4).toInt < (i6 4).toInt := (hcr_5 (by decide)).1
        refine lv_istore (lv' := [(5, .int 1), (4, .int x1_4), (3, .int x1_3), (0, .ref (a 10)), (1, .int p0), (2, .int 0)]) hx hb dX6_expression_31 hl (by decide) rfl (fun ls hl => ?_)
        refine lv_iload hx hb dX6_expression_33 (lv_at hl 0 rfl) ?_
        refine lv_if_ne (tgt := 40) hx hb dX6_expression_35 (by decide) (fun c_8 => ?_) (fun c_8 => absurd c_8 (by decide))
        refine lv_iload_n hx hb dX6_expression_40 rfl (lv_at hl 2 rfl) ?_
        refine lv_iconst (v := (-1)) hx hb dX6_expression_41 (by decide) ?_
        refine lv_icmp_eq (tgt := 55) hx hb dX6_expression_42 (by decide) (fun c_9 => ?_) (fun c_9 => ?_)
        · have c_9 : x1_3.toInt = (-1) := b_eq c_9
          refine lv_aload_n hx hb dX6_expression_55 rfl (lv_at hl 3 rfl) ?_
          refine vp_callSi (W.runV (As := []) (rest := []) ⟨hx, hb, hml, hown, hT⟩ (c_X6_peek9 l D cy a i6 r6 q tl hRi hRr (show 0 ≤ (i6 4).toInt by omega)) (cwV 0 hT (gV t_652 t_654 t_655 t_656 t_653) rfl rfl rfl (by decide +kernel) ⟨Nat.le_trans (m := 2) (Nat.le_of_ble_eq_true rfl) hF9.1, Nat.le_trans (m := 46) (Nat.le_of_ble_eq_true rfl) hF9.2⟩) (rP_v hP hK (va_recv hK hP (ci := 6) (q0 := 10) rfl rfl)) rfl rfl hl.1 rfl (lv_room (Nat.le_of_ble_eq_true rfl)) dX6_expression_56 ⟨Nat.le_of_ble_eq_true rfl, Nat.le_of_ble_eq_true rfl⟩) (fun r_10 hr_10 => ?_)
          have hqr_10 : r_10.toInt = qTX (i 3) (r 11) (i6 4).toInt.toNat := by have h9 := hr_10.1; rw [show (i6) 3 = i 3 from hEi 3 (by decide)] at h9; rw [show (r6) 11 = r 11 from hEr 11 (by decide)] at h9; exact h9
          have hr_10 : -1 ≤ r_10.toInt ∧ r_10.toInt ≤ 255 := hr_10.2
          have hM9 : qMT (qTX (i 3) (r 11)) p0 i r i6 r6 := qLT_c (i2 := i6) (r2 := r6) hL9 hXr_5 har_5 (by omega) rfl (Or.inl ⟨c_9, rfl, rfl, rfl⟩)
          have ha3 : (i6 4).toInt = (i6 4).toInt := rfl
          refine lv_istore_n (lv' := [(3, .int r_10), (5, .int 1), (4, .int x1_4), (0, .ref (a 10)), (1, .int p0), (2, .int 0)]) hx hb dX6_expression_59 rfl hl (by decide) rfl (fun ls hl => ?_)
          refine lv_iload_n hx hb dX6_expression_60 rfl (lv_at hl 5 rfl) ?_
          refine lv_if_eq (tgt := 84) hx hb dX6_expression_61 (by decide) (fun c_11 => ?_) (fun c_11 => absurd (by decide) c_11)
          refine lv_iload_n hx hb dX6_expression_84 rfl (lv_at hl 0 rfl) ?_
          refine lv_bipush (v := 42) hx hb dX6_expression_85 (by decide) ?_
          refine lv_icmp_eq (tgt := 102) hx hb dX6_expression_87 (by decide) (fun c_12 => ?_) (fun c_12 => ?_)
          · have c_12 : r_10.toInt = 42 := b_eq c_12
            refine lv_iconst (v := 1) hx hb dX6_expression_102 (by decide) ?_
            refine lv_goto (tgt := 107) hx hb dX6_expression_103 (by decide) ?_
            refine lv_istore (lv' := [(6, .int 1), (3, .int r_10), (5, .int 1), (4, .int x1_4), (0, .ref (a 10)), (1, .int p0), (2, .int 0)]) hx hb dX6_expression_107 hl (by decide) rfl (fun ls hl => ?_)
            refine lv_iload hx hb dX6_expression_109 (lv_at hl 0 rfl) ?_
            refine lv_if_ne (tgt := 116) hx hb dX6_expression_111 (by decide) (fun c_13 => ?_) (fun c_13 => absurd c_13 (by decide))
            refine lv_aload_n hx hb dX6_expression_116 rfl (lv_at hl 4 rfl) ?_
            refine lv_dup hx hb dX6_expression_117 rfl ?_
            refine va_get (D := D) (ci := 6) (v := .int (i6 4)) (C := RX6) (T := TX6) (N := 5) hx hb hT iX6 hown hK hP 10 rfl rfl 3 (by decide) (hT _ t_648) (fun _ h9 => h9) rfl dX6_expression_118 ?_
            refine lv_iconst (v := 1) hx hb dX6_expression_121 (by decide) ?_
            refine lv_iadd hx hb dX6_expression_122 ?_
            refine lv_topi (fun v_14 ev_14 => ?_)
            have hv_14 : v_14.toInt = (i6 4).toInt + 1 := by rw [ev_14]; have := b_rg (i6 4); exact i_add (a := (i6 4).toInt) (b := 1) rfl rfl (by omega) (by omega)
            refine va_put (D := D) (ci := 6) (v := .int v_14) (ty := .int) (C := RX6) (T := TX6) (N := 5) hx hb hT iX6 tyX6 tyX6_ok nmX6 hown hK hP hD hS 10 rfl rfl 3 (by decide) (hT _ t_648) (fun _ h9 => h9) rfl (by decide +kernel) rfl rfl (Nat.le_of_ble_eq_true rfl) dX6_expression_123 (fun H locs hP hD hS => ?_)
            rw [zP4] at hP hD
            have hRi := Yi_upd hRi 4 v_14 (b_rg _)
            have hEi := Ei_upd hEi 4 v_14 (by decide)
            obtain ⟨x_15, ex_15⟩ : ∃ y : Int32, y = x1_4 + 1 := ⟨_, rfl⟩
            refine lv_iinc (v := x_15) (lv' := [(4, .int x_15), (6, .int 1), (3, .int r_10), (5, .int 1), (0, .ref (a 10)), (1, .int p0), (2, .int 0)]) hx hb dX6_expression_126 hl (k := 3) rfl (by rw [ex_15]; rfl) (by decide) rfl (fun ls hl => ?_)
            have hx_15 : x_15.toInt = x1_4.toInt + 1 := by rw [ex_15]; have := b_rg x1_4; exact i_add (a := x1_4.toInt) (b := 1) rfl rfl (by omega) (by omega)
            refine lv_goto (tgt := 5) hx hb dX6_expression_129 (by decide) ?_
            have hch : r_10.toInt = 42 := by omega
            have hlt9 := qTX_lt (e := i 3) (t := r 11) (p := (i6 4).toInt.toNat) (by omega)
            have hL8 : qLT (qTX (i 3) (r 11)) p0 i r (upd i6 4 v_14) r6 r_10 := qLT_s hM9 (by rw [hch]; decide) hqr_10 (by omega) (by show v_14.toInt = _; omega) rfl rfl rfl
            exact ih1 x_15 r_10 (upd i6 4 v_14) r6 _ _ _ (by first | omega | (simp only [Int.toNat]; omega)) (by first | omega | decide) (by first | omega | decide) hRi hEi hRr hEr ⟨hL8, ⟨by show 0 ≤ v_14.toInt; omega, by show v_14.toInt ≤ _; omega, by show _ ≤ v_14.toInt; omega⟩, by show _ ≤ v_14.toInt; omega, h5r_5⟩ hP hD hS (lv_sub hl [0, 2, 4, 5, 6] rfl)
          · have c_12 : r_10.toInt ≠ 42 := b_ne c_12
            refine lv_iload_n hx hb dX6_expression_90 rfl (lv_at hl 0 rfl) ?_
            refine lv_bipush (v := 47) hx hb dX6_expression_91 (by decide) ?_
            refine lv_icmp_eq (tgt := 102) hx hb dX6_expression_93 (by decide) (fun c_16 => ?_) (fun c_16 => ?_)
            · have c_16 : r_10.toInt = 47 := b_eq c_16
              refine lv_iconst (v := 1) hx hb dX6_expression_102 (by decide) ?_
              refine lv_goto (tgt := 107) hx hb dX6_expression_103 (by decide) ?_
              refine lv_istore (lv' := [(6, .int 1), (3, .int r_10), (5, .int 1), (4, .int x1_4), (0, .ref (a 10)), (1, .int p0), (2, .int 0)]) hx hb dX6_expression_107 hl (by decide) rfl (fun ls hl => ?_)
              refine lv_iload hx hb dX6_expression_109 (lv_at hl 0 rfl) ?_
              refine lv_if_ne (tgt := 116) hx hb dX6_expression_111 (by decide) (fun c_17 => ?_) (fun c_17 => absurd c_17 (by decide))
              refine lv_aload_n hx hb dX6_expression_116 rfl (lv_at hl 4 rfl) ?_
              refine lv_dup hx hb dX6_expression_117 rfl ?_
              refine va_get (D := D) (ci := 6) (v := .int (i6 4)) (C := RX6) (T := TX6) (N := 5) hx hb hT iX6 hown hK hP 10 rfl rfl 3 (by decide) (hT _ t_648) (fun _ h9 => h9) rfl dX6_expression_118 ?_
              refine lv_iconst (v := 1) hx hb dX6_expression_121 (by decide) ?_
              refine lv_iadd hx hb dX6_expression_122 ?_
              refine lv_topi (fun v_18 ev_18 => ?_)
              have hv_18 : v_18.toInt = (i6 4).toInt + 1 := by rw [ev_18]; have := b_rg (i6 4); exact i_add (a := (i6 4).toInt) (b := 1) rfl rfl (by omega) (by omega)
              refine va_put (D := D) (ci := 6) (v := .int v_18) (ty := .int) (C := RX6) (T := TX6) (N := 5) hx hb hT iX6 tyX6 tyX6_ok nmX6 hown hK hP hD hS 10 rfl rfl 3 (by decide) (hT _ t_648) (fun _ h9 => h9) rfl (by decide +kernel) rfl rfl (Nat.le_of_ble_eq_true rfl) dX6_expression_123 (fun H locs hP hD hS => ?_)
              rw [zP4] at hP hD
              have hRi := Yi_upd hRi 4 v_18 (b_rg _)
              have hEi := Ei_upd hEi 4 v_18 (by decide)
              obtain ⟨x_19, ex_19⟩ : ∃ y : Int32, y = x1_4 + 1 := ⟨_, rfl⟩
              refine lv_iinc (v := x_19) (lv' := [(4, .int x_19), (6, .int 1), (3, .int r_10), (5, .int 1), (0, .ref (a 10)), (1, .int p0), (2, .int 0)]) hx hb dX6_expression_126 hl (k := 3) rfl (by rw [ex_19]; rfl) (by decide) rfl (fun ls hl => ?_)
              have hx_19 : x_19.toInt = x1_4.toInt + 1 := by rw [ex_19]; have := b_rg x1_4; exact i_add (a := x1_4.toInt) (b := 1) rfl rfl (by omega) (by omega)
              refine lv_goto (tgt := 5) hx hb dX6_expression_129 (by decide) ?_
              have hch : r_10.toInt = 47 := by omega
              have hlt9 := qTX_lt (e := i 3) (t := r 11) (p := (i6 4).toInt.toNat) (by omega)
              have hL8 : qLT (qTX (i 3) (r 11)) p0 i r (upd i6 4 v_18) r6 r_10 := qLT_s hM9 (by rw [hch]; decide) hqr_10 (by omega) (by show v_18.toInt = _; omega) rfl rfl rfl
              exact ih1 x_19 r_10 (upd i6 4 v_18) r6 _ _ _ (by first | omega | (simp only [Int.toNat]; omega)) (by first | omega | decide) (by first | omega | decide) hRi hEi hRr hEr ⟨hL8, ⟨by show 0 ≤ v_18.toInt; omega, by show v_18.toInt ≤ _; omega, by show _ ≤ v_18.toInt; omega⟩, by show _ ≤ v_18.toInt; omega, h5r_5⟩ hP hD hS (lv_sub hl [0, 2, 4, 5, 6] rfl)
            · have c_16 : r_10.toInt ≠ 47 := b_ne c_16
              refine lv_iload_n hx hb dX6_expression_96 rfl (lv_at hl 0 rfl) ?_
              refine lv_bipush (v := 37) hx hb dX6_expression_97 (by decide) ?_
              refine lv_icmp_ne (tgt := 106) hx hb dX6_expression_99 (by decide) (fun c_20 => ?_) (fun c_20 => ?_)
              · have c_20 : r_10.toInt ≠ 37 := b_ne c_20
                refine lv_iconst (v := 0) hx hb dX6_expression_106 (by decide) ?_
                refine lv_istore (lv' := [(6, .int 0), (3, .int r_10), (5, .int 1), (4, .int x1_4), (0, .ref (a 10)), (1, .int p0), (2, .int 0)]) hx hb dX6_expression_107 hl (by decide) rfl (fun ls hl => ?_)
                refine lv_iload hx hb dX6_expression_109 (lv_at hl 0 rfl) ?_
                refine lv_if_ne (tgt := 116) hx hb dX6_expression_111 (by decide) (fun c_21 => absurd (by decide) c_21) (fun c_21 => ?_)
                refine lv_iconst (v := 1) hx hb dX6_expression_114 (by decide) ?_
                subst hQ
                have hno : ¬ 4 ≤ qSum (qTX (i 3) (r 11) (i6 4).toInt.toNat) := by rw [← hqr_10]; exact qSum_nt (by omega) (by omega) (by omega)
                have hpo9 : ((1 : Int32) = 0 ∨ (1 : Int32) = 1) ∧ ((0 ≤ (i6 4).toInt ∧ (i6 4).toInt ≤ (i 3).toInt) ∧ ((1 : Int32).toInt ≠ 0 → (i 4).toInt < (i6 4).toInt ∧ i6 5 = i 5)) ∧ qX (qTX (i 3) (r 11)) 0 3 p0 qK3 qE3 True i r i6 r6 (1 : Int32) := ⟨Or.inr rfl, ⟨⟨by omega, by omega⟩, (fun _ => ⟨by omega, h5r_5⟩)⟩, qLT_e hM9 hno⟩
                exact W.zret hx hb hr rfl (fun t ht hW => ⟨⟨_, (i6, r6), rfl, ⟨hRi, hRr, hEi, hEr, hpo9⟩, by rw [ht]; exact hP, va_K.moved hW.alike hK, hD⟩, hS.F ht⟩) hS.2.2 dX6_expression_115
              · have c_20 : r_10.toInt = 37 := b_nne c_20
                refine lv_iconst (v := 1) hx hb dX6_expression_102 (by decide) ?_
                refine lv_goto (tgt := 107) hx hb dX6_expression_103 (by decide) ?_
                refine lv_istore (lv' := [(6, .int 1), (3, .int r_10), (5, .int 1), (4, .int x1_4), (0, .ref (a 10)), (1, .int p0), (2, .int 0)]) hx hb dX6_expression_107 hl (by decide) rfl (fun ls hl => ?_)
                refine lv_iload hx hb dX6_expression_109 (lv_at hl 0 rfl) ?_
                refine lv_if_ne (tgt := 116) hx hb dX6_expression_111 (by decide) (fun c_22 => ?_) (fun c_22 => absurd c_22 (by decide))
                refine lv_aload_n hx hb dX6_expression_116 rfl (lv_at hl 4 rfl) ?_
                refine lv_dup hx hb dX6_expression_117 rfl ?_
                refine va_get (D := D) (ci := 6) (v := .int (i6 4)) (C := RX6) (T := TX6) (N := 5) hx hb hT iX6 hown hK hP 10 rfl rfl 3 (by decide) (hT _ t_648) (fun _ h9 => h9) rfl dX6_expression_118 ?_
                refine lv_iconst (v := 1) hx hb dX6_expression_121 (by decide) ?_
                refine lv_iadd hx hb dX6_expression_122 ?_
                refine lv_topi (fun v_23 ev_23 => ?_)
                have hv_23 : v_23.toInt = (i6 4).toInt + 1 := by rw [ev_23]; have := b_rg (i6 4); exact i_add (a := (i6 4).toInt) (b := 1) rfl rfl (by omega) (by omega)
                refine va_put (D := D) (ci := 6) (v := .int v_23) (ty := .int) (C := RX6) (T := TX6) (N := 5) hx hb hT iX6 tyX6 tyX6_ok nmX6 hown hK hP hD hS 10 rfl rfl 3 (by decide) (hT _ t_648) (fun _ h9 => h9) rfl (by decide +kernel) rfl rfl (Nat.le_of_ble_eq_true rfl) dX6_expression_123 (fun H locs hP hD hS => ?_)
                rw [zP4] at hP hD
                have hRi := Yi_upd hRi 4 v_23 (b_rg _)
                have hEi := Ei_upd hEi 4 v_23 (by decide)
                obtain ⟨x_24, ex_24⟩ : ∃ y : Int32, y = x1_4 + 1 := ⟨_, rfl⟩
                refine lv_iinc (v := x_24) (lv' := [(4, .int x_24), (6, .int 1), (3, .int r_10), (5, .int 1), (0, .ref (a 10)), (1, .int p0), (2, .int 0)]) hx hb dX6_expression_126 hl (k := 3) rfl (by rw [ex_24]; rfl) (by decide) rfl (fun ls hl => ?_)
                have hx_24 : x_24.toInt = x1_4.toInt + 1 := by rw [ex_24]; have := b_rg x1_4; exact i_add (a := x1_4.toInt) (b := 1) rfl rfl (by omega) (by omega)
                refine lv_goto (tgt := 5) hx hb dX6_expression_129 (by decide) ?_
                have hch : r_10.toInt = 37 := by omega
                have hlt9 := qTX_lt (e := i 3) (t := r 11) (p := (i6 4).toInt.toNat) (by omega)
                have hL8 : qLT (qTX (i 3) (r 11)) p0 i r (upd i6 4 v_23) r6 r_10 := qLT_s hM9 (by rw [hch]; decide) hqr_10 (by omega) (by show v_23.toInt = _; omega) rfl rfl rfl
                exact ih1 x_24 r_10 (upd i6 4 v_23) r6 _ _ _ (by first | omega | (simp only [Int.toNat]; omega)) (by first | omega | decide) (by first | omega | decide) hRi hEi hRr hEr ⟨hL8, ⟨by show 0 ≤ v_23.toInt; omega, by show v_23.toInt ≤ _; omega, by show _ ≤ v_23.toInt; omega⟩, by show _ ≤ v_23.toInt; omega, h5r_5⟩ hP hD hS (lv_sub hl [0, 2, 4, 5, 6] rfl)
        · have c_9 : x1_3.toInt ≠ (-1) := b_ne c_9
          refine lv_aload_n hx hb dX6_expression_45 rfl (lv_at hl 3 rfl) ?_
          refine va_get (D := D) (ci := 6) (v := .ref (a 12)) (C := RX6) (T := TX6) (N := 5) hx hb hT iX6 hown hK hP 10 rfl rfl 0 (by decide) (hT _ t_661) (fun _ h9 => h9) rfl dX6_expression_46 ?_
          refine lv_iload_n hx hb dX6_expression_49 rfl (lv_at hl 2 rfl) ?_
          refine lv_iconst (v := 0) hx hb dX6_expression_50 (by decide) ?_
          have hF_25 := rF hD hS hA
          refine va_calli (va_runV (As := [.int x1_3, .int 0]) (rest := []) ⟨hx, hb, hml, hown, hT⟩ (c_X5_add9 l D cy a i6 r6 q tl x1_3 0 _ hRi hRr) (cwV 2 hT (gV t_662 t_663 t_664 t_665 t_367) rfl rfl rfl (by decide +kernel) ⟨Nat.le_trans (m := 2) (Nat.le_of_ble_eq_true rfl) hF9.1, Nat.le_trans (m := 46) (Nat.le_of_ble_eq_true rfl) hF9.2⟩) (rQ_v hP hK hD (va_recv hK hP (ci := 5) (q0 := 12) rfl rfl)) rfl rfl hl.1 rfl (lv_room (Nat.le_of_ble_eq_true rfl)) dX6_expression_51 ⟨Nat.le_of_ble_eq_true rfl, Nat.le_of_ble_eq_true rfl⟩) hS (fun q _ h => hF_25 q h) hF_25 (fun r_26 u_27 t H1 locs ht hvm hr_26 hB hz1 hk1 hS => ?_)
          obtain ⟨i27, r27⟩ := u_27
          obtain ⟨hP, hK1, hD1⟩ := hB
          rw [ht] at hP
          have hD := hD1.weaken (fun k q _ h => hF_25 q.1 h)
          obtain ⟨hRi, hRr, hE1, hE2, hr_26⟩ := hr_26
          have hRi : yRi i27 := hRi
          have hE1 : mEi [7] i6 i27 := hE1
          have hRr : yRr r27 := hRr
          have hE2 : mEr [17, 18] r6 r27 := hE2
          have hP : va_P D vwCl (xW cy a i27 r27 q (a 20) (a 12) ++ tl) H1 := hP
          have hD : va_D A (xW cy a i27 r27 q (a 20) (a 12) ++ tl) := hD
          have hEi : mEi [4, 5, 7] _ i27 := Ei_tr hEi hE1 (by decide)
          have hEr : mEr [17, 18] _ r27 := Er_tr hEr hE2 (by decide)
          obtain ⟨hZr_26, hr_26⟩ := hr_26
          have hZr_26 : -1 ≤ r_26.toInt ∧ r_26.toInt ≤ 200 := hZr_26
          have hAr_26 : qAdd i6 r6 i27 r27 x1_3 (0 : Int32) := fun h9 => (hr_26 h9).2
          have hJr_26 : (i6 7).toInt < 200 → r_26.toInt = (i6 7).toInt := fun h9 => congrArg Int32.toInt (hr_26 h9).1
          have hBr_26 : i27 4 = (i6 4) := hE1 4 (by decide)
          have hBtr_26 : (i27 4).toInt = (i6 4).toInt := congrArg Int32.toInt hBr_26
          clear hr_26
          have hr_26 : True := trivial
          have h5r_26 : i27 5 = i 5 := (hE1 5 (by decide)).trans h5r_5
          refine lv_pop hx hb dX6_expression_54 rfl ?_
          refine lv_aload_n hx hb dX6_expression_55 rfl (lv_at hl 3 rfl) ?_
          refine vp_callSi (W.runV (As := []) (rest := []) ⟨hx, hb, hml, hown, hT⟩ (c_X6_peek9 l D cy a i27 r27 q tl hRi hRr (show 0 ≤ (i27 4).toInt by omega)) (cwV 0 hT (gV t_652 t_654 t_655 t_656 t_653) rfl rfl rfl (by decide +kernel) ⟨Nat.le_trans (m := 2) (Nat.le_of_ble_eq_true rfl) hF9.1, Nat.le_trans (m := 46) (Nat.le_of_ble_eq_true rfl) hF9.2⟩) (rP_v hP hK (va_recv hK hP (ci := 6) (q0 := 10) rfl rfl)) rfl rfl hl.1 rfl (lv_room (Nat.le_of_ble_eq_true rfl)) dX6_expression_56 ⟨Nat.le_of_ble_eq_true rfl, Nat.le_of_ble_eq_true rfl⟩) (fun r_28 hr_28 => ?_)
          have hqr_28 : r_28.toInt = qTX (i 3) (r 11) (i27 4).toInt.toNat := by have h9 := hr_28.1; rw [show (i27) 3 = i 3 from hEi 3 (by decide)] at h9; rw [show (r27) 11 = r 11 from hEr 11 (by decide)] at h9; exact h9
          have hr_28 : -1 ≤ r_28.toInt ∧ r_28.toInt ≤ 255 := hr_28.2
          have hM9 : qMT (qTX (i 3) (r 11)) p0 i r i27 r27 := qLT_c (i2 := i6) (r2 := r6) hL9 hXr_5 har_5 (by omega) hBr_26 (Or.inr ⟨c_9, hAr_26⟩)
          have ha3 : (i27 4).toInt = (i6 4).toInt := by rw [hBr_26]
          refine lv_istore_n (lv' := [(3, .int r_28), (5, .int 1), (4, .int x1_4), (0, .ref (a 10)), (1, .int p0), (2, .int 0)]) hx hb dX6_expression_59 rfl hl (by decide) rfl (fun ls hl => ?_)
          refine lv_iload_n hx hb dX6_expression_60 rfl (lv_at hl 5 rfl) ?_
          refine lv_if_eq (tgt := 84) hx hb dX6_expression_61 (by decide) (fun c_29 => ?_) (fun c_29 => absurd (by decide) c_29)
          refine lv_iload_n hx hb dX6_expression_84 rfl (lv_at hl 0 rfl) ?_
          refine lv_bipush (v := 42) hx hb dX6_expression_85 (by decide) ?_
          refine lv_icmp_eq (tgt := 102) hx hb dX6_expression_87 (by decide) (fun c_30 => ?_) (fun c_30 => ?_)
          · have c_30 : r_28.toInt = 42 := b_eq c_30
            refine lv_iconst (v := 1) hx hb dX6_expression_102 (by decide) ?_
            refine lv_goto (tgt := 107) hx hb dX6_expression_103 (by decide) ?_
            refine lv_istore (lv' := [(6, .int 1), (3, .int r_28), (5, .int 1), (4, .int x1_4), (0, .ref (a 10)), (1, .int p0), (2, .int 0)]) hx hb dX6_expression_107 hl (by decide) rfl (fun ls hl => ?_)
            refine lv_iload hx hb dX6_expression_109 (lv_at hl 0 rfl) ?_
            refine lv_if_ne (tgt := 116) hx hb dX6_expression_111 (by decide) (fun c_31 => ?_) (fun c_31 => absurd c_31 (by decide))
            refine lv_aload_n hx hb dX6_expression_116 rfl (lv_at hl 4 rfl) ?_
            refine lv_dup hx hb dX6_expression_117 rfl ?_
            refine va_get (D := D) (ci := 6) (v := .int (i27 4)) (C := RX6) (T := TX6) (N := 5) hx hb hT iX6 hown hK hP 10 rfl rfl 3 (by decide) (hT _ t_648) (fun _ h9 => h9) rfl dX6_expression_118 ?_
            refine lv_iconst (v := 1) hx hb dX6_expression_121 (by decide) ?_
            refine lv_iadd hx hb dX6_expression_122 ?_
            refine lv_topi (fun v_32 ev_32 => ?_)
            have hv_32 : v_32.toInt = (i27 4).toInt + 1 := by rw [ev_32]; have := b_rg (i27 4); exact i_add (a := (i27 4).toInt) (b := 1) rfl rfl (by omega) (by omega)
            refine va_put (D := D) (ci := 6) (v := .int v_32) (ty := .int) (C := RX6) (T := TX6) (N := 5) hx hb hT iX6 tyX6 tyX6_ok nmX6 hown hK hP hD hS 10 rfl rfl 3 (by decide) (hT _ t_648) (fun _ h9 => h9) rfl (by decide +kernel) rfl rfl (Nat.le_of_ble_eq_true rfl) dX6_expression_123 (fun H locs hP hD hS => ?_)
            rw [zP4] at hP hD
            have hRi := Yi_upd hRi 4 v_32 (b_rg _)
            have hEi := Ei_upd hEi 4 v_32 (by decide)
            obtain ⟨x_33, ex_33⟩ : ∃ y : Int32, y = x1_4 + 1 := ⟨_, rfl⟩
            refine lv_iinc (v := x_33) (lv' := [(4, .int x_33), (6, .int 1), (3, .int r_28), (5, .int 1), (0, .ref (a 10)), (1, .int p0), (2, .int 0)]) hx hb dX6_expression_126 hl (k := 3) rfl (by rw [ex_33]; rfl) (by decide) rfl (fun ls hl => ?_)
            have hx_33 : x_33.toInt = x1_4.toInt + 1 := by rw [ex_33]; have := b_rg x1_4; exact i_add (a := x1_4.toInt) (b := 1) rfl rfl (by omega) (by omega)
            refine lv_goto (tgt := 5) hx hb dX6_expression_129 (by decide) ?_
            have hch : r_28.toInt = 42 := by omega
            have hlt9 := qTX_lt (e := i 3) (t := r 11) (p := (i27 4).toInt.toNat) (by omega)
            have hL8 : qLT (qTX (i 3) (r 11)) p0 i r (upd i27 4 v_32) r27 r_28 := qLT_s hM9 (by rw [hch]; decide) hqr_28 (by omega) (by show v_32.toInt = _; omega) rfl rfl rfl
            exact ih1 x_33 r_28 (upd i27 4 v_32) r27 _ _ _ (by first | omega | (simp only [Int.toNat]; omega)) (by first | omega | decide) (by first | omega | decide) hRi hEi hRr hEr ⟨hL8, ⟨by show 0 ≤ v_32.toInt; omega, by show v_32.toInt ≤ _; omega, by show _ ≤ v_32.toInt; omega⟩, by show _ ≤ v_32.toInt; omega, h5r_26⟩ hP hD hS (lv_sub hl [0, 2, 4, 5, 6] rfl)
          · have c_30 : r_28.toInt ≠ 42 := b_ne c_30
            refine lv_iload_n hx hb dX6_expression_90 rfl (lv_at hl 0 rfl) ?_
            refine lv_bipush (v := 47) hx hb dX6_expression_91 (by decide) ?_
            refine lv_icmp_eq (tgt := 102) hx hb dX6_expression_93 (by decide) (fun c_34 => ?_) (fun c_34 => ?_)
            · have c_34 : r_28.toInt = 47 := b_eq c_34
              refine lv_iconst (v := 1) hx hb dX6_expression_102 (by decide) ?_
              refine lv_goto (tgt := 107) hx hb dX6_expression_103 (by decide) ?_
              refine lv_istore (lv' := [(6, .int 1), (3, .int r_28), (5, .int 1), (4, .int x1_4), (0, .ref (a 10)), (1, .int p0), (2, .int 0)]) hx hb dX6_expression_107 hl (by decide) rfl (fun ls hl => ?_)
              refine lv_iload hx hb dX6_expression_109 (lv_at hl 0 rfl) ?_
              refine lv_if_ne (tgt := 116) hx hb dX6_expression_111 (by decide) (fun c_35 => ?_) (fun c_35 => absurd c_35 (by decide))
              refine lv_aload_n hx hb dX6_expression_116 rfl (lv_at hl 4 rfl) ?_
              refine lv_dup hx hb dX6_expression_117 rfl ?_
              refine va_get (D := D) (ci := 6) (v := .int (i27 4)) (C := RX6) (T := TX6) (N := 5) hx hb hT iX6 hown hK hP 10 rfl rfl 3 (by decide) (hT _ t_648) (fun _ h9 => h9) rfl dX6_expression_118 ?_
              refine lv_iconst (v := 1) hx hb dX6_expression_121 (by decide) ?_
              refine lv_iadd hx hb dX6_expression_122 ?_
              refine lv_topi (fun v_36 ev_36 => ?_)
              have hv_36 : v_36.toInt = (i27 4).toInt + 1 := by rw [ev_36]; have := b_rg (i27 4); exact i_add (a := (i27 4).toInt) (b := 1) rfl rfl (by omega) (by omega)
              refine va_put (D := D) (ci := 6) (v := .int v_36) (ty := .int) (C := RX6) (T := TX6) (N := 5) hx hb hT iX6 tyX6 tyX6_ok nmX6 hown hK hP hD hS 10 rfl rfl 3 (by decide) (hT _ t_648) (fun _ h9 => h9) rfl (by decide +kernel) rfl rfl (Nat.le_of_ble_eq_true rfl) dX6_expression_123 (fun H locs hP hD hS => ?_)
              rw [zP4] at hP hD
              have hRi := Yi_upd hRi 4 v_36 (b_rg _)
              have hEi := Ei_upd hEi 4 v_36 (by decide)
              obtain ⟨x_37, ex_37⟩ : ∃ y : Int32, y = x1_4 + 1 := ⟨_, rfl⟩
              refine lv_iinc (v := x_37) (lv' := [(4, .int x_37), (6, .int 1), (3, .int r_28), (5, .int 1), (0, .ref (a 10)), (1, .int p0), (2, .int 0)]) hx hb dX6_expression_126 hl (k := 3) rfl (by rw [ex_37]; rfl) (by decide) rfl (fun ls hl => ?_)
              have hx_37 : x_37.toInt = x1_4.toInt + 1 := by rw [ex_37]; have := b_rg x1_4; exact i_add (a := x1_4.toInt) (b := 1) rfl rfl (by omega) (by omega)
              refine lv_goto (tgt := 5) hx hb dX6_expression_129 (by decide) ?_
              have hch : r_28.toInt = 47 := by omega
              have hlt9 := qTX_lt (e := i 3) (t := r 11) (p := (i27 4).toInt.toNat) (by omega)
              have hL8 : qLT (qTX (i 3) (r 11)) p0 i r (upd i27 4 v_36) r27 r_28 := qLT_s hM9 (by rw [hch]; decide) hqr_28 (by omega) (by show v_36.toInt = _; omega) rfl rfl rfl
              exact ih1 x_37 r_28 (upd i27 4 v_36) r27 _ _ _ (by first | omega | (simp only [Int.toNat]; omega)) (by first | omega | decide) (by first | omega | decide) hRi hEi hRr hEr ⟨hL8, ⟨by show 0 ≤ v_36.toInt; omega, by show v_36.toInt ≤ _; omega, by show _ ≤ v_36.toInt; omega⟩, by show _ ≤ v_36.toInt; omega, h5r_26⟩ hP hD hS (lv_sub hl [0, 2, 4, 5, 6] rfl)
            · have c_34 : r_28.toInt ≠ 47 := b_ne c_34
              refine lv_iload_n hx hb dX6_expression_96 rfl (lv_at hl 0 rfl) ?_
              refine lv_bipush (v := 37) hx hb dX6_expression_97 (by decide) ?_
              refine lv_icmp_ne (tgt := 106) hx hb dX6_expression_99 (by decide) (fun c_38 => ?_) (fun c_38 => ?_)
              · have c_38 : r_28.toInt ≠ 37 := b_ne c_38
                refine lv_iconst (v := 0) hx hb dX6_expression_106 (by decide) ?_
                refine lv_istore (lv' := [(6, .int 0), (3, .int r_28), (5, .int 1), (4, .int x1_4), (0, .ref (a 10)), (1, .int p0), (2, .int 0)]) hx hb dX6_expression_107 hl (by decide) rfl (fun ls hl => ?_)
                refine lv_iload hx hb dX6_expression_109 (lv_at hl 0 rfl) ?_
                refine lv_if_ne (tgt := 116) hx hb dX6_expression_111 (by decide) (fun c_39 => absurd (by decide) c_39) (fun c_39 => ?_)
                refine lv_iconst (v := 1) hx hb dX6_expression_114 (by decide) ?_
                subst hQ
                have hno : ¬ 4 ≤ qSum (qTX (i 3) (r 11) (i27 4).toInt.toNat) := by rw [← hqr_28]; exact qSum_nt (by omega) (by omega) (by omega)
                have hpo9 : ((1 : Int32) = 0 ∨ (1 : Int32) = 1) ∧ ((0 ≤ (i27 4).toInt ∧ (i27 4).toInt ≤ (i 3).toInt) ∧ ((1 : Int32).toInt ≠ 0 → (i 4).toInt < (i27 4).toInt ∧ i27 5 = i 5)) ∧ qX (qTX (i 3) (r 11)) 0 3 p0 qK3 qE3 True i r i27 r27 (1 : Int32) := ⟨Or.inr rfl, ⟨⟨by omega, by omega⟩, (fun _ => ⟨by omega, h5r_26⟩)⟩, qLT_e hM9 hno⟩
                exact W.zret hx hb hr rfl (fun t ht hW => ⟨⟨_, (i27, r27), rfl, ⟨hRi, hRr, hEi, hEr, hpo9⟩, by rw [ht]; exact hP, va_K.moved hW.alike hK, hD⟩, hS.F ht⟩) hS.2.2 dX6_expression_115
              · have c_38 : r_28.toInt = 37 := b_nne c_38
                refine lv_iconst (v := 1) hx hb dX6_expression_102 (by decide) ?_
                refine lv_goto (tgt := 107) hx hb dX6_expression_103 (by decide) ?_
                refine lv_istore (lv' := [(6, .int 1), (3, .int r_28), (5, .int 1), (4, .int x1_4), (0, .ref (a 10)), (1, .int p0), (2, .int 0)]) hx hb dX6_expression_107 hl (by decide) rfl (fun ls hl => ?_)
                refine lv_iload hx hb dX6_expression_109 (lv_at hl 0 rfl) ?_
                refine lv_if_ne (tgt := 116) hx hb dX6_expression_111 (by decide) (fun c_40 => ?_) (fun c_40 => absurd c_40 (by decide))
                refine lv_aload_n hx hb dX6_expression_116 rfl (lv_at hl 4 rfl) ?_
                refine lv_dup hx hb dX6_expression_117 rfl ?_
                refine va_get (D := D) (ci := 6) (v := .int (i27 4)) (C := RX6) (T := TX6) (N := 5) hx hb hT iX6 hown hK hP 10 rfl rfl 3 (by decide) (hT _ t_648) (fun _ h9 => h9) rfl dX6_expression_118 ?_
                refine lv_iconst (v := 1) hx hb dX6_expression_121 (by decide) ?_
                refine lv_iadd hx hb dX6_expression_122 ?_
                refine lv_topi (fun v_41 ev_41 => ?_)
                have hv_41 : v_41.toInt = (i27 4).toInt + 1 := by rw [ev_41]; have := b_rg (i27 4); exact i_add (a := (i27 4).toInt) (b := 1) rfl rfl (by omega) (by omega)
                refine va_put (D := D) (ci := 6) (v := .int v_41) (ty := .int) (C := RX6) (T := TX6) (N := 5) hx hb hT iX6 tyX6 tyX6_ok nmX6 hown hK hP hD hS 10 rfl rfl 3 (by decide) (hT _ t_648) (fun _ h9 => h9) rfl (by decide +kernel) rfl rfl (Nat.le_of_ble_eq_true rfl) dX6_expression_123 (fun H locs hP hD hS => ?_)
                rw [zP4] at hP hD
                have hRi := Yi_upd hRi 4 v_41 (b_rg _)
                have hEi := Ei_upd hEi 4 v_41 (by decide)
                obtain ⟨x_42, ex_42⟩ : ∃ y : Int32, y = x1_4 + 1 := ⟨_, rfl⟩
                refine lv_iinc (v := x_42) (lv' := [(4, .int x_42), (6, .int 1), (3, .int r_28), (5, .int 1), (0, .ref (a 10)), (1, .int p0), (2, .int 0)]) hx hb dX6_expression_126 hl (k := 3) rfl (by rw [ex_42]; rfl) (by decide) rfl (fun ls hl => ?_)
                have hx_42 : x_42.toInt = x1_4.toInt + 1 := by rw [ex_42]; have := b_rg x1_4; exact i_add (a := x1_4.toInt) (b := 1) rfl rfl (by omega) (by omega)
                refine lv_goto (tgt := 5) hx hb dX6_expression_129 (by decide) ?_
                have hch : r_28.toInt = 37 := by omega
                have hlt9 := qTX_lt (e := i 3) (t := r 11) (p := (i27 4).toInt.toNat) (by omega)
                have hL8 : qLT (qTX (i 3) (r 11)) p0 i r (upd i27 4 v_41) r27 r_28 := qLT_s hM9 (by rw [hch]; decide) hqr_28 (by omega) (by show v_41.toInt = _; omega) rfl rfl rfl
                exact ih1 x_42 r_28 (upd i27 4 v_41) r27 _ _ _ (by first | omega | (simp only [Int.toNat]; omega)) (by first | omega | decide) (by first | omega | decide) hRi hEi hRr hEr ⟨hL8, ⟨by show 0 ≤ v_41.toInt; omega, by show v_41.toInt ≤ _; omega, by show _ ≤ v_41.toInt; omega⟩, by show _ ≤ v_41.toInt; omega, h5r_26⟩ hP hD hS (lv_sub hl [0, 2, 4, 5, 6] rfl)
  exact loop_1 _ 0 (-1) i r _ _ _ (Nat.lt_succ_self _) (by first | omega | decide) (by first | omega | decide) hRi hEi hRr hEr ⟨qLT_0 (by decide), ⟨h4.1, h4.2, by omega⟩, by have h9 : (0 : Int32).toInt = 0 := rfl; omega, rfl⟩ hP hD hS hl
set_option maxHeartbeats 4000000 in
set_option maxRecDepth 100000 in
theorem c_X6_expression_kq1 (l : Launch) (D : va_G) (cy : Nat → ClassId) (a : Nat → Nat) (i : Nat → Int32) (r : Nat → Nat → Int32) (q : Nat → Option Nat) (tl : va_W) (kq vq : Nat) (p0 : Int32) (sz : Nat) (hRi : yRi i) (hRr : yRr r) (h4 : 0 ≤ (i 4).toInt ∧ (i 4).toInt ≤ (i 3).toInt) (F9 L9 F1 L1 : Nat) (hF9 : 2 ≤ F9 ∧ 46 ≤ L9) (q0 : 0 ≤ p0.toInt ∧ p0.toInt ≤ 6) (hX1 : ∀ k9 : Int32, k9 = p0 → ∀ (i : Nat → Int32) (r : Nat → Nat → Int32) (sz : Nat) (hRi : yRi i) (hRr : yRr r) (h4 : 0 ≤ (i 4).toInt ∧ (i 4).toInt ≤ (i 3).toInt), Met l yX6_expression (Cond.code yX6_expression cX6_expression 7 (some .boolean) :: gT) { frames := F1, cells := 0, slots := 0, locals := L1 } (va_Pc [.ref (a 10), .int k9, .int 0] (rS D cy (xW cy a i r q (a 20) (a 12) ++ tl) sz kq vq)) (va_Qi (fun (z : Int32) (u : (Nat → Int32) × (Nat → Nat → Int32)) => yRi u.1 ∧ yRr u.2 ∧ mEi [4, 5, 7] i u.1 ∧ mEr [17, 18] r u.2 ∧ ((z = 0 ∨ z = 1) ∧ ((0 ≤ (u.1 4).toInt ∧ (u.1 4).toInt ≤ (i 3).toInt) ∧ (z.toInt ≠ 0 → (i 4).toInt < (u.1 4).toInt ∧ u.1 5 = i 5)) ∧ qX (qTX (i 3) (r 11)) 0 3 k9 qK3 qE3 True i r u.1 u.2 z)) (fun (u : (Nat → Int32) × (Nat → Nat → Int32)) t => va_P D vwCl (xW cy a u.1 u.2 q (a 20) (a 12) ++ tl) t.heap ∧ va_K D vwCl (vT cy) t ∧ va_D (va_A (xW cy a i r q (a 20) (a 12) ++ tl) sz) (xW cy a u.1 u.2 q (a 20) (a 12) ++ tl)) (va_A (xW cy a i r q (a 20) (a 12) ++ tl) sz)) 0 0 (va_A (xW cy a i r q (a 20) (a 12) ++ tl) sz)) (hR1 : F1 + 1 ≤ F9 ∧ 8 + (7 + 11) + L1 ≤ L9) : Met l yX6_expression (Cond.code yX6_expression cX6_expression 7 (some .boolean) :: gT) { frames := F9, cells := 0, slots := 0, locals := L9 } (va_Pc [.ref (a 10), .int p0, .int 1] (rS D cy (xW cy a i r q (a 20) (a 12) ++ tl) sz kq vq)) (va_Qi (fun (z : Int32) (u : (Nat → Int32) × (Nat → Nat → Int32)) => yRi u.1 ∧ yRr u.2 ∧ mEi [4, 5, 7] i u.1 ∧ mEr [17, 18] r u.2 ∧ ((z = 0 ∨ z = 1) ∧ ((0 ≤ (u.1 4).toInt ∧ (u.1 4).toInt ≤ (i 3).toInt) ∧ (z.toInt ≠ 0 → (i 4).toInt < (u.1 4).toInt ∧ u.1 5 = i 5)) ∧ qX (qTX (i 3) (r 11)) 0 4 p0 qK4 qE4 True i r u.1 u.2 z)) (fun (u : (Nat → Int32) × (Nat → Nat → Int32)) t => va_P D vwCl (xW cy a u.1 u.2 q (a 20) (a 12) ++ tl) t.heap ∧ va_K D vwCl (vT cy) t ∧ va_D (va_A (xW cy a i r q (a 20) (a 12) ++ tl) sz) (xW cy a u.1 u.2 q (a 20) (a 12) ++ tl)) (va_A (xW cy a i r q (a 20) (a 12) ++ tl) sz)) 0 0 (va_A (xW cy a i r q (a 20) (a 12) ++ tl) sz) := by
  refine Met.ofQ (cc := cX6_expression) (maxL := 7) (ret := (some .boolean)) (by decide) rfl ?_
  intro p e s m args below meth c s₁ B hml hv Q hQ
  obtain ⟨rfl, hsk, hsz, hP, hK, hD0⟩ := hv
  have hx := B.exec
  have hb := B.bytes
  have hr := B.returns
  have hlocks := B.notSynchronized
  have hT : ∀ w ∈ gT, w.before _ s = true := fun w h => atoms_spec (ws := (Cond.code yX6_expression cX6_expression 7 (some .boolean) :: gT)) B.pre w (List.mem_cons_of_mem _ h)
  have hown : s.vm.findClass RX6 = some m.cls := findClass_of_methodNamed B.named
  subst hsz
  have hD := hD0.self (sz := s.heap.size)
  generalize hAe : va_A (xW cy a i r q (a 20) (a 12) ++ tl) s.heap.size = A at hD hQ hsk
  have hA : ∀ q : Nat, s.heap.size ≤ q → A q := fun q h => by rw [← hAe]; exact Or.inr h
  have hS : va_S A s.heap s.heap [] := va_S.rf
  have hl := lv_entry ([.ref (a 10), .int p0, .int 1]) (n := 7) (Nat.le_of_ble_eq_true rfl)
  rw [lg_entry_eq]
  generalize (lg_sl ([.ref (a 10), .int p0, .int 1]) ++ List.replicate (7 - (lg_sl ([.ref (a 10), .int p0, .int 1])).length) Slot.unset).toArray = ls at hl ⊢
  have hl : lv_has ls 7 [(0, .ref (a 10)), (1, .int p0), (2, .int 1)] := hl
  have hEi : mEi [4, 5, 7] i i := Ei_rf
  have hEr : mEr [17, 18] r r := Er_rf
  have hg3 : 0 ≤ (i 3).toInt ∧ (i 3).toInt ≤ 200 := hRi 3
  refine lv_iconst (v := (-1)) hx hb dX6_expression_0 (by decide) ?_
  refine lv_istore_n (lv' := [(3, .int (-1)), (0, .ref (a 10)), (1, .int p0), (2, .int 1)]) hx hb dX6_expression_1 rfl hl (by decide) rfl (fun ls hl => ?_)
  refine lv_iconst (v := 0) hx hb dX6_expression_2 (by decide) ?_
  refine lv_istore (lv' := [(4, .int 0), (3, .int (-1)), (0, .ref (a 10)), (1, .int p0), (2, .int 1)]) hx hb dX6_expression_3 hl (by decide) rfl (fun ls hl => ?_)
  have loop_1 : ∀ (n : Nat) (x1_4 : Int32) (x1_3 : Int32) (i1 : Nat → Int32) (r1 : Nat → Nat → Int32) (H : Heap) (locs : List Loc) (ls : Array Slot), (200 - x1_4.toInt).toNat < n → (0 ≤ x1_4.toInt ∧ x1_4.toInt ≤ 200) → (-1 ≤ x1_3.toInt ∧ x1_3.toInt ≤ 255) → yRi i1 → mEi [4, 5, 7] i i1 → yRr r1 → mEr [17, 18] r r1 → (qLS (qTX (i 3) (r 11)) p0 i r i1 r1 x1_3 ∧ (0 ≤ (i1 4).toInt ∧ (i1 4).toInt ≤ (i 3).toInt ∧ (i 4).toInt ≤ (i1 4).toInt) ∧ 2 * x1_4.toInt ≤ (i1 4).toInt ∧ i1 5 = i 5) → va_P D vwCl (xW cy a i1 r1 q (a 20) (a 12) ++ tl) H → va_D A (xW cy a i1 r1 q (a 20) (a 12) ++ tl) → va_S A s.heap H locs → lv_has ls 7 [(4, .int x1_4), (3, .int x1_3), (0, .ref (a 10)), (1, .int p0), (2, .int 1)] → W p l e ({ frames := F9, cells := 0, slots := 0, locals := L9 } : Room) s m ([.ref (a 10), .int p0, .int 1] : List Value).toArray below meth c H locs 0 0 Q (F0 m 5 ls []) := by
    intro n
    induction n with
    | zero =>
      intro x1_4 x1_3 i1 r1 H locs ls hm1 hf1_0 hf1_1 hRi hEi hRr hEr hx1 hP hD hS hl
      exact absurd hm1 (by omega)
    | succ n ih1 =>
      intro x1_4 x1_3 i1 r1 H locs ls hm1 hf1_0 hf1_1 hRi hEi hRr hEr hx1 hP hD hS hl
      refine lv_iload hx hb dX6_expression_5 (lv_at hl 0 rfl) ?_
      obtain ⟨hL9, ⟨hl1, hl2, hl3⟩, hl4, hl5⟩ := hx1
      refine lv_sipush (v := 200) hx hb dX6_expression_7 (by decide) ?_
      refine lv_icmp_ge (tgt := 132) hx hb dX6_expression_10 (by decide) (fun c_2 => by have c_2 : 200 ≤ x1_4.toInt := b_le c_2; omega) (fun c_2 => ?_)
      have c_2 : x1_4.toInt < 200 := b_nle c_2
      refine lv_iload_n hx hb dX6_expression_13 rfl (lv_at hl 4 rfl) ?_
      refine lv_if_eq (tgt := 26) hx hb dX6_expression_14 (by decide) (fun c_3 => absurd c_3 (by decide)) (fun c_3 => ?_)
      refine lv_aload_n hx hb dX6_expression_17 rfl (lv_at hl 2 rfl) ?_
      refine lv_iload_n hx hb dX6_expression_18 rfl (lv_at hl 3 rfl) ?_
      refine lv_iconst (v := 0) hx hb dX6_expression_19 (by decide) ?_
      have hF_4 := rF hD hS hA
      refine va_calli (va_runV (As := [.int p0, .int 0]) (rest := []) ⟨hx, hb, hml, hown, hT⟩ (hX1 p0 rfl i1 r1 _ hRi hRr (show 0 ≤ (i1 4).toInt ∧ (i1 4).toInt ≤ (i1 3).toInt from ⟨by omega, by rw [show (i1) 3 = i 3 from hEi 3 (by decide)]; omega⟩)) (cwV 2 hT (gV t_674 t_675 t_676 t_677 t_653) rfl rfl rfl (by decide +kernel) hR1) (rS_v hsk hS hF_4 hP hK hD (va_recv hK hP (ci := 6) (q0 := 10) rfl rfl)) rfl rfl hl.1 rfl (lv_room (Nat.le_of_ble_eq_true rfl)) dX6_expression_20 ⟨Nat.le_of_ble_eq_true rfl, Nat.le_of_ble_eq_true rfl⟩) hS (fun q _ h => hF_4 q h) hF_4 (fun r_5 u_6 t H1 locs ht hvm hr_5 hB hz1 hk1 hS => ?_)
      obtain ⟨i6, r6⟩ := u_6
      obtain ⟨hP, hK1, hD1⟩ := hB
      rw [ht] at hP
      have hD := hD1.weaken (fun k q _ h => hF_4 q.1 h)
      obtain ⟨hRi, hRr, hE1, hE2, hr_5⟩ := hr_5
      have hRi : yRi i6 := hRi
      have hE1 : mEi [4, 5, 7] i1 i6 := hE1
      have hRr : yRr r6 := hRr
      have hE2 : mEr [17, 18] r1 r6 := hE2
      have hP : va_P D vwCl (xW cy a i6 r6 q (a 20) (a 12) ++ tl) H1 := hP
      have hD : va_D A (xW cy a i6 r6 q (a 20) (a 12) ++ tl) := hD
      have hEi : mEi [4, 5, 7] _ i6 := Ei_tr hEi hE1 (by decide)
      have hEr : mEr [17, 18] _ r6 := Er_tr hEr hE2 (by decide)
      have h3r_5 : i1 3 = i 3 := (hE1 3 (by decide)).symm.trans (hEi 3 (by decide))
      have h11r_5 : r1 11 = r 11 := (hE2 11 (by decide)).symm.trans (hEr 11 (by decide))
      obtain ⟨hzr_5, ⟨⟨har_5, hbr_5⟩, hcr_5⟩, hXr_5⟩ := hr_5
      have har_5 : 0 ≤ (i6 4).toInt := har_5
      have hbr_5 : (i6 4).toInt ≤ (i 3).toInt := by rw [← h3r_5]; exact hbr_5
      try dsimp only at hXr_5
      rw [h3r_5, h11r_5] at hXr_5
      rcases hzr_5 with rfl | rfl
      · skip
        refine lv_goto (tgt := 31) hx hb dX6_expression_23 (by decide) ?_
        refine lv_istore (lv' := [(5, .int 0), (4, .int x1_4), (3, .int x1_3), (0, .ref (a 10)), (1, .int p0), (2, .int 1)]) hx hb dX6_expression_31 hl (by decide) rfl (fun ls hl => ?_)
        refine lv_iload hx hb dX6_expression_33 (lv_at hl 0 rfl) ?_
        refine lv_if_ne (tgt := 40) hx hb dX6_expression_35 (by decide) (fun c_7 => absurd (by decide) c_7) (fun c_7 => ?_)
        refine lv_iconst (v := 0) hx hb dX6_expression_38 (by decide) ?_
        subst hQ
        have hpo9 : ((0 : Int32) = 0 ∨ (0 : Int32) = 1) ∧ ((0 ≤ (i6 4).toInt ∧ (i6 4).toInt ≤ (i 3).toInt) ∧ ((0 : Int32).toInt ≠ 0 → (i 4).toInt < (i6 4).toInt ∧ i6 5 = i 5)) ∧ qX (qTX (i 3) (r 11)) 0 4 p0 qK4 qE4 True i r i6 r6 (0 : Int32) := ⟨Or.inl rfl, ⟨⟨har_5, hbr_5⟩, fun h9 => absurd rfl h9⟩, qLS_f hL9 hXr_5⟩
        exact W.zret hx hb hr rfl (fun t ht hW => ⟨⟨_, (i6, r6), rfl, ⟨hRi, hRr, hEi, hEr, hpo9⟩, by rw [ht]; exact hP, va_K.moved hW.alike hK, hD⟩, hS.F ht⟩) hS.2.2 dX6_expression_39
      · skip
        have h5r_5 : i6 5 = i 5 := (hcr_5 (by decide)).2.trans hl5
        have hcr_5 : (i1 4).toInt < (i6 4).toInt := (hcr_5 (by decide)).1
        refine lv_goto (tgt := 31) hx hb dX6_expression_23 (by decide) ?_
        refine lv_istore (lv' := [(5, .int 1), (4, .int x1_4), (3, .int x1_3), (0, .ref (a 10)), (1, .int p0), (2, .int 1)]) hx hb dX6_expression_31 hl (by decide) rfl (fun ls hl => ?_)
        refine lv_iload hx hb dX6_expression_33 (lv_at hl 0 rfl) ?_
        refine lv_if_ne (tgt := 40) hx hb dX6_expression_35 (by decide) (fun c_8 => ?_) (fun c_8 => absurd c_8 (by decide))
        refine lv_iload_n hx hb dX6_expression_40 rfl (lv_at hl 2 rfl) ?_
        refine lv_iconst (v := (-1)) hx hb dX6_expression_41 (by decide) ?_
        refine lv_icmp_eq (tgt := 55) hx hb dX6_expression_42 (by decide) (fun c_9 => ?_) (fun c_9 => ?_)
        · have c_9 : x1_3.toInt = (-1) := b_eq c_9
          refine lv_aload_n hx hb dX6_expression_55 rfl (lv_at hl 3 rfl) ?_
          refine vp_callSi (W.runV (As := []) (rest := []) ⟨hx, hb, hml, hown, hT⟩ (c_X6_peek9 l D cy a i6 r6 q tl hRi hRr (show 0 ≤ (i6 4).toInt by omega)) (cwV 0 hT (gV t_652 t_654 t_655 t_656 t_653) rfl rfl rfl (by decide +kernel) ⟨Nat.le_trans (m := 2) (Nat.le_of_ble_eq_true rfl) hF9.1, Nat.le_trans (m := 46) (Nat.le_of_ble_eq_true rfl) hF9.2⟩) (rP_v hP hK (va_recv hK hP (ci := 6) (q0 := 10) rfl rfl)) rfl rfl hl.1 rfl (lv_room (Nat.le_of_ble_eq_true rfl)) dX6_expression_56 ⟨Nat.le_of_ble_eq_true rfl, Nat.le_of_ble_eq_true rfl⟩) (fun r_10 hr_10 => ?_)
          have hqr_10 : r_10.toInt = qTX (i 3) (r 11) (i6 4).toInt.toNat := by have h9 := hr_10.1; rw [show (i6) 3 = i 3 from hEi 3 (by decide)] at h9; rw [show (r6) 11 = r 11 from hEr 11 (by decide)] at h9; exact h9
          have hr_10 : -1 ≤ r_10.toInt ∧ r_10.toInt ≤ 255 := hr_10.2
          have hM9 : qMS (qTX (i 3) (r 11)) p0 i r i6 r6 := qLS_c (i2 := i6) (r2 := r6) hL9 hXr_5 har_5 (by omega) rfl (Or.inl ⟨c_9, rfl, rfl, rfl⟩)
          have ha3 : (i6 4).toInt = (i6 4).toInt := rfl
          refine lv_istore_n (lv' := [(3, .int r_10), (5, .int 1), (4, .int x1_4), (0, .ref (a 10)), (1, .int p0), (2, .int 1)]) hx hb dX6_expression_59 rfl hl (by decide) rfl (fun ls hl => ?_)
          refine lv_iload_n hx hb dX6_expression_60 rfl (lv_at hl 5 rfl) ?_
          refine lv_if_eq (tgt := 84) hx hb dX6_expression_61 (by decide) (fun c_11 => absurd c_11 (by decide)) (fun c_11 => ?_)
          refine lv_iload_n hx hb dX6_expression_64 rfl (lv_at hl 0 rfl) ?_
          refine lv_bipush (v := 43) hx hb dX6_expression_65 (by decide) ?_
          refine lv_icmp_eq (tgt := 76) hx hb dX6_expression_67 (by decide) (fun c_12 => ?_) (fun c_12 => ?_)
          · have c_12 : r_10.toInt = 43 := b_eq c_12
            refine lv_iconst (v := 1) hx hb dX6_expression_76 (by decide) ?_
            refine lv_goto (tgt := 107) hx hb dX6_expression_77 (by decide) ?_
            refine lv_istore (lv' := [(6, .int 1), (3, .int r_10), (5, .int 1), (4, .int x1_4), (0, .ref (a 10)), (1, .int p0), (2, .int 1)]) hx hb dX6_expression_107 hl (by decide) rfl (fun ls hl => ?_)
            refine lv_iload hx hb dX6_expression_109 (lv_at hl 0 rfl) ?_
            refine lv_if_ne (tgt := 116) hx hb dX6_expression_111 (by decide) (fun c_13 => ?_) (fun c_13 => absurd c_13 (by decide))
            refine lv_aload_n hx hb dX6_expression_116 rfl (lv_at hl 4 rfl) ?_
            refine lv_dup hx hb dX6_expression_117 rfl ?_
            refine va_get (D := D) (ci := 6) (v := .int (i6 4)) (C := RX6) (T := TX6) (N := 5) hx hb hT iX6 hown hK hP 10 rfl rfl 3 (by decide) (hT _ t_648) (fun _ h9 => h9) rfl dX6_expression_118 ?_
            refine lv_iconst (v := 1) hx hb dX6_expression_121 (by decide) ?_
            refine lv_iadd hx hb dX6_expression_122 ?_
            refine lv_topi (fun v_14 ev_14 => ?_)
            have hv_14 : v_14.toInt = (i6 4).toInt + 1 := by rw [ev_14]; have := b_rg (i6 4); exact i_add (a := (i6 4).toInt) (b := 1) rfl rfl (by omega) (by omega)
            refine va_put (D := D) (ci := 6) (v := .int v_14) (ty := .int) (C := RX6) (T := TX6) (N := 5) hx hb hT iX6 tyX6 tyX6_ok nmX6 hown hK hP hD hS 10 rfl rfl 3 (by decide) (hT _ t_648) (fun _ h9 => h9) rfl (by decide +kernel) rfl rfl (Nat.le_of_ble_eq_true rfl) dX6_expression_123 (fun H locs hP hD hS => ?_)
            rw [zP4] at hP hD
            have hRi := Yi_upd hRi 4 v_14 (b_rg _)
            have hEi := Ei_upd hEi 4 v_14 (by decide)
            obtain ⟨x_15, ex_15⟩ : ∃ y : Int32, y = x1_4 + 1 := ⟨_, rfl⟩
            refine lv_iinc (v := x_15) (lv' := [(4, .int x_15), (6, .int 1), (3, .int r_10), (5, .int 1), (0, .ref (a 10)), (1, .int p0), (2, .int 1)]) hx hb dX6_expression_126 hl (k := 3) rfl (by rw [ex_15]; rfl) (by decide) rfl (fun ls hl => ?_)
            have hx_15 : x_15.toInt = x1_4.toInt + 1 := by rw [ex_15]; have := b_rg x1_4; exact i_add (a := x1_4.toInt) (b := 1) rfl rfl (by omega) (by omega)
            refine lv_goto (tgt := 5) hx hb dX6_expression_129 (by decide) ?_
            have hch : r_10.toInt = 43 := by omega
            have hlt9 := qTX_lt (e := i 3) (t := r 11) (p := (i6 4).toInt.toNat) (by omega)
            have hL8 : qLS (qTX (i 3) (r 11)) p0 i r (upd i6 4 v_14) r6 r_10 := qLS_s hM9 (by rw [hch]; decide) (by rw [hch]; decide) hqr_10 (by omega) (by show v_14.toInt = _; omega) rfl rfl rfl
            exact ih1 x_15 r_10 (upd i6 4 v_14) r6 _ _ _ (by first | omega | (simp only [Int.toNat]; omega)) (by first | omega | decide) (by first | omega | decide) hRi hEi hRr hEr ⟨hL8, ⟨by show 0 ≤ v_14.toInt; omega, by show v_14.toInt ≤ _; omega, by show _ ≤ v_14.toInt; omega⟩, by show _ ≤ v_14.toInt; omega, h5r_5⟩ hP hD hS (lv_sub hl [0, 2, 4, 5, 6] rfl)
          · have c_12 : r_10.toInt ≠ 43 := b_ne c_12
            refine lv_iload_n hx hb dX6_expression_70 rfl (lv_at hl 0 rfl) ?_
            refine lv_bipush (v := 45) hx hb dX6_expression_71 (by decide) ?_
            refine lv_icmp_ne (tgt := 80) hx hb dX6_expression_73 (by decide) (fun c_16 => ?_) (fun c_16 => ?_)
            · have c_16 : r_10.toInt ≠ 45 := b_ne c_16
              refine lv_iconst (v := 0) hx hb dX6_expression_80 (by decide) ?_
              refine lv_goto (tgt := 107) hx hb dX6_expression_81 (by decide) ?_
              refine lv_istore (lv' := [(6, .int 0), (3, .int r_10), (5, .int 1), (4, .int x1_4), (0, .ref (a 10)), (1, .int p0), (2, .int 1)]) hx hb dX6_expression_107 hl (by decide) rfl (fun ls hl => ?_)
              refine lv_iload hx hb dX6_expression_109 (lv_at hl 0 rfl) ?_
              refine lv_if_ne (tgt := 116) hx hb dX6_expression_111 (by decide) (fun c_17 => absurd (by decide) c_17) (fun c_17 => ?_)
              refine lv_iconst (v := 1) hx hb dX6_expression_114 (by decide) ?_
              subst hQ
              have hno : ¬ (2 ≤ qSum (qTX (i 3) (r 11) (i6 4).toInt.toNat) ∧ qSum (qTX (i 3) (r 11) (i6 4).toInt.toNat) ≤ 3) := by rw [← hqr_10]; exact qSum_np (by omega) (by omega)
              have hpo9 : ((1 : Int32) = 0 ∨ (1 : Int32) = 1) ∧ ((0 ≤ (i6 4).toInt ∧ (i6 4).toInt ≤ (i 3).toInt) ∧ ((1 : Int32).toInt ≠ 0 → (i 4).toInt < (i6 4).toInt ∧ i6 5 = i 5)) ∧ qX (qTX (i 3) (r 11)) 0 4 p0 qK4 qE4 True i r i6 r6 (1 : Int32) := ⟨Or.inr rfl, ⟨⟨by omega, by omega⟩, (fun _ => ⟨by omega, h5r_5⟩)⟩, qLS_e hM9 hno⟩
              exact W.zret hx hb hr rfl (fun t ht hW => ⟨⟨_, (i6, r6), rfl, ⟨hRi, hRr, hEi, hEr, hpo9⟩, by rw [ht]; exact hP, va_K.moved hW.alike hK, hD⟩, hS.F ht⟩) hS.2.2 dX6_expression_115
            · have c_16 : r_10.toInt = 45 := b_nne c_16
              refine lv_iconst (v := 1) hx hb dX6_expression_76 (by decide) ?_
              refine lv_goto (tgt := 107) hx hb dX6_expression_77 (by decide) ?_
              refine lv_istore (lv' := [(6, .int 1), (3, .int r_10), (5, .int 1), (4, .int x1_4), (0, .ref (a 10)), (1, .int p0), (2, .int 1)]) hx hb dX6_expression_107 hl (by decide) rfl (fun ls hl => ?_)
              refine lv_iload hx hb dX6_expression_109 (lv_at hl 0 rfl) ?_
              refine lv_if_ne (tgt := 116) hx hb dX6_expression_111 (by decide) (fun c_18 => ?_) (fun c_18 => absurd c_18 (by decide))
              refine lv_aload_n hx hb dX6_expression_116 rfl (lv_at hl 4 rfl) ?_
              refine lv_dup hx hb dX6_expression_117 rfl ?_
              refine va_get (D := D) (ci := 6) (v := .int (i6 4)) (C := RX6) (T := TX6) (N := 5) hx hb hT iX6 hown hK hP 10 rfl rfl 3 (by decide) (hT _ t_648) (fun _ h9 => h9) rfl dX6_expression_118 ?_
              refine lv_iconst (v := 1) hx hb dX6_expression_121 (by decide) ?_
              refine lv_iadd hx hb dX6_expression_122 ?_
              refine lv_topi (fun v_19 ev_19 => ?_)
              have hv_19 : v_19.toInt = (i6 4).toInt + 1 := by rw [ev_19]; have := b_rg (i6 4); exact i_add (a := (i6 4).toInt) (b := 1) rfl rfl (by omega) (by omega)
              refine va_put (D := D) (ci := 6) (v := .int v_19) (ty := .int) (C := RX6) (T := TX6) (N := 5) hx hb hT iX6 tyX6 tyX6_ok nmX6 hown hK hP hD hS 10 rfl rfl 3 (by decide) (hT _ t_648) (fun _ h9 => h9) rfl (by decide +kernel) rfl rfl (Nat.le_of_ble_eq_true rfl) dX6_expression_123 (fun H locs hP hD hS => ?_)
              rw [zP4] at hP hD
              have hRi := Yi_upd hRi 4 v_19 (b_rg _)
              have hEi := Ei_upd hEi 4 v_19 (by decide)
              obtain ⟨x_20, ex_20⟩ : ∃ y : Int32, y = x1_4 + 1 := ⟨_, rfl⟩
              refine lv_iinc (v := x_20) (lv' := [(4, .int x_20), (6, .int 1), (3, .int r_10), (5, .int 1), (0, .ref (a 10)), (1, .int p0), (2, .int 1)]) hx hb dX6_expression_126 hl (k := 3) rfl (by rw [ex_20]; rfl) (by decide) rfl (fun ls hl => ?_)
              have hx_20 : x_20.toInt = x1_4.toInt + 1 := by rw [ex_20]; have := b_rg x1_4; exact i_add (a := x1_4.toInt) (b := 1) rfl rfl (by omega) (by omega)
              refine lv_goto (tgt := 5) hx hb dX6_expression_129 (by decide) ?_
              have hch : r_10.toInt = 45 := by omega
              have hlt9 := qTX_lt (e := i 3) (t := r 11) (p := (i6 4).toInt.toNat) (by omega)
              have hL8 : qLS (qTX (i 3) (r 11)) p0 i r (upd i6 4 v_19) r6 r_10 := qLS_s hM9 (by rw [hch]; decide) (by rw [hch]; decide) hqr_10 (by omega) (by show v_19.toInt = _; omega) rfl rfl rfl
              exact ih1 x_20 r_10 (upd i6 4 v_19) r6 _ _ _ (by first | omega | (simp only [Int.toNat]; omega)) (by first | omega | decide) (by first | omega | decide) hRi hEi hRr hEr ⟨hL8, ⟨by show 0 ≤ v_19.toInt; omega, by show v_19.toInt ≤ _; omega, by show _ ≤ v_19.toInt; omega⟩, by show _ ≤ v_19.toInt; omega, h5r_5⟩ hP hD hS (lv_sub hl [0, 2, 4, 5, 6] rfl)
        · have c_9 : x1_3.toInt ≠ (-1) := b_ne c_9
          refine lv_aload_n hx hb dX6_expression_45 rfl (lv_at hl 3 rfl) ?_
          refine va_get (D := D) (ci := 6) (v := .ref (a 12)) (C := RX6) (T := TX6) (N := 5) hx hb hT iX6 hown hK hP 10 rfl rfl 0 (by decide) (hT _ t_661) (fun _ h9 => h9) rfl dX6_expression_46 ?_
          refine lv_iload_n hx hb dX6_expression_49 rfl (lv_at hl 2 rfl) ?_
          refine lv_iconst (v := 0) hx hb dX6_expression_50 (by decide) ?_
          have hF_21 := rF hD hS hA
          refine va_calli (va_runV (As := [.int x1_3, .int 0]) (rest := []) ⟨hx, hb, hml, hown, hT⟩ (c_X5_add9 l D cy a i6 r6 q tl x1_3 0 _ hRi hRr) (cwV 2 hT (gV t_662 t_663 t_664 t_665 t_367) rfl rfl rfl (by decide +kernel) ⟨Nat.le_trans (m := 2) (Nat.le_of_ble_eq_true rfl) hF9.1, Nat.le_trans (m := 46) (Nat.le_of_ble_eq_true rfl) hF9.2⟩) (rQ_v hP hK hD (va_recv hK hP (ci := 5) (q0 := 12) rfl rfl)) rfl rfl hl.1 rfl (lv_room (Nat.le_of_ble_eq_true rfl)) dX6_expression_51 ⟨Nat.le_of_ble_eq_true rfl, Nat.le_of_ble_eq_true rfl⟩) hS (fun q _ h => hF_21 q h) hF_21 (fun r_22 u_23 t H1 locs ht hvm hr_22 hB hz1 hk1 hS => ?_)
          obtain ⟨i23, r23⟩ := u_23
          obtain ⟨hP, hK1, hD1⟩ := hB
          rw [ht] at hP
          have hD := hD1.weaken (fun k q _ h => hF_21 q.1 h)
          obtain ⟨hRi, hRr, hE1, hE2, hr_22⟩ := hr_22
          have hRi : yRi i23 := hRi
          have hE1 : mEi [7] i6 i23 := hE1
          have hRr : yRr r23 := hRr
          have hE2 : mEr [17, 18] r6 r23 := hE2
          have hP : va_P D vwCl (xW cy a i23 r23 q (a 20) (a 12) ++ tl) H1 := hP
          have hD : va_D A (xW cy a i23 r23 q (a 20) (a 12) ++ tl) := hD
          have hEi : mEi [4, 5, 7] _ i23 := Ei_tr hEi hE1 (by decide)
          have hEr : mEr [17, 18] _ r23 := Er_tr hEr hE2 (by decide)
          obtain ⟨hZr_22, hr_22⟩ := hr_22
          have hZr_22 : -1 ≤ r_22.toInt ∧ r_22.toInt ≤ 200 := hZr_22
          have hAr_22 : qAdd i6 r6 i23 r23 x1_3 (0 : Int32) := fun h9 => (hr_22 h9).2
          have hJr_22 : (i6 7).toInt < 200 → r_22.toInt = (i6 7).toInt := fun h9 => congrArg Int32.toInt (hr_22 h9).1
          have hBr_22 : i23 4 = (i6 4) := hE1 4 (by decide)
          have hBtr_22 : (i23 4).toInt = (i6 4).toInt := congrArg Int32.toInt hBr_22
          clear hr_22
          have hr_22 : True := trivial
          have h5r_22 : i23 5 = i 5 := (hE1 5 (by decide)).trans h5r_5
          refine lv_pop hx hb dX6_expression_54 rfl ?_
          refine lv_aload_n hx hb dX6_expression_55 rfl (lv_at hl 3 rfl) ?_
          refine vp_callSi (W.runV (As := []) (rest := []) ⟨hx, hb, hml, hown, hT⟩ (c_X6_peek9 l D cy a i23 r23 q tl hRi hRr (show 0 ≤ (i23 4).toInt by omega)) (cwV 0 hT (gV t_652 t_654 t_655 t_656 t_653) rfl rfl rfl (by decide +kernel) ⟨Nat.le_trans (m := 2) (Nat.le_of_ble_eq_true rfl) hF9.1, Nat.le_trans (m := 46) (Nat.le_of_ble_eq_true rfl) hF9.2⟩) (rP_v hP hK (va_recv hK hP (ci := 6) (q0 := 10) rfl rfl)) rfl rfl hl.1 rfl (lv_room (Nat.le_of_ble_eq_true rfl)) dX6_expression_56 ⟨Nat.le_of_ble_eq_true rfl, Nat.le_of_ble_eq_true rfl⟩) (fun r_24 hr_24 => ?_)
          have hqr_24 : r_24.toInt = qTX (i 3) (r 11) (i23 4).toInt.toNat := by have h9 := hr_24.1; rw [show (i23) 3 = i 3 from hEi 3 (by decide)] at h9; rw [show (r23) 11 = r 11 from hEr 11 (by decide)] at h9; exact h9
          have hr_24 : -1 ≤ r_24.toInt ∧ r_24.toInt ≤ 255 := hr_24.2
          have hM9 : qMS (qTX (i 3) (r 11)) p0 i r i23 r23 := qLS_c (i2 := i6) (r2 := r6) hL9 hXr_5 har_5 (by omega) hBr_22 (Or.inr ⟨c_9, hAr_22⟩)
          have ha3 : (i23 4).toInt = (i6 4).toInt := by rw [hBr_22]
          refine lv_istore_n (lv' := [(3, .int r_24), (5, .int 1), (4, .int x1_4), (0, .ref (a 10)), (1, .int p0), (2, .int 1)]) hx hb dX6_expression_59 rfl hl (by decide) rfl (fun ls hl => ?_)
          refine lv_iload_n hx hb dX6_expression_60 rfl (lv_at hl 5 rfl) ?_
          refine lv_if_eq (tgt := 84) hx hb dX6_expression_61 (by decide) (fun c_25 => absurd c_25 (by decide)) (fun c_25 => ?_)
          refine lv_iload_n hx hb dX6_expression_64 rfl (lv_at hl 0 rfl) ?_
          refine lv_bipush (v := 43) hx hb dX6_expression_65 (by decide) ?_
          refine lv_icmp_eq (tgt := 76) hx hb dX6_expression_67 (by decide) (fun c_26 => ?_) (fun c_26 => ?_)
          · have c_26 : r_24.toInt = 43 := b_eq c_26
            refine lv_iconst (v := 1) hx hb dX6_expression_76 (by decide) ?_
            refine lv_goto (tgt := 107) hx hb dX6_expression_77 (by decide) ?_
            refine lv_istore (lv' := [(6, .int 1), (3, .int r_24), (5, .int 1), (4, .int x1_4), (0, .ref (a 10)), (1, .int p0), (2, .int 1)]) hx hb dX6_expression_107 hl (by decide) rfl (fun ls hl => ?_)
            refine lv_iload hx hb dX6_expression_109 (lv_at hl 0 rfl) ?_
            refine lv_if_ne (tgt := 116) hx hb dX6_expression_111 (by decide) (fun c_27 => ?_) (fun c_27 => absurd c_27 (by decide))
            refine lv_aload_n hx hb dX6_expression_116 rfl (lv_at hl 4 rfl) ?_
            refine lv_dup hx hb dX6_expression_117 rfl ?_
            refine va_get (D := D) (ci := 6) (v := .int (i23 4)) (C := RX6) (T := TX6) (N := 5) hx hb hT iX6 hown hK hP 10 rfl rfl 3 (by decide) (hT _ t_648) (fun _ h9 => h9) rfl dX6_expression_118 ?_
            refine lv_iconst (v := 1) hx hb dX6_expression_121 (by decide) ?_
            refine lv_iadd hx hb dX6_expression_122 ?_
            refine lv_topi (fun v_28 ev_28 => ?_)
            have hv_28 : v_28.toInt = (i23 4).toInt + 1 := by rw [ev_28]; have := b_rg (i23 4); exact i_add (a := (i23 4).toInt) (b := 1) rfl rfl (by omega) (by omega)
            refine va_put (D := D) (ci := 6) (v := .int v_28) (ty := .int) (C := RX6) (T := TX6) (N := 5) hx hb hT iX6 tyX6 tyX6_ok nmX6 hown hK hP hD hS 10 rfl rfl 3 (by decide) (hT _ t_648) (fun _ h9 => h9) rfl (by decide +kernel) rfl rfl (Nat.le_of_ble_eq_true rfl) dX6_expression_123 (fun H locs hP hD hS => ?_)
            rw [zP4] at hP hD
            have hRi := Yi_upd hRi 4 v_28 (b_rg _)
            have hEi := Ei_upd hEi 4 v_28 (by decide)
            obtain ⟨x_29, ex_29⟩ : ∃ y : Int32, y = x1_4 + 1 := ⟨_, rfl⟩
            refine lv_iinc (v := x_29) (lv' := [(4, .int x_29), (6, .int 1), (3, .int r_24), (5, .int 1), (0, .ref (a 10)), (1, .int p0), (2, .int 1)]) hx hb dX6_expression_126 hl (k := 3) rfl (by rw [ex_29]; rfl) (by decide) rfl (fun ls hl => ?_)
            have hx_29 : x_29.toInt = x1_4.toInt + 1 := by rw [ex_29]; have := b_rg x1_4; exact i_add (a := x1_4.toInt) (b := 1) rfl rfl (by omega) (by omega)
            refine lv_goto (tgt := 5) hx hb dX6_expression_129 (by decide) ?_
            have hch : r_24.toInt = 43 := by omega
            have hlt9 := qTX_lt (e := i 3) (t := r 11) (p := (i23 4).toInt.toNat) (by omega)
            have hL8 : qLS (qTX (i 3) (r 11)) p0 i r (upd i23 4 v_28) r23 r_24 := qLS_s hM9 (by rw [hch]; decide) (by rw [hch]; decide) hqr_24 (by omega) (by show v_28.toInt = _; omega) rfl rfl rfl
            exact ih1 x_29 r_24 (upd i23 4 v_28) r23 _ _ _ (by first | omega | (simp only [Int.toNat]; omega)) (by first | omega | decide) (by first | omega | decide) hRi hEi hRr hEr ⟨hL8, ⟨by show 0 ≤ v_28.toInt; omega, by show v_28.toInt ≤ _; omega, by show _ ≤ v_28.toInt; omega⟩, by show _ ≤ v_28.toInt; omega, h5r_22⟩ hP hD hS (lv_sub hl [0, 2, 4, 5, 6] rfl)
          · have c_26 : r_24.toInt ≠ 43 := b_ne c_26
            refine lv_iload_n hx hb dX6_expression_70 rfl (lv_at hl 0 rfl) ?_
            refine lv_bipush (v := 45) hx hb dX6_expression_71 (by decide) ?_
            refine lv_icmp_ne (tgt := 80) hx hb dX6_expression_73 (by decide) (fun c_30 => ?_) (fun c_30 => ?_)
            · have c_30 : r_24.toInt ≠ 45 := b_ne c_30
              refine lv_iconst (v := 0) hx hb dX6_expression_80 (by decide) ?_
              refine lv_goto (tgt := 107) hx hb dX6_expression_81 (by decide) ?_
              refine lv_istore (lv' := [(6, .int 0), (3, .int r_24), (5, .int 1), (4, .int x1_4), (0, .ref (a 10)), (1, .int p0), (2, .int 1)]) hx hb dX6_expression_107 hl (by decide) rfl (fun ls hl => ?_)
              refine lv_iload hx hb dX6_expression_109 (lv_at hl 0 rfl) ?_
              refine lv_if_ne (tgt := 116) hx hb dX6_expression_111 (by decide) (fun c_31 => absurd (by decide) c_31) (fun c_31 => ?_)
              refine lv_iconst (v := 1) hx hb dX6_expression_114 (by decide) ?_
              subst hQ
              have hno : ¬ (2 ≤ qSum (qTX (i 3) (r 11) (i23 4).toInt.toNat) ∧ qSum (qTX (i 3) (r 11) (i23 4).toInt.toNat) ≤ 3) := by rw [← hqr_24]; exact qSum_np (by omega) (by omega)
              have hpo9 : ((1 : Int32) = 0 ∨ (1 : Int32) = 1) ∧ ((0 ≤ (i23 4).toInt ∧ (i23 4).toInt ≤ (i 3).toInt) ∧ ((1 : Int32).toInt ≠ 0 → (i 4).toInt < (i23 4).toInt ∧ i23 5 = i 5)) ∧ qX (qTX (i 3) (r 11)) 0 4 p0 qK4 qE4 True i r i23 r23 (1 : Int32) := ⟨Or.inr rfl, ⟨⟨by omega, by omega⟩, (fun _ => ⟨by omega, h5r_22⟩)⟩, qLS_e hM9 hno⟩
              exact W.zret hx hb hr rfl (fun t ht hW => ⟨⟨_, (i23, r23), rfl, ⟨hRi, hRr, hEi, hEr, hpo9⟩, by rw [ht]; exact hP, va_K.moved hW.alike hK, hD⟩, hS.F ht⟩) hS.2.2 dX6_expression_115
            · have c_30 : r_24.toInt = 45 := b_nne c_30
              refine lv_iconst (v := 1) hx hb dX6_expression_76 (by decide) ?_
              refine lv_goto (tgt := 107) hx hb dX6_expression_77 (by decide) ?_
              refine lv_istore (lv' := [(6, .int 1), (3, .int r_24), (5, .int 1), (4, .int x1_4), (0, .ref (a 10)), (1, .int p0), (2, .int 1)]) hx hb dX6_expression_107 hl (by decide) rfl (fun ls hl => ?_)
              refine lv_iload hx hb dX6_expression_109 (lv_at hl 0 rfl) ?_
              refine lv_if_ne (tgt := 116) hx hb dX6_expression_111 (by decide) (fun c_32 => ?_) (fun c_32 => absurd c_32 (by decide))
              refine lv_aload_n hx hb dX6_expression_116 rfl (lv_at hl 4 rfl) ?_
              refine lv_dup hx hb dX6_expression_117 rfl ?_
              refine va_get (D := D) (ci := 6) (v := .int (i23 4)) (C := RX6) (T := TX6) (N := 5) hx hb hT iX6 hown hK hP 10 rfl rfl 3 (by decide) (hT _ t_648) (fun _ h9 => h9) rfl dX6_expression_118 ?_
              refine lv_iconst (v := 1) hx hb dX6_expression_121 (by decide) ?_
              refine lv_iadd hx hb dX6_expression_122 ?_
              refine lv_topi (fun v_33 ev_33 => ?_)
              have hv_33 : v_33.toInt = (i23 4).toInt + 1 := by rw [ev_33]; have := b_rg (i23 4); exact i_add (a := (i23 4).toInt) (b := 1) rfl rfl (by omega) (by omega)
              refine va_put (D := D) (ci := 6) (v := .int v_33) (ty := .int) (C := RX6) (T := TX6) (N := 5) hx hb hT iX6 tyX6 tyX6_ok nmX6 hown hK hP hD hS 10 rfl rfl 3 (by decide) (hT _ t_648) (fun _ h9 => h9) rfl (by decide +kernel) rfl rfl (Nat.le_of_ble_eq_true rfl) dX6_expression_123 (fun H locs hP hD hS => ?_)
              rw [zP4] at hP hD
              have hRi := Yi_upd hRi 4 v_33 (b_rg _)
              have hEi := Ei_upd hEi 4 v_33 (by decide)
              obtain ⟨x_34, ex_34⟩ : ∃ y : Int32, y = x1_4 + 1 := ⟨_, rfl⟩
              refine lv_iinc (v := x_34) (lv' := [(4, .int x_34), (6, .int 1), (3, .int r_24), (5, .int 1), (0, .ref (a 10)), (1, .int p0), (2, .int 1)]) hx hb dX6_expression_126 hl (k := 3) rfl (by rw [ex_34]; rfl) (by decide) rfl (fun ls hl => ?_)
              have hx_34 : x_34.toInt = x1_4.toInt + 1 := by rw [ex_34]; have := b_rg x1_4; exact i_add (a := x1_4.toInt) (b := 1) rfl rfl (by omega) (by omega)
              refine lv_goto (tgt := 5) hx hb dX6_expression_129 (by decide) ?_
              have hch : r_24.toInt = 45 := by omega
              have hlt9 := qTX_lt (e := i 3) (t := r 11) (p := (i23 4).toInt.toNat) (by omega)
              have hL8 : qLS (qTX (i 3) (r 11)) p0 i r (upd i23 4 v_33) r23 r_24 := qLS_s hM9 (by rw [hch]; decide) (by rw [hch]; decide) hqr_24 (by omega) (by show v_33.toInt = _; omega) rfl rfl rfl
              exact ih1 x_34 r_24 (upd i23 4 v_33) r23 _ _ _ (by first | omega | (simp only [Int.toNat]; omega)) (by first | omega | decide) (by first | omega | decide) hRi hEi hRr hEr ⟨hL8, ⟨by show 0 ≤ v_33.toInt; omega, by show v_33.toInt ≤ _; omega, by show _ ≤ v_33.toInt; omega⟩, by show _ ≤ v_33.toInt; omega, h5r_22⟩ hP hD hS (lv_sub hl [0, 2, 4, 5, 6] rfl)
  exact loop_1 _ 0 (-1) i r _ _ _ (Nat.lt_succ_self _) (by first | omega | decide) (by first | omega | decide) hRi hEi hRr hEr ⟨qLS_0 (by decide), ⟨h4.1, h4.2, by omega⟩, by have h9 : (0 : Int32).toInt = 0 := rfl; omega, rfl⟩ hP hD hS hl
set_option maxHeartbeats 4000000 in
set_option maxRecDepth 100000 in
theorem c_X6_piece_kq (l : Launch) (D : va_G) (cy : Nat → ClassId) (a : Nat → Nat) (i : Nat → Int32) (r : Nat → Nat → Int32) (q : Nat → Option Nat) (tl : va_W) (kq vq : Nat) (p0 : Int32) (sz : Nat) (hRi : yRi i) (hRr : yRr r) (h4 : 0 ≤ (i 4).toInt ∧ (i 4).toInt ≤ (i 3).toInt) (F9 L9 F1 L1 F2 L2 F3 L3 : Nat) (hF9 : 3 ≤ F9 ∧ 66 ≤ L9) (q0 : 1 ≤ p0.toInt ∧ p0.toInt ≤ 6) (hX1 : ∀ k9 : Int32, k9.toInt = p0.toInt + 1 → k9.toInt ≤ 6 → ∀ (i : Nat → Int32) (r : Nat → Nat → Int32) (sz : Nat) (hRi : yRi i) (hRr : yRr r) (h4 : 0 ≤ (i 4).toInt ∧ (i 4).toInt ≤ (i 3).toInt), Met l yX6_condition (Cond.code yX6_condition cX6_condition 6 (some .boolean) :: gT) { frames := F1, cells := 0, slots := 0, locals := L1 } (va_Pc [.ref (a 10), .int k9, .int 124] (rS D cy (xW cy a i r q (a 20) (a 12) ++ tl) sz kq vq)) (va_Qi (fun (z : Int32) (u : (Nat → Int32) × (Nat → Nat → Int32)) => yRi u.1 ∧ yRr u.2 ∧ mEi [4, 5, 7] i u.1 ∧ mEr [17, 18] r u.2 ∧ ((z = 0 ∨ z = 1) ∧ ((0 ≤ (u.1 4).toInt ∧ (u.1 4).toInt ≤ (i 3).toInt) ∧ (z.toInt ≠ 0 → (i 4).toInt < (u.1 4).toInt ∧ u.1 5 = i 5)) ∧ qX (qTX (i 3) (r 11)) 8 10 k9 qKo qEo False i r u.1 u.2 z)) (fun (u : (Nat → Int32) × (Nat → Nat → Int32)) t => va_P D vwCl (xW cy a u.1 u.2 q (a 20) (a 12) ++ tl) t.heap ∧ va_K D vwCl (vT cy) t ∧ va_D (va_A (xW cy a i r q (a 20) (a 12) ++ tl) sz) (xW cy a u.1 u.2 q (a 20) (a 12) ++ tl)) (va_A (xW cy a i r q (a 20) (a 12) ++ tl) sz)) 0 0 (va_A (xW cy a i r q (a 20) (a 12) ++ tl) sz)) (hR1 : F1 + 1 ≤ F9 ∧ 8 + (6 + 11) + L1 ≤ L9) (hX2 : ∀ k9 : Int32, k9.toInt = p0.toInt + 1 → k9.toInt ≤ 6 → ∀ (i : Nat → Int32) (r : Nat → Nat → Int32) (sz : Nat) (hRi : yRi i) (hRr : yRr r) (h4 : 0 ≤ (i 4).toInt ∧ (i 4).toInt ≤ (i 3).toInt), Met l yX6_piece (Cond.code yX6_piece cX6_piece 4 (some .boolean) :: gT) { frames := F2, cells := 0, slots := 0, locals := L2 } (va_Pc [.ref (a 10), .int k9] (rS D cy (xW cy a i r q (a 20) (a 12) ++ tl) sz kq vq)) (va_Qi (fun (z : Int32) (u : (Nat → Int32) × (Nat → Nat → Int32)) => yRi u.1 ∧ yRr u.2 ∧ mEi [4, 5, 7] i u.1 ∧ mEr [17, 18] r u.2 ∧ ((z = 0 ∨ z = 1) ∧ ((0 ≤ (u.1 4).toInt ∧ (u.1 4).toInt ≤ (i 3).toInt) ∧ (z.toInt ≠ 0 → (i 4).toInt < (u.1 4).toInt ∧ u.1 5 = i 5)) ∧ qX (qTX (i 3) (r 11)) 8 7 k9 qK4 qTt False i r u.1 u.2 z)) (fun (u : (Nat → Int32) × (Nat → Nat → Int32)) t => va_P D vwCl (xW cy a u.1 u.2 q (a 20) (a 12) ++ tl) t.heap ∧ va_K D vwCl (vT cy) t ∧ va_D (va_A (xW cy a i r q (a 20) (a 12) ++ tl) sz) (xW cy a u.1 u.2 q (a 20) (a 12) ++ tl)) (va_A (xW cy a i r q (a 20) (a 12) ++ tl) sz)) 0 0 (va_A (xW cy a i r q (a 20) (a 12) ++ tl) sz)) (hR2 : F2 + 1 ≤ F9 ∧ 8 + (4 + 11) + L2 ≤ L9) (hX3 : ∀ k9 : Int32, k9 = p0 → ∀ (i : Nat → Int32) (r : Nat → Nat → Int32) (sz : Nat) (hRi : yRi i) (hRr : yRr r) (h4 : 0 ≤ (i 4).toInt ∧ (i 4).toInt ≤ (i 3).toInt), Met l yX6_expression (Cond.code yX6_expression cX6_expression 7 (some .boolean) :: gT) { frames := F3, cells := 0, slots := 0, locals := L3 } (va_Pc [.ref (a 10), .int k9, .int 1] (rS D cy (xW cy a i r q (a 20) (a 12) ++ tl) sz kq vq)) (va_Qi (fun (z : Int32) (u : (Nat → Int32) × (Nat → Nat → Int32)) => yRi u.1 ∧ yRr u.2 ∧ mEi [4, 5, 7] i u.1 ∧ mEr [17, 18] r u.2 ∧ ((z = 0 ∨ z = 1) ∧ ((0 ≤ (u.1 4).toInt ∧ (u.1 4).toInt ≤ (i 3).toInt) ∧ (z.toInt ≠ 0 → (i 4).toInt < (u.1 4).toInt ∧ u.1 5 = i 5)) ∧ qX (qTX (i 3) (r 11)) 0 4 k9 qK4 qE4 True i r u.1 u.2 z)) (fun (u : (Nat → Int32) × (Nat → Nat → Int32)) t => va_P D vwCl (xW cy a u.1 u.2 q (a 20) (a 12) ++ tl) t.heap ∧ va_K D vwCl (vT cy) t ∧ va_D (va_A (xW cy a i r q (a 20) (a 12) ++ tl) sz) (xW cy a u.1 u.2 q (a 20) (a 12) ++ tl)) (va_A (xW cy a i r q (a 20) (a 12) ++ tl) sz)) 0 0 (va_A (xW cy a i r q (a 20) (a 12) ++ tl) sz)) (hR3 : F3 + 1 ≤ F9 ∧ 8 + (7 + 11) + L3 ≤ L9) : Met l yX6_piece (Cond.code yX6_piece cX6_piece 4 (some .boolean) :: gT) { frames := F9, cells := 0, slots := 0, locals := L9 } (va_Pc [.ref (a 10), .int p0] (rS D cy (xW cy a i r q (a 20) (a 12) ++ tl) sz kq vq)) (va_Qi (fun (z : Int32) (u : (Nat → Int32) × (Nat → Nat → Int32)) => yRi u.1 ∧ yRr u.2 ∧ mEi [4, 5, 7] i u.1 ∧ mEr [17, 18] r u.2 ∧ ((z = 0 ∨ z = 1) ∧ ((0 ≤ (u.1 4).toInt ∧ (u.1 4).toInt ≤ (i 3).toInt) ∧ (z.toInt ≠ 0 → (i 4).toInt < (u.1 4).toInt ∧ u.1 5 = i 5)) ∧ qX (qTX (i 3) (r 11)) 8 7 p0 qK4 qTt False i r u.1 u.2 z)) (fun (u : (Nat → Int32) × (Nat → Nat → Int32)) t => va_P D vwCl (xW cy a u.1 u.2 q (a 20) (a 12) ++ tl) t.heap ∧ va_K D vwCl (vT cy) t ∧ va_D (va_A (xW cy a i r q (a 20) (a 12) ++ tl) sz) (xW cy a u.1 u.2 q (a 20) (a 12) ++ tl)) (va_A (xW cy a i r q (a 20) (a 12) ++ tl) sz)) 0 0 (va_A (xW cy a i r q (a 20) (a 12) ++ tl) sz) := by
  refine Met.ofQ (cc := cX6_piece) (maxL := 4) (ret := (some .boolean)) (by decide) rfl ?_
  intro p e s m args below meth c s₁ B hml hv Q hQ
  obtain ⟨rfl, hsk, hsz, hP, hK, hD0⟩ := hv
  have hx := B.exec
  have hb := B.bytes
  have hr := B.returns
  have hlocks := B.notSynchronized
  have hT : ∀ w ∈ gT, w.before _ s = true := fun w h => atoms_spec (ws := (Cond.code yX6_piece cX6_piece 4 (some .boolean) :: gT)) B.pre w (List.mem_cons_of_mem _ h)
  have hown : s.vm.findClass RX6 = some m.cls := findClass_of_methodNamed B.named
  subst hsz
  have hD := hD0.self (sz := s.heap.size)
  generalize hAe : va_A (xW cy a i r q (a 20) (a 12) ++ tl) s.heap.size = A at hD hQ hsk
  have hA : ∀ q : Nat, s.heap.size ≤ q → A q := fun q h => by rw [← hAe]; exact Or.inr h
  have hS : va_S A s.heap s.heap [] := va_S.rf
  have hl := lv_entry ([.ref (a 10), .int p0]) (n := 4) (Nat.le_of_ble_eq_true rfl)
  rw [lg_entry_eq]
  generalize (lg_sl ([.ref (a 10), .int p0]) ++ List.replicate (4 - (lg_sl ([.ref (a 10), .int p0])).length) Slot.unset).toArray = ls at hl ⊢
  have hl : lv_has ls 4 [(0, .ref (a 10)), (1, .int p0)] := hl
  have hEi : mEi [4, 5, 7] i i := Ei_rf
  have hEr : mEr [17, 18] r r := Er_rf
  have hg3 : 0 ≤ (i 3).toInt ∧ (i 3).toInt ≤ 200 := hRi 3
  refine lv_aload_n hx hb dX6_piece_0 rfl (lv_at hl 0 rfl) ?_
  refine vp_callSi (W.runV (As := []) (rest := []) ⟨hx, hb, hml, hown, hT⟩ (c_X6_peek9 l D cy a i r q tl hRi hRr (show 0 ≤ (i 4).toInt by omega)) (cwV 0 hT (gV t_652 t_654 t_655 t_656 t_653) rfl rfl rfl (by decide +kernel) ⟨Nat.le_trans (m := 3) (Nat.le_of_ble_eq_true rfl) hF9.1, Nat.le_trans (m := 66) (Nat.le_of_ble_eq_true rfl) hF9.2⟩) (rP_v hP hK (va_recv hK hP (ci := 6) (q0 := 10) rfl rfl)) rfl rfl hl.1 rfl (lv_room (Nat.le_of_ble_eq_true rfl)) dX6_piece_1 ⟨Nat.le_of_ble_eq_true rfl, Nat.le_of_ble_eq_true rfl⟩) (fun r_1 hr_1 => ?_)
  have hqr_1 : r_1.toInt = qTX (i 3) (r 11) (i 4).toInt.toNat := by have h9 := hr_1.1; exact h9
  have hr_1 : -1 ≤ r_1.toInt ∧ r_1.toInt ≤ 255 := hr_1.2
  refine lv_istore_n (lv' := [(2, .int r_1), (0, .ref (a 10)), (1, .int p0)]) hx hb dX6_piece_4 rfl hl (by decide) rfl (fun ls hl => ?_)
  refine lv_iload_n hx hb dX6_piece_5 rfl (lv_at hl 0 rfl) ?_
  refine lv_bipush (v := 33) hx hb dX6_piece_6 (by decide) ?_
  refine lv_icmp_eq (tgt := 17) hx hb dX6_piece_8 (by decide) (fun c_2 => ?_) (fun c_2 => ?_)
  · have c_2 : r_1.toInt = 33 := b_eq c_2
    have hlo := qTX_lt (e := i 3) (t := r 11) (p := (i 4).toInt.toNat) (by omega)
    refine lv_iload_n hx hb dX6_piece_17 rfl (lv_at hl 2 rfl) ?_
    refine lv_bipush (v := 6) hx hb dX6_piece_18 (by decide) ?_
    refine lv_icmp_lt (tgt := 29) hx hb dX6_piece_20 (by decide) (fun c_3 => ?_) (fun c_3 => ?_)
    · have c_3 : p0.toInt < 6 := b_lt c_3
      refine lv_aload_n hx hb dX6_piece_29 rfl (lv_at hl 1 rfl) ?_
      refine lv_dup hx hb dX6_piece_30 rfl ?_
      refine va_get (D := D) (ci := 6) (v := .int (i 4)) (C := RX6) (T := TX6) (N := 5) hx hb hT iX6 hown hK hP 10 rfl rfl 3 (by decide) (hT _ t_648) (fun _ h9 => h9) rfl dX6_piece_31 ?_
      refine lv_iconst (v := 1) hx hb dX6_piece_34 (by decide) ?_
      refine lv_iadd hx hb dX6_piece_35 ?_
      refine lv_topi (fun v_4 ev_4 => ?_)
      have hv_4 : v_4.toInt = (i 4).toInt + 1 := by rw [ev_4]; have := b_rg (i 4); exact i_add (a := (i 4).toInt) (b := 1) rfl rfl (by omega) (by omega)
      refine va_put (D := D) (ci := 6) (v := .int v_4) (ty := .int) (C := RX6) (T := TX6) (N := 5) hx hb hT iX6 tyX6 tyX6_ok nmX6 hown hK hP hD hS 10 rfl rfl 3 (by decide) (hT _ t_648) (fun _ h9 => h9) rfl (by decide +kernel) rfl rfl (Nat.le_of_ble_eq_true rfl) dX6_piece_36 (fun H locs hP hD hS => ?_)
      rw [zP4] at hP hD
      have hRi := Yi_upd hRi 4 v_4 (b_rg _)
      have hEi := Ei_upd hEi 4 v_4 (by decide)
      refine lv_iload_n hx hb dX6_piece_39 rfl (lv_at hl 0 rfl) ?_
      refine lv_bipush (v := 40) hx hb dX6_piece_40 (by decide) ?_
      refine lv_icmp_ne (tgt := 72) hx hb dX6_piece_42 (by decide) (fun c_5 => ?_) (fun c_5 => by have c_5 : r_1.toInt = 40 := b_nne c_5; omega)
      have c_5 : r_1.toInt ≠ 40 := b_ne c_5
      refine lv_aload_n hx hb dX6_piece_72 rfl (lv_at hl 1 rfl) ?_
      refine lv_iload_n hx hb dX6_piece_73 rfl (lv_at hl 2 rfl) ?_
      refine lv_iconst (v := 1) hx hb dX6_piece_74 (by decide) ?_
      refine lv_iadd hx hb dX6_piece_75 ?_
      refine lv_topi (fun v_6 ev_6 => ?_)
      have hv_6 : v_6.toInt = p0.toInt + 1 := by rw [ev_6]; have := b_rg p0; exact i_add (a := p0.toInt) (b := 1) rfl rfl (by omega) (by omega)
      have hF_7 := rF hD hS hA
      refine va_calli (va_runV (As := [.int v_6]) (rest := []) ⟨hx, hb, hml, hown, hT⟩ (hX2 v_6 (by omega) (by omega) (upd i 4 v_4) r _ hRi hRr (show 0 ≤ v_4.toInt ∧ v_4.toInt ≤ ((upd i 4 v_4) 3).toInt from ⟨by omega, by rw [show (upd i 4 v_4) 3 = i 3 from hEi 3 (by decide)]; omega⟩)) (cwV 1 hT (gV t_686 t_687 t_688 t_689 t_653) rfl rfl rfl (by decide +kernel) hR2) (rS_v hsk hS hF_7 hP hK hD (va_recv hK hP (ci := 6) (q0 := 10) rfl rfl)) rfl rfl hl.1 rfl (lv_room (Nat.le_of_ble_eq_true rfl)) dX6_piece_76 ⟨Nat.le_of_ble_eq_true rfl, Nat.le_of_ble_eq_true rfl⟩) hS (fun q _ h => hF_7 q h) hF_7 (fun r_8 u_9 t H1 locs ht hvm hr_8 hB hz1 hk1 hS => ?_)
      obtain ⟨i9, r9⟩ := u_9
      obtain ⟨hP, hK1, hD1⟩ := hB
      rw [ht] at hP
      have hD := hD1.weaken (fun k q _ h => hF_7 q.1 h)
      obtain ⟨hRi, hRr, hE1, hE2, hr_8⟩ := hr_8
      have hRi : yRi i9 := hRi
      have hE1 : mEi [4, 5, 7] (upd i 4 v_4) i9 := hE1
      have hRr : yRr r9 := hRr
      have hE2 : mEr [17, 18] r r9 := hE2
      have hP : va_P D vwCl (xW cy a i9 r9 q (a 20) (a 12) ++ tl) H1 := hP
      have hD : va_D A (xW cy a i9 r9 q (a 20) (a 12) ++ tl) := hD
      have hEi : mEi [4, 5, 7] _ i9 := Ei_tr hEi hE1 (by decide)
      have hEr : mEr [17, 18] _ r9 := Er_tr hEr hE2 (by decide)
      have h3r_8 : (upd i 4 v_4) 3 = i 3 := (hE1 3 (by decide)).symm.trans (hEi 3 (by decide))
      have h11r_8 : r 11 = r 11 := (hE2 11 (by decide)).symm.trans (hEr 11 (by decide))
      obtain ⟨hzr_8, ⟨⟨har_8, hbr_8⟩, hcr_8⟩, hXr_8⟩ := hr_8
      have har_8 : 0 ≤ (i9 4).toInt := har_8
      have hbr_8 : (i9 4).toInt ≤ (i 3).toInt := by rw [← h3r_8]; exact hbr_8
      try dsimp only at hXr_8
      rw [h3r_8, h11r_8] at hXr_8
      rcases hzr_8 with rfl | rfl
      · skip
        refine lv_if_ne (tgt := 84) hx hb dX6_piece_79 (by decide) (fun c_10 => absurd (by decide) c_10) (fun c_10 => ?_)
        refine lv_iconst (v := 0) hx hb dX6_piece_82 (by decide) ?_
        subst hQ
        have ho1 : v_6 = p0 + 1 := o1_9 (by omega) (by omega)
        rw [ho1] at hXr_8
        have hpo9 : ((0 : Int32) = 0 ∨ (0 : Int32) = 1) ∧ ((0 ≤ (i9 4).toInt ∧ (i9 4).toInt ≤ (i 3).toInt) ∧ ((0 : Int32).toInt ≠ 0 → (i 4).toInt < (i9 4).toInt ∧ i9 5 = i 5)) ∧ qX (qTX (i 3) (r 11)) 8 7 p0 qK4 qTt False i r i9 r9 (0 : Int32) := ⟨Or.inl rfl, ⟨⟨har_8, hbr_8⟩, fun h9 => absurd rfl h9⟩, qp_notE (i1 := (upd i 4 v_4)) (r1 := r) (i2 := i9) (r2 := r9) (ne6 (by omega)) (by omega) h4.1 (by show v_4.toInt = _; omega) rfl rfl rfl hXr_8⟩
        exact W.zret hx hb hr rfl (fun t ht hW => ⟨⟨_, (i9, r9), rfl, ⟨hRi, hRr, hEi, hEr, hpo9⟩, by rw [ht]; exact hP, va_K.moved hW.alike hK, hD⟩, hS.F ht⟩) hS.2.2 dX6_piece_83
      · skip
        have h5r_8 : i9 5 = i 5 := (hcr_8 (by decide)).2.trans rfl
        have hcr_8 : v_4.toInt < (i9 4).toInt := (hcr_8 (by decide)).1
        refine lv_if_ne (tgt := 84) hx hb dX6_piece_79 (by decide) (fun c_11 => ?_) (fun c_11 => absurd c_11 (by decide))
        refine lv_aload_n hx hb dX6_piece_84 rfl (lv_at hl 1 rfl) ?_
        refine va_get (D := D) (ci := 6) (v := .ref (a 12)) (C := RX6) (T := TX6) (N := 5) hx hb hT iX6 hown hK hP 10 rfl rfl 0 (by decide) (hT _ t_661) (fun _ h9 => h9) rfl dX6_piece_85 ?_
        refine lv_bipush (v := 33) hx hb dX6_piece_88 (by decide) ?_
        refine lv_iconst (v := 0) hx hb dX6_piece_90 (by decide) ?_
        have hF_12 := rF hD hS hA
        refine va_calli (va_runV (As := [.int 33, .int 0]) (rest := []) ⟨hx, hb, hml, hown, hT⟩ (c_X5_add9 l D cy a i9 r9 q tl 33 0 _ hRi hRr) (cwV 2 hT (gV t_662 t_663 t_664 t_665 t_367) rfl rfl rfl (by decide +kernel) ⟨Nat.le_trans (m := 3) (Nat.le_of_ble_eq_true rfl) hF9.1, Nat.le_trans (m := 66) (Nat.le_of_ble_eq_true rfl) hF9.2⟩) (rQ_v hP hK hD (va_recv hK hP (ci := 5) (q0 := 12) rfl rfl)) rfl rfl hl.1 rfl (lv_room (Nat.le_of_ble_eq_true rfl)) dX6_piece_91 ⟨Nat.le_of_ble_eq_true rfl, Nat.le_of_ble_eq_true rfl⟩) hS (fun q _ h => hF_12 q h) hF_12 (fun r_13 u_14 t H1 locs ht hvm hr_13 hB hz1 hk1 hS => ?_)
        obtain ⟨i14, r14⟩ := u_14
        obtain ⟨hP, hK1, hD1⟩ := hB
        rw [ht] at hP
        have hD := hD1.weaken (fun k q _ h => hF_12 q.1 h)
        obtain ⟨hRi, hRr, hE1, hE2, hr_13⟩ := hr_13
        have hRi : yRi i14 := hRi
        have hE1 : mEi [7] i9 i14 := hE1
        have hRr : yRr r14 := hRr
        have hE2 : mEr [17, 18] r9 r14 := hE2
        have hP : va_P D vwCl (xW cy a i14 r14 q (a 20) (a 12) ++ tl) H1 := hP
        have hD : va_D A (xW cy a i14 r14 q (a 20) (a 12) ++ tl) := hD
        have hEi : mEi [4, 5, 7] _ i14 := Ei_tr hEi hE1 (by decide)
        have hEr : mEr [17, 18] _ r14 := Er_tr hEr hE2 (by decide)
        obtain ⟨hZr_13, hr_13⟩ := hr_13
        have hZr_13 : -1 ≤ r_13.toInt ∧ r_13.toInt ≤ 200 := hZr_13
        have hAr_13 : qAdd i9 r9 i14 r14 (33 : Int32) (0 : Int32) := fun h9 => (hr_13 h9).2
        have hJr_13 : (i9 7).toInt < 200 → r_13.toInt = (i9 7).toInt := fun h9 => congrArg Int32.toInt (hr_13 h9).1
        have hBr_13 : i14 4 = (i9 4) := hE1 4 (by decide)
        have hBtr_13 : (i14 4).toInt = (i9 4).toInt := congrArg Int32.toInt hBr_13
        clear hr_13
        have hr_13 : True := trivial
        have h5r_13 : i14 5 = i 5 := (hE1 5 (by decide)).trans h5r_8
        refine lv_pop hx hb dX6_piece_94 rfl ?_
        refine lv_iconst (v := 1) hx hb dX6_piece_95 (by decide) ?_
        subst hQ
        have ho1 : v_6 = p0 + 1 := o1_9 (by omega) (by omega)
        rw [ho1] at hXr_8
        have hpo9 : ((1 : Int32) = 0 ∨ (1 : Int32) = 1) ∧ ((0 ≤ (i14 4).toInt ∧ (i14 4).toInt ≤ (i 3).toInt) ∧ ((1 : Int32).toInt ≠ 0 → (i 4).toInt < (i14 4).toInt ∧ i14 5 = i 5)) ∧ qX (qTX (i 3) (r 11)) 8 7 p0 qK4 qTt False i r i14 r14 (1 : Int32) := ⟨Or.inr rfl, ⟨⟨by rw [hBr_13]; exact har_8, by rw [hBr_13]; exact hbr_8⟩, (fun _ => ⟨by rw [hBr_13]; omega, h5r_13⟩)⟩, qp_not (i1 := (upd i 4 v_4)) (r1 := r) (i2 := i9) (r2 := r9) (ne6 (by omega)) (by omega) h4.1 (by show v_4.toInt = _; omega) rfl rfl rfl hXr_8 har_8 (by omega) hBr_13 hAr_13 rfl rfl⟩
        exact W.zret hx hb hr rfl (fun t ht hW => ⟨⟨_, (i14, r14), rfl, ⟨hRi, hRr, hEi, hEr, hpo9⟩, by rw [ht]; exact hP, va_K.moved hW.alike hK, hD⟩, hS.F ht⟩) hS.2.2 dX6_piece_96
    · have c_3 : 6 ≤ p0.toInt := b_nlt c_3
      refine lv_aload_n hx hb dX6_piece_23 rfl (lv_at hl 1 rfl) ?_
      refine lv_iconst (v := 5) hx hb dX6_piece_24 (by decide) ?_
      have hF_15 := rF hD hS hA
      refine va_calli (va_runV (As := [.int 5]) (rest := []) ⟨hx, hb, hml, hown, hT⟩ (c_X6_refuse9 l D cy a i r q tl 5 _ hRi hRr (by decide) (show 0 ≤ (i 4).toInt ∧ (i 4).toInt ≤ 300 by omega)) (cwV 1 hT (gV t_657 t_658 t_659 t_660 t_653) rfl rfl rfl (by decide +kernel) ⟨Nat.le_trans (m := 3) (Nat.le_of_ble_eq_true rfl) hF9.1, Nat.le_trans (m := 66) (Nat.le_of_ble_eq_true rfl) hF9.2⟩) (rQ_v hP hK hD (va_recv hK hP (ci := 6) (q0 := 10) rfl rfl)) rfl rfl hl.1 rfl (lv_room (Nat.le_of_ble_eq_true rfl)) dX6_piece_25 ⟨Nat.le_of_ble_eq_true rfl, Nat.le_of_ble_eq_true rfl⟩) hS (fun q _ h => hF_15 q h) hF_15 (fun r_16 u_17 t H1 locs ht hvm hr_16 hB hz1 hk1 hS => ?_)
      obtain ⟨i17, r17⟩ := u_17
      obtain ⟨hP, hK1, hD1⟩ := hB
      rw [ht] at hP
      have hD := hD1.weaken (fun k q _ h => hF_15 q.1 h)
      obtain ⟨hRi, hRr, hE1, hE2, hr_16⟩ := hr_16
      have hRi : yRi i17 := hRi
      have hE1 : mEi [5] i i17 := hE1
      have hRr : yRr r17 := hRr
      have hE2 : mEr [] r r17 := hE2
      have hP : va_P D vwCl (xW cy a i17 r17 q (a 20) (a 12) ++ tl) H1 := hP
      have hD : va_D A (xW cy a i17 r17 q (a 20) (a 12) ++ tl) := hD
      have hEi : mEi [4, 5, 7] _ i17 := Ei_tr hEi hE1 (by decide)
      have hEr : mEr [17, 18] _ r17 := Er_tr hEr hE2 (by decide)
      obtain ⟨rfl, hF9⟩ := hr_16
      have hF9 : (i17 5).toInt = -1000 * 5 - (i 4).toInt := hF9
      have hF4 : i17 4 = (i 4) := hE1 4 (by decide)
      subst hQ
      have hpo9 : ((0 : Int32) = 0 ∨ (0 : Int32) = 1) ∧ ((0 ≤ (i17 4).toInt ∧ (i17 4).toInt ≤ (i 3).toInt) ∧ ((0 : Int32).toInt ≠ 0 → (i 4).toInt < (i17 4).toInt ∧ i17 5 = i 5)) ∧ qX (qTX (i 3) (r 11)) 8 7 p0 qK4 qTt False i r i17 r17 (0 : Int32) := ⟨Or.inl rfl, ⟨⟨by rw [hF4]; omega, by rw [hF4]; omega⟩, fun h9 => absurd rfl h9⟩, qX_fail (p9 := (i 4).toInt.toNat) (k9 := 5) (kz := 5) (fun m n b rc hf w c => qm_not6 (by omega) (Int32.toInt_inj.mp (show p0.toInt = 6 by omega))) (by omega)⟩
      exact W.zret hx hb hr rfl (fun t ht hW => ⟨⟨_, (i17, r17), rfl, ⟨hRi, hRr, hEi, hEr, hpo9⟩, by rw [ht]; exact hP, va_K.moved hW.alike hK, hD⟩, hS.F ht⟩) hS.2.2 dX6_piece_28
  · have c_2 : r_1.toInt ≠ 33 := b_ne c_2
    refine lv_iload_n hx hb dX6_piece_11 rfl (lv_at hl 0 rfl) ?_
    refine lv_bipush (v := 40) hx hb dX6_piece_12 (by decide) ?_
    refine lv_icmp_ne (tgt := 97) hx hb dX6_piece_14 (by decide) (fun c_18 => ?_) (fun c_18 => ?_)
    · have c_18 : r_1.toInt ≠ 40 := b_ne c_18
      refine lv_aload_n hx hb dX6_piece_97 rfl (lv_at hl 1 rfl) ?_
      refine lv_iload_n hx hb dX6_piece_98 rfl (lv_at hl 2 rfl) ?_
      refine lv_iconst (v := 1) hx hb dX6_piece_99 (by decide) ?_
      have hF_19 := rF hD hS hA
      refine va_calli (va_runV (As := [.int p0, .int 1]) (rest := []) ⟨hx, hb, hml, hown, hT⟩ (hX3 p0 rfl i r _ hRi hRr h4) (cwV 2 hT (gV t_674 t_675 t_676 t_677 t_653) rfl rfl rfl (by decide +kernel) hR3) (rS_v hsk hS hF_19 hP hK hD (va_recv hK hP (ci := 6) (q0 := 10) rfl rfl)) rfl rfl hl.1 rfl (lv_room (Nat.le_of_ble_eq_true rfl)) dX6_piece_100 ⟨Nat.le_of_ble_eq_true rfl, Nat.le_of_ble_eq_true rfl⟩) hS (fun q _ h => hF_19 q h) hF_19 (fun r_20 u_21 t H1 locs ht hvm hr_20 hB hz1 hk1 hS => ?_)
      obtain ⟨i21, r21⟩ := u_21
      obtain ⟨hP, hK1, hD1⟩ := hB
      rw [ht] at hP
      have hD := hD1.weaken (fun k q _ h => hF_19 q.1 h)
      obtain ⟨hRi, hRr, hE1, hE2, hr_20⟩ := hr_20
      have hRi : yRi i21 := hRi
      have hE1 : mEi [4, 5, 7] i i21 := hE1
      have hRr : yRr r21 := hRr
      have hE2 : mEr [17, 18] r r21 := hE2
      have hP : va_P D vwCl (xW cy a i21 r21 q (a 20) (a 12) ++ tl) H1 := hP
      have hD : va_D A (xW cy a i21 r21 q (a 20) (a 12) ++ tl) := hD
      have hEi : mEi [4, 5, 7] _ i21 := Ei_tr hEi hE1 (by decide)
      have hEr : mEr [17, 18] _ r21 := Er_tr hEr hE2 (by decide)
      have h3r_20 : i 3 = i 3 := (hE1 3 (by decide)).symm.trans (hEi 3 (by decide))
      have h11r_20 : r 11 = r 11 := (hE2 11 (by decide)).symm.trans (hEr 11 (by decide))
      obtain ⟨hzr_20, ⟨⟨har_20, hbr_20⟩, hcr_20⟩, hXr_20⟩ := hr_20
      have har_20 : 0 ≤ (i21 4).toInt := har_20
      have hbr_20 : (i21 4).toInt ≤ (i 3).toInt := by rw [← h3r_20]; exact hbr_20
      try dsimp only at hXr_20
      rcases hzr_20 with rfl | rfl
      · skip
        refine lv_if_ne (tgt := 108) hx hb dX6_piece_103 (by decide) (fun c_22 => absurd (by decide) c_22) (fun c_22 => ?_)
        refine lv_iconst (v := 0) hx hb dX6_piece_106 (by decide) ?_
        subst hQ
        have hpo9 : ((0 : Int32) = 0 ∨ (0 : Int32) = 1) ∧ ((0 ≤ (i21 4).toInt ∧ (i21 4).toInt ≤ (i 3).toInt) ∧ ((0 : Int32).toInt ≠ 0 → (i 4).toInt < (i21 4).toInt ∧ i21 5 = i 5)) ∧ qX (qTX (i 3) (r 11)) 8 7 p0 qK4 qTt False i r i21 r21 (0 : Int32) := ⟨Or.inl rfl, ⟨⟨har_20, hbr_20⟩, fun h9 => absurd rfl h9⟩, qp_e1 (by omega) (by omega) hXr_20⟩
        exact W.zret hx hb hr rfl (fun t ht hW => ⟨⟨_, (i21, r21), rfl, ⟨hRi, hRr, hEi, hEr, hpo9⟩, by rw [ht]; exact hP, va_K.moved hW.alike hK, hD⟩, hS.F ht⟩) hS.2.2 dX6_piece_107
      · skip
        have h5r_20 : i21 5 = i 5 := (hcr_20 (by decide)).2.trans rfl
        have hcr_20 : (i 4).toInt < (i21 4).toInt := (hcr_20 (by decide)).1
        refine lv_if_ne (tgt := 108) hx hb dX6_piece_103 (by decide) (fun c_23 => ?_) (fun c_23 => absurd c_23 (by decide))
        refine lv_aload_n hx hb dX6_piece_108 rfl (lv_at hl 1 rfl) ?_
        refine vp_callSi (W.runV (As := []) (rest := []) ⟨hx, hb, hml, hown, hT⟩ (c_X6_peek9 l D cy a i21 r21 q tl hRi hRr (show 0 ≤ (i21 4).toInt by omega)) (cwV 0 hT (gV t_652 t_654 t_655 t_656 t_653) rfl rfl rfl (by decide +kernel) ⟨Nat.le_trans (m := 3) (Nat.le_of_ble_eq_true rfl) hF9.1, Nat.le_trans (m := 66) (Nat.le_of_ble_eq_true rfl) hF9.2⟩) (rP_v hP hK (va_recv hK hP (ci := 6) (q0 := 10) rfl rfl)) rfl rfl hl.1 rfl (lv_room (Nat.le_of_ble_eq_true rfl)) dX6_piece_109 ⟨Nat.le_of_ble_eq_true rfl, Nat.le_of_ble_eq_true rfl⟩) (fun r_24 hr_24 => ?_)
        have hqr_24 : r_24.toInt = qTX (i 3) (r 11) (i21 4).toInt.toNat := by have h9 := hr_24.1; rw [show (i21) 3 = i 3 from hEi 3 (by decide)] at h9; rw [show (r21) 11 = r 11 from hEr 11 (by decide)] at h9; exact h9
        have hr_24 : -1 ≤ r_24.toInt ∧ r_24.toInt ≤ 255 := hr_24.2
        refine lv_istore_n (lv' := [(3, .int r_24), (2, .int r_1), (0, .ref (a 10)), (1, .int p0)]) hx hb dX6_piece_112 rfl hl (by decide) rfl (fun ls hl => ?_)
        refine lv_iload_n hx hb dX6_piece_113 rfl (lv_at hl 0 rfl) ?_
        refine lv_bipush (v := 60) hx hb dX6_piece_114 (by decide) ?_
        refine lv_icmp_eq (tgt := 137) hx hb dX6_piece_116 (by decide) (fun c_25 => ?_) (fun c_25 => ?_)
        · have c_25 : r_24.toInt = 60 := b_eq c_25
          have hlc := qTX_lt (e := i 3) (t := r 11) (p := (i21 4).toInt.toNat) (by omega)
          refine lv_aload_n hx hb dX6_piece_137 rfl (lv_at hl 2 rfl) ?_
          refine lv_dup hx hb dX6_piece_138 rfl ?_
          refine va_get (D := D) (ci := 6) (v := .int (i21 4)) (C := RX6) (T := TX6) (N := 5) hx hb hT iX6 hown hK hP 10 rfl rfl 3 (by decide) (hT _ t_648) (fun _ h9 => h9) rfl dX6_piece_139 ?_
          refine lv_iconst (v := 1) hx hb dX6_piece_142 (by decide) ?_
          refine lv_iadd hx hb dX6_piece_143 ?_
          refine lv_topi (fun v_26 ev_26 => ?_)
          have hv_26 : v_26.toInt = (i21 4).toInt + 1 := by rw [ev_26]; have := b_rg (i21 4); exact i_add (a := (i21 4).toInt) (b := 1) rfl rfl (by omega) (by omega)
          refine va_put (D := D) (ci := 6) (v := .int v_26) (ty := .int) (C := RX6) (T := TX6) (N := 5) hx hb hT iX6 tyX6 tyX6_ok nmX6 hown hK hP hD hS 10 rfl rfl 3 (by decide) (hT _ t_648) (fun _ h9 => h9) rfl (by decide +kernel) rfl rfl (Nat.le_of_ble_eq_true rfl) dX6_piece_144 (fun H locs hP hD hS => ?_)
          rw [zP4] at hP hD
          have hRi := Yi_upd hRi 4 v_26 (b_rg _)
          have hEi := Ei_upd hEi 4 v_26 (by decide)
          refine lv_aload_n hx hb dX6_piece_147 rfl (lv_at hl 2 rfl) ?_
          refine lv_iload_n hx hb dX6_piece_148 rfl (lv_at hl 3 rfl) ?_
          refine lv_iconst (v := 1) hx hb dX6_piece_149 (by decide) ?_
          have hF_27 := rF hD hS hA
          refine va_calli (va_runV (As := [.int p0, .int 1]) (rest := []) ⟨hx, hb, hml, hown, hT⟩ (hX3 p0 rfl (upd i21 4 v_26) r21 _ hRi hRr (show 0 ≤ v_26.toInt ∧ v_26.toInt ≤ ((upd i21 4 v_26) 3).toInt from ⟨by omega, by rw [show (upd i21 4 v_26) 3 = i 3 from hEi 3 (by decide)]; omega⟩)) (cwV 2 hT (gV t_674 t_675 t_676 t_677 t_653) rfl rfl rfl (by decide +kernel) hR3) (rS_v hsk hS hF_27 hP hK hD (va_recv hK hP (ci := 6) (q0 := 10) rfl rfl)) rfl rfl hl.1 rfl (lv_room (Nat.le_of_ble_eq_true rfl)) dX6_piece_150 ⟨Nat.le_of_ble_eq_true rfl, Nat.le_of_ble_eq_true rfl⟩) hS (fun q _ h => hF_27 q h) hF_27 (fun r_28 u_29 t H1 locs ht hvm hr_28 hB hz1 hk1 hS => ?_)
          obtain ⟨i29, r29⟩ := u_29
          obtain ⟨hP, hK1, hD1⟩ := hB
          rw [ht] at hP
          have hD := hD1.weaken (fun k q _ h => hF_27 q.1 h)
          obtain ⟨hRi, hRr, hE1, hE2, hr_28⟩ := hr_28
          have hRi : yRi i29 := hRi
          have hE1 : mEi [4, 5, 7] (upd i21 4 v_26) i29 := hE1
          have hRr : yRr r29 := hRr
          have hE2 : mEr [17, 18] r21 r29 := hE2
          have hP : va_P D vwCl (xW cy a i29 r29 q (a 20) (a 12) ++ tl) H1 := hP
          have hD : va_D A (xW cy a i29 r29 q (a 20) (a 12) ++ tl) := hD
          have hEi : mEi [4, 5, 7] _ i29 := Ei_tr hEi hE1 (by decide)
          have hEr : mEr [17, 18] _ r29 := Er_tr hEr hE2 (by decide)
          have h3r_28 : (upd i21 4 v_26) 3 = i 3 := (hE1 3 (by decide)).symm.trans (hEi 3 (by decide))
          have h11r_28 : r21 11 = r 11 := (hE2 11 (by decide)).symm.trans (hEr 11 (by decide))
          obtain ⟨hzr_28, ⟨⟨har_28, hbr_28⟩, hcr_28⟩, hXr_28⟩ := hr_28
          have har_28 : 0 ≤ (i29 4).toInt := har_28
          have hbr_28 : (i29 4).toInt ≤ (i 3).toInt := by rw [← h3r_28]; exact hbr_28
          try dsimp only at hXr_28
          rw [h3r_28, h11r_28] at hXr_28
          rcases hzr_28 with rfl | rfl
          · skip
            refine lv_if_ne (tgt := 158) hx hb dX6_piece_153 (by decide) (fun c_30 => absurd (by decide) c_30) (fun c_30 => ?_)
            refine lv_iconst (v := 0) hx hb dX6_piece_156 (by decide) ?_
            subst hQ
            have hch : r_24.toInt = 60 := by omega
            have hcm : 7 ≤ qCmp (qTX (i 3) (r 11) (i21 4).toInt.toNat) := by rw [← hqr_24, hch]; decide
            have hpo9 : ((0 : Int32) = 0 ∨ (0 : Int32) = 1) ∧ ((0 ≤ (i29 4).toInt ∧ (i29 4).toInt ≤ (i 3).toInt) ∧ ((0 : Int32).toInt ≠ 0 → (i 4).toInt < (i29 4).toInt ∧ i29 5 = i 5)) ∧ qX (qTX (i 3) (r 11)) 8 7 p0 qK4 qTt False i r i29 r29 (0 : Int32) := ⟨Or.inl rfl, ⟨⟨har_28, hbr_28⟩, fun h9 => absurd rfl h9⟩, qp_e2 (by omega) (by omega) hXr_20 har_20 hcm (i3 := (upd i21 4 v_26)) (r3 := r21) (by show v_26.toInt = _; omega) rfl rfl rfl hXr_28⟩
            exact W.zret hx hb hr rfl (fun t ht hW => ⟨⟨_, (i29, r29), rfl, ⟨hRi, hRr, hEi, hEr, hpo9⟩, by rw [ht]; exact hP, va_K.moved hW.alike hK, hD⟩, hS.F ht⟩) hS.2.2 dX6_piece_157
          · skip
            have h5r_28 : i29 5 = i 5 := (hcr_28 (by decide)).2.trans h5r_20
            have hcr_28 : v_26.toInt < (i29 4).toInt := (hcr_28 (by decide)).1
            refine lv_if_ne (tgt := 158) hx hb dX6_piece_153 (by decide) (fun c_31 => ?_) (fun c_31 => absurd c_31 (by decide))
            refine lv_aload_n hx hb dX6_piece_158 rfl (lv_at hl 2 rfl) ?_
            refine va_get (D := D) (ci := 6) (v := .ref (a 12)) (C := RX6) (T := TX6) (N := 5) hx hb hT iX6 hown hK hP 10 rfl rfl 0 (by decide) (hT _ t_661) (fun _ h9 => h9) rfl dX6_piece_159 ?_
            refine lv_iload_n hx hb dX6_piece_162 rfl (lv_at hl 0 rfl) ?_
            refine lv_iconst (v := 0) hx hb dX6_piece_163 (by decide) ?_
            have hF_32 := rF hD hS hA
            refine va_calli (va_runV (As := [.int r_24, .int 0]) (rest := []) ⟨hx, hb, hml, hown, hT⟩ (c_X5_add9 l D cy a i29 r29 q tl r_24 0 _ hRi hRr) (cwV 2 hT (gV t_662 t_663 t_664 t_665 t_367) rfl rfl rfl (by decide +kernel) ⟨Nat.le_trans (m := 3) (Nat.le_of_ble_eq_true rfl) hF9.1, Nat.le_trans (m := 66) (Nat.le_of_ble_eq_true rfl) hF9.2⟩) (rQ_v hP hK hD (va_recv hK hP (ci := 5) (q0 := 12) rfl rfl)) rfl rfl hl.1 rfl (lv_room (Nat.le_of_ble_eq_true rfl)) dX6_piece_164 ⟨Nat.le_of_ble_eq_true rfl, Nat.le_of_ble_eq_true rfl⟩) hS (fun q _ h => hF_32 q h) hF_32 (fun r_33 u_34 t H1 locs ht hvm hr_33 hB hz1 hk1 hS => ?_)
            obtain ⟨i34, r34⟩ := u_34
            obtain ⟨hP, hK1, hD1⟩ := hB
            rw [ht] at hP
            have hD := hD1.weaken (fun k q _ h => hF_32 q.1 h)
            obtain ⟨hRi, hRr, hE1, hE2, hr_33⟩ := hr_33
            have hRi : yRi i34 := hRi
            have hE1 : mEi [7] i29 i34 := hE1
            have hRr : yRr r34 := hRr
            have hE2 : mEr [17, 18] r29 r34 := hE2
            have hP : va_P D vwCl (xW cy a i34 r34 q (a 20) (a 12) ++ tl) H1 := hP
            have hD : va_D A (xW cy a i34 r34 q (a 20) (a 12) ++ tl) := hD
            have hEi : mEi [4, 5, 7] _ i34 := Ei_tr hEi hE1 (by decide)
            have hEr : mEr [17, 18] _ r34 := Er_tr hEr hE2 (by decide)
            obtain ⟨hZr_33, hr_33⟩ := hr_33
            have hZr_33 : -1 ≤ r_33.toInt ∧ r_33.toInt ≤ 200 := hZr_33
            have hAr_33 : qAdd i29 r29 i34 r34 r_24 (0 : Int32) := fun h9 => (hr_33 h9).2
            have hJr_33 : (i29 7).toInt < 200 → r_33.toInt = (i29 7).toInt := fun h9 => congrArg Int32.toInt (hr_33 h9).1
            have hBr_33 : i34 4 = (i29 4) := hE1 4 (by decide)
            have hBtr_33 : (i34 4).toInt = (i29 4).toInt := congrArg Int32.toInt hBr_33
            clear hr_33
            have hr_33 : True := trivial
            have h5r_33 : i34 5 = i 5 := (hE1 5 (by decide)).trans h5r_28
            refine lv_pop hx hb dX6_piece_167 rfl ?_
            refine lv_iconst (v := 1) hx hb dX6_piece_168 (by decide) ?_
            subst hQ
            have hch : r_24.toInt = 60 := by omega
            have hcm : 7 ≤ qCmp (qTX (i 3) (r 11) (i21 4).toInt.toNat) := by rw [← hqr_24, hch]; decide
            have hpo9 : ((1 : Int32) = 0 ∨ (1 : Int32) = 1) ∧ ((0 ≤ (i34 4).toInt ∧ (i34 4).toInt ≤ (i 3).toInt) ∧ ((1 : Int32).toInt ≠ 0 → (i 4).toInt < (i34 4).toInt ∧ i34 5 = i 5)) ∧ qX (qTX (i 3) (r 11)) 8 7 p0 qK4 qTt False i r i34 r34 (1 : Int32) := ⟨Or.inr rfl, ⟨⟨by rw [hBr_33]; exact har_28, by rw [hBr_33]; exact hbr_28⟩, (fun _ => ⟨by rw [hBr_33]; omega, h5r_33⟩)⟩, qp_cmp (by omega) (by omega) hXr_20 har_20 hcm (i3 := (upd i21 4 v_26)) (r3 := r21) (by show v_26.toInt = _; omega) rfl rfl rfl hXr_28 har_28 (by omega) hBr_33 hAr_33 hqr_24 rfl⟩
            exact W.zret hx hb hr rfl (fun t ht hW => ⟨⟨_, (i34, r34), rfl, ⟨hRi, hRr, hEi, hEr, hpo9⟩, by rw [ht]; exact hP, va_K.moved hW.alike hK, hD⟩, hS.F ht⟩) hS.2.2 dX6_piece_169
        · have c_25 : r_24.toInt ≠ 60 := b_ne c_25
          refine lv_iload_n hx hb dX6_piece_119 rfl (lv_at hl 0 rfl) ?_
          refine lv_bipush (v := 62) hx hb dX6_piece_120 (by decide) ?_
          refine lv_icmp_eq (tgt := 137) hx hb dX6_piece_122 (by decide) (fun c_35 => ?_) (fun c_35 => ?_)
          · have c_35 : r_24.toInt = 62 := b_eq c_35
            have hlc := qTX_lt (e := i 3) (t := r 11) (p := (i21 4).toInt.toNat) (by omega)
            refine lv_aload_n hx hb dX6_piece_137 rfl (lv_at hl 2 rfl) ?_
            refine lv_dup hx hb dX6_piece_138 rfl ?_
            refine va_get (D := D) (ci := 6) (v := .int (i21 4)) (C := RX6) (T := TX6) (N := 5) hx hb hT iX6 hown hK hP 10 rfl rfl 3 (by decide) (hT _ t_648) (fun _ h9 => h9) rfl dX6_piece_139 ?_
            refine lv_iconst (v := 1) hx hb dX6_piece_142 (by decide) ?_
            refine lv_iadd hx hb dX6_piece_143 ?_
            refine lv_topi (fun v_36 ev_36 => ?_)
            have hv_36 : v_36.toInt = (i21 4).toInt + 1 := by rw [ev_36]; have := b_rg (i21 4); exact i_add (a := (i21 4).toInt) (b := 1) rfl rfl (by omega) (by omega)
            refine va_put (D := D) (ci := 6) (v := .int v_36) (ty := .int) (C := RX6) (T := TX6) (N := 5) hx hb hT iX6 tyX6 tyX6_ok nmX6 hown hK hP hD hS 10 rfl rfl 3 (by decide) (hT _ t_648) (fun _ h9 => h9) rfl (by decide +kernel) rfl rfl (Nat.le_of_ble_eq_true rfl) dX6_piece_144 (fun H locs hP hD hS => ?_)
            rw [zP4] at hP hD
            have hRi := Yi_upd hRi 4 v_36 (b_rg _)
            have hEi := Ei_upd hEi 4 v_36 (by decide)
            refine lv_aload_n hx hb dX6_piece_147 rfl (lv_at hl 2 rfl) ?_
            refine lv_iload_n hx hb dX6_piece_148 rfl (lv_at hl 3 rfl) ?_
            refine lv_iconst (v := 1) hx hb dX6_piece_149 (by decide) ?_
            have hF_37 := rF hD hS hA
            refine va_calli (va_runV (As := [.int p0, .int 1]) (rest := []) ⟨hx, hb, hml, hown, hT⟩ (hX3 p0 rfl (upd i21 4 v_36) r21 _ hRi hRr (show 0 ≤ v_36.toInt ∧ v_36.toInt ≤ ((upd i21 4 v_36) 3).toInt from ⟨by omega, by rw [show (upd i21 4 v_36) 3 = i 3 from hEi 3 (by decide)]; omega⟩)) (cwV 2 hT (gV t_674 t_675 t_676 t_677 t_653) rfl rfl rfl (by decide +kernel) hR3) (rS_v hsk hS hF_37 hP hK hD (va_recv hK hP (ci := 6) (q0 := 10) rfl rfl)) rfl rfl hl.1 rfl (lv_room (Nat.le_of_ble_eq_true rfl)) dX6_piece_150 ⟨Nat.le_of_ble_eq_true rfl, Nat.le_of_ble_eq_true rfl⟩) hS (fun q _ h => hF_37 q h) hF_37 (fun r_38 u_39 t H1 locs ht hvm hr_38 hB hz1 hk1 hS => ?_)
            obtain ⟨i39, r39⟩ := u_39
            obtain ⟨hP, hK1, hD1⟩ := hB
            rw [ht] at hP
            have hD := hD1.weaken (fun k q _ h => hF_37 q.1 h)
            obtain ⟨hRi, hRr, hE1, hE2, hr_38⟩ := hr_38
            have hRi : yRi i39 := hRi
            have hE1 : mEi [4, 5, 7] (upd i21 4 v_36) i39 := hE1
            have hRr : yRr r39 := hRr
            have hE2 : mEr [17, 18] r21 r39 := hE2
            have hP : va_P D vwCl (xW cy a i39 r39 q (a 20) (a 12) ++ tl) H1 := hP
            have hD : va_D A (xW cy a i39 r39 q (a 20) (a 12) ++ tl) := hD
            have hEi : mEi [4, 5, 7] _ i39 := Ei_tr hEi hE1 (by decide)
            have hEr : mEr [17, 18] _ r39 := Er_tr hEr hE2 (by decide)
            have h3r_38 : (upd i21 4 v_36) 3 = i 3 := (hE1 3 (by decide)).symm.trans (hEi 3 (by decide))
            have h11r_38 : r21 11 = r 11 := (hE2 11 (by decide)).symm.trans (hEr 11 (by decide))
            obtain ⟨hzr_38, ⟨⟨har_38, hbr_38⟩, hcr_38⟩, hXr_38⟩ := hr_38
            have har_38 : 0 ≤ (i39 4).toInt := har_38
            have hbr_38 : (i39 4).toInt ≤ (i 3).toInt := by rw [← h3r_38]; exact hbr_38
            try dsimp only at hXr_38
            rw [h3r_38, h11r_38] at hXr_38
            rcases hzr_38 with rfl | rfl
            · skip
              refine lv_if_ne (tgt := 158) hx hb dX6_piece_153 (by decide) (fun c_40 => absurd (by decide) c_40) (fun c_40 => ?_)
              refine lv_iconst (v := 0) hx hb dX6_piece_156 (by decide) ?_
              subst hQ
              have hch : r_24.toInt = 62 := by omega
              have hcm : 7 ≤ qCmp (qTX (i 3) (r 11) (i21 4).toInt.toNat) := by rw [← hqr_24, hch]; decide
              have hpo9 : ((0 : Int32) = 0 ∨ (0 : Int32) = 1) ∧ ((0 ≤ (i39 4).toInt ∧ (i39 4).toInt ≤ (i 3).toInt) ∧ ((0 : Int32).toInt ≠ 0 → (i 4).toInt < (i39 4).toInt ∧ i39 5 = i 5)) ∧ qX (qTX (i 3) (r 11)) 8 7 p0 qK4 qTt False i r i39 r39 (0 : Int32) := ⟨Or.inl rfl, ⟨⟨har_38, hbr_38⟩, fun h9 => absurd rfl h9⟩, qp_e2 (by omega) (by omega) hXr_20 har_20 hcm (i3 := (upd i21 4 v_36)) (r3 := r21) (by show v_36.toInt = _; omega) rfl rfl rfl hXr_38⟩
              exact W.zret hx hb hr rfl (fun t ht hW => ⟨⟨_, (i39, r39), rfl, ⟨hRi, hRr, hEi, hEr, hpo9⟩, by rw [ht]; exact hP, va_K.moved hW.alike hK, hD⟩, hS.F ht⟩) hS.2.2 dX6_piece_157
            · skip
              have h5r_38 : i39 5 = i 5 := (hcr_38 (by decide)).2.trans h5r_20
              have hcr_38 : v_36.toInt < (i39 4).toInt := (hcr_38 (by decide)).1
              refine lv_if_ne (tgt := 158) hx hb dX6_piece_153 (by decide) (fun c_41 => ?_) (fun c_41 => absurd c_41 (by decide))
              refine lv_aload_n hx hb dX6_piece_158 rfl (lv_at hl 2 rfl) ?_
              refine va_get (D := D) (ci := 6) (v := .ref (a 12)) (C := RX6) (T := TX6) (N := 5) hx hb hT iX6 hown hK hP 10 rfl rfl 0 (by decide) (hT _ t_661) (fun _ h9 => h9) rfl dX6_piece_159 ?_
              refine lv_iload_n hx hb dX6_piece_162 rfl (lv_at hl 0 rfl) ?_
              refine lv_iconst (v := 0) hx hb dX6_piece_163 (by decide) ?_
              have hF_42 := rF hD hS hA
              refine va_calli (va_runV (As := [.int r_24, .int 0]) (rest := []) ⟨hx, hb, hml, hown, hT⟩ (c_X5_add9 l D cy a i39 r39 q tl r_24 0 _ hRi hRr) (cwV 2 hT (gV t_662 t_663 t_664 t_665 t_367) rfl rfl rfl (by decide +kernel) ⟨Nat.le_trans (m := 3) (Nat.le_of_ble_eq_true rfl) hF9.1, Nat.le_trans (m := 66) (Nat.le_of_ble_eq_true rfl) hF9.2⟩) (rQ_v hP hK hD (va_recv hK hP (ci := 5) (q0 := 12) rfl rfl)) rfl rfl hl.1 rfl (lv_room (Nat.le_of_ble_eq_true rfl)) dX6_piece_164 ⟨Nat.le_of_ble_eq_true rfl, Nat.le_of_ble_eq_true rfl⟩) hS (fun q _ h => hF_42 q h) hF_42 (fun r_43 u_44 t H1 locs ht hvm hr_43 hB hz1 hk1 hS => ?_)
              obtain ⟨i44, r44⟩ := u_44
              obtain ⟨hP, hK1, hD1⟩ := hB
              rw [ht] at hP
              have hD := hD1.weaken (fun k q _ h => hF_42 q.1 h)
              obtain ⟨hRi, hRr, hE1, hE2, hr_43⟩ := hr_43
              have hRi : yRi i44 := hRi
              have hE1 : mEi [7] i39 i44 := hE1
              have hRr : yRr r44 := hRr
              have hE2 : mEr [17, 18] r39 r44 := hE2
              have hP : va_P D vwCl (xW cy a i44 r44 q (a 20) (a 12) ++ tl) H1 := hP
              have hD : va_D A (xW cy a i44 r44 q (a 20) (a 12) ++ tl) := hD
              have hEi : mEi [4, 5, 7] _ i44 := Ei_tr hEi hE1 (by decide)
              have hEr : mEr [17, 18] _ r44 := Er_tr hEr hE2 (by decide)
              obtain ⟨hZr_43, hr_43⟩ := hr_43
              have hZr_43 : -1 ≤ r_43.toInt ∧ r_43.toInt ≤ 200 := hZr_43
              have hAr_43 : qAdd i39 r39 i44 r44 r_24 (0 : Int32) := fun h9 => (hr_43 h9).2
              have hJr_43 : (i39 7).toInt < 200 → r_43.toInt = (i39 7).toInt := fun h9 => congrArg Int32.toInt (hr_43 h9).1
              have hBr_43 : i44 4 = (i39 4) := hE1 4 (by decide)
              have hBtr_43 : (i44 4).toInt = (i39 4).toInt := congrArg Int32.toInt hBr_43
              clear hr_43
              have hr_43 : True := trivial
              have h5r_43 : i44 5 = i 5 := (hE1 5 (by decide)).trans h5r_38
              refine lv_pop hx hb dX6_piece_167 rfl ?_
              refine lv_iconst (v := 1) hx hb dX6_piece_168 (by decide) ?_
              subst hQ
              have hch : r_24.toInt = 62 := by omega
              have hcm : 7 ≤ qCmp (qTX (i 3) (r 11) (i21 4).toInt.toNat) := by rw [← hqr_24, hch]; decide
              have hpo9 : ((1 : Int32) = 0 ∨ (1 : Int32) = 1) ∧ ((0 ≤ (i44 4).toInt ∧ (i44 4).toInt ≤ (i 3).toInt) ∧ ((1 : Int32).toInt ≠ 0 → (i 4).toInt < (i44 4).toInt ∧ i44 5 = i 5)) ∧ qX (qTX (i 3) (r 11)) 8 7 p0 qK4 qTt False i r i44 r44 (1 : Int32) := ⟨Or.inr rfl, ⟨⟨by rw [hBr_43]; exact har_38, by rw [hBr_43]; exact hbr_38⟩, (fun _ => ⟨by rw [hBr_43]; omega, h5r_43⟩)⟩, qp_cmp (by omega) (by omega) hXr_20 har_20 hcm (i3 := (upd i21 4 v_36)) (r3 := r21) (by show v_36.toInt = _; omega) rfl rfl rfl hXr_38 har_38 (by omega) hBr_43 hAr_43 hqr_24 rfl⟩
              exact W.zret hx hb hr rfl (fun t ht hW => ⟨⟨_, (i44, r44), rfl, ⟨hRi, hRr, hEi, hEr, hpo9⟩, by rw [ht]; exact hP, va_K.moved hW.alike hK, hD⟩, hS.F ht⟩) hS.2.2 dX6_piece_169
          · have c_35 : r_24.toInt ≠ 62 := b_ne c_35
            refine lv_iload_n hx hb dX6_piece_125 rfl (lv_at hl 0 rfl) ?_
            refine lv_bipush (v := 61) hx hb dX6_piece_126 (by decide) ?_
            refine lv_icmp_eq (tgt := 137) hx hb dX6_piece_128 (by decide) (fun c_45 => ?_) (fun c_45 => ?_)
            · have c_45 : r_24.toInt = 61 := b_eq c_45
              have hlc := qTX_lt (e := i 3) (t := r 11) (p := (i21 4).toInt.toNat) (by omega)
              refine lv_aload_n hx hb dX6_piece_137 rfl (lv_at hl 2 rfl) ?_
              refine lv_dup hx hb dX6_piece_138 rfl ?_
              refine va_get (D := D) (ci := 6) (v := .int (i21 4)) (C := RX6) (T := TX6) (N := 5) hx hb hT iX6 hown hK hP 10 rfl rfl 3 (by decide) (hT _ t_648) (fun _ h9 => h9) rfl dX6_piece_139 ?_
              refine lv_iconst (v := 1) hx hb dX6_piece_142 (by decide) ?_
              refine lv_iadd hx hb dX6_piece_143 ?_
              refine lv_topi (fun v_46 ev_46 => ?_)
              have hv_46 : v_46.toInt = (i21 4).toInt + 1 := by rw [ev_46]; have := b_rg (i21 4); exact i_add (a := (i21 4).toInt) (b := 1) rfl rfl (by omega) (by omega)
              refine va_put (D := D) (ci := 6) (v := .int v_46) (ty := .int) (C := RX6) (T := TX6) (N := 5) hx hb hT iX6 tyX6 tyX6_ok nmX6 hown hK hP hD hS 10 rfl rfl 3 (by decide) (hT _ t_648) (fun _ h9 => h9) rfl (by decide +kernel) rfl rfl (Nat.le_of_ble_eq_true rfl) dX6_piece_144 (fun H locs hP hD hS => ?_)
              rw [zP4] at hP hD
              have hRi := Yi_upd hRi 4 v_46 (b_rg _)
              have hEi := Ei_upd hEi 4 v_46 (by decide)
              refine lv_aload_n hx hb dX6_piece_147 rfl (lv_at hl 2 rfl) ?_
              refine lv_iload_n hx hb dX6_piece_148 rfl (lv_at hl 3 rfl) ?_
              refine lv_iconst (v := 1) hx hb dX6_piece_149 (by decide) ?_
              have hF_47 := rF hD hS hA
              refine va_calli (va_runV (As := [.int p0, .int 1]) (rest := []) ⟨hx, hb, hml, hown, hT⟩ (hX3 p0 rfl (upd i21 4 v_46) r21 _ hRi hRr (show 0 ≤ v_46.toInt ∧ v_46.toInt ≤ ((upd i21 4 v_46) 3).toInt from ⟨by omega, by rw [show (upd i21 4 v_46) 3 = i 3 from hEi 3 (by decide)]; omega⟩)) (cwV 2 hT (gV t_674 t_675 t_676 t_677 t_653) rfl rfl rfl (by decide +kernel) hR3) (rS_v hsk hS hF_47 hP hK hD (va_recv hK hP (ci := 6) (q0 := 10) rfl rfl)) rfl rfl hl.1 rfl (lv_room (Nat.le_of_ble_eq_true rfl)) dX6_piece_150 ⟨Nat.le_of_ble_eq_true rfl, Nat.le_of_ble_eq_true rfl⟩) hS (fun q _ h => hF_47 q h) hF_47 (fun r_48 u_49 t H1 locs ht hvm hr_48 hB hz1 hk1 hS => ?_)
              obtain ⟨i49, r49⟩ := u_49
              obtain ⟨hP, hK1, hD1⟩ := hB
              rw [ht] at hP
              have hD := hD1.weaken (fun k q _ h => hF_47 q.1 h)
              obtain ⟨hRi, hRr, hE1, hE2, hr_48⟩ := hr_48
              have hRi : yRi i49 := hRi
              have hE1 : mEi [4, 5, 7] (upd i21 4 v_46) i49 := hE1
              have hRr : yRr r49 := hRr
              have hE2 : mEr [17, 18] r21 r49 := hE2
              have hP : va_P D vwCl (xW cy a i49 r49 q (a 20) (a 12) ++ tl) H1 := hP
              have hD : va_D A (xW cy a i49 r49 q (a 20) (a 12) ++ tl) := hD
              have hEi : mEi [4, 5, 7] _ i49 := Ei_tr hEi hE1 (by decide)
              have hEr : mEr [17, 18] _ r49 := Er_tr hEr hE2 (by decide)
              have h3r_48 : (upd i21 4 v_46) 3 = i 3 := (hE1 3 (by decide)).symm.trans (hEi 3 (by decide))
              have h11r_48 : r21 11 = r 11 := (hE2 11 (by decide)).symm.trans (hEr 11 (by decide))
              obtain ⟨hzr_48, ⟨⟨har_48, hbr_48⟩, hcr_48⟩, hXr_48⟩ := hr_48
              have har_48 : 0 ≤ (i49 4).toInt := har_48
              have hbr_48 : (i49 4).toInt ≤ (i 3).toInt := by rw [← h3r_48]; exact hbr_48
              try dsimp only at hXr_48
              rw [h3r_48, h11r_48] at hXr_48
              rcases hzr_48 with rfl | rfl
              · skip
                refine lv_if_ne (tgt := 158) hx hb dX6_piece_153 (by decide) (fun c_50 => absurd (by decide) c_50) (fun c_50 => ?_)
                refine lv_iconst (v := 0) hx hb dX6_piece_156 (by decide) ?_
                subst hQ
                have hch : r_24.toInt = 61 := by omega
                have hcm : 7 ≤ qCmp (qTX (i 3) (r 11) (i21 4).toInt.toNat) := by rw [← hqr_24, hch]; decide
                have hpo9 : ((0 : Int32) = 0 ∨ (0 : Int32) = 1) ∧ ((0 ≤ (i49 4).toInt ∧ (i49 4).toInt ≤ (i 3).toInt) ∧ ((0 : Int32).toInt ≠ 0 → (i 4).toInt < (i49 4).toInt ∧ i49 5 = i 5)) ∧ qX (qTX (i 3) (r 11)) 8 7 p0 qK4 qTt False i r i49 r49 (0 : Int32) := ⟨Or.inl rfl, ⟨⟨har_48, hbr_48⟩, fun h9 => absurd rfl h9⟩, qp_e2 (by omega) (by omega) hXr_20 har_20 hcm (i3 := (upd i21 4 v_46)) (r3 := r21) (by show v_46.toInt = _; omega) rfl rfl rfl hXr_48⟩
                exact W.zret hx hb hr rfl (fun t ht hW => ⟨⟨_, (i49, r49), rfl, ⟨hRi, hRr, hEi, hEr, hpo9⟩, by rw [ht]; exact hP, va_K.moved hW.alike hK, hD⟩, hS.F ht⟩) hS.2.2 dX6_piece_157
              · skip
                have h5r_48 : i49 5 = i 5 := (hcr_48 (by decide)).2.trans h5r_20
                have hcr_48 : v_46.toInt < (i49 4).toInt := (hcr_48 (by decide)).1
                refine lv_if_ne (tgt := 158) hx hb dX6_piece_153 (by decide) (fun c_51 => ?_) (fun c_51 => absurd c_51 (by decide))
                refine lv_aload_n hx hb dX6_piece_158 rfl (lv_at hl 2 rfl) ?_
                refine va_get (D := D) (ci := 6) (v := .ref (a 12)) (C := RX6) (T := TX6) (N := 5) hx hb hT iX6 hown hK hP 10 rfl rfl 0 (by decide) (hT _ t_661) (fun _ h9 => h9) rfl dX6_piece_159 ?_
                refine lv_iload_n hx hb dX6_piece_162 rfl (lv_at hl 0 rfl) ?_
                refine lv_iconst (v := 0) hx hb dX6_piece_163 (by decide) ?_
                have hF_52 := rF hD hS hA
                refine va_calli (va_runV (As := [.int r_24, .int 0]) (rest := []) ⟨hx, hb, hml, hown, hT⟩ (c_X5_add9 l D cy a i49 r49 q tl r_24 0 _ hRi hRr) (cwV 2 hT (gV t_662 t_663 t_664 t_665 t_367) rfl rfl rfl (by decide +kernel) ⟨Nat.le_trans (m := 3) (Nat.le_of_ble_eq_true rfl) hF9.1, Nat.le_trans (m := 66) (Nat.le_of_ble_eq_true rfl) hF9.2⟩) (rQ_v hP hK hD (va_recv hK hP (ci := 5) (q0 := 12) rfl rfl)) rfl rfl hl.1 rfl (lv_room (Nat.le_of_ble_eq_true rfl)) dX6_piece_164 ⟨Nat.le_of_ble_eq_true rfl, Nat.le_of_ble_eq_true rfl⟩) hS (fun q _ h => hF_52 q h) hF_52 (fun r_53 u_54 t H1 locs ht hvm hr_53 hB hz1 hk1 hS => ?_)
                obtain ⟨i54, r54⟩ := u_54
                obtain ⟨hP, hK1, hD1⟩ := hB
                rw [ht] at hP
                have hD := hD1.weaken (fun k q _ h => hF_52 q.1 h)
                obtain ⟨hRi, hRr, hE1, hE2, hr_53⟩ := hr_53
                have hRi : yRi i54 := hRi
                have hE1 : mEi [7] i49 i54 := hE1
                have hRr : yRr r54 := hRr
                have hE2 : mEr [17, 18] r49 r54 := hE2
                have hP : va_P D vwCl (xW cy a i54 r54 q (a 20) (a 12) ++ tl) H1 := hP
                have hD : va_D A (xW cy a i54 r54 q (a 20) (a 12) ++ tl) := hD
                have hEi : mEi [4, 5, 7] _ i54 := Ei_tr hEi hE1 (by decide)
                have hEr : mEr [17, 18] _ r54 := Er_tr hEr hE2 (by decide)
                obtain ⟨hZr_53, hr_53⟩ := hr_53
                have hZr_53 : -1 ≤ r_53.toInt ∧ r_53.toInt ≤ 200 := hZr_53
                have hAr_53 : qAdd i49 r49 i54 r54 r_24 (0 : Int32) := fun h9 => (hr_53 h9).2
                have hJr_53 : (i49 7).toInt < 200 → r_53.toInt = (i49 7).toInt := fun h9 => congrArg Int32.toInt (hr_53 h9).1
                have hBr_53 : i54 4 = (i49 4) := hE1 4 (by decide)
                have hBtr_53 : (i54 4).toInt = (i49 4).toInt := congrArg Int32.toInt hBr_53
                clear hr_53
                have hr_53 : True := trivial
                have h5r_53 : i54 5 = i 5 := (hE1 5 (by decide)).trans h5r_48
                refine lv_pop hx hb dX6_piece_167 rfl ?_
                refine lv_iconst (v := 1) hx hb dX6_piece_168 (by decide) ?_
                subst hQ
                have hch : r_24.toInt = 61 := by omega
                have hcm : 7 ≤ qCmp (qTX (i 3) (r 11) (i21 4).toInt.toNat) := by rw [← hqr_24, hch]; decide
                have hpo9 : ((1 : Int32) = 0 ∨ (1 : Int32) = 1) ∧ ((0 ≤ (i54 4).toInt ∧ (i54 4).toInt ≤ (i 3).toInt) ∧ ((1 : Int32).toInt ≠ 0 → (i 4).toInt < (i54 4).toInt ∧ i54 5 = i 5)) ∧ qX (qTX (i 3) (r 11)) 8 7 p0 qK4 qTt False i r i54 r54 (1 : Int32) := ⟨Or.inr rfl, ⟨⟨by rw [hBr_53]; exact har_48, by rw [hBr_53]; exact hbr_48⟩, (fun _ => ⟨by rw [hBr_53]; omega, h5r_53⟩)⟩, qp_cmp (by omega) (by omega) hXr_20 har_20 hcm (i3 := (upd i21 4 v_46)) (r3 := r21) (by show v_46.toInt = _; omega) rfl rfl rfl hXr_48 har_48 (by omega) hBr_53 hAr_53 hqr_24 rfl⟩
                exact W.zret hx hb hr rfl (fun t ht hW => ⟨⟨_, (i54, r54), rfl, ⟨hRi, hRr, hEi, hEr, hpo9⟩, by rw [ht]; exact hP, va_K.moved hW.alike hK, hD⟩, hS.F ht⟩) hS.2.2 dX6_piece_169
            · have c_45 : r_24.toInt ≠ 61 := b_ne c_45
              refine lv_aload_n hx hb dX6_piece_131 rfl (lv_at hl 2 rfl) ?_
              refine lv_iconst (v := 1) hx hb dX6_piece_132 (by decide) ?_
              have hF_55 := rF hD hS hA
              refine va_calli (va_runV (As := [.int 1]) (rest := []) ⟨hx, hb, hml, hown, hT⟩ (c_X6_refuse9 l D cy a i21 r21 q tl 1 _ hRi hRr (by decide) (show 0 ≤ (i21 4).toInt ∧ (i21 4).toInt ≤ 300 by omega)) (cwV 1 hT (gV t_657 t_658 t_659 t_660 t_653) rfl rfl rfl (by decide +kernel) ⟨Nat.le_trans (m := 3) (Nat.le_of_ble_eq_true rfl) hF9.1, Nat.le_trans (m := 66) (Nat.le_of_ble_eq_true rfl) hF9.2⟩) (rQ_v hP hK hD (va_recv hK hP (ci := 6) (q0 := 10) rfl rfl)) rfl rfl hl.1 rfl (lv_room (Nat.le_of_ble_eq_true rfl)) dX6_piece_133 ⟨Nat.le_of_ble_eq_true rfl, Nat.le_of_ble_eq_true rfl⟩) hS (fun q _ h => hF_55 q h) hF_55 (fun r_56 u_57 t H1 locs ht hvm hr_56 hB hz1 hk1 hS => ?_)
              obtain ⟨i57, r57⟩ := u_57
              obtain ⟨hP, hK1, hD1⟩ := hB
              rw [ht] at hP
              have hD := hD1.weaken (fun k q _ h => hF_55 q.1 h)
              obtain ⟨hRi, hRr, hE1, hE2, hr_56⟩ := hr_56
              have hRi : yRi i57 := hRi
              have hE1 : mEi [5] i21 i57 := hE1
              have hRr : yRr r57 := hRr
              have hE2 : mEr [] r21 r57 := hE2
              have hP : va_P D vwCl (xW cy a i57 r57 q (a 20) (a 12) ++ tl) H1 := hP
              have hD : va_D A (xW cy a i57 r57 q (a 20) (a 12) ++ tl) := hD
              have hEi : mEi [4, 5, 7] _ i57 := Ei_tr hEi hE1 (by decide)
              have hEr : mEr [17, 18] _ r57 := Er_tr hEr hE2 (by decide)
              obtain ⟨rfl, hF9⟩ := hr_56
              have hF9 : (i57 5).toInt = -1000 * 1 - (i21 4).toInt := hF9
              have hF4 : i57 4 = (i21 4) := hE1 4 (by decide)
              subst hQ
              have hpo9 : ((0 : Int32) = 0 ∨ (0 : Int32) = 1) ∧ ((0 ≤ (i57 4).toInt ∧ (i57 4).toInt ≤ (i 3).toInt) ∧ ((0 : Int32).toInt ≠ 0 → (i 4).toInt < (i57 4).toInt ∧ i57 5 = i 5)) ∧ qX (qTX (i 3) (r 11)) 8 7 p0 qK4 qTt False i r i57 r57 (0 : Int32) := ⟨Or.inl rfl, ⟨⟨by rw [hF4]; omega, by rw [hF4]; omega⟩, fun h9 => absurd rfl h9⟩, qp_cmp0 (by omega) (by omega) hXr_20 har_20 (by rw [← hqr_24]; exact qCmp_n (by omega) (by omega) (by omega)) (by omega)⟩
              exact W.zret hx hb hr rfl (fun t ht hW => ⟨⟨_, (i57, r57), rfl, ⟨hRi, hRr, hEi, hEr, hpo9⟩, by rw [ht]; exact hP, va_K.moved hW.alike hK, hD⟩, hS.F ht⟩) hS.2.2 dX6_piece_136
    · have c_18 : r_1.toInt = 40 := b_nne c_18
      have hlo := qTX_lt (e := i 3) (t := r 11) (p := (i 4).toInt.toNat) (by omega)
      refine lv_iload_n hx hb dX6_piece_17 rfl (lv_at hl 2 rfl) ?_
      refine lv_bipush (v := 6) hx hb dX6_piece_18 (by decide) ?_
      refine lv_icmp_lt (tgt := 29) hx hb dX6_piece_20 (by decide) (fun c_58 => ?_) (fun c_58 => ?_)
      · have c_58 : p0.toInt < 6 := b_lt c_58
        refine lv_aload_n hx hb dX6_piece_29 rfl (lv_at hl 1 rfl) ?_
        refine lv_dup hx hb dX6_piece_30 rfl ?_
        refine va_get (D := D) (ci := 6) (v := .int (i 4)) (C := RX6) (T := TX6) (N := 5) hx hb hT iX6 hown hK hP 10 rfl rfl 3 (by decide) (hT _ t_648) (fun _ h9 => h9) rfl dX6_piece_31 ?_
        refine lv_iconst (v := 1) hx hb dX6_piece_34 (by decide) ?_
        refine lv_iadd hx hb dX6_piece_35 ?_
        refine lv_topi (fun v_59 ev_59 => ?_)
        have hv_59 : v_59.toInt = (i 4).toInt + 1 := by rw [ev_59]; have := b_rg (i 4); exact i_add (a := (i 4).toInt) (b := 1) rfl rfl (by omega) (by omega)
        refine va_put (D := D) (ci := 6) (v := .int v_59) (ty := .int) (C := RX6) (T := TX6) (N := 5) hx hb hT iX6 tyX6 tyX6_ok nmX6 hown hK hP hD hS 10 rfl rfl 3 (by decide) (hT _ t_648) (fun _ h9 => h9) rfl (by decide +kernel) rfl rfl (Nat.le_of_ble_eq_true rfl) dX6_piece_36 (fun H locs hP hD hS => ?_)
        rw [zP4] at hP hD
        have hRi := Yi_upd hRi 4 v_59 (b_rg _)
        have hEi := Ei_upd hEi 4 v_59 (by decide)
        refine lv_iload_n hx hb dX6_piece_39 rfl (lv_at hl 0 rfl) ?_
        refine lv_bipush (v := 40) hx hb dX6_piece_40 (by decide) ?_
        refine lv_icmp_ne (tgt := 72) hx hb dX6_piece_42 (by decide) (fun c_60 => by have c_60 : r_1.toInt ≠ 40 := b_ne c_60; omega) (fun c_60 => ?_)
        have c_60 : r_1.toInt = 40 := b_nne c_60
        refine lv_aload_n hx hb dX6_piece_45 rfl (lv_at hl 1 rfl) ?_
        refine lv_iload_n hx hb dX6_piece_46 rfl (lv_at hl 2 rfl) ?_
        refine lv_iconst (v := 1) hx hb dX6_piece_47 (by decide) ?_
        refine lv_iadd hx hb dX6_piece_48 ?_
        refine lv_topi (fun v_61 ev_61 => ?_)
        have hv_61 : v_61.toInt = p0.toInt + 1 := by rw [ev_61]; have := b_rg p0; exact i_add (a := p0.toInt) (b := 1) rfl rfl (by omega) (by omega)
        refine lv_bipush (v := 124) hx hb dX6_piece_49 (by decide) ?_
        have hF_62 := rF hD hS hA
        refine va_calli (va_runV (As := [.int v_61, .int 124]) (rest := []) ⟨hx, hb, hml, hown, hT⟩ (hX1 v_61 (by omega) (by omega) (upd i 4 v_59) r _ hRi hRr (show 0 ≤ v_59.toInt ∧ v_59.toInt ≤ ((upd i 4 v_59) 3).toInt from ⟨by omega, by rw [show (upd i 4 v_59) 3 = i 3 from hEi 3 (by decide)]; omega⟩)) (cwV 2 hT (gV t_690 t_691 t_692 t_693 t_653) rfl rfl rfl (by decide +kernel) hR1) (rS_v hsk hS hF_62 hP hK hD (va_recv hK hP (ci := 6) (q0 := 10) rfl rfl)) rfl rfl hl.1 rfl (lv_room (Nat.le_of_ble_eq_true rfl)) dX6_piece_51 ⟨Nat.le_of_ble_eq_true rfl, Nat.le_of_ble_eq_true rfl⟩) hS (fun q _ h => hF_62 q h) hF_62 (fun r_63 u_64 t H1 locs ht hvm hr_63 hB hz1 hk1 hS => ?_)
        obtain ⟨i64, r64⟩ := u_64
        obtain ⟨hP, hK1, hD1⟩ := hB
        rw [ht] at hP
        have hD := hD1.weaken (fun k q _ h => hF_62 q.1 h)
        obtain ⟨hRi, hRr, hE1, hE2, hr_63⟩ := hr_63
        have hRi : yRi i64 := hRi
        have hE1 : mEi [4, 5, 7] (upd i 4 v_59) i64 := hE1
        have hRr : yRr r64 := hRr
        have hE2 : mEr [17, 18] r r64 := hE2
        have hP : va_P D vwCl (xW cy a i64 r64 q (a 20) (a 12) ++ tl) H1 := hP
        have hD : va_D A (xW cy a i64 r64 q (a 20) (a 12) ++ tl) := hD
        have hEi : mEi [4, 5, 7] _ i64 := Ei_tr hEi hE1 (by decide)
        have hEr : mEr [17, 18] _ r64 := Er_tr hEr hE2 (by decide)
        have h3r_63 : (upd i 4 v_59) 3 = i 3 := (hE1 3 (by decide)).symm.trans (hEi 3 (by decide))
        have h11r_63 : r 11 = r 11 := (hE2 11 (by decide)).symm.trans (hEr 11 (by decide))
        obtain ⟨hzr_63, ⟨⟨har_63, hbr_63⟩, hcr_63⟩, hXr_63⟩ := hr_63
        have har_63 : 0 ≤ (i64 4).toInt := har_63
        have hbr_63 : (i64 4).toInt ≤ (i 3).toInt := by rw [← h3r_63]; exact hbr_63
        try dsimp only at hXr_63
        rw [h3r_63, h11r_63] at hXr_63
        rcases hzr_63 with rfl | rfl
        · skip
          refine lv_if_eq (tgt := 70) hx hb dX6_piece_54 (by decide) (fun c_65 => ?_) (fun c_65 => absurd (by decide) c_65)
          refine lv_iconst (v := 0) hx hb dX6_piece_70 (by decide) ?_
          subst hQ
          have ho1 : v_61 = p0 + 1 := o1_9 (by omega) (by omega)
          rw [ho1] at hXr_63
          have hpo9 : ((0 : Int32) = 0 ∨ (0 : Int32) = 1) ∧ ((0 ≤ (i64 4).toInt ∧ (i64 4).toInt ≤ (i 3).toInt) ∧ ((0 : Int32).toInt ≠ 0 → (i 4).toInt < (i64 4).toInt ∧ i64 5 = i 5)) ∧ qX (qTX (i 3) (r 11)) 8 7 p0 qK4 qTt False i r i64 r64 (0 : Int32) := ⟨Or.inl rfl, ⟨⟨har_63, hbr_63⟩, fun h9 => absurd rfl h9⟩, qp_parE (i1 := (upd i 4 v_59)) (r1 := r) (i2 := i64) (r2 := r64) (ne6 (by omega)) (by omega) h4.1 (by show v_59.toInt = _; omega) rfl rfl rfl hXr_63⟩
          exact W.zret hx hb hr rfl (fun t ht hW => ⟨⟨_, (i64, r64), rfl, ⟨hRi, hRr, hEi, hEr, hpo9⟩, by rw [ht]; exact hP, va_K.moved hW.alike hK, hD⟩, hS.F ht⟩) hS.2.2 dX6_piece_71
        · skip
          have h5r_63 : i64 5 = i 5 := (hcr_63 (by decide)).2.trans rfl
          have hcr_63 : v_59.toInt < (i64 4).toInt := (hcr_63 (by decide)).1
          refine lv_if_eq (tgt := 70) hx hb dX6_piece_54 (by decide) (fun c_66 => absurd c_66 (by decide)) (fun c_66 => ?_)
          refine lv_aload_n hx hb dX6_piece_57 rfl (lv_at hl 1 rfl) ?_
          refine lv_bipush (v := 41) hx hb dX6_piece_58 (by decide) ?_
          have hF_67 := rF hD hS hA
          refine va_calli (va_runV (As := [.int 41]) (rest := []) ⟨hx, hb, hml, hown, hT⟩ (c_X6_pass9 l D cy a i64 r64 q tl 41 _ hRi hRr (show 0 ≤ (i64 4).toInt ∧ (i64 4).toInt ≤ 200 by omega)) (cwV 1 hT (gV t_678 t_679 t_680 t_681 t_653) rfl rfl rfl (by decide +kernel) ⟨Nat.le_trans (m := 3) (Nat.le_of_ble_eq_true rfl) hF9.1, Nat.le_trans (m := 66) (Nat.le_of_ble_eq_true rfl) hF9.2⟩) (rQ_v hP hK hD (va_recv hK hP (ci := 6) (q0 := 10) rfl rfl)) rfl rfl hl.1 rfl (lv_room (Nat.le_of_ble_eq_true rfl)) dX6_piece_60 ⟨Nat.le_of_ble_eq_true rfl, Nat.le_of_ble_eq_true rfl⟩) hS (fun q _ h => hF_67 q h) hF_67 (fun r_68 u_69 t H1 locs ht hvm hr_68 hB hz1 hk1 hS => ?_)
          obtain ⟨i69, r69⟩ := u_69
          obtain ⟨hP, hK1, hD1⟩ := hB
          rw [ht] at hP
          have hD := hD1.weaken (fun k q _ h => hF_67 q.1 h)
          obtain ⟨hRi, hRr, hE1, hE2, hr_68⟩ := hr_68
          have hRi : yRi i69 := hRi
          have hE1 : mEi [4, 5] i64 i69 := hE1
          have hRr : yRr r69 := hRr
          have hE2 : mEr [] r64 r69 := hE2
          have hP : va_P D vwCl (xW cy a i69 r69 q (a 20) (a 12) ++ tl) H1 := hP
          have hD : va_D A (xW cy a i69 r69 q (a 20) (a 12) ++ tl) := hD
          have hEi : mEi [4, 5, 7] _ i69 := Ei_tr hEi hE1 (by decide)
          have hEr : mEr [17, 18] _ r69 := Er_tr hEr hE2 (by decide)
          have h3r_68 : i64 3 = i 3 := (hE1 3 (by decide)).symm.trans (hEi 3 (by decide))
          have h11r_68 : r64 11 = r 11 := (hE2 11 (by decide)).symm.trans (hEr 11 (by decide))
          rw [h3r_68, h11r_68] at hr_68
          rcases hr_68 with ⟨rfl, hp1, hp2, hp5⟩ | ⟨rfl, hp1, hp2, hp3⟩
          · have hp1 : qTX (i 3) (r 11) (i64 4).toInt.toNat = 41 := hp1
            have h5r_68 : i69 5 = i 5 := hp5.trans h5r_63
            have hp2 : (i69 4).toInt = (i64 4).toInt + 1 := hp2
            have hpl := qTX_lt (e := i 3) (t := r 11) (p := (i64 4).toInt.toNat) (by omega)
            refine lv_if_eq (tgt := 70) hx hb dX6_piece_63 (by decide) (fun c_70 => absurd c_70 (by decide)) (fun c_70 => ?_)
            refine lv_iconst (v := 1) hx hb dX6_piece_66 (by decide) ?_
            refine lv_goto (tgt := 71) hx hb dX6_piece_67 (by decide) ?_
            subst hQ
            have ho1 : v_61 = p0 + 1 := o1_9 (by omega) (by omega)
            rw [ho1] at hXr_63
            have hpo9 : ((1 : Int32) = 0 ∨ (1 : Int32) = 1) ∧ ((0 ≤ (i69 4).toInt ∧ (i69 4).toInt ≤ (i 3).toInt) ∧ ((1 : Int32).toInt ≠ 0 → (i 4).toInt < (i69 4).toInt ∧ i69 5 = i 5)) ∧ qX (qTX (i 3) (r 11)) 8 7 p0 qK4 qTt False i r i69 r69 (1 : Int32) := ⟨Or.inr rfl, ⟨⟨by omega, by omega⟩, (fun _ => ⟨by omega, h5r_68⟩)⟩, qp_par (i1 := (upd i 4 v_59)) (r1 := r) (i2 := i64) (r2 := r64) (ne6 (by omega)) (by omega) h4.1 (by show v_59.toInt = _; omega) rfl rfl rfl hXr_63 har_63 (Or.inl ⟨rfl, hp1, hp2, hE1 7 (by decide), hE2 17 (by decide), hE2 18 (by decide)⟩)⟩
            exact W.zret hx hb hr rfl (fun t ht hW => ⟨⟨_, (i69, r69), rfl, ⟨hRi, hRr, hEi, hEr, hpo9⟩, by rw [ht]; exact hP, va_K.moved hW.alike hK, hD⟩, hS.F ht⟩) hS.2.2 dX6_piece_71
          · have hp1 : qTX (i 3) (r 11) (i64 4).toInt.toNat ≠ 41 := hp1
            have hp2 : (i69 5).toInt = -1000 - (i64 4).toInt := hp2
            have hp3 : i69 4 = (i64 4) := hp3
            refine lv_if_eq (tgt := 70) hx hb dX6_piece_63 (by decide) (fun c_71 => ?_) (fun c_71 => absurd (by decide) c_71)
            refine lv_iconst (v := 0) hx hb dX6_piece_70 (by decide) ?_
            subst hQ
            have ho1 : v_61 = p0 + 1 := o1_9 (by omega) (by omega)
            rw [ho1] at hXr_63
            have hpo9 : ((0 : Int32) = 0 ∨ (0 : Int32) = 1) ∧ ((0 ≤ (i69 4).toInt ∧ (i69 4).toInt ≤ (i 3).toInt) ∧ ((0 : Int32).toInt ≠ 0 → (i 4).toInt < (i69 4).toInt ∧ i69 5 = i 5)) ∧ qX (qTX (i 3) (r 11)) 8 7 p0 qK4 qTt False i r i69 r69 (0 : Int32) := ⟨Or.inl rfl, ⟨⟨by rw [hp3]; exact har_63, by rw [hp3]; exact hbr_63⟩, fun h9 => absurd rfl h9⟩, qp_par (i1 := (upd i 4 v_59)) (r1 := r) (i2 := i64) (r2 := r64) (ne6 (by omega)) (by omega) h4.1 (by show v_59.toInt = _; omega) rfl rfl rfl hXr_63 har_63 (Or.inr ⟨rfl, hp1, by omega⟩)⟩
            exact W.zret hx hb hr rfl (fun t ht hW => ⟨⟨_, (i69, r69), rfl, ⟨hRi, hRr, hEi, hEr, hpo9⟩, by rw [ht]; exact hP, va_K.moved hW.alike hK, hD⟩, hS.F ht⟩) hS.2.2 dX6_piece_71
      · have c_58 : 6 ≤ p0.toInt := b_nlt c_58
        refine lv_aload_n hx hb dX6_piece_23 rfl (lv_at hl 1 rfl) ?_
        refine lv_iconst (v := 5) hx hb dX6_piece_24 (by decide) ?_
        have hF_72 := rF hD hS hA
        refine va_calli (va_runV (As := [.int 5]) (rest := []) ⟨hx, hb, hml, hown, hT⟩ (c_X6_refuse9 l D cy a i r q tl 5 _ hRi hRr (by decide) (show 0 ≤ (i 4).toInt ∧ (i 4).toInt ≤ 300 by omega)) (cwV 1 hT (gV t_657 t_658 t_659 t_660 t_653) rfl rfl rfl (by decide +kernel) ⟨Nat.le_trans (m := 3) (Nat.le_of_ble_eq_true rfl) hF9.1, Nat.le_trans (m := 66) (Nat.le_of_ble_eq_true rfl) hF9.2⟩) (rQ_v hP hK hD (va_recv hK hP (ci := 6) (q0 := 10) rfl rfl)) rfl rfl hl.1 rfl (lv_room (Nat.le_of_ble_eq_true rfl)) dX6_piece_25 ⟨Nat.le_of_ble_eq_true rfl, Nat.le_of_ble_eq_true rfl⟩) hS (fun q _ h => hF_72 q h) hF_72 (fun r_73 u_74 t H1 locs ht hvm hr_73 hB hz1 hk1 hS => ?_)
        obtain ⟨i74, r74⟩ := u_74
        obtain ⟨hP, hK1, hD1⟩ := hB
        rw [ht] at hP
        have hD := hD1.weaken (fun k q _ h => hF_72 q.1 h)
        obtain ⟨hRi, hRr, hE1, hE2, hr_73⟩ := hr_73
        have hRi : yRi i74 := hRi
        have hE1 : mEi [5] i i74 := hE1
        have hRr : yRr r74 := hRr
        have hE2 : mEr [] r r74 := hE2
        have hP : va_P D vwCl (xW cy a i74 r74 q (a 20) (a 12) ++ tl) H1 := hP
        have hD : va_D A (xW cy a i74 r74 q (a 20) (a 12) ++ tl) := hD
        have hEi : mEi [4, 5, 7] _ i74 := Ei_tr hEi hE1 (by decide)
        have hEr : mEr [17, 18] _ r74 := Er_tr hEr hE2 (by decide)
        obtain ⟨rfl, hF9⟩ := hr_73
        have hF9 : (i74 5).toInt = -1000 * 5 - (i 4).toInt := hF9
        have hF4 : i74 4 = (i 4) := hE1 4 (by decide)
        subst hQ
        have hpo9 : ((0 : Int32) = 0 ∨ (0 : Int32) = 1) ∧ ((0 ≤ (i74 4).toInt ∧ (i74 4).toInt ≤ (i 3).toInt) ∧ ((0 : Int32).toInt ≠ 0 → (i 4).toInt < (i74 4).toInt ∧ i74 5 = i 5)) ∧ qX (qTX (i 3) (r 11)) 8 7 p0 qK4 qTt False i r i74 r74 (0 : Int32) := ⟨Or.inl rfl, ⟨⟨by rw [hF4]; omega, by rw [hF4]; omega⟩, fun h9 => absurd rfl h9⟩, qX_fail (p9 := (i 4).toInt.toNat) (k9 := 5) (kz := 5) (fun m n b rc hf w c => qm_opn6 (by omega) (Int32.toInt_inj.mp (show p0.toInt = 6 by omega))) (by omega)⟩
        exact W.zret hx hb hr rfl (fun t ht hW => ⟨⟨_, (i74, r74), rfl, ⟨hRi, hRr, hEi, hEr, hpo9⟩, by rw [ht]; exact hP, va_K.moved hW.alike hK, hD⟩, hS.F ht⟩) hS.2.2 dX6_piece_28
set_option maxHeartbeats 4000000 in
set_option maxRecDepth 100000 in
theorem c_X6_condition_kq38 (l : Launch) (D : va_G) (cy : Nat → ClassId) (a : Nat → Nat) (i : Nat → Int32) (r : Nat → Nat → Int32) (q : Nat → Option Nat) (tl : va_W) (kq vq : Nat) (p0 : Int32) (sz : Nat) (hRi : yRi i) (hRr : yRr r) (h4 : 0 ≤ (i 4).toInt ∧ (i 4).toInt ≤ (i 3).toInt) (F9 L9 F1 L1 : Nat) (hF9 : 2 ≤ F9 ∧ 46 ≤ L9) (q0 : 1 ≤ p0.toInt ∧ p0.toInt ≤ 6) (hX1 : ∀ k9 : Int32, k9 = p0 → ∀ (i : Nat → Int32) (r : Nat → Nat → Int32) (sz : Nat) (hRi : yRi i) (hRr : yRr r) (h4 : 0 ≤ (i 4).toInt ∧ (i 4).toInt ≤ (i 3).toInt), Met l yX6_piece (Cond.code yX6_piece cX6_piece 4 (some .boolean) :: gT) { frames := F1, cells := 0, slots := 0, locals := L1 } (va_Pc [.ref (a 10), .int k9] (rS D cy (xW cy a i r q (a 20) (a 12) ++ tl) sz kq vq)) (va_Qi (fun (z : Int32) (u : (Nat → Int32) × (Nat → Nat → Int32)) => yRi u.1 ∧ yRr u.2 ∧ mEi [4, 5, 7] i u.1 ∧ mEr [17, 18] r u.2 ∧ ((z = 0 ∨ z = 1) ∧ ((0 ≤ (u.1 4).toInt ∧ (u.1 4).toInt ≤ (i 3).toInt) ∧ (z.toInt ≠ 0 → (i 4).toInt < (u.1 4).toInt ∧ u.1 5 = i 5)) ∧ qX (qTX (i 3) (r 11)) 8 7 k9 qK4 qTt False i r u.1 u.2 z)) (fun (u : (Nat → Int32) × (Nat → Nat → Int32)) t => va_P D vwCl (xW cy a u.1 u.2 q (a 20) (a 12) ++ tl) t.heap ∧ va_K D vwCl (vT cy) t ∧ va_D (va_A (xW cy a i r q (a 20) (a 12) ++ tl) sz) (xW cy a u.1 u.2 q (a 20) (a 12) ++ tl)) (va_A (xW cy a i r q (a 20) (a 12) ++ tl) sz)) 0 0 (va_A (xW cy a i r q (a 20) (a 12) ++ tl) sz)) (hR1 : F1 + 1 ≤ F9 ∧ 8 + (4 + 11) + L1 ≤ L9) : Met l yX6_condition (Cond.code yX6_condition cX6_condition 6 (some .boolean) :: gT) { frames := F9, cells := 0, slots := 0, locals := L9 } (va_Pc [.ref (a 10), .int p0, .int 38] (rS D cy (xW cy a i r q (a 20) (a 12) ++ tl) sz kq vq)) (va_Qi (fun (z : Int32) (u : (Nat → Int32) × (Nat → Nat → Int32)) => yRi u.1 ∧ yRr u.2 ∧ mEi [4, 5, 7] i u.1 ∧ mEr [17, 18] r u.2 ∧ ((z = 0 ∨ z = 1) ∧ ((0 ≤ (u.1 4).toInt ∧ (u.1 4).toInt ≤ (i 3).toInt) ∧ (z.toInt ≠ 0 → (i 4).toInt < (u.1 4).toInt ∧ u.1 5 = i 5)) ∧ qX (qTX (i 3) (r 11)) 8 10 p0 qKa qEa False i r u.1 u.2 z)) (fun (u : (Nat → Int32) × (Nat → Nat → Int32)) t => va_P D vwCl (xW cy a u.1 u.2 q (a 20) (a 12) ++ tl) t.heap ∧ va_K D vwCl (vT cy) t ∧ va_D (va_A (xW cy a i r q (a 20) (a 12) ++ tl) sz) (xW cy a u.1 u.2 q (a 20) (a 12) ++ tl)) (va_A (xW cy a i r q (a 20) (a 12) ++ tl) sz)) 0 0 (va_A (xW cy a i r q (a 20) (a 12) ++ tl) sz) := by
  refine Met.ofQ (cc := cX6_condition) (maxL := 6) (ret := (some .boolean)) (by decide) rfl ?_
  intro p e s m args below meth c s₁ B hml hv Q hQ
  obtain ⟨rfl, hsk, hsz, hP, hK, hD0⟩ := hv
  have hx := B.exec
  have hb := B.bytes
  have hr := B.returns
  have hlocks := B.notSynchronized
  have hT : ∀ w ∈ gT, w.before _ s = true := fun w h => atoms_spec (ws := (Cond.code yX6_condition cX6_condition 6 (some .boolean) :: gT)) B.pre w (List.mem_cons_of_mem _ h)
  have hown : s.vm.findClass RX6 = some m.cls := findClass_of_methodNamed B.named
  subst hsz
  have hD := hD0.self (sz := s.heap.size)
  generalize hAe : va_A (xW cy a i r q (a 20) (a 12) ++ tl) s.heap.size = A at hD hQ hsk
  have hA : ∀ q : Nat, s.heap.size ≤ q → A q := fun q h => by rw [← hAe]; exact Or.inr h
  have hS : va_S A s.heap s.heap [] := va_S.rf
  have hl := lv_entry ([.ref (a 10), .int p0, .int 38]) (n := 6) (Nat.le_of_ble_eq_true rfl)
  rw [lg_entry_eq]
  generalize (lg_sl ([.ref (a 10), .int p0, .int 38]) ++ List.replicate (6 - (lg_sl ([.ref (a 10), .int p0, .int 38])).length) Slot.unset).toArray = ls at hl ⊢
  have hl : lv_has ls 6 [(0, .ref (a 10)), (1, .int p0), (2, .int 38)] := hl
  have hEi : mEi [4, 5, 7] i i := Ei_rf
  have hEr : mEr [17, 18] r r := Er_rf
  have hg3 : 0 ≤ (i 3).toInt ∧ (i 3).toInt ≤ 200 := hRi 3
  refine lv_iconst (v := (-1)) hx hb dX6_condition_0 (by decide) ?_
  refine lv_istore_n (lv' := [(3, .int (-1)), (0, .ref (a 10)), (1, .int p0), (2, .int 38)]) hx hb dX6_condition_1 rfl hl (by decide) rfl (fun ls hl => ?_)
  refine lv_iconst (v := 0) hx hb dX6_condition_2 (by decide) ?_
  refine lv_istore (lv' := [(4, .int 0), (3, .int (-1)), (0, .ref (a 10)), (1, .int p0), (2, .int 38)]) hx hb dX6_condition_3 hl (by decide) rfl (fun ls hl => ?_)
  have loop_1 : ∀ (n : Nat) (x1_4 : Int32) (x1_3 : Int32) (i1 : Nat → Int32) (r1 : Nat → Nat → Int32) (H : Heap) (locs : List Loc) (ls : Array Slot), (200 - x1_4.toInt).toNat < n → (0 ≤ x1_4.toInt ∧ x1_4.toInt ≤ 200) → (-1 ≤ x1_3.toInt ∧ x1_3.toInt ≤ 200) → yRi i1 → mEi [4, 5, 7] i i1 → yRr r1 → mEr [17, 18] r r1 → (qLA (qTX (i 3) (r 11)) p0 i r i1 r1 x1_3 ∧ (0 ≤ (i1 4).toInt ∧ (i1 4).toInt ≤ (i 3).toInt ∧ (i 4).toInt ≤ (i1 4).toInt) ∧ 2 * x1_4.toInt ≤ (i1 4).toInt ∧ i1 5 = i 5) → va_P D vwCl (xW cy a i1 r1 q (a 20) (a 12) ++ tl) H → va_D A (xW cy a i1 r1 q (a 20) (a 12) ++ tl) → va_S A s.heap H locs → lv_has ls 6 [(4, .int x1_4), (3, .int x1_3), (0, .ref (a 10)), (1, .int p0), (2, .int 38)] → W p l e ({ frames := F9, cells := 0, slots := 0, locals := L9 } : Room) s m ([.ref (a 10), .int p0, .int 38] : List Value).toArray below meth c H locs 0 0 Q (F0 m 5 ls []) := by
    intro n
    induction n with
    | zero =>
      intro x1_4 x1_3 i1 r1 H locs ls hm1 hf1_0 hf1_1 hRi hEi hRr hEr hx1 hP hD hS hl
      exact absurd hm1 (by omega)
    | succ n ih1 =>
      intro x1_4 x1_3 i1 r1 H locs ls hm1 hf1_0 hf1_1 hRi hEi hRr hEr hx1 hP hD hS hl
      refine lv_iload hx hb dX6_condition_5 (lv_at hl 0 rfl) ?_
      obtain ⟨hL9, ⟨hl1, hl2, hl3⟩, hl4, hl5⟩ := hx1
      refine lv_sipush (v := 200) hx hb dX6_condition_7 (by decide) ?_
      refine lv_icmp_ge (tgt := 87) hx hb dX6_condition_10 (by decide) (fun c_2 => by have c_2 : 200 ≤ x1_4.toInt := b_le c_2; omega) (fun c_2 => ?_)
      have c_2 : x1_4.toInt < 200 := b_nle c_2
      refine lv_iload_n hx hb dX6_condition_13 rfl (lv_at hl 4 rfl) ?_
      refine lv_bipush (v := 124) hx hb dX6_condition_14 (by decide) ?_
      refine lv_icmp_ne (tgt := 29) hx hb dX6_condition_16 (by decide) (fun c_3 => ?_) (fun c_3 => absurd c_3 (by decide))
      refine lv_aload_n hx hb dX6_condition_29 rfl (lv_at hl 2 rfl) ?_
      refine lv_iload_n hx hb dX6_condition_30 rfl (lv_at hl 3 rfl) ?_
      have hF_4 := rF hD hS hA
      refine va_calli (va_runV (As := [.int p0]) (rest := []) ⟨hx, hb, hml, hown, hT⟩ (hX1 p0 rfl i1 r1 _ hRi hRr (show 0 ≤ (i1 4).toInt ∧ (i1 4).toInt ≤ (i1 3).toInt from ⟨by omega, by rw [show (i1) 3 = i 3 from hEi 3 (by decide)]; omega⟩)) (cwV 1 hT (gV t_686 t_687 t_688 t_689 t_653) rfl rfl rfl (by decide +kernel) hR1) (rS_v hsk hS hF_4 hP hK hD (va_recv hK hP (ci := 6) (q0 := 10) rfl rfl)) rfl rfl hl.1 rfl (lv_room (Nat.le_of_ble_eq_true rfl)) dX6_condition_31 ⟨Nat.le_of_ble_eq_true rfl, Nat.le_of_ble_eq_true rfl⟩) hS (fun q _ h => hF_4 q h) hF_4 (fun r_5 u_6 t H1 locs ht hvm hr_5 hB hz1 hk1 hS => ?_)
      obtain ⟨i6, r6⟩ := u_6
      obtain ⟨hP, hK1, hD1⟩ := hB
      rw [ht] at hP
      have hD := hD1.weaken (fun k q _ h => hF_4 q.1 h)
      obtain ⟨hRi, hRr, hE1, hE2, hr_5⟩ := hr_5
      have hRi : yRi i6 := hRi
      have hE1 : mEi [4, 5, 7] i1 i6 := hE1
      have hRr : yRr r6 := hRr
      have hE2 : mEr [17, 18] r1 r6 := hE2
      have hP : va_P D vwCl (xW cy a i6 r6 q (a 20) (a 12) ++ tl) H1 := hP
      have hD : va_D A (xW cy a i6 r6 q (a 20) (a 12) ++ tl) := hD
      have hEi : mEi [4, 5, 7] _ i6 := Ei_tr hEi hE1 (by decide)
      have hEr : mEr [17, 18] _ r6 := Er_tr hEr hE2 (by decide)
      have h3r_5 : i1 3 = i 3 := (hE1 3 (by decide)).symm.trans (hEi 3 (by decide))
      have h11r_5 : r1 11 = r 11 := (hE2 11 (by decide)).symm.trans (hEr 11 (by decide))
      obtain ⟨hzr_5, ⟨⟨har_5, hbr_5⟩, hcr_5⟩, hXr_5⟩ := hr_5
      have har_5 : 0 ≤ (i6 4).toInt := har_5
      have hbr_5 : (i6 4).toInt ≤ (i 3).toInt := by rw [← h3r_5]; exact hbr_5
      try dsimp only at hXr_5
      rw [h3r_5, h11r_5] at hXr_5
      rcases hzr_5 with rfl | rfl
      · skip
        refine lv_istore (lv' := [(5, .int 0), (4, .int x1_4), (3, .int x1_3), (0, .ref (a 10)), (1, .int p0), (2, .int 38)]) hx hb dX6_condition_34 hl (by decide) rfl (fun ls hl => ?_)
        refine lv_iload hx hb dX6_condition_36 (lv_at hl 0 rfl) ?_
        refine lv_if_ne (tgt := 43) hx hb dX6_condition_38 (by decide) (fun c_7 => absurd (by decide) c_7) (fun c_7 => ?_)
        refine lv_iconst (v := 0) hx hb dX6_condition_41 (by decide) ?_
        subst hQ
        have hpo9 : ((0 : Int32) = 0 ∨ (0 : Int32) = 1) ∧ ((0 ≤ (i6 4).toInt ∧ (i6 4).toInt ≤ (i 3).toInt) ∧ ((0 : Int32).toInt ≠ 0 → (i 4).toInt < (i6 4).toInt ∧ i6 5 = i 5)) ∧ qX (qTX (i 3) (r 11)) 8 10 p0 qKa qEa False i r i6 r6 (0 : Int32) := ⟨Or.inl rfl, ⟨⟨har_5, hbr_5⟩, fun h9 => absurd rfl h9⟩, qLA_f hL9 (by omega) hXr_5⟩
        exact W.zret hx hb hr rfl (fun t ht hW => ⟨⟨_, (i6, r6), rfl, ⟨hRi, hRr, hEi, hEr, hpo9⟩, by rw [ht]; exact hP, va_K.moved hW.alike hK, hD⟩, hS.F ht⟩) hS.2.2 dX6_condition_42
      · skip
        have h5r_5 : i6 5 = i 5 := (hcr_5 (by decide)).2.trans hl5
        have hcr_5 : (i1 4).toInt < (i6 4).toInt := (hcr_5 (by decide)).1
        refine lv_istore (lv' := [(5, .int 1), (4, .int x1_4), (3, .int x1_3), (0, .ref (a 10)), (1, .int p0), (2, .int 38)]) hx hb dX6_condition_34 hl (by decide) rfl (fun ls hl => ?_)
        refine lv_iload hx hb dX6_condition_36 (lv_at hl 0 rfl) ?_
        refine lv_if_ne (tgt := 43) hx hb dX6_condition_38 (by decide) (fun c_8 => ?_) (fun c_8 => absurd c_8 (by decide))
        refine lv_aload_n hx hb dX6_condition_43 rfl (lv_at hl 3 rfl) ?_
        refine va_get (D := D) (ci := 6) (v := .ref (a 12)) (C := RX6) (T := TX6) (N := 5) hx hb hT iX6 hown hK hP 10 rfl rfl 0 (by decide) (hT _ t_661) (fun _ h9 => h9) rfl dX6_condition_44 ?_
        refine lv_iload_n hx hb dX6_condition_47 rfl (lv_at hl 2 rfl) ?_
        have hF_9 := rF hD hS hA
        refine va_callv (va_runV (As := [.int x1_3]) (rest := []) ⟨hx, hb, hml, hown, hT⟩ (c_X5_aim9 l D cy a i6 r6 q tl x1_3 _ hRi hRr) (cwV 1 hT (gV t_694 t_695 t_696 t_697 t_367) rfl rfl rfl (by decide +kernel) ⟨Nat.le_trans (m := 2) (Nat.le_of_ble_eq_true rfl) hF9.1, Nat.le_trans (m := 46) (Nat.le_of_ble_eq_true rfl) hF9.2⟩) (rQ_v hP hK hD (va_recv hK hP (ci := 5) (q0 := 12) rfl rfl)) rfl rfl hl.1 rfl (lv_room (Nat.le_of_ble_eq_true rfl)) dX6_condition_48 ⟨Nat.le_of_ble_eq_true rfl, Nat.le_of_ble_eq_true rfl⟩) hS (fun q _ h => hF_9 q h) hF_9 (fun u_11 t H1 locs ht hvm hr_10 hB hz1 hk1 hS => ?_)
        obtain ⟨r11, rfl⟩ : ∃ z, z = u_11 := ⟨_, rfl⟩
        obtain ⟨hP, hK1, hD1⟩ := hB
        rw [ht] at hP
        have hD := hD1.weaken (fun k q _ h => hF_9 q.1 h)
        obtain ⟨hRr, hE2, hr_10⟩ := hr_10
        have hRr : yRr r11 := hRr
        have hE2 : mEr [18] r6 r11 := hE2
        have hP : va_P D vwCl (xW cy a i6 r11 q (a 20) (a 12) ++ tl) H1 := hP
        have hD : va_D A (xW cy a i6 r11 q (a 20) (a 12) ++ tl) := hD
        have hEr : mEr [17, 18] _ r11 := Er_tr hEr hE2 (by decide)
        have hMr_10 : (0 ≤ x1_3.toInt ∧ x1_3.toInt < (i6 7).toInt → r11 18 = upd (r6 18) x1_3.toInt.toNat (i6 7)) ∧ (x1_3.toInt < 0 → r11 18 = r6 18) := hr_10
        have hM17r_10 : r11 17 = r6 17 := hE2 17 (by decide)
        clear hr_10
        refine lv_aload_n hx hb dX6_condition_51 rfl (lv_at hl 3 rfl) ?_
        refine vp_callSi (W.runV (As := []) (rest := []) ⟨hx, hb, hml, hown, hT⟩ (c_X6_peek9 l D cy a i6 r11 q tl hRi hRr (show 0 ≤ (i6 4).toInt by omega)) (cwV 0 hT (gV t_652 t_654 t_655 t_656 t_653) rfl rfl rfl (by decide +kernel) ⟨Nat.le_trans (m := 2) (Nat.le_of_ble_eq_true rfl) hF9.1, Nat.le_trans (m := 46) (Nat.le_of_ble_eq_true rfl) hF9.2⟩) (rP_v hP hK (va_recv hK hP (ci := 6) (q0 := 10) rfl rfl)) rfl rfl hl.1 rfl (lv_room (Nat.le_of_ble_eq_true rfl)) dX6_condition_52 ⟨Nat.le_of_ble_eq_true rfl, Nat.le_of_ble_eq_true rfl⟩) (fun r_12 hr_12 => ?_)
        have hqr_12 : r_12.toInt = qTX (i 3) (r 11) (i6 4).toInt.toNat := by have h9 := hr_12.1; rw [show (i6) 3 = i 3 from hEi 3 (by decide)] at h9; rw [show (r11) 11 = r 11 from hEr 11 (by decide)] at h9; exact h9
        have hr_12 : -1 ≤ r_12.toInt ∧ r_12.toInt ≤ 255 := hr_12.2
        have hjv : (x1_3.toInt = -1 ∧ r11 18 = r6 18) ∨ (∃ f : Nat, x1_3.toInt = (f : Int) ∧ ((f : Int) < (i6 7).toInt → r11 18 = upd (r6 18) f (i6 7))) := by
          by_cases h9 : x1_3.toInt < 0
          · exact Or.inl ⟨by omega, hMr_10.2 h9⟩
          · exact Or.inr ⟨x1_3.toInt.toNat, by omega, fun h8 => hMr_10.1 ⟨by omega, by omega⟩⟩
        have hM9 : qMA (qTX (i 3) (r 11)) p0 i r i6 r11 := qLA_c (i2 := i6) (r2 := r6) hL9 (by omega) hXr_5 har_5 (by omega) rfl rfl hM17r_10 hjv
        clear hjv hMr_10
        refine lv_iload_n hx hb dX6_condition_55 rfl (lv_at hl 5 rfl) ?_
        refine lv_icmp_eq (tgt := 61) hx hb dX6_condition_56 (by decide) (fun c_13 => ?_) (fun c_13 => ?_)
        · have c_13 : r_12.toInt = 38 := b_eq c_13
          refine lv_aload_n hx hb dX6_condition_61 rfl (lv_at hl 3 rfl) ?_
          refine lv_dup hx hb dX6_condition_62 rfl ?_
          refine va_get (D := D) (ci := 6) (v := .int (i6 4)) (C := RX6) (T := TX6) (N := 5) hx hb hT iX6 hown hK hP 10 rfl rfl 3 (by decide) (hT _ t_648) (fun _ h9 => h9) rfl dX6_condition_63 ?_
          refine lv_iconst (v := 1) hx hb dX6_condition_66 (by decide) ?_
          refine lv_iadd hx hb dX6_condition_67 ?_
          refine lv_topi (fun v_14 ev_14 => ?_)
          have hv_14 : v_14.toInt = (i6 4).toInt + 1 := by rw [ev_14]; have := b_rg (i6 4); exact i_add (a := (i6 4).toInt) (b := 1) rfl rfl (by omega) (by omega)
          refine va_put (D := D) (ci := 6) (v := .int v_14) (ty := .int) (C := RX6) (T := TX6) (N := 5) hx hb hT iX6 tyX6 tyX6_ok nmX6 hown hK hP hD hS 10 rfl rfl 3 (by decide) (hT _ t_648) (fun _ h9 => h9) rfl (by decide +kernel) rfl rfl (Nat.le_of_ble_eq_true rfl) dX6_condition_68 (fun H locs hP hD hS => ?_)
          rw [zP4] at hP hD
          have hRi := Yi_upd hRi 4 v_14 (b_rg _)
          have hEi := Ei_upd hEi 4 v_14 (by decide)
          refine lv_aload_n hx hb dX6_condition_71 rfl (lv_at hl 3 rfl) ?_
          refine va_get (D := D) (ci := 6) (v := .ref (a 12)) (C := RX6) (T := TX6) (N := 5) hx hb hT iX6 hown hK hP 10 rfl rfl 0 (by decide) (hT _ t_661) (fun _ h9 => h9) rfl dX6_condition_72 ?_
          refine lv_iload_n hx hb dX6_condition_75 rfl (lv_at hl 5 rfl) ?_
          refine lv_iconst (v := 0) hx hb dX6_condition_76 (by decide) ?_
          have hF_15 := rF hD hS hA
          refine va_calli (va_runV (As := [.int 38, .int 0]) (rest := []) ⟨hx, hb, hml, hown, hT⟩ (c_X5_add9 l D cy a (upd i6 4 v_14) r11 q tl 38 0 _ hRi hRr) (cwV 2 hT (gV t_662 t_663 t_664 t_665 t_367) rfl rfl rfl (by decide +kernel) ⟨Nat.le_trans (m := 2) (Nat.le_of_ble_eq_true rfl) hF9.1, Nat.le_trans (m := 46) (Nat.le_of_ble_eq_true rfl) hF9.2⟩) (rQ_v hP hK hD (va_recv hK hP (ci := 5) (q0 := 12) rfl rfl)) rfl rfl hl.1 rfl (lv_room (Nat.le_of_ble_eq_true rfl)) dX6_condition_77 ⟨Nat.le_of_ble_eq_true rfl, Nat.le_of_ble_eq_true rfl⟩) hS (fun q _ h => hF_15 q h) hF_15 (fun r_16 u_17 t H1 locs ht hvm hr_16 hB hz1 hk1 hS => ?_)
          obtain ⟨i17, r17⟩ := u_17
          obtain ⟨hP, hK1, hD1⟩ := hB
          rw [ht] at hP
          have hD := hD1.weaken (fun k q _ h => hF_15 q.1 h)
          obtain ⟨hRi, hRr, hE1, hE2, hr_16⟩ := hr_16
          have hRi : yRi i17 := hRi
          have hE1 : mEi [7] (upd i6 4 v_14) i17 := hE1
          have hRr : yRr r17 := hRr
          have hE2 : mEr [17, 18] r11 r17 := hE2
          have hP : va_P D vwCl (xW cy a i17 r17 q (a 20) (a 12) ++ tl) H1 := hP
          have hD : va_D A (xW cy a i17 r17 q (a 20) (a 12) ++ tl) := hD
          have hEi : mEi [4, 5, 7] _ i17 := Ei_tr hEi hE1 (by decide)
          have hEr : mEr [17, 18] _ r17 := Er_tr hEr hE2 (by decide)
          obtain ⟨hZr_16, hr_16⟩ := hr_16
          have hZr_16 : -1 ≤ r_16.toInt ∧ r_16.toInt ≤ 200 := hZr_16
          have hAr_16 : qAdd (upd i6 4 v_14) r11 i17 r17 (38 : Int32) (0 : Int32) := fun h9 => (hr_16 h9).2
          have hJr_16 : ((upd i6 4 v_14) 7).toInt < 200 → r_16.toInt = ((upd i6 4 v_14) 7).toInt := fun h9 => congrArg Int32.toInt (hr_16 h9).1
          have hBr_16 : i17 4 = v_14 := hE1 4 (by decide)
          have hBtr_16 : (i17 4).toInt = v_14.toInt := congrArg Int32.toInt hBr_16
          clear hr_16
          have hr_16 : True := trivial
          have h5r_16 : i17 5 = i 5 := (hE1 5 (by decide)).trans h5r_5
          refine lv_istore_n (lv' := [(3, .int r_16), (5, .int 1), (4, .int x1_4), (0, .ref (a 10)), (1, .int p0), (2, .int 38)]) hx hb dX6_condition_80 rfl hl (by decide) rfl (fun ls hl => ?_)
          obtain ⟨x_18, ex_18⟩ : ∃ y : Int32, y = x1_4 + 1 := ⟨_, rfl⟩
          refine lv_iinc (v := x_18) (lv' := [(4, .int x_18), (3, .int r_16), (5, .int 1), (0, .ref (a 10)), (1, .int p0), (2, .int 38)]) hx hb dX6_condition_81 hl (k := 2) rfl (by rw [ex_18]; rfl) (by decide) rfl (fun ls hl => ?_)
          have hx_18 : x_18.toInt = x1_4.toInt + 1 := by rw [ex_18]; have := b_rg x1_4; exact i_add (a := x1_4.toInt) (b := 1) rfl rfl (by omega) (by omega)
          refine lv_goto (tgt := 5) hx hb dX6_condition_84 (by decide) ?_
          have hch : qTX (i 3) (r 11) (i6 4).toInt.toNat = 38 := by omega
          have hlt9 := qTX_lt (e := i 3) (t := r 11) (p := (i6 4).toInt.toNat) (by omega)
          have h4a : (i17 4).toInt = (i6 4).toInt + 1 := by rw [hBr_16]; omega
          have hL8 : qLA (qTX (i 3) (r 11)) p0 i r i17 r17 r_16 := qLA_s hM9 (by omega) (by omega) (by omega) hch h4a hJr_16 hAr_16 rfl rfl
          exact ih1 x_18 r_16 i17 r17 _ _ _ (by first | omega | (simp only [Int.toNat]; omega)) (by first | omega | decide) (by first | omega | decide) hRi hEi hRr hEr ⟨hL8, ⟨by omega, by omega, by omega⟩, by omega, h5r_16⟩ hP hD hS (lv_sub hl [0, 1, 3, 4, 5] rfl)
        · have c_13 : r_12.toInt ≠ 38 := b_ne c_13
          refine lv_iconst (v := 1) hx hb dX6_condition_59 (by decide) ?_
          subst hQ
          have hpo9 : ((1 : Int32) = 0 ∨ (1 : Int32) = 1) ∧ ((0 ≤ (i6 4).toInt ∧ (i6 4).toInt ≤ (i 3).toInt) ∧ ((1 : Int32).toInt ≠ 0 → (i 4).toInt < (i6 4).toInt ∧ i6 5 = i 5)) ∧ qX (qTX (i 3) (r 11)) 8 10 p0 qKa qEa False i r i6 r11 (1 : Int32) := ⟨Or.inr rfl, ⟨⟨har_5, hbr_5⟩, (fun _ => ⟨by omega, h5r_5⟩)⟩, qLA_e hM9 (by rw [← hqr_12]; omega)⟩
          exact W.zret hx hb hr rfl (fun t ht hW => ⟨⟨_, (i6, r11), rfl, ⟨hRi, hRr, hEi, hEr, hpo9⟩, by rw [ht]; exact hP, va_K.moved hW.alike hK, hD⟩, hS.F ht⟩) hS.2.2 dX6_condition_60
  exact loop_1 _ 0 (-1) i r _ _ _ (Nat.lt_succ_self _) (by first | omega | decide) (by first | omega | decide) hRi hEi hRr hEr ⟨qLA_0 (by decide), ⟨h4.1, h4.2, by omega⟩, by have h9 : (0 : Int32).toInt = 0 := rfl; omega, rfl⟩ hP hD hS hl
set_option maxHeartbeats 4000000 in
set_option maxRecDepth 100000 in
theorem c_X6_condition_kq124 (l : Launch) (D : va_G) (cy : Nat → ClassId) (a : Nat → Nat) (i : Nat → Int32) (r : Nat → Nat → Int32) (q : Nat → Option Nat) (tl : va_W) (kq vq : Nat) (p0 : Int32) (sz : Nat) (hRi : yRi i) (hRr : yRr r) (h4 : 0 ≤ (i 4).toInt ∧ (i 4).toInt ≤ (i 3).toInt) (F9 L9 F1 L1 : Nat) (hF9 : 2 ≤ F9 ∧ 46 ≤ L9) (q0 : 1 ≤ p0.toInt ∧ p0.toInt ≤ 6) (hX1 : ∀ k9 : Int32, k9 = p0 → ∀ (i : Nat → Int32) (r : Nat → Nat → Int32) (sz : Nat) (hRi : yRi i) (hRr : yRr r) (h4 : 0 ≤ (i 4).toInt ∧ (i 4).toInt ≤ (i 3).toInt), Met l yX6_condition (Cond.code yX6_condition cX6_condition 6 (some .boolean) :: gT) { frames := F1, cells := 0, slots := 0, locals := L1 } (va_Pc [.ref (a 10), .int k9, .int 38] (rS D cy (xW cy a i r q (a 20) (a 12) ++ tl) sz kq vq)) (va_Qi (fun (z : Int32) (u : (Nat → Int32) × (Nat → Nat → Int32)) => yRi u.1 ∧ yRr u.2 ∧ mEi [4, 5, 7] i u.1 ∧ mEr [17, 18] r u.2 ∧ ((z = 0 ∨ z = 1) ∧ ((0 ≤ (u.1 4).toInt ∧ (u.1 4).toInt ≤ (i 3).toInt) ∧ (z.toInt ≠ 0 → (i 4).toInt < (u.1 4).toInt ∧ u.1 5 = i 5)) ∧ qX (qTX (i 3) (r 11)) 8 10 k9 qKa qEa False i r u.1 u.2 z)) (fun (u : (Nat → Int32) × (Nat → Nat → Int32)) t => va_P D vwCl (xW cy a u.1 u.2 q (a 20) (a 12) ++ tl) t.heap ∧ va_K D vwCl (vT cy) t ∧ va_D (va_A (xW cy a i r q (a 20) (a 12) ++ tl) sz) (xW cy a u.1 u.2 q (a 20) (a 12) ++ tl)) (va_A (xW cy a i r q (a 20) (a 12) ++ tl) sz)) 0 0 (va_A (xW cy a i r q (a 20) (a 12) ++ tl) sz)) (hR1 : F1 + 1 ≤ F9 ∧ 8 + (6 + 11) + L1 ≤ L9) : Met l yX6_condition (Cond.code yX6_condition cX6_condition 6 (some .boolean) :: gT) { frames := F9, cells := 0, slots := 0, locals := L9 } (va_Pc [.ref (a 10), .int p0, .int 124] (rS D cy (xW cy a i r q (a 20) (a 12) ++ tl) sz kq vq)) (va_Qi (fun (z : Int32) (u : (Nat → Int32) × (Nat → Nat → Int32)) => yRi u.1 ∧ yRr u.2 ∧ mEi [4, 5, 7] i u.1 ∧ mEr [17, 18] r u.2 ∧ ((z = 0 ∨ z = 1) ∧ ((0 ≤ (u.1 4).toInt ∧ (u.1 4).toInt ≤ (i 3).toInt) ∧ (z.toInt ≠ 0 → (i 4).toInt < (u.1 4).toInt ∧ u.1 5 = i 5)) ∧ qX (qTX (i 3) (r 11)) 8 10 p0 qKo qEo False i r u.1 u.2 z)) (fun (u : (Nat → Int32) × (Nat → Nat → Int32)) t => va_P D vwCl (xW cy a u.1 u.2 q (a 20) (a 12) ++ tl) t.heap ∧ va_K D vwCl (vT cy) t ∧ va_D (va_A (xW cy a i r q (a 20) (a 12) ++ tl) sz) (xW cy a u.1 u.2 q (a 20) (a 12) ++ tl)) (va_A (xW cy a i r q (a 20) (a 12) ++ tl) sz)) 0 0 (va_A (xW cy a i r q (a 20) (a 12) ++ tl) sz) := by
  refine Met.ofQ (cc := cX6_condition) (maxL := 6) (ret := (some .boolean)) (by decide) rfl ?_
  intro p e s m args below meth c s₁ B hml hv Q hQ
  obtain ⟨rfl, hsk, hsz, hP, hK, hD0⟩ := hv
  have hx := B.exec
  have hb := B.bytes
  have hr := B.returns
  have hlocks := B.notSynchronized
  have hT : ∀ w ∈ gT, w.before _ s = true := fun w h => atoms_spec (ws := (Cond.code yX6_condition cX6_condition 6 (some .boolean) :: gT)) B.pre w (List.mem_cons_of_mem _ h)
  have hown : s.vm.findClass RX6 = some m.cls := findClass_of_methodNamed B.named
  subst hsz
  have hD := hD0.self (sz := s.heap.size)
  generalize hAe : va_A (xW cy a i r q (a 20) (a 12) ++ tl) s.heap.size = A at hD hQ hsk
  have hA : ∀ q : Nat, s.heap.size ≤ q → A q := fun q h => by rw [← hAe]; exact Or.inr h
  have hS : va_S A s.heap s.heap [] := va_S.rf
  have hl := lv_entry ([.ref (a 10), .int p0, .int 124]) (n := 6) (Nat.le_of_ble_eq_true rfl)
  rw [lg_entry_eq]
  generalize (lg_sl ([.ref (a 10), .int p0, .int 124]) ++ List.replicate (6 - (lg_sl ([.ref (a 10), .int p0, .int 124])).length) Slot.unset).toArray = ls at hl ⊢
  have hl : lv_has ls 6 [(0, .ref (a 10)), (1, .int p0), (2, .int 124)] := hl
  have hEi : mEi [4, 5, 7] i i := Ei_rf
  have hEr : mEr [17, 18] r r := Er_rf
  have hg3 : 0 ≤ (i 3).toInt ∧ (i 3).toInt ≤ 200 := hRi 3
  refine lv_iconst (v := (-1)) hx hb dX6_condition_0 (by decide) ?_
  refine lv_istore_n (lv' := [(3, .int (-1)), (0, .ref (a 10)), (1, .int p0), (2, .int 124)]) hx hb dX6_condition_1 rfl hl (by decide) rfl (fun ls hl => ?_)
  refine lv_iconst (v := 0) hx hb dX6_condition_2 (by decide) ?_
  refine lv_istore (lv' := [(4, .int 0), (3, .int (-1)), (0, .ref (a 10)), (1, .int p0), (2, .int 124)]) hx hb dX6_condition_3 hl (by decide) rfl (fun ls hl => ?_)
  have loop_1 : ∀ (n : Nat) (x1_4 : Int32) (x1_3 : Int32) (i1 : Nat → Int32) (r1 : Nat → Nat → Int32) (H : Heap) (locs : List Loc) (ls : Array Slot), (200 - x1_4.toInt).toNat < n → (0 ≤ x1_4.toInt ∧ x1_4.toInt ≤ 200) → (-1 ≤ x1_3.toInt ∧ x1_3.toInt ≤ 200) → yRi i1 → mEi [4, 5, 7] i i1 → yRr r1 → mEr [17, 18] r r1 → (qLO (qTX (i 3) (r 11)) p0 i r i1 r1 x1_3 ∧ (0 ≤ (i1 4).toInt ∧ (i1 4).toInt ≤ (i 3).toInt ∧ (i 4).toInt ≤ (i1 4).toInt) ∧ 2 * x1_4.toInt ≤ (i1 4).toInt ∧ i1 5 = i 5) → va_P D vwCl (xW cy a i1 r1 q (a 20) (a 12) ++ tl) H → va_D A (xW cy a i1 r1 q (a 20) (a 12) ++ tl) → va_S A s.heap H locs → lv_has ls 6 [(4, .int x1_4), (3, .int x1_3), (0, .ref (a 10)), (1, .int p0), (2, .int 124)] → W p l e ({ frames := F9, cells := 0, slots := 0, locals := L9 } : Room) s m ([.ref (a 10), .int p0, .int 124] : List Value).toArray below meth c H locs 0 0 Q (F0 m 5 ls []) := by
    intro n
    induction n with
    | zero =>
      intro x1_4 x1_3 i1 r1 H locs ls hm1 hf1_0 hf1_1 hRi hEi hRr hEr hx1 hP hD hS hl
      exact absurd hm1 (by omega)
    | succ n ih1 =>
      intro x1_4 x1_3 i1 r1 H locs ls hm1 hf1_0 hf1_1 hRi hEi hRr hEr hx1 hP hD hS hl
      refine lv_iload hx hb dX6_condition_5 (lv_at hl 0 rfl) ?_
      obtain ⟨hL9, ⟨hl1, hl2, hl3⟩, hl4, hl5⟩ := hx1
      refine lv_sipush (v := 200) hx hb dX6_condition_7 (by decide) ?_
      refine lv_icmp_ge (tgt := 87) hx hb dX6_condition_10 (by decide) (fun c_2 => by have c_2 : 200 ≤ x1_4.toInt := b_le c_2; omega) (fun c_2 => ?_)
      have c_2 : x1_4.toInt < 200 := b_nle c_2
      refine lv_iload_n hx hb dX6_condition_13 rfl (lv_at hl 4 rfl) ?_
      refine lv_bipush (v := 124) hx hb dX6_condition_14 (by decide) ?_
      refine lv_icmp_ne (tgt := 29) hx hb dX6_condition_16 (by decide) (fun c_3 => absurd (by decide) c_3) (fun c_3 => ?_)
      refine lv_aload_n hx hb dX6_condition_19 rfl (lv_at hl 2 rfl) ?_
      refine lv_iload_n hx hb dX6_condition_20 rfl (lv_at hl 3 rfl) ?_
      refine lv_bipush (v := 38) hx hb dX6_condition_21 (by decide) ?_
      have hF_4 := rF hD hS hA
      refine va_calli (va_runV (As := [.int p0, .int 38]) (rest := []) ⟨hx, hb, hml, hown, hT⟩ (hX1 p0 rfl i1 r1 _ hRi hRr (show 0 ≤ (i1 4).toInt ∧ (i1 4).toInt ≤ (i1 3).toInt from ⟨by omega, by rw [show (i1) 3 = i 3 from hEi 3 (by decide)]; omega⟩)) (cwV 2 hT (gV t_690 t_691 t_692 t_693 t_653) rfl rfl rfl (by decide +kernel) hR1) (rS_v hsk hS hF_4 hP hK hD (va_recv hK hP (ci := 6) (q0 := 10) rfl rfl)) rfl rfl hl.1 rfl (lv_room (Nat.le_of_ble_eq_true rfl)) dX6_condition_23 ⟨Nat.le_of_ble_eq_true rfl, Nat.le_of_ble_eq_true rfl⟩) hS (fun q _ h => hF_4 q h) hF_4 (fun r_5 u_6 t H1 locs ht hvm hr_5 hB hz1 hk1 hS => ?_)
      obtain ⟨i6, r6⟩ := u_6
      obtain ⟨hP, hK1, hD1⟩ := hB
      rw [ht] at hP
      have hD := hD1.weaken (fun k q _ h => hF_4 q.1 h)
      obtain ⟨hRi, hRr, hE1, hE2, hr_5⟩ := hr_5
      have hRi : yRi i6 := hRi
      have hE1 : mEi [4, 5, 7] i1 i6 := hE1
      have hRr : yRr r6 := hRr
      have hE2 : mEr [17, 18] r1 r6 := hE2
      have hP : va_P D vwCl (xW cy a i6 r6 q (a 20) (a 12) ++ tl) H1 := hP
      have hD : va_D A (xW cy a i6 r6 q (a 20) (a 12) ++ tl) := hD
      have hEi : mEi [4, 5, 7] _ i6 := Ei_tr hEi hE1 (by decide)
      have hEr : mEr [17, 18] _ r6 := Er_tr hEr hE2 (by decide)
      have h3r_5 : i1 3 = i 3 := (hE1 3 (by decide)).symm.trans (hEi 3 (by decide))
      have h11r_5 : r1 11 = r 11 := (hE2 11 (by decide)).symm.trans (hEr 11 (by decide))
      obtain ⟨hzr_5, ⟨⟨har_5, hbr_5⟩, hcr_5⟩, hXr_5⟩ := hr_5
      have har_5 : 0 ≤ (i6 4).toInt := har_5
      have hbr_5 : (i6 4).toInt ≤ (i 3).toInt := by rw [← h3r_5]; exact hbr_5
      try dsimp only at hXr_5
      rw [h3r_5, h11r_5] at hXr_5
      rcases hzr_5 with rfl | rfl
      · skip
        refine lv_goto (tgt := 34) hx hb dX6_condition_26 (by decide) ?_
        refine lv_istore (lv' := [(5, .int 0), (4, .int x1_4), (3, .int x1_3), (0, .ref (a 10)), (1, .int p0), (2, .int 124)]) hx hb dX6_condition_34 hl (by decide) rfl (fun ls hl => ?_)
        refine lv_iload hx hb dX6_condition_36 (lv_at hl 0 rfl) ?_
        refine lv_if_ne (tgt := 43) hx hb dX6_condition_38 (by decide) (fun c_7 => absurd (by decide) c_7) (fun c_7 => ?_)
        refine lv_iconst (v := 0) hx hb dX6_condition_41 (by decide) ?_
        subst hQ
        have hpo9 : ((0 : Int32) = 0 ∨ (0 : Int32) = 1) ∧ ((0 ≤ (i6 4).toInt ∧ (i6 4).toInt ≤ (i 3).toInt) ∧ ((0 : Int32).toInt ≠ 0 → (i 4).toInt < (i6 4).toInt ∧ i6 5 = i 5)) ∧ qX (qTX (i 3) (r 11)) 8 10 p0 qKo qEo False i r i6 r6 (0 : Int32) := ⟨Or.inl rfl, ⟨⟨har_5, hbr_5⟩, fun h9 => absurd rfl h9⟩, qLO_f hL9 (by omega) hXr_5⟩
        exact W.zret hx hb hr rfl (fun t ht hW => ⟨⟨_, (i6, r6), rfl, ⟨hRi, hRr, hEi, hEr, hpo9⟩, by rw [ht]; exact hP, va_K.moved hW.alike hK, hD⟩, hS.F ht⟩) hS.2.2 dX6_condition_42
      · skip
        have h5r_5 : i6 5 = i 5 := (hcr_5 (by decide)).2.trans hl5
        have hcr_5 : (i1 4).toInt < (i6 4).toInt := (hcr_5 (by decide)).1
        refine lv_goto (tgt := 34) hx hb dX6_condition_26 (by decide) ?_
        refine lv_istore (lv' := [(5, .int 1), (4, .int x1_4), (3, .int x1_3), (0, .ref (a 10)), (1, .int p0), (2, .int 124)]) hx hb dX6_condition_34 hl (by decide) rfl (fun ls hl => ?_)
        refine lv_iload hx hb dX6_condition_36 (lv_at hl 0 rfl) ?_
        refine lv_if_ne (tgt := 43) hx hb dX6_condition_38 (by decide) (fun c_8 => ?_) (fun c_8 => absurd c_8 (by decide))
        refine lv_aload_n hx hb dX6_condition_43 rfl (lv_at hl 3 rfl) ?_
        refine va_get (D := D) (ci := 6) (v := .ref (a 12)) (C := RX6) (T := TX6) (N := 5) hx hb hT iX6 hown hK hP 10 rfl rfl 0 (by decide) (hT _ t_661) (fun _ h9 => h9) rfl dX6_condition_44 ?_
        refine lv_iload_n hx hb dX6_condition_47 rfl (lv_at hl 2 rfl) ?_
        have hF_9 := rF hD hS hA
        refine va_callv (va_runV (As := [.int x1_3]) (rest := []) ⟨hx, hb, hml, hown, hT⟩ (c_X5_aim9 l D cy a i6 r6 q tl x1_3 _ hRi hRr) (cwV 1 hT (gV t_694 t_695 t_696 t_697 t_367) rfl rfl rfl (by decide +kernel) ⟨Nat.le_trans (m := 2) (Nat.le_of_ble_eq_true rfl) hF9.1, Nat.le_trans (m := 46) (Nat.le_of_ble_eq_true rfl) hF9.2⟩) (rQ_v hP hK hD (va_recv hK hP (ci := 5) (q0 := 12) rfl rfl)) rfl rfl hl.1 rfl (lv_room (Nat.le_of_ble_eq_true rfl)) dX6_condition_48 ⟨Nat.le_of_ble_eq_true rfl, Nat.le_of_ble_eq_true rfl⟩) hS (fun q _ h => hF_9 q h) hF_9 (fun u_11 t H1 locs ht hvm hr_10 hB hz1 hk1 hS => ?_)
        obtain ⟨r11, rfl⟩ : ∃ z, z = u_11 := ⟨_, rfl⟩
        obtain ⟨hP, hK1, hD1⟩ := hB
        rw [ht] at hP
        have hD := hD1.weaken (fun k q _ h => hF_9 q.1 h)
        obtain ⟨hRr, hE2, hr_10⟩ := hr_10
        have hRr : yRr r11 := hRr
        have hE2 : mEr [18] r6 r11 := hE2
        have hP : va_P D vwCl (xW cy a i6 r11 q (a 20) (a 12) ++ tl) H1 := hP
        have hD : va_D A (xW cy a i6 r11 q (a 20) (a 12) ++ tl) := hD
        have hEr : mEr [17, 18] _ r11 := Er_tr hEr hE2 (by decide)
        have hMr_10 : (0 ≤ x1_3.toInt ∧ x1_3.toInt < (i6 7).toInt → r11 18 = upd (r6 18) x1_3.toInt.toNat (i6 7)) ∧ (x1_3.toInt < 0 → r11 18 = r6 18) := hr_10
        have hM17r_10 : r11 17 = r6 17 := hE2 17 (by decide)
        clear hr_10
        refine lv_aload_n hx hb dX6_condition_51 rfl (lv_at hl 3 rfl) ?_
        refine vp_callSi (W.runV (As := []) (rest := []) ⟨hx, hb, hml, hown, hT⟩ (c_X6_peek9 l D cy a i6 r11 q tl hRi hRr (show 0 ≤ (i6 4).toInt by omega)) (cwV 0 hT (gV t_652 t_654 t_655 t_656 t_653) rfl rfl rfl (by decide +kernel) ⟨Nat.le_trans (m := 2) (Nat.le_of_ble_eq_true rfl) hF9.1, Nat.le_trans (m := 46) (Nat.le_of_ble_eq_true rfl) hF9.2⟩) (rP_v hP hK (va_recv hK hP (ci := 6) (q0 := 10) rfl rfl)) rfl rfl hl.1 rfl (lv_room (Nat.le_of_ble_eq_true rfl)) dX6_condition_52 ⟨Nat.le_of_ble_eq_true rfl, Nat.le_of_ble_eq_true rfl⟩) (fun r_12 hr_12 => ?_)
        have hqr_12 : r_12.toInt = qTX (i 3) (r 11) (i6 4).toInt.toNat := by have h9 := hr_12.1; rw [show (i6) 3 = i 3 from hEi 3 (by decide)] at h9; rw [show (r11) 11 = r 11 from hEr 11 (by decide)] at h9; exact h9
        have hr_12 : -1 ≤ r_12.toInt ∧ r_12.toInt ≤ 255 := hr_12.2
        have hjv : (x1_3.toInt = -1 ∧ r11 18 = r6 18) ∨ (∃ f : Nat, x1_3.toInt = (f : Int) ∧ ((f : Int) < (i6 7).toInt → r11 18 = upd (r6 18) f (i6 7))) := by
          by_cases h9 : x1_3.toInt < 0
          · exact Or.inl ⟨by omega, hMr_10.2 h9⟩
          · exact Or.inr ⟨x1_3.toInt.toNat, by omega, fun h8 => hMr_10.1 ⟨by omega, by omega⟩⟩
        have hM9 : qMO (qTX (i 3) (r 11)) p0 i r i6 r11 := qLO_c (i2 := i6) (r2 := r6) hL9 (by omega) hXr_5 har_5 (by omega) rfl rfl hM17r_10 hjv
        clear hjv hMr_10
        refine lv_iload_n hx hb dX6_condition_55 rfl (lv_at hl 5 rfl) ?_
        refine lv_icmp_eq (tgt := 61) hx hb dX6_condition_56 (by decide) (fun c_13 => ?_) (fun c_13 => ?_)
        · have c_13 : r_12.toInt = 124 := b_eq c_13
          refine lv_aload_n hx hb dX6_condition_61 rfl (lv_at hl 3 rfl) ?_
          refine lv_dup hx hb dX6_condition_62 rfl ?_
          refine va_get (D := D) (ci := 6) (v := .int (i6 4)) (C := RX6) (T := TX6) (N := 5) hx hb hT iX6 hown hK hP 10 rfl rfl 3 (by decide) (hT _ t_648) (fun _ h9 => h9) rfl dX6_condition_63 ?_
          refine lv_iconst (v := 1) hx hb dX6_condition_66 (by decide) ?_
          refine lv_iadd hx hb dX6_condition_67 ?_
          refine lv_topi (fun v_14 ev_14 => ?_)
          have hv_14 : v_14.toInt = (i6 4).toInt + 1 := by rw [ev_14]; have := b_rg (i6 4); exact i_add (a := (i6 4).toInt) (b := 1) rfl rfl (by omega) (by omega)
          refine va_put (D := D) (ci := 6) (v := .int v_14) (ty := .int) (C := RX6) (T := TX6) (N := 5) hx hb hT iX6 tyX6 tyX6_ok nmX6 hown hK hP hD hS 10 rfl rfl 3 (by decide) (hT _ t_648) (fun _ h9 => h9) rfl (by decide +kernel) rfl rfl (Nat.le_of_ble_eq_true rfl) dX6_condition_68 (fun H locs hP hD hS => ?_)
          rw [zP4] at hP hD
          have hRi := Yi_upd hRi 4 v_14 (b_rg _)
          have hEi := Ei_upd hEi 4 v_14 (by decide)
          refine lv_aload_n hx hb dX6_condition_71 rfl (lv_at hl 3 rfl) ?_
          refine va_get (D := D) (ci := 6) (v := .ref (a 12)) (C := RX6) (T := TX6) (N := 5) hx hb hT iX6 hown hK hP 10 rfl rfl 0 (by decide) (hT _ t_661) (fun _ h9 => h9) rfl dX6_condition_72 ?_
          refine lv_iload_n hx hb dX6_condition_75 rfl (lv_at hl 5 rfl) ?_
          refine lv_iconst (v := 0) hx hb dX6_condition_76 (by decide) ?_
          have hF_15 := rF hD hS hA
          refine va_calli (va_runV (As := [.int 124, .int 0]) (rest := []) ⟨hx, hb, hml, hown, hT⟩ (c_X5_add9 l D cy a (upd i6 4 v_14) r11 q tl 124 0 _ hRi hRr) (cwV 2 hT (gV t_662 t_663 t_664 t_665 t_367) rfl rfl rfl (by decide +kernel) ⟨Nat.le_trans (m := 2) (Nat.le_of_ble_eq_true rfl) hF9.1, Nat.le_trans (m := 46) (Nat.le_of_ble_eq_true rfl) hF9.2⟩) (rQ_v hP hK hD (va_recv hK hP (ci := 5) (q0 := 12) rfl rfl)) rfl rfl hl.1 rfl (lv_room (Nat.le_of_ble_eq_true rfl)) dX6_condition_77 ⟨Nat.le_of_ble_eq_true rfl, Nat.le_of_ble_eq_true rfl⟩) hS (fun q _ h => hF_15 q h) hF_15 (fun r_16 u_17 t H1 locs ht hvm hr_16 hB hz1 hk1 hS => ?_)
          obtain ⟨i17, r17⟩ := u_17
          obtain ⟨hP, hK1, hD1⟩ := hB
          rw [ht] at hP
          have hD := hD1.weaken (fun k q _ h => hF_15 q.1 h)
          obtain ⟨hRi, hRr, hE1, hE2, hr_16⟩ := hr_16
          have hRi : yRi i17 := hRi
          have hE1 : mEi [7] (upd i6 4 v_14) i17 := hE1
          have hRr : yRr r17 := hRr
          have hE2 : mEr [17, 18] r11 r17 := hE2
          have hP : va_P D vwCl (xW cy a i17 r17 q (a 20) (a 12) ++ tl) H1 := hP
          have hD : va_D A (xW cy a i17 r17 q (a 20) (a 12) ++ tl) := hD
          have hEi : mEi [4, 5, 7] _ i17 := Ei_tr hEi hE1 (by decide)
          have hEr : mEr [17, 18] _ r17 := Er_tr hEr hE2 (by decide)
          obtain ⟨hZr_16, hr_16⟩ := hr_16
          have hZr_16 : -1 ≤ r_16.toInt ∧ r_16.toInt ≤ 200 := hZr_16
          have hAr_16 : qAdd (upd i6 4 v_14) r11 i17 r17 (124 : Int32) (0 : Int32) := fun h9 => (hr_16 h9).2
          have hJr_16 : ((upd i6 4 v_14) 7).toInt < 200 → r_16.toInt = ((upd i6 4 v_14) 7).toInt := fun h9 => congrArg Int32.toInt (hr_16 h9).1
          have hBr_16 : i17 4 = v_14 := hE1 4 (by decide)
          have hBtr_16 : (i17 4).toInt = v_14.toInt := congrArg Int32.toInt hBr_16
          clear hr_16
          have hr_16 : True := trivial
          have h5r_16 : i17 5 = i 5 := (hE1 5 (by decide)).trans h5r_5
          refine lv_istore_n (lv' := [(3, .int r_16), (5, .int 1), (4, .int x1_4), (0, .ref (a 10)), (1, .int p0), (2, .int 124)]) hx hb dX6_condition_80 rfl hl (by decide) rfl (fun ls hl => ?_)
          obtain ⟨x_18, ex_18⟩ : ∃ y : Int32, y = x1_4 + 1 := ⟨_, rfl⟩
          refine lv_iinc (v := x_18) (lv' := [(4, .int x_18), (3, .int r_16), (5, .int 1), (0, .ref (a 10)), (1, .int p0), (2, .int 124)]) hx hb dX6_condition_81 hl (k := 2) rfl (by rw [ex_18]; rfl) (by decide) rfl (fun ls hl => ?_)
          have hx_18 : x_18.toInt = x1_4.toInt + 1 := by rw [ex_18]; have := b_rg x1_4; exact i_add (a := x1_4.toInt) (b := 1) rfl rfl (by omega) (by omega)
          refine lv_goto (tgt := 5) hx hb dX6_condition_84 (by decide) ?_
          have hch : qTX (i 3) (r 11) (i6 4).toInt.toNat = 124 := by omega
          have hlt9 := qTX_lt (e := i 3) (t := r 11) (p := (i6 4).toInt.toNat) (by omega)
          have h4a : (i17 4).toInt = (i6 4).toInt + 1 := by rw [hBr_16]; omega
          have hL8 : qLO (qTX (i 3) (r 11)) p0 i r i17 r17 r_16 := qLO_s hM9 (by omega) (by omega) (by omega) hch h4a hJr_16 hAr_16 rfl rfl
          exact ih1 x_18 r_16 i17 r17 _ _ _ (by first | omega | (simp only [Int.toNat]; omega)) (by first | omega | decide) (by first | omega | decide) hRi hEi hRr hEr ⟨hL8, ⟨by omega, by omega, by omega⟩, by omega, h5r_16⟩ hP hD hS (lv_sub hl [0, 1, 3, 4, 5] rfl)
        · have c_13 : r_12.toInt ≠ 124 := b_ne c_13
          refine lv_iconst (v := 1) hx hb dX6_condition_59 (by decide) ?_
          subst hQ
          have hpo9 : ((1 : Int32) = 0 ∨ (1 : Int32) = 1) ∧ ((0 ≤ (i6 4).toInt ∧ (i6 4).toInt ≤ (i 3).toInt) ∧ ((1 : Int32).toInt ≠ 0 → (i 4).toInt < (i6 4).toInt ∧ i6 5 = i 5)) ∧ qX (qTX (i 3) (r 11)) 8 10 p0 qKo qEo False i r i6 r11 (1 : Int32) := ⟨Or.inr rfl, ⟨⟨har_5, hbr_5⟩, (fun _ => ⟨by omega, h5r_5⟩)⟩, qLO_e hM9 (by rw [← hqr_12]; omega)⟩
          exact W.zret hx hb hr rfl (fun t ht hW => ⟨⟨_, (i6, r11), rfl, ⟨hRi, hRr, hEi, hEr, hpo9⟩, by rw [ht]; exact hP, va_K.moved hW.alike hK, hD⟩, hS.F ht⟩) hS.2.2 dX6_condition_60
  exact loop_1 _ 0 (-1) i r _ _ _ (Nat.lt_succ_self _) (by first | omega | decide) (by first | omega | decide) hRi hEi hRr hEr ⟨qLO_0 (by decide), ⟨h4.1, h4.2, by omega⟩, by have h9 : (0 : Int32).toInt = 0 := rfl; omega, rfl⟩ hP hD hS hl
theorem c_X6_factor_k6_9 (l : Launch) (D : va_G) (cy : Nat → ClassId) (a : Nat → Nat) (i : Nat → Int32) (r : Nat → Nat → Int32) (q : Nat → Option Nat) (tl : va_W) (kq vq : Nat) (sz : Nat) (hRi : yRi i) (hRr : yRr r) (h4 : 0 ≤ (i 4).toInt ∧ (i 4).toInt ≤ (i 3).toInt) : Met l yX6_factor (Cond.code yX6_factor cX6_factor 4 (some .boolean) :: gT) { frames := 5, cells := 0, slots := 0, locals := 115 } (va_Pc [.ref (a 10), .int 6] (rS D cy (xW cy a i r q (a 20) (a 12) ++ tl) sz kq vq)) (va_Qi (fun (z : Int32) (u : (Nat → Int32) × (Nat → Nat → Int32)) => yRi u.1 ∧ yRr u.2 ∧ mEi [4, 5, 7] i u.1 ∧ mEr [17, 18] r u.2 ∧ ((z = 0 ∨ z = 1) ∧ ((0 ≤ (u.1 4).toInt ∧ (u.1 4).toInt ≤ (i 3).toInt) ∧ (z.toInt ≠ 0 → (i 4).toInt < (u.1 4).toInt ∧ u.1 5 = i 5)) ∧ qX (qTX (i 3) (r 11)) 0 1 (6 : Int32) qTt qTt True i r u.1 u.2 z)) (fun (u : (Nat → Int32) × (Nat → Nat → Int32)) t => va_P D vwCl (xW cy a u.1 u.2 q (a 20) (a 12) ++ tl) t.heap ∧ va_K D vwCl (vT cy) t ∧ va_D (va_A (xW cy a i r q (a 20) (a 12) ++ tl) sz) (xW cy a u.1 u.2 q (a 20) (a 12) ++ tl)) (va_A (xW cy a i r q (a 20) (a 12) ++ tl) sz)) 0 0 (va_A (xW cy a i r q (a 20) (a 12) ++ tl) sz) := c_X6_factor_kq l D cy a i r q tl kq vq 6 sz hRi hRr h4 5 115 0 0 ⟨Nat.le_of_ble_eq_true rfl, Nat.le_of_ble_eq_true rfl⟩ ⟨by decide, by decide⟩ (fun k9 e9 h9 => absurd h9 (by rw [e9]; decide)) ⟨Nat.le_of_ble_eq_true rfl, Nat.le_of_ble_eq_true rfl⟩
theorem c_X6_expression_k6_0_9 (l : Launch) (D : va_G) (cy : Nat → ClassId) (a : Nat → Nat) (i : Nat → Int32) (r : Nat → Nat → Int32) (q : Nat → Option Nat) (tl : va_W) (kq vq : Nat) (sz : Nat) (hRi : yRi i) (hRr : yRr r) (h4 : 0 ≤ (i 4).toInt ∧ (i 4).toInt ≤ (i 3).toInt) : Met l yX6_expression (Cond.code yX6_expression cX6_expression 7 (some .boolean) :: gT) { frames := 6, cells := 0, slots := 0, locals := 138 } (va_Pc [.ref (a 10), .int 6, .int 0] (rS D cy (xW cy a i r q (a 20) (a 12) ++ tl) sz kq vq)) (va_Qi (fun (z : Int32) (u : (Nat → Int32) × (Nat → Nat → Int32)) => yRi u.1 ∧ yRr u.2 ∧ mEi [4, 5, 7] i u.1 ∧ mEr [17, 18] r u.2 ∧ ((z = 0 ∨ z = 1) ∧ ((0 ≤ (u.1 4).toInt ∧ (u.1 4).toInt ≤ (i 3).toInt) ∧ (z.toInt ≠ 0 → (i 4).toInt < (u.1 4).toInt ∧ u.1 5 = i 5)) ∧ qX (qTX (i 3) (r 11)) 0 3 (6 : Int32) qK3 qE3 True i r u.1 u.2 z)) (fun (u : (Nat → Int32) × (Nat → Nat → Int32)) t => va_P D vwCl (xW cy a u.1 u.2 q (a 20) (a 12) ++ tl) t.heap ∧ va_K D vwCl (vT cy) t ∧ va_D (va_A (xW cy a i r q (a 20) (a 12) ++ tl) sz) (xW cy a u.1 u.2 q (a 20) (a 12) ++ tl)) (va_A (xW cy a i r q (a 20) (a 12) ++ tl) sz)) 0 0 (va_A (xW cy a i r q (a 20) (a 12) ++ tl) sz) := c_X6_expression_kq0 l D cy a i r q tl kq vq 6 sz hRi hRr h4 6 138 5 115 ⟨Nat.le_of_ble_eq_true rfl, Nat.le_of_ble_eq_true rfl⟩ ⟨by decide, by decide⟩ (fun k9 e9 i r sz hRi hRr h4 => by subst e9; exact c_X6_factor_k6_9 l D cy a i r q tl kq vq sz hRi hRr h4) ⟨Nat.le_of_ble_eq_true rfl, Nat.le_of_ble_eq_true rfl⟩
theorem c_X6_expression_k6_1_9 (l : Launch) (D : va_G) (cy : Nat → ClassId) (a : Nat → Nat) (i : Nat → Int32) (r : Nat → Nat → Int32) (q : Nat → Option Nat) (tl : va_W) (kq vq : Nat) (sz : Nat) (hRi : yRi i) (hRr : yRr r) (h4 : 0 ≤ (i 4).toInt ∧ (i 4).toInt ≤ (i 3).toInt) : Met l yX6_expression (Cond.code yX6_expression cX6_expression 7 (some .boolean) :: gT) { frames := 7, cells := 0, slots := 0, locals := 164 } (va_Pc [.ref (a 10), .int 6, .int 1] (rS D cy (xW cy a i r q (a 20) (a 12) ++ tl) sz kq vq)) (va_Qi (fun (z : Int32) (u : (Nat → Int32) × (Nat → Nat → Int32)) => yRi u.1 ∧ yRr u.2 ∧ mEi [4, 5, 7] i u.1 ∧ mEr [17, 18] r u.2 ∧ ((z = 0 ∨ z = 1) ∧ ((0 ≤ (u.1 4).toInt ∧ (u.1 4).toInt ≤ (i 3).toInt) ∧ (z.toInt ≠ 0 → (i 4).toInt < (u.1 4).toInt ∧ u.1 5 = i 5)) ∧ qX (qTX (i 3) (r 11)) 0 4 (6 : Int32) qK4 qE4 True i r u.1 u.2 z)) (fun (u : (Nat → Int32) × (Nat → Nat → Int32)) t => va_P D vwCl (xW cy a u.1 u.2 q (a 20) (a 12) ++ tl) t.heap ∧ va_K D vwCl (vT cy) t ∧ va_D (va_A (xW cy a i r q (a 20) (a 12) ++ tl) sz) (xW cy a u.1 u.2 q (a 20) (a 12) ++ tl)) (va_A (xW cy a i r q (a 20) (a 12) ++ tl) sz)) 0 0 (va_A (xW cy a i r q (a 20) (a 12) ++ tl) sz) := c_X6_expression_kq1 l D cy a i r q tl kq vq 6 sz hRi hRr h4 7 164 6 138 ⟨Nat.le_of_ble_eq_true rfl, Nat.le_of_ble_eq_true rfl⟩ ⟨by decide, by decide⟩ (fun k9 e9 i r sz hRi hRr h4 => by subst e9; exact c_X6_expression_k6_0_9 l D cy a i r q tl kq vq sz hRi hRr h4) ⟨Nat.le_of_ble_eq_true rfl, Nat.le_of_ble_eq_true rfl⟩
theorem c_X6_factor_k5_9 (l : Launch) (D : va_G) (cy : Nat → ClassId) (a : Nat → Nat) (i : Nat → Int32) (r : Nat → Nat → Int32) (q : Nat → Option Nat) (tl : va_W) (kq vq : Nat) (sz : Nat) (hRi : yRi i) (hRr : yRr r) (h4 : 0 ≤ (i 4).toInt ∧ (i 4).toInt ≤ (i 3).toInt) : Met l yX6_factor (Cond.code yX6_factor cX6_factor 4 (some .boolean) :: gT) { frames := 8, cells := 0, slots := 0, locals := 190 } (va_Pc [.ref (a 10), .int 5] (rS D cy (xW cy a i r q (a 20) (a 12) ++ tl) sz kq vq)) (va_Qi (fun (z : Int32) (u : (Nat → Int32) × (Nat → Nat → Int32)) => yRi u.1 ∧ yRr u.2 ∧ mEi [4, 5, 7] i u.1 ∧ mEr [17, 18] r u.2 ∧ ((z = 0 ∨ z = 1) ∧ ((0 ≤ (u.1 4).toInt ∧ (u.1 4).toInt ≤ (i 3).toInt) ∧ (z.toInt ≠ 0 → (i 4).toInt < (u.1 4).toInt ∧ u.1 5 = i 5)) ∧ qX (qTX (i 3) (r 11)) 0 1 (5 : Int32) qTt qTt True i r u.1 u.2 z)) (fun (u : (Nat → Int32) × (Nat → Nat → Int32)) t => va_P D vwCl (xW cy a u.1 u.2 q (a 20) (a 12) ++ tl) t.heap ∧ va_K D vwCl (vT cy) t ∧ va_D (va_A (xW cy a i r q (a 20) (a 12) ++ tl) sz) (xW cy a u.1 u.2 q (a 20) (a 12) ++ tl)) (va_A (xW cy a i r q (a 20) (a 12) ++ tl) sz)) 0 0 (va_A (xW cy a i r q (a 20) (a 12) ++ tl) sz) := c_X6_factor_kq l D cy a i r q tl kq vq 5 sz hRi hRr h4 8 190 7 164 ⟨Nat.le_of_ble_eq_true rfl, Nat.le_of_ble_eq_true rfl⟩ ⟨by decide, by decide⟩ (fun k9 e9 _ i r sz hRi hRr h4 => by obtain rfl : k9 = 6 := Int32.toInt_inj.mp (e9.trans (by decide)); exact c_X6_expression_k6_1_9 l D cy a i r q tl kq vq sz hRi hRr h4) ⟨Nat.le_of_ble_eq_true rfl, Nat.le_of_ble_eq_true rfl⟩
theorem c_X6_expression_k5_0_9 (l : Launch) (D : va_G) (cy : Nat → ClassId) (a : Nat → Nat) (i : Nat → Int32) (r : Nat → Nat → Int32) (q : Nat → Option Nat) (tl : va_W) (kq vq : Nat) (sz : Nat) (hRi : yRi i) (hRr : yRr r) (h4 : 0 ≤ (i 4).toInt ∧ (i 4).toInt ≤ (i 3).toInt) : Met l yX6_expression (Cond.code yX6_expression cX6_expression 7 (some .boolean) :: gT) { frames := 9, cells := 0, slots := 0, locals := 213 } (va_Pc [.ref (a 10), .int 5, .int 0] (rS D cy (xW cy a i r q (a 20) (a 12) ++ tl) sz kq vq)) (va_Qi (fun (z : Int32) (u : (Nat → Int32) × (Nat → Nat → Int32)) => yRi u.1 ∧ yRr u.2 ∧ mEi [4, 5, 7] i u.1 ∧ mEr [17, 18] r u.2 ∧ ((z = 0 ∨ z = 1) ∧ ((0 ≤ (u.1 4).toInt ∧ (u.1 4).toInt ≤ (i 3).toInt) ∧ (z.toInt ≠ 0 → (i 4).toInt < (u.1 4).toInt ∧ u.1 5 = i 5)) ∧ qX (qTX (i 3) (r 11)) 0 3 (5 : Int32) qK3 qE3 True i r u.1 u.2 z)) (fun (u : (Nat → Int32) × (Nat → Nat → Int32)) t => va_P D vwCl (xW cy a u.1 u.2 q (a 20) (a 12) ++ tl) t.heap ∧ va_K D vwCl (vT cy) t ∧ va_D (va_A (xW cy a i r q (a 20) (a 12) ++ tl) sz) (xW cy a u.1 u.2 q (a 20) (a 12) ++ tl)) (va_A (xW cy a i r q (a 20) (a 12) ++ tl) sz)) 0 0 (va_A (xW cy a i r q (a 20) (a 12) ++ tl) sz) := c_X6_expression_kq0 l D cy a i r q tl kq vq 5 sz hRi hRr h4 9 213 8 190 ⟨Nat.le_of_ble_eq_true rfl, Nat.le_of_ble_eq_true rfl⟩ ⟨by decide, by decide⟩ (fun k9 e9 i r sz hRi hRr h4 => by subst e9; exact c_X6_factor_k5_9 l D cy a i r q tl kq vq sz hRi hRr h4) ⟨Nat.le_of_ble_eq_true rfl, Nat.le_of_ble_eq_true rfl⟩
theorem c_X6_expression_k5_1_9 (l : Launch) (D : va_G) (cy : Nat → ClassId) (a : Nat → Nat) (i : Nat → Int32) (r : Nat → Nat → Int32) (q : Nat → Option Nat) (tl : va_W) (kq vq : Nat) (sz : Nat) (hRi : yRi i) (hRr : yRr r) (h4 : 0 ≤ (i 4).toInt ∧ (i 4).toInt ≤ (i 3).toInt) : Met l yX6_expression (Cond.code yX6_expression cX6_expression 7 (some .boolean) :: gT) { frames := 10, cells := 0, slots := 0, locals := 239 } (va_Pc [.ref (a 10), .int 5, .int 1] (rS D cy (xW cy a i r q (a 20) (a 12) ++ tl) sz kq vq)) (va_Qi (fun (z : Int32) (u : (Nat → Int32) × (Nat → Nat → Int32)) => yRi u.1 ∧ yRr u.2 ∧ mEi [4, 5, 7] i u.1 ∧ mEr [17, 18] r u.2 ∧ ((z = 0 ∨ z = 1) ∧ ((0 ≤ (u.1 4).toInt ∧ (u.1 4).toInt ≤ (i 3).toInt) ∧ (z.toInt ≠ 0 → (i 4).toInt < (u.1 4).toInt ∧ u.1 5 = i 5)) ∧ qX (qTX (i 3) (r 11)) 0 4 (5 : Int32) qK4 qE4 True i r u.1 u.2 z)) (fun (u : (Nat → Int32) × (Nat → Nat → Int32)) t => va_P D vwCl (xW cy a u.1 u.2 q (a 20) (a 12) ++ tl) t.heap ∧ va_K D vwCl (vT cy) t ∧ va_D (va_A (xW cy a i r q (a 20) (a 12) ++ tl) sz) (xW cy a u.1 u.2 q (a 20) (a 12) ++ tl)) (va_A (xW cy a i r q (a 20) (a 12) ++ tl) sz)) 0 0 (va_A (xW cy a i r q (a 20) (a 12) ++ tl) sz) := c_X6_expression_kq1 l D cy a i r q tl kq vq 5 sz hRi hRr h4 10 239 9 213 ⟨Nat.le_of_ble_eq_true rfl, Nat.le_of_ble_eq_true rfl⟩ ⟨by decide, by decide⟩ (fun k9 e9 i r sz hRi hRr h4 => by subst e9; exact c_X6_expression_k5_0_9 l D cy a i r q tl kq vq sz hRi hRr h4) ⟨Nat.le_of_ble_eq_true rfl, Nat.le_of_ble_eq_true rfl⟩
theorem c_X6_factor_k4_9 (l : Launch) (D : va_G) (cy : Nat → ClassId) (a : Nat → Nat) (i : Nat → Int32) (r : Nat → Nat → Int32) (q : Nat → Option Nat) (tl : va_W) (kq vq : Nat) (sz : Nat) (hRi : yRi i) (hRr : yRr r) (h4 : 0 ≤ (i 4).toInt ∧ (i 4).toInt ≤ (i 3).toInt) : Met l yX6_factor (Cond.code yX6_factor cX6_factor 4 (some .boolean) :: gT) { frames := 11, cells := 0, slots := 0, locals := 265 } (va_Pc [.ref (a 10), .int 4] (rS D cy (xW cy a i r q (a 20) (a 12) ++ tl) sz kq vq)) (va_Qi (fun (z : Int32) (u : (Nat → Int32) × (Nat → Nat → Int32)) => yRi u.1 ∧ yRr u.2 ∧ mEi [4, 5, 7] i u.1 ∧ mEr [17, 18] r u.2 ∧ ((z = 0 ∨ z = 1) ∧ ((0 ≤ (u.1 4).toInt ∧ (u.1 4).toInt ≤ (i 3).toInt) ∧ (z.toInt ≠ 0 → (i 4).toInt < (u.1 4).toInt ∧ u.1 5 = i 5)) ∧ qX (qTX (i 3) (r 11)) 0 1 (4 : Int32) qTt qTt True i r u.1 u.2 z)) (fun (u : (Nat → Int32) × (Nat → Nat → Int32)) t => va_P D vwCl (xW cy a u.1 u.2 q (a 20) (a 12) ++ tl) t.heap ∧ va_K D vwCl (vT cy) t ∧ va_D (va_A (xW cy a i r q (a 20) (a 12) ++ tl) sz) (xW cy a u.1 u.2 q (a 20) (a 12) ++ tl)) (va_A (xW cy a i r q (a 20) (a 12) ++ tl) sz)) 0 0 (va_A (xW cy a i r q (a 20) (a 12) ++ tl) sz) := c_X6_factor_kq l D cy a i r q tl kq vq 4 sz hRi hRr h4 11 265 10 239 ⟨Nat.le_of_ble_eq_true rfl, Nat.le_of_ble_eq_true rfl⟩ ⟨by decide, by decide⟩ (fun k9 e9 _ i r sz hRi hRr h4 => by obtain rfl : k9 = 5 := Int32.toInt_inj.mp (e9.trans (by decide)); exact c_X6_expression_k5_1_9 l D cy a i r q tl kq vq sz hRi hRr h4) ⟨Nat.le_of_ble_eq_true rfl, Nat.le_of_ble_eq_true rfl⟩
theorem c_X6_expression_k4_0_9 (l : Launch) (D : va_G) (cy : Nat → ClassId) (a : Nat → Nat) (i : Nat → Int32) (r : Nat → Nat → Int32) (q : Nat → Option Nat) (tl : va_W) (kq vq : Nat) (sz : Nat) (hRi : yRi i) (hRr : yRr r) (h4 : 0 ≤ (i 4).toInt ∧ (i 4).toInt ≤ (i 3).toInt) : Met l yX6_expression (Cond.code yX6_expression cX6_expression 7 (some .boolean) :: gT) { frames := 12, cells := 0, slots := 0, locals := 288 } (va_Pc [.ref (a 10), .int 4, .int 0] (rS D cy (xW cy a i r q (a 20) (a 12) ++ tl) sz kq vq)) (va_Qi (fun (z : Int32) (u : (Nat → Int32) × (Nat → Nat → Int32)) => yRi u.1 ∧ yRr u.2 ∧ mEi [4, 5, 7] i u.1 ∧ mEr [17, 18] r u.2 ∧ ((z = 0 ∨ z = 1) ∧ ((0 ≤ (u.1 4).toInt ∧ (u.1 4).toInt ≤ (i 3).toInt) ∧ (z.toInt ≠ 0 → (i 4).toInt < (u.1 4).toInt ∧ u.1 5 = i 5)) ∧ qX (qTX (i 3) (r 11)) 0 3 (4 : Int32) qK3 qE3 True i r u.1 u.2 z)) (fun (u : (Nat → Int32) × (Nat → Nat → Int32)) t => va_P D vwCl (xW cy a u.1 u.2 q (a 20) (a 12) ++ tl) t.heap ∧ va_K D vwCl (vT cy) t ∧ va_D (va_A (xW cy a i r q (a 20) (a 12) ++ tl) sz) (xW cy a u.1 u.2 q (a 20) (a 12) ++ tl)) (va_A (xW cy a i r q (a 20) (a 12) ++ tl) sz)) 0 0 (va_A (xW cy a i r q (a 20) (a 12) ++ tl) sz) := c_X6_expression_kq0 l D cy a i r q tl kq vq 4 sz hRi hRr h4 12 288 11 265 ⟨Nat.le_of_ble_eq_true rfl, Nat.le_of_ble_eq_true rfl⟩ ⟨by decide, by decide⟩ (fun k9 e9 i r sz hRi hRr h4 => by subst e9; exact c_X6_factor_k4_9 l D cy a i r q tl kq vq sz hRi hRr h4) ⟨Nat.le_of_ble_eq_true rfl, Nat.le_of_ble_eq_true rfl⟩
theorem c_X6_expression_k4_1_9 (l : Launch) (D : va_G) (cy : Nat → ClassId) (a : Nat → Nat) (i : Nat → Int32) (r : Nat → Nat → Int32) (q : Nat → Option Nat) (tl : va_W) (kq vq : Nat) (sz : Nat) (hRi : yRi i) (hRr : yRr r) (h4 : 0 ≤ (i 4).toInt ∧ (i 4).toInt ≤ (i 3).toInt) : Met l yX6_expression (Cond.code yX6_expression cX6_expression 7 (some .boolean) :: gT) { frames := 13, cells := 0, slots := 0, locals := 314 } (va_Pc [.ref (a 10), .int 4, .int 1] (rS D cy (xW cy a i r q (a 20) (a 12) ++ tl) sz kq vq)) (va_Qi (fun (z : Int32) (u : (Nat → Int32) × (Nat → Nat → Int32)) => yRi u.1 ∧ yRr u.2 ∧ mEi [4, 5, 7] i u.1 ∧ mEr [17, 18] r u.2 ∧ ((z = 0 ∨ z = 1) ∧ ((0 ≤ (u.1 4).toInt ∧ (u.1 4).toInt ≤ (i 3).toInt) ∧ (z.toInt ≠ 0 → (i 4).toInt < (u.1 4).toInt ∧ u.1 5 = i 5)) ∧ qX (qTX (i 3) (r 11)) 0 4 (4 : Int32) qK4 qE4 True i r u.1 u.2 z)) (fun (u : (Nat → Int32) × (Nat → Nat → Int32)) t => va_P D vwCl (xW cy a u.1 u.2 q (a 20) (a 12) ++ tl) t.heap ∧ va_K D vwCl (vT cy) t ∧ va_D (va_A (xW cy a i r q (a 20) (a 12) ++ tl) sz) (xW cy a u.1 u.2 q (a 20) (a 12) ++ tl)) (va_A (xW cy a i r q (a 20) (a 12) ++ tl) sz)) 0 0 (va_A (xW cy a i r q (a 20) (a 12) ++ tl) sz) := c_X6_expression_kq1 l D cy a i r q tl kq vq 4 sz hRi hRr h4 13 314 12 288 ⟨Nat.le_of_ble_eq_true rfl, Nat.le_of_ble_eq_true rfl⟩ ⟨by decide, by decide⟩ (fun k9 e9 i r sz hRi hRr h4 => by subst e9; exact c_X6_expression_k4_0_9 l D cy a i r q tl kq vq sz hRi hRr h4) ⟨Nat.le_of_ble_eq_true rfl, Nat.le_of_ble_eq_true rfl⟩
theorem c_X6_factor_k3_9 (l : Launch) (D : va_G) (cy : Nat → ClassId) (a : Nat → Nat) (i : Nat → Int32) (r : Nat → Nat → Int32) (q : Nat → Option Nat) (tl : va_W) (kq vq : Nat) (sz : Nat) (hRi : yRi i) (hRr : yRr r) (h4 : 0 ≤ (i 4).toInt ∧ (i 4).toInt ≤ (i 3).toInt) : Met l yX6_factor (Cond.code yX6_factor cX6_factor 4 (some .boolean) :: gT) { frames := 14, cells := 0, slots := 0, locals := 340 } (va_Pc [.ref (a 10), .int 3] (rS D cy (xW cy a i r q (a 20) (a 12) ++ tl) sz kq vq)) (va_Qi (fun (z : Int32) (u : (Nat → Int32) × (Nat → Nat → Int32)) => yRi u.1 ∧ yRr u.2 ∧ mEi [4, 5, 7] i u.1 ∧ mEr [17, 18] r u.2 ∧ ((z = 0 ∨ z = 1) ∧ ((0 ≤ (u.1 4).toInt ∧ (u.1 4).toInt ≤ (i 3).toInt) ∧ (z.toInt ≠ 0 → (i 4).toInt < (u.1 4).toInt ∧ u.1 5 = i 5)) ∧ qX (qTX (i 3) (r 11)) 0 1 (3 : Int32) qTt qTt True i r u.1 u.2 z)) (fun (u : (Nat → Int32) × (Nat → Nat → Int32)) t => va_P D vwCl (xW cy a u.1 u.2 q (a 20) (a 12) ++ tl) t.heap ∧ va_K D vwCl (vT cy) t ∧ va_D (va_A (xW cy a i r q (a 20) (a 12) ++ tl) sz) (xW cy a u.1 u.2 q (a 20) (a 12) ++ tl)) (va_A (xW cy a i r q (a 20) (a 12) ++ tl) sz)) 0 0 (va_A (xW cy a i r q (a 20) (a 12) ++ tl) sz) := c_X6_factor_kq l D cy a i r q tl kq vq 3 sz hRi hRr h4 14 340 13 314 ⟨Nat.le_of_ble_eq_true rfl, Nat.le_of_ble_eq_true rfl⟩ ⟨by decide, by decide⟩ (fun k9 e9 _ i r sz hRi hRr h4 => by obtain rfl : k9 = 4 := Int32.toInt_inj.mp (e9.trans (by decide)); exact c_X6_expression_k4_1_9 l D cy a i r q tl kq vq sz hRi hRr h4) ⟨Nat.le_of_ble_eq_true rfl, Nat.le_of_ble_eq_true rfl⟩
theorem c_X6_expression_k3_0_9 (l : Launch) (D : va_G) (cy : Nat → ClassId) (a : Nat → Nat) (i : Nat → Int32) (r : Nat → Nat → Int32) (q : Nat → Option Nat) (tl : va_W) (kq vq : Nat) (sz : Nat) (hRi : yRi i) (hRr : yRr r) (h4 : 0 ≤ (i 4).toInt ∧ (i 4).toInt ≤ (i 3).toInt) : Met l yX6_expression (Cond.code yX6_expression cX6_expression 7 (some .boolean) :: gT) { frames := 15, cells := 0, slots := 0, locals := 363 } (va_Pc [.ref (a 10), .int 3, .int 0] (rS D cy (xW cy a i r q (a 20) (a 12) ++ tl) sz kq vq)) (va_Qi (fun (z : Int32) (u : (Nat → Int32) × (Nat → Nat → Int32)) => yRi u.1 ∧ yRr u.2 ∧ mEi [4, 5, 7] i u.1 ∧ mEr [17, 18] r u.2 ∧ ((z = 0 ∨ z = 1) ∧ ((0 ≤ (u.1 4).toInt ∧ (u.1 4).toInt ≤ (i 3).toInt) ∧ (z.toInt ≠ 0 → (i 4).toInt < (u.1 4).toInt ∧ u.1 5 = i 5)) ∧ qX (qTX (i 3) (r 11)) 0 3 (3 : Int32) qK3 qE3 True i r u.1 u.2 z)) (fun (u : (Nat → Int32) × (Nat → Nat → Int32)) t => va_P D vwCl (xW cy a u.1 u.2 q (a 20) (a 12) ++ tl) t.heap ∧ va_K D vwCl (vT cy) t ∧ va_D (va_A (xW cy a i r q (a 20) (a 12) ++ tl) sz) (xW cy a u.1 u.2 q (a 20) (a 12) ++ tl)) (va_A (xW cy a i r q (a 20) (a 12) ++ tl) sz)) 0 0 (va_A (xW cy a i r q (a 20) (a 12) ++ tl) sz) := c_X6_expression_kq0 l D cy a i r q tl kq vq 3 sz hRi hRr h4 15 363 14 340 ⟨Nat.le_of_ble_eq_true rfl, Nat.le_of_ble_eq_true rfl⟩ ⟨by decide, by decide⟩ (fun k9 e9 i r sz hRi hRr h4 => by subst e9; exact c_X6_factor_k3_9 l D cy a i r q tl kq vq sz hRi hRr h4) ⟨Nat.le_of_ble_eq_true rfl, Nat.le_of_ble_eq_true rfl⟩
theorem c_X6_expression_k3_1_9 (l : Launch) (D : va_G) (cy : Nat → ClassId) (a : Nat → Nat) (i : Nat → Int32) (r : Nat → Nat → Int32) (q : Nat → Option Nat) (tl : va_W) (kq vq : Nat) (sz : Nat) (hRi : yRi i) (hRr : yRr r) (h4 : 0 ≤ (i 4).toInt ∧ (i 4).toInt ≤ (i 3).toInt) : Met l yX6_expression (Cond.code yX6_expression cX6_expression 7 (some .boolean) :: gT) { frames := 16, cells := 0, slots := 0, locals := 389 } (va_Pc [.ref (a 10), .int 3, .int 1] (rS D cy (xW cy a i r q (a 20) (a 12) ++ tl) sz kq vq)) (va_Qi (fun (z : Int32) (u : (Nat → Int32) × (Nat → Nat → Int32)) => yRi u.1 ∧ yRr u.2 ∧ mEi [4, 5, 7] i u.1 ∧ mEr [17, 18] r u.2 ∧ ((z = 0 ∨ z = 1) ∧ ((0 ≤ (u.1 4).toInt ∧ (u.1 4).toInt ≤ (i 3).toInt) ∧ (z.toInt ≠ 0 → (i 4).toInt < (u.1 4).toInt ∧ u.1 5 = i 5)) ∧ qX (qTX (i 3) (r 11)) 0 4 (3 : Int32) qK4 qE4 True i r u.1 u.2 z)) (fun (u : (Nat → Int32) × (Nat → Nat → Int32)) t => va_P D vwCl (xW cy a u.1 u.2 q (a 20) (a 12) ++ tl) t.heap ∧ va_K D vwCl (vT cy) t ∧ va_D (va_A (xW cy a i r q (a 20) (a 12) ++ tl) sz) (xW cy a u.1 u.2 q (a 20) (a 12) ++ tl)) (va_A (xW cy a i r q (a 20) (a 12) ++ tl) sz)) 0 0 (va_A (xW cy a i r q (a 20) (a 12) ++ tl) sz) := c_X6_expression_kq1 l D cy a i r q tl kq vq 3 sz hRi hRr h4 16 389 15 363 ⟨Nat.le_of_ble_eq_true rfl, Nat.le_of_ble_eq_true rfl⟩ ⟨by decide, by decide⟩ (fun k9 e9 i r sz hRi hRr h4 => by subst e9; exact c_X6_expression_k3_0_9 l D cy a i r q tl kq vq sz hRi hRr h4) ⟨Nat.le_of_ble_eq_true rfl, Nat.le_of_ble_eq_true rfl⟩
theorem c_X6_factor_k2_9 (l : Launch) (D : va_G) (cy : Nat → ClassId) (a : Nat → Nat) (i : Nat → Int32) (r : Nat → Nat → Int32) (q : Nat → Option Nat) (tl : va_W) (kq vq : Nat) (sz : Nat) (hRi : yRi i) (hRr : yRr r) (h4 : 0 ≤ (i 4).toInt ∧ (i 4).toInt ≤ (i 3).toInt) : Met l yX6_factor (Cond.code yX6_factor cX6_factor 4 (some .boolean) :: gT) { frames := 17, cells := 0, slots := 0, locals := 415 } (va_Pc [.ref (a 10), .int 2] (rS D cy (xW cy a i r q (a 20) (a 12) ++ tl) sz kq vq)) (va_Qi (fun (z : Int32) (u : (Nat → Int32) × (Nat → Nat → Int32)) => yRi u.1 ∧ yRr u.2 ∧ mEi [4, 5, 7] i u.1 ∧ mEr [17, 18] r u.2 ∧ ((z = 0 ∨ z = 1) ∧ ((0 ≤ (u.1 4).toInt ∧ (u.1 4).toInt ≤ (i 3).toInt) ∧ (z.toInt ≠ 0 → (i 4).toInt < (u.1 4).toInt ∧ u.1 5 = i 5)) ∧ qX (qTX (i 3) (r 11)) 0 1 (2 : Int32) qTt qTt True i r u.1 u.2 z)) (fun (u : (Nat → Int32) × (Nat → Nat → Int32)) t => va_P D vwCl (xW cy a u.1 u.2 q (a 20) (a 12) ++ tl) t.heap ∧ va_K D vwCl (vT cy) t ∧ va_D (va_A (xW cy a i r q (a 20) (a 12) ++ tl) sz) (xW cy a u.1 u.2 q (a 20) (a 12) ++ tl)) (va_A (xW cy a i r q (a 20) (a 12) ++ tl) sz)) 0 0 (va_A (xW cy a i r q (a 20) (a 12) ++ tl) sz) := c_X6_factor_kq l D cy a i r q tl kq vq 2 sz hRi hRr h4 17 415 16 389 ⟨Nat.le_of_ble_eq_true rfl, Nat.le_of_ble_eq_true rfl⟩ ⟨by decide, by decide⟩ (fun k9 e9 _ i r sz hRi hRr h4 => by obtain rfl : k9 = 3 := Int32.toInt_inj.mp (e9.trans (by decide)); exact c_X6_expression_k3_1_9 l D cy a i r q tl kq vq sz hRi hRr h4) ⟨Nat.le_of_ble_eq_true rfl, Nat.le_of_ble_eq_true rfl⟩
theorem c_X6_expression_k2_0_9 (l : Launch) (D : va_G) (cy : Nat → ClassId) (a : Nat → Nat) (i : Nat → Int32) (r : Nat → Nat → Int32) (q : Nat → Option Nat) (tl : va_W) (kq vq : Nat) (sz : Nat) (hRi : yRi i) (hRr : yRr r) (h4 : 0 ≤ (i 4).toInt ∧ (i 4).toInt ≤ (i 3).toInt) : Met l yX6_expression (Cond.code yX6_expression cX6_expression 7 (some .boolean) :: gT) { frames := 18, cells := 0, slots := 0, locals := 438 } (va_Pc [.ref (a 10), .int 2, .int 0] (rS D cy (xW cy a i r q (a 20) (a 12) ++ tl) sz kq vq)) (va_Qi (fun (z : Int32) (u : (Nat → Int32) × (Nat → Nat → Int32)) => yRi u.1 ∧ yRr u.2 ∧ mEi [4, 5, 7] i u.1 ∧ mEr [17, 18] r u.2 ∧ ((z = 0 ∨ z = 1) ∧ ((0 ≤ (u.1 4).toInt ∧ (u.1 4).toInt ≤ (i 3).toInt) ∧ (z.toInt ≠ 0 → (i 4).toInt < (u.1 4).toInt ∧ u.1 5 = i 5)) ∧ qX (qTX (i 3) (r 11)) 0 3 (2 : Int32) qK3 qE3 True i r u.1 u.2 z)) (fun (u : (Nat → Int32) × (Nat → Nat → Int32)) t => va_P D vwCl (xW cy a u.1 u.2 q (a 20) (a 12) ++ tl) t.heap ∧ va_K D vwCl (vT cy) t ∧ va_D (va_A (xW cy a i r q (a 20) (a 12) ++ tl) sz) (xW cy a u.1 u.2 q (a 20) (a 12) ++ tl)) (va_A (xW cy a i r q (a 20) (a 12) ++ tl) sz)) 0 0 (va_A (xW cy a i r q (a 20) (a 12) ++ tl) sz) := c_X6_expression_kq0 l D cy a i r q tl kq vq 2 sz hRi hRr h4 18 438 17 415 ⟨Nat.le_of_ble_eq_true rfl, Nat.le_of_ble_eq_true rfl⟩ ⟨by decide, by decide⟩ (fun k9 e9 i r sz hRi hRr h4 => by subst e9; exact c_X6_factor_k2_9 l D cy a i r q tl kq vq sz hRi hRr h4) ⟨Nat.le_of_ble_eq_true rfl, Nat.le_of_ble_eq_true rfl⟩
theorem c_X6_expression_k2_1_9 (l : Launch) (D : va_G) (cy : Nat → ClassId) (a : Nat → Nat) (i : Nat → Int32) (r : Nat → Nat → Int32) (q : Nat → Option Nat) (tl : va_W) (kq vq : Nat) (sz : Nat) (hRi : yRi i) (hRr : yRr r) (h4 : 0 ≤ (i 4).toInt ∧ (i 4).toInt ≤ (i 3).toInt) : Met l yX6_expression (Cond.code yX6_expression cX6_expression 7 (some .boolean) :: gT) { frames := 19, cells := 0, slots := 0, locals := 464 } (va_Pc [.ref (a 10), .int 2, .int 1] (rS D cy (xW cy a i r q (a 20) (a 12) ++ tl) sz kq vq)) (va_Qi (fun (z : Int32) (u : (Nat → Int32) × (Nat → Nat → Int32)) => yRi u.1 ∧ yRr u.2 ∧ mEi [4, 5, 7] i u.1 ∧ mEr [17, 18] r u.2 ∧ ((z = 0 ∨ z = 1) ∧ ((0 ≤ (u.1 4).toInt ∧ (u.1 4).toInt ≤ (i 3).toInt) ∧ (z.toInt ≠ 0 → (i 4).toInt < (u.1 4).toInt ∧ u.1 5 = i 5)) ∧ qX (qTX (i 3) (r 11)) 0 4 (2 : Int32) qK4 qE4 True i r u.1 u.2 z)) (fun (u : (Nat → Int32) × (Nat → Nat → Int32)) t => va_P D vwCl (xW cy a u.1 u.2 q (a 20) (a 12) ++ tl) t.heap ∧ va_K D vwCl (vT cy) t ∧ va_D (va_A (xW cy a i r q (a 20) (a 12) ++ tl) sz) (xW cy a u.1 u.2 q (a 20) (a 12) ++ tl)) (va_A (xW cy a i r q (a 20) (a 12) ++ tl) sz)) 0 0 (va_A (xW cy a i r q (a 20) (a 12) ++ tl) sz) := c_X6_expression_kq1 l D cy a i r q tl kq vq 2 sz hRi hRr h4 19 464 18 438 ⟨Nat.le_of_ble_eq_true rfl, Nat.le_of_ble_eq_true rfl⟩ ⟨by decide, by decide⟩ (fun k9 e9 i r sz hRi hRr h4 => by subst e9; exact c_X6_expression_k2_0_9 l D cy a i r q tl kq vq sz hRi hRr h4) ⟨Nat.le_of_ble_eq_true rfl, Nat.le_of_ble_eq_true rfl⟩
theorem c_X6_factor_k1_9 (l : Launch) (D : va_G) (cy : Nat → ClassId) (a : Nat → Nat) (i : Nat → Int32) (r : Nat → Nat → Int32) (q : Nat → Option Nat) (tl : va_W) (kq vq : Nat) (sz : Nat) (hRi : yRi i) (hRr : yRr r) (h4 : 0 ≤ (i 4).toInt ∧ (i 4).toInt ≤ (i 3).toInt) : Met l yX6_factor (Cond.code yX6_factor cX6_factor 4 (some .boolean) :: gT) { frames := 20, cells := 0, slots := 0, locals := 490 } (va_Pc [.ref (a 10), .int 1] (rS D cy (xW cy a i r q (a 20) (a 12) ++ tl) sz kq vq)) (va_Qi (fun (z : Int32) (u : (Nat → Int32) × (Nat → Nat → Int32)) => yRi u.1 ∧ yRr u.2 ∧ mEi [4, 5, 7] i u.1 ∧ mEr [17, 18] r u.2 ∧ ((z = 0 ∨ z = 1) ∧ ((0 ≤ (u.1 4).toInt ∧ (u.1 4).toInt ≤ (i 3).toInt) ∧ (z.toInt ≠ 0 → (i 4).toInt < (u.1 4).toInt ∧ u.1 5 = i 5)) ∧ qX (qTX (i 3) (r 11)) 0 1 (1 : Int32) qTt qTt True i r u.1 u.2 z)) (fun (u : (Nat → Int32) × (Nat → Nat → Int32)) t => va_P D vwCl (xW cy a u.1 u.2 q (a 20) (a 12) ++ tl) t.heap ∧ va_K D vwCl (vT cy) t ∧ va_D (va_A (xW cy a i r q (a 20) (a 12) ++ tl) sz) (xW cy a u.1 u.2 q (a 20) (a 12) ++ tl)) (va_A (xW cy a i r q (a 20) (a 12) ++ tl) sz)) 0 0 (va_A (xW cy a i r q (a 20) (a 12) ++ tl) sz) := c_X6_factor_kq l D cy a i r q tl kq vq 1 sz hRi hRr h4 20 490 19 464 ⟨Nat.le_of_ble_eq_true rfl, Nat.le_of_ble_eq_true rfl⟩ ⟨by decide, by decide⟩ (fun k9 e9 _ i r sz hRi hRr h4 => by obtain rfl : k9 = 2 := Int32.toInt_inj.mp (e9.trans (by decide)); exact c_X6_expression_k2_1_9 l D cy a i r q tl kq vq sz hRi hRr h4) ⟨Nat.le_of_ble_eq_true rfl, Nat.le_of_ble_eq_true rfl⟩
theorem c_X6_expression_k1_0_9 (l : Launch) (D : va_G) (cy : Nat → ClassId) (a : Nat → Nat) (i : Nat → Int32) (r : Nat → Nat → Int32) (q : Nat → Option Nat) (tl : va_W) (kq vq : Nat) (sz : Nat) (hRi : yRi i) (hRr : yRr r) (h4 : 0 ≤ (i 4).toInt ∧ (i 4).toInt ≤ (i 3).toInt) : Met l yX6_expression (Cond.code yX6_expression cX6_expression 7 (some .boolean) :: gT) { frames := 21, cells := 0, slots := 0, locals := 513 } (va_Pc [.ref (a 10), .int 1, .int 0] (rS D cy (xW cy a i r q (a 20) (a 12) ++ tl) sz kq vq)) (va_Qi (fun (z : Int32) (u : (Nat → Int32) × (Nat → Nat → Int32)) => yRi u.1 ∧ yRr u.2 ∧ mEi [4, 5, 7] i u.1 ∧ mEr [17, 18] r u.2 ∧ ((z = 0 ∨ z = 1) ∧ ((0 ≤ (u.1 4).toInt ∧ (u.1 4).toInt ≤ (i 3).toInt) ∧ (z.toInt ≠ 0 → (i 4).toInt < (u.1 4).toInt ∧ u.1 5 = i 5)) ∧ qX (qTX (i 3) (r 11)) 0 3 (1 : Int32) qK3 qE3 True i r u.1 u.2 z)) (fun (u : (Nat → Int32) × (Nat → Nat → Int32)) t => va_P D vwCl (xW cy a u.1 u.2 q (a 20) (a 12) ++ tl) t.heap ∧ va_K D vwCl (vT cy) t ∧ va_D (va_A (xW cy a i r q (a 20) (a 12) ++ tl) sz) (xW cy a u.1 u.2 q (a 20) (a 12) ++ tl)) (va_A (xW cy a i r q (a 20) (a 12) ++ tl) sz)) 0 0 (va_A (xW cy a i r q (a 20) (a 12) ++ tl) sz) := c_X6_expression_kq0 l D cy a i r q tl kq vq 1 sz hRi hRr h4 21 513 20 490 ⟨Nat.le_of_ble_eq_true rfl, Nat.le_of_ble_eq_true rfl⟩ ⟨by decide, by decide⟩ (fun k9 e9 i r sz hRi hRr h4 => by subst e9; exact c_X6_factor_k1_9 l D cy a i r q tl kq vq sz hRi hRr h4) ⟨Nat.le_of_ble_eq_true rfl, Nat.le_of_ble_eq_true rfl⟩
theorem c_X6_expression_k1_1_9 (l : Launch) (D : va_G) (cy : Nat → ClassId) (a : Nat → Nat) (i : Nat → Int32) (r : Nat → Nat → Int32) (q : Nat → Option Nat) (tl : va_W) (kq vq : Nat) (sz : Nat) (hRi : yRi i) (hRr : yRr r) (h4 : 0 ≤ (i 4).toInt ∧ (i 4).toInt ≤ (i 3).toInt) : Met l yX6_expression (Cond.code yX6_expression cX6_expression 7 (some .boolean) :: gT) { frames := 22, cells := 0, slots := 0, locals := 539 } (va_Pc [.ref (a 10), .int 1, .int 1] (rS D cy (xW cy a i r q (a 20) (a 12) ++ tl) sz kq vq)) (va_Qi (fun (z : Int32) (u : (Nat → Int32) × (Nat → Nat → Int32)) => yRi u.1 ∧ yRr u.2 ∧ mEi [4, 5, 7] i u.1 ∧ mEr [17, 18] r u.2 ∧ ((z = 0 ∨ z = 1) ∧ ((0 ≤ (u.1 4).toInt ∧ (u.1 4).toInt ≤ (i 3).toInt) ∧ (z.toInt ≠ 0 → (i 4).toInt < (u.1 4).toInt ∧ u.1 5 = i 5)) ∧ qX (qTX (i 3) (r 11)) 0 4 (1 : Int32) qK4 qE4 True i r u.1 u.2 z)) (fun (u : (Nat → Int32) × (Nat → Nat → Int32)) t => va_P D vwCl (xW cy a u.1 u.2 q (a 20) (a 12) ++ tl) t.heap ∧ va_K D vwCl (vT cy) t ∧ va_D (va_A (xW cy a i r q (a 20) (a 12) ++ tl) sz) (xW cy a u.1 u.2 q (a 20) (a 12) ++ tl)) (va_A (xW cy a i r q (a 20) (a 12) ++ tl) sz)) 0 0 (va_A (xW cy a i r q (a 20) (a 12) ++ tl) sz) := c_X6_expression_kq1 l D cy a i r q tl kq vq 1 sz hRi hRr h4 22 539 21 513 ⟨Nat.le_of_ble_eq_true rfl, Nat.le_of_ble_eq_true rfl⟩ ⟨by decide, by decide⟩ (fun k9 e9 i r sz hRi hRr h4 => by subst e9; exact c_X6_expression_k1_0_9 l D cy a i r q tl kq vq sz hRi hRr h4) ⟨Nat.le_of_ble_eq_true rfl, Nat.le_of_ble_eq_true rfl⟩
theorem c_X6_factor_k0_9 (l : Launch) (D : va_G) (cy : Nat → ClassId) (a : Nat → Nat) (i : Nat → Int32) (r : Nat → Nat → Int32) (q : Nat → Option Nat) (tl : va_W) (kq vq : Nat) (sz : Nat) (hRi : yRi i) (hRr : yRr r) (h4 : 0 ≤ (i 4).toInt ∧ (i 4).toInt ≤ (i 3).toInt) : Met l yX6_factor (Cond.code yX6_factor cX6_factor 4 (some .boolean) :: gT) { frames := 23, cells := 0, slots := 0, locals := 565 } (va_Pc [.ref (a 10), .int 0] (rS D cy (xW cy a i r q (a 20) (a 12) ++ tl) sz kq vq)) (va_Qi (fun (z : Int32) (u : (Nat → Int32) × (Nat → Nat → Int32)) => yRi u.1 ∧ yRr u.2 ∧ mEi [4, 5, 7] i u.1 ∧ mEr [17, 18] r u.2 ∧ ((z = 0 ∨ z = 1) ∧ ((0 ≤ (u.1 4).toInt ∧ (u.1 4).toInt ≤ (i 3).toInt) ∧ (z.toInt ≠ 0 → (i 4).toInt < (u.1 4).toInt ∧ u.1 5 = i 5)) ∧ qX (qTX (i 3) (r 11)) 0 1 (0 : Int32) qTt qTt True i r u.1 u.2 z)) (fun (u : (Nat → Int32) × (Nat → Nat → Int32)) t => va_P D vwCl (xW cy a u.1 u.2 q (a 20) (a 12) ++ tl) t.heap ∧ va_K D vwCl (vT cy) t ∧ va_D (va_A (xW cy a i r q (a 20) (a 12) ++ tl) sz) (xW cy a u.1 u.2 q (a 20) (a 12) ++ tl)) (va_A (xW cy a i r q (a 20) (a 12) ++ tl) sz)) 0 0 (va_A (xW cy a i r q (a 20) (a 12) ++ tl) sz) := c_X6_factor_kq l D cy a i r q tl kq vq 0 sz hRi hRr h4 23 565 22 539 ⟨Nat.le_of_ble_eq_true rfl, Nat.le_of_ble_eq_true rfl⟩ ⟨by decide, by decide⟩ (fun k9 e9 _ i r sz hRi hRr h4 => by obtain rfl : k9 = 1 := Int32.toInt_inj.mp (e9.trans (by decide)); exact c_X6_expression_k1_1_9 l D cy a i r q tl kq vq sz hRi hRr h4) ⟨Nat.le_of_ble_eq_true rfl, Nat.le_of_ble_eq_true rfl⟩
theorem c_X6_expression_k0_0_9 (l : Launch) (D : va_G) (cy : Nat → ClassId) (a : Nat → Nat) (i : Nat → Int32) (r : Nat → Nat → Int32) (q : Nat → Option Nat) (tl : va_W) (kq vq : Nat) (sz : Nat) (hRi : yRi i) (hRr : yRr r) (h4 : 0 ≤ (i 4).toInt ∧ (i 4).toInt ≤ (i 3).toInt) : Met l yX6_expression (Cond.code yX6_expression cX6_expression 7 (some .boolean) :: gT) { frames := 24, cells := 0, slots := 0, locals := 588 } (va_Pc [.ref (a 10), .int 0, .int 0] (rS D cy (xW cy a i r q (a 20) (a 12) ++ tl) sz kq vq)) (va_Qi (fun (z : Int32) (u : (Nat → Int32) × (Nat → Nat → Int32)) => yRi u.1 ∧ yRr u.2 ∧ mEi [4, 5, 7] i u.1 ∧ mEr [17, 18] r u.2 ∧ ((z = 0 ∨ z = 1) ∧ ((0 ≤ (u.1 4).toInt ∧ (u.1 4).toInt ≤ (i 3).toInt) ∧ (z.toInt ≠ 0 → (i 4).toInt < (u.1 4).toInt ∧ u.1 5 = i 5)) ∧ qX (qTX (i 3) (r 11)) 0 3 (0 : Int32) qK3 qE3 True i r u.1 u.2 z)) (fun (u : (Nat → Int32) × (Nat → Nat → Int32)) t => va_P D vwCl (xW cy a u.1 u.2 q (a 20) (a 12) ++ tl) t.heap ∧ va_K D vwCl (vT cy) t ∧ va_D (va_A (xW cy a i r q (a 20) (a 12) ++ tl) sz) (xW cy a u.1 u.2 q (a 20) (a 12) ++ tl)) (va_A (xW cy a i r q (a 20) (a 12) ++ tl) sz)) 0 0 (va_A (xW cy a i r q (a 20) (a 12) ++ tl) sz) := c_X6_expression_kq0 l D cy a i r q tl kq vq 0 sz hRi hRr h4 24 588 23 565 ⟨Nat.le_of_ble_eq_true rfl, Nat.le_of_ble_eq_true rfl⟩ ⟨by decide, by decide⟩ (fun k9 e9 i r sz hRi hRr h4 => by subst e9; exact c_X6_factor_k0_9 l D cy a i r q tl kq vq sz hRi hRr h4) ⟨Nat.le_of_ble_eq_true rfl, Nat.le_of_ble_eq_true rfl⟩
theorem c_X6_expression_k0_1_9 (l : Launch) (D : va_G) (cy : Nat → ClassId) (a : Nat → Nat) (i : Nat → Int32) (r : Nat → Nat → Int32) (q : Nat → Option Nat) (tl : va_W) (kq vq : Nat) (sz : Nat) (hRi : yRi i) (hRr : yRr r) (h4 : 0 ≤ (i 4).toInt ∧ (i 4).toInt ≤ (i 3).toInt) : Met l yX6_expression (Cond.code yX6_expression cX6_expression 7 (some .boolean) :: gT) { frames := 25, cells := 0, slots := 0, locals := 614 } (va_Pc [.ref (a 10), .int 0, .int 1] (rS D cy (xW cy a i r q (a 20) (a 12) ++ tl) sz kq vq)) (va_Qi (fun (z : Int32) (u : (Nat → Int32) × (Nat → Nat → Int32)) => yRi u.1 ∧ yRr u.2 ∧ mEi [4, 5, 7] i u.1 ∧ mEr [17, 18] r u.2 ∧ ((z = 0 ∨ z = 1) ∧ ((0 ≤ (u.1 4).toInt ∧ (u.1 4).toInt ≤ (i 3).toInt) ∧ (z.toInt ≠ 0 → (i 4).toInt < (u.1 4).toInt ∧ u.1 5 = i 5)) ∧ qX (qTX (i 3) (r 11)) 0 4 (0 : Int32) qK4 qE4 True i r u.1 u.2 z)) (fun (u : (Nat → Int32) × (Nat → Nat → Int32)) t => va_P D vwCl (xW cy a u.1 u.2 q (a 20) (a 12) ++ tl) t.heap ∧ va_K D vwCl (vT cy) t ∧ va_D (va_A (xW cy a i r q (a 20) (a 12) ++ tl) sz) (xW cy a u.1 u.2 q (a 20) (a 12) ++ tl)) (va_A (xW cy a i r q (a 20) (a 12) ++ tl) sz)) 0 0 (va_A (xW cy a i r q (a 20) (a 12) ++ tl) sz) := c_X6_expression_kq1 l D cy a i r q tl kq vq 0 sz hRi hRr h4 25 614 24 588 ⟨Nat.le_of_ble_eq_true rfl, Nat.le_of_ble_eq_true rfl⟩ ⟨by decide, by decide⟩ (fun k9 e9 i r sz hRi hRr h4 => by subst e9; exact c_X6_expression_k0_0_9 l D cy a i r q tl kq vq sz hRi hRr h4) ⟨Nat.le_of_ble_eq_true rfl, Nat.le_of_ble_eq_true rfl⟩
theorem c_X6_piece_k6_9 (l : Launch) (D : va_G) (cy : Nat → ClassId) (a : Nat → Nat) (i : Nat → Int32) (r : Nat → Nat → Int32) (q : Nat → Option Nat) (tl : va_W) (kq vq : Nat) (sz : Nat) (hRi : yRi i) (hRr : yRr r) (h4 : 0 ≤ (i 4).toInt ∧ (i 4).toInt ≤ (i 3).toInt) : Met l yX6_piece (Cond.code yX6_piece cX6_piece 4 (some .boolean) :: gT) { frames := 8, cells := 0, slots := 0, locals := 190 } (va_Pc [.ref (a 10), .int 6] (rS D cy (xW cy a i r q (a 20) (a 12) ++ tl) sz kq vq)) (va_Qi (fun (z : Int32) (u : (Nat → Int32) × (Nat → Nat → Int32)) => yRi u.1 ∧ yRr u.2 ∧ mEi [4, 5, 7] i u.1 ∧ mEr [17, 18] r u.2 ∧ ((z = 0 ∨ z = 1) ∧ ((0 ≤ (u.1 4).toInt ∧ (u.1 4).toInt ≤ (i 3).toInt) ∧ (z.toInt ≠ 0 → (i 4).toInt < (u.1 4).toInt ∧ u.1 5 = i 5)) ∧ qX (qTX (i 3) (r 11)) 8 7 (6 : Int32) qK4 qTt False i r u.1 u.2 z)) (fun (u : (Nat → Int32) × (Nat → Nat → Int32)) t => va_P D vwCl (xW cy a u.1 u.2 q (a 20) (a 12) ++ tl) t.heap ∧ va_K D vwCl (vT cy) t ∧ va_D (va_A (xW cy a i r q (a 20) (a 12) ++ tl) sz) (xW cy a u.1 u.2 q (a 20) (a 12) ++ tl)) (va_A (xW cy a i r q (a 20) (a 12) ++ tl) sz)) 0 0 (va_A (xW cy a i r q (a 20) (a 12) ++ tl) sz) := c_X6_piece_kq l D cy a i r q tl kq vq 6 sz hRi hRr h4 8 190 0 0 0 0 7 164 ⟨Nat.le_of_ble_eq_true rfl, Nat.le_of_ble_eq_true rfl⟩ ⟨by decide, by decide⟩ (fun k9 e9 h9 => absurd h9 (by rw [e9]; decide)) ⟨Nat.le_of_ble_eq_true rfl, Nat.le_of_ble_eq_true rfl⟩ (fun k9 e9 h9 => absurd h9 (by rw [e9]; decide)) ⟨Nat.le_of_ble_eq_true rfl, Nat.le_of_ble_eq_true rfl⟩ (fun k9 e9 i r sz hRi hRr h4 => by subst e9; exact c_X6_expression_k6_1_9 l D cy a i r q tl kq vq sz hRi hRr h4) ⟨Nat.le_of_ble_eq_true rfl, Nat.le_of_ble_eq_true rfl⟩
theorem c_X6_condition_k6_38_9 (l : Launch) (D : va_G) (cy : Nat → ClassId) (a : Nat → Nat) (i : Nat → Int32) (r : Nat → Nat → Int32) (q : Nat → Option Nat) (tl : va_W) (kq vq : Nat) (sz : Nat) (hRi : yRi i) (hRr : yRr r) (h4 : 0 ≤ (i 4).toInt ∧ (i 4).toInt ≤ (i 3).toInt) : Met l yX6_condition (Cond.code yX6_condition cX6_condition 6 (some .boolean) :: gT) { frames := 9, cells := 0, slots := 0, locals := 213 } (va_Pc [.ref (a 10), .int 6, .int 38] (rS D cy (xW cy a i r q (a 20) (a 12) ++ tl) sz kq vq)) (va_Qi (fun (z : Int32) (u : (Nat → Int32) × (Nat → Nat → Int32)) => yRi u.1 ∧ yRr u.2 ∧ mEi [4, 5, 7] i u.1 ∧ mEr [17, 18] r u.2 ∧ ((z = 0 ∨ z = 1) ∧ ((0 ≤ (u.1 4).toInt ∧ (u.1 4).toInt ≤ (i 3).toInt) ∧ (z.toInt ≠ 0 → (i 4).toInt < (u.1 4).toInt ∧ u.1 5 = i 5)) ∧ qX (qTX (i 3) (r 11)) 8 10 (6 : Int32) qKa qEa False i r u.1 u.2 z)) (fun (u : (Nat → Int32) × (Nat → Nat → Int32)) t => va_P D vwCl (xW cy a u.1 u.2 q (a 20) (a 12) ++ tl) t.heap ∧ va_K D vwCl (vT cy) t ∧ va_D (va_A (xW cy a i r q (a 20) (a 12) ++ tl) sz) (xW cy a u.1 u.2 q (a 20) (a 12) ++ tl)) (va_A (xW cy a i r q (a 20) (a 12) ++ tl) sz)) 0 0 (va_A (xW cy a i r q (a 20) (a 12) ++ tl) sz) := c_X6_condition_kq38 l D cy a i r q tl kq vq 6 sz hRi hRr h4 9 213 8 190 ⟨Nat.le_of_ble_eq_true rfl, Nat.le_of_ble_eq_true rfl⟩ ⟨by decide, by decide⟩ (fun k9 e9 i r sz hRi hRr h4 => by subst e9; exact c_X6_piece_k6_9 l D cy a i r q tl kq vq sz hRi hRr h4) ⟨Nat.le_of_ble_eq_true rfl, Nat.le_of_ble_eq_true rfl⟩
theorem c_X6_condition_k6_124_9 (l : Launch) (D : va_G) (cy : Nat → ClassId) (a : Nat → Nat) (i : Nat → Int32) (r : Nat → Nat → Int32) (q : Nat → Option Nat) (tl : va_W) (kq vq : Nat) (sz : Nat) (hRi : yRi i) (hRr : yRr r) (h4 : 0 ≤ (i 4).toInt ∧ (i 4).toInt ≤ (i 3).toInt) : Met l yX6_condition (Cond.code yX6_condition cX6_condition 6 (some .boolean) :: gT) { frames := 10, cells := 0, slots := 0, locals := 238 } (va_Pc [.ref (a 10), .int 6, .int 124] (rS D cy (xW cy a i r q (a 20) (a 12) ++ tl) sz kq vq)) (va_Qi (fun (z : Int32) (u : (Nat → Int32) × (Nat → Nat → Int32)) => yRi u.1 ∧ yRr u.2 ∧ mEi [4, 5, 7] i u.1 ∧ mEr [17, 18] r u.2 ∧ ((z = 0 ∨ z = 1) ∧ ((0 ≤ (u.1 4).toInt ∧ (u.1 4).toInt ≤ (i 3).toInt) ∧ (z.toInt ≠ 0 → (i 4).toInt < (u.1 4).toInt ∧ u.1 5 = i 5)) ∧ qX (qTX (i 3) (r 11)) 8 10 (6 : Int32) qKo qEo False i r u.1 u.2 z)) (fun (u : (Nat → Int32) × (Nat → Nat → Int32)) t => va_P D vwCl (xW cy a u.1 u.2 q (a 20) (a 12) ++ tl) t.heap ∧ va_K D vwCl (vT cy) t ∧ va_D (va_A (xW cy a i r q (a 20) (a 12) ++ tl) sz) (xW cy a u.1 u.2 q (a 20) (a 12) ++ tl)) (va_A (xW cy a i r q (a 20) (a 12) ++ tl) sz)) 0 0 (va_A (xW cy a i r q (a 20) (a 12) ++ tl) sz) := c_X6_condition_kq124 l D cy a i r q tl kq vq 6 sz hRi hRr h4 10 238 9 213 ⟨Nat.le_of_ble_eq_true rfl, Nat.le_of_ble_eq_true rfl⟩ ⟨by decide, by decide⟩ (fun k9 e9 i r sz hRi hRr h4 => by subst e9; exact c_X6_condition_k6_38_9 l D cy a i r q tl kq vq sz hRi hRr h4) ⟨Nat.le_of_ble_eq_true rfl, Nat.le_of_ble_eq_true rfl⟩
theorem c_X6_piece_k5_9 (l : Launch) (D : va_G) (cy : Nat → ClassId) (a : Nat → Nat) (i : Nat → Int32) (r : Nat → Nat → Int32) (q : Nat → Option Nat) (tl : va_W) (kq vq : Nat) (sz : Nat) (hRi : yRi i) (hRr : yRr r) (h4 : 0 ≤ (i 4).toInt ∧ (i 4).toInt ≤ (i 3).toInt) : Met l yX6_piece (Cond.code yX6_piece cX6_piece 4 (some .boolean) :: gT) { frames := 11, cells := 0, slots := 0, locals := 265 } (va_Pc [.ref (a 10), .int 5] (rS D cy (xW cy a i r q (a 20) (a 12) ++ tl) sz kq vq)) (va_Qi (fun (z : Int32) (u : (Nat → Int32) × (Nat → Nat → Int32)) => yRi u.1 ∧ yRr u.2 ∧ mEi [4, 5, 7] i u.1 ∧ mEr [17, 18] r u.2 ∧ ((z = 0 ∨ z = 1) ∧ ((0 ≤ (u.1 4).toInt ∧ (u.1 4).toInt ≤ (i 3).toInt) ∧ (z.toInt ≠ 0 → (i 4).toInt < (u.1 4).toInt ∧ u.1 5 = i 5)) ∧ qX (qTX (i 3) (r 11)) 8 7 (5 : Int32) qK4 qTt False i r u.1 u.2 z)) (fun (u : (Nat → Int32) × (Nat → Nat → Int32)) t => va_P D vwCl (xW cy a u.1 u.2 q (a 20) (a 12) ++ tl) t.heap ∧ va_K D vwCl (vT cy) t ∧ va_D (va_A (xW cy a i r q (a 20) (a 12) ++ tl) sz) (xW cy a u.1 u.2 q (a 20) (a 12) ++ tl)) (va_A (xW cy a i r q (a 20) (a 12) ++ tl) sz)) 0 0 (va_A (xW cy a i r q (a 20) (a 12) ++ tl) sz) := c_X6_piece_kq l D cy a i r q tl kq vq 5 sz hRi hRr h4 11 265 10 238 8 190 10 239 ⟨Nat.le_of_ble_eq_true rfl, Nat.le_of_ble_eq_true rfl⟩ ⟨by decide, by decide⟩ (fun k9 e9 _ i r sz hRi hRr h4 => by obtain rfl : k9 = 6 := Int32.toInt_inj.mp (e9.trans (by decide)); exact c_X6_condition_k6_124_9 l D cy a i r q tl kq vq sz hRi hRr h4) ⟨Nat.le_of_ble_eq_true rfl, Nat.le_of_ble_eq_true rfl⟩ (fun k9 e9 _ i r sz hRi hRr h4 => by obtain rfl : k9 = 6 := Int32.toInt_inj.mp (e9.trans (by decide)); exact c_X6_piece_k6_9 l D cy a i r q tl kq vq sz hRi hRr h4) ⟨Nat.le_of_ble_eq_true rfl, Nat.le_of_ble_eq_true rfl⟩ (fun k9 e9 i r sz hRi hRr h4 => by subst e9; exact c_X6_expression_k5_1_9 l D cy a i r q tl kq vq sz hRi hRr h4) ⟨Nat.le_of_ble_eq_true rfl, Nat.le_of_ble_eq_true rfl⟩
theorem c_X6_condition_k5_38_9 (l : Launch) (D : va_G) (cy : Nat → ClassId) (a : Nat → Nat) (i : Nat → Int32) (r : Nat → Nat → Int32) (q : Nat → Option Nat) (tl : va_W) (kq vq : Nat) (sz : Nat) (hRi : yRi i) (hRr : yRr r) (h4 : 0 ≤ (i 4).toInt ∧ (i 4).toInt ≤ (i 3).toInt) : Met l yX6_condition (Cond.code yX6_condition cX6_condition 6 (some .boolean) :: gT) { frames := 12, cells := 0, slots := 0, locals := 288 } (va_Pc [.ref (a 10), .int 5, .int 38] (rS D cy (xW cy a i r q (a 20) (a 12) ++ tl) sz kq vq)) (va_Qi (fun (z : Int32) (u : (Nat → Int32) × (Nat → Nat → Int32)) => yRi u.1 ∧ yRr u.2 ∧ mEi [4, 5, 7] i u.1 ∧ mEr [17, 18] r u.2 ∧ ((z = 0 ∨ z = 1) ∧ ((0 ≤ (u.1 4).toInt ∧ (u.1 4).toInt ≤ (i 3).toInt) ∧ (z.toInt ≠ 0 → (i 4).toInt < (u.1 4).toInt ∧ u.1 5 = i 5)) ∧ qX (qTX (i 3) (r 11)) 8 10 (5 : Int32) qKa qEa False i r u.1 u.2 z)) (fun (u : (Nat → Int32) × (Nat → Nat → Int32)) t => va_P D vwCl (xW cy a u.1 u.2 q (a 20) (a 12) ++ tl) t.heap ∧ va_K D vwCl (vT cy) t ∧ va_D (va_A (xW cy a i r q (a 20) (a 12) ++ tl) sz) (xW cy a u.1 u.2 q (a 20) (a 12) ++ tl)) (va_A (xW cy a i r q (a 20) (a 12) ++ tl) sz)) 0 0 (va_A (xW cy a i r q (a 20) (a 12) ++ tl) sz) := c_X6_condition_kq38 l D cy a i r q tl kq vq 5 sz hRi hRr h4 12 288 11 265 ⟨Nat.le_of_ble_eq_true rfl, Nat.le_of_ble_eq_true rfl⟩ ⟨by decide, by decide⟩ (fun k9 e9 i r sz hRi hRr h4 => by subst e9; exact c_X6_piece_k5_9 l D cy a i r q tl kq vq sz hRi hRr h4) ⟨Nat.le_of_ble_eq_true rfl, Nat.le_of_ble_eq_true rfl⟩
theorem c_X6_condition_k5_124_9 (l : Launch) (D : va_G) (cy : Nat → ClassId) (a : Nat → Nat) (i : Nat → Int32) (r : Nat → Nat → Int32) (q : Nat → Option Nat) (tl : va_W) (kq vq : Nat) (sz : Nat) (hRi : yRi i) (hRr : yRr r) (h4 : 0 ≤ (i 4).toInt ∧ (i 4).toInt ≤ (i 3).toInt) : Met l yX6_condition (Cond.code yX6_condition cX6_condition 6 (some .boolean) :: gT) { frames := 13, cells := 0, slots := 0, locals := 313 } (va_Pc [.ref (a 10), .int 5, .int 124] (rS D cy (xW cy a i r q (a 20) (a 12) ++ tl) sz kq vq)) (va_Qi (fun (z : Int32) (u : (Nat → Int32) × (Nat → Nat → Int32)) => yRi u.1 ∧ yRr u.2 ∧ mEi [4, 5, 7] i u.1 ∧ mEr [17, 18] r u.2 ∧ ((z = 0 ∨ z = 1) ∧ ((0 ≤ (u.1 4).toInt ∧ (u.1 4).toInt ≤ (i 3).toInt) ∧ (z.toInt ≠ 0 → (i 4).toInt < (u.1 4).toInt ∧ u.1 5 = i 5)) ∧ qX (qTX (i 3) (r 11)) 8 10 (5 : Int32) qKo qEo False i r u.1 u.2 z)) (fun (u : (Nat → Int32) × (Nat → Nat → Int32)) t => va_P D vwCl (xW cy a u.1 u.2 q (a 20) (a 12) ++ tl) t.heap ∧ va_K D vwCl (vT cy) t ∧ va_D (va_A (xW cy a i r q (a 20) (a 12) ++ tl) sz) (xW cy a u.1 u.2 q (a 20) (a 12) ++ tl)) (va_A (xW cy a i r q (a 20) (a 12) ++ tl) sz)) 0 0 (va_A (xW cy a i r q (a 20) (a 12) ++ tl) sz) := c_X6_condition_kq124 l D cy a i r q tl kq vq 5 sz hRi hRr h4 13 313 12 288 ⟨Nat.le_of_ble_eq_true rfl, Nat.le_of_ble_eq_true rfl⟩ ⟨by decide, by decide⟩ (fun k9 e9 i r sz hRi hRr h4 => by subst e9; exact c_X6_condition_k5_38_9 l D cy a i r q tl kq vq sz hRi hRr h4) ⟨Nat.le_of_ble_eq_true rfl, Nat.le_of_ble_eq_true rfl⟩
theorem c_X6_piece_k4_9 (l : Launch) (D : va_G) (cy : Nat → ClassId) (a : Nat → Nat) (i : Nat → Int32) (r : Nat → Nat → Int32) (q : Nat → Option Nat) (tl : va_W) (kq vq : Nat) (sz : Nat) (hRi : yRi i) (hRr : yRr r) (h4 : 0 ≤ (i 4).toInt ∧ (i 4).toInt ≤ (i 3).toInt) : Met l yX6_piece (Cond.code yX6_piece cX6_piece 4 (some .boolean) :: gT) { frames := 14, cells := 0, slots := 0, locals := 340 } (va_Pc [.ref (a 10), .int 4] (rS D cy (xW cy a i r q (a 20) (a 12) ++ tl) sz kq vq)) (va_Qi (fun (z : Int32) (u : (Nat → Int32) × (Nat → Nat → Int32)) => yRi u.1 ∧ yRr u.2 ∧ mEi [4, 5, 7] i u.1 ∧ mEr [17, 18] r u.2 ∧ ((z = 0 ∨ z = 1) ∧ ((0 ≤ (u.1 4).toInt ∧ (u.1 4).toInt ≤ (i 3).toInt) ∧ (z.toInt ≠ 0 → (i 4).toInt < (u.1 4).toInt ∧ u.1 5 = i 5)) ∧ qX (qTX (i 3) (r 11)) 8 7 (4 : Int32) qK4 qTt False i r u.1 u.2 z)) (fun (u : (Nat → Int32) × (Nat → Nat → Int32)) t => va_P D vwCl (xW cy a u.1 u.2 q (a 20) (a 12) ++ tl) t.heap ∧ va_K D vwCl (vT cy) t ∧ va_D (va_A (xW cy a i r q (a 20) (a 12) ++ tl) sz) (xW cy a u.1 u.2 q (a 20) (a 12) ++ tl)) (va_A (xW cy a i r q (a 20) (a 12) ++ tl) sz)) 0 0 (va_A (xW cy a i r q (a 20) (a 12) ++ tl) sz) := c_X6_piece_kq l D cy a i r q tl kq vq 4 sz hRi hRr h4 14 340 13 313 11 265 13 314 ⟨Nat.le_of_ble_eq_true rfl, Nat.le_of_ble_eq_true rfl⟩ ⟨by decide, by decide⟩ (fun k9 e9 _ i r sz hRi hRr h4 => by obtain rfl : k9 = 5 := Int32.toInt_inj.mp (e9.trans (by decide)); exact c_X6_condition_k5_124_9 l D cy a i r q tl kq vq sz hRi hRr h4) ⟨Nat.le_of_ble_eq_true rfl, Nat.le_of_ble_eq_true rfl⟩ (fun k9 e9 _ i r sz hRi hRr h4 => by obtain rfl : k9 = 5 := Int32.toInt_inj.mp (e9.trans (by decide)); exact c_X6_piece_k5_9 l D cy a i r q tl kq vq sz hRi hRr h4) ⟨Nat.le_of_ble_eq_true rfl, Nat.le_of_ble_eq_true rfl⟩ (fun k9 e9 i r sz hRi hRr h4 => by subst e9; exact c_X6_expression_k4_1_9 l D cy a i r q tl kq vq sz hRi hRr h4) ⟨Nat.le_of_ble_eq_true rfl, Nat.le_of_ble_eq_true rfl⟩
theorem c_X6_condition_k4_38_9 (l : Launch) (D : va_G) (cy : Nat → ClassId) (a : Nat → Nat) (i : Nat → Int32) (r : Nat → Nat → Int32) (q : Nat → Option Nat) (tl : va_W) (kq vq : Nat) (sz : Nat) (hRi : yRi i) (hRr : yRr r) (h4 : 0 ≤ (i 4).toInt ∧ (i 4).toInt ≤ (i 3).toInt) : Met l yX6_condition (Cond.code yX6_condition cX6_condition 6 (some .boolean) :: gT) { frames := 15, cells := 0, slots := 0, locals := 363 } (va_Pc [.ref (a 10), .int 4, .int 38] (rS D cy (xW cy a i r q (a 20) (a 12) ++ tl) sz kq vq)) (va_Qi (fun (z : Int32) (u : (Nat → Int32) × (Nat → Nat → Int32)) => yRi u.1 ∧ yRr u.2 ∧ mEi [4, 5, 7] i u.1 ∧ mEr [17, 18] r u.2 ∧ ((z = 0 ∨ z = 1) ∧ ((0 ≤ (u.1 4).toInt ∧ (u.1 4).toInt ≤ (i 3).toInt) ∧ (z.toInt ≠ 0 → (i 4).toInt < (u.1 4).toInt ∧ u.1 5 = i 5)) ∧ qX (qTX (i 3) (r 11)) 8 10 (4 : Int32) qKa qEa False i r u.1 u.2 z)) (fun (u : (Nat → Int32) × (Nat → Nat → Int32)) t => va_P D vwCl (xW cy a u.1 u.2 q (a 20) (a 12) ++ tl) t.heap ∧ va_K D vwCl (vT cy) t ∧ va_D (va_A (xW cy a i r q (a 20) (a 12) ++ tl) sz) (xW cy a u.1 u.2 q (a 20) (a 12) ++ tl)) (va_A (xW cy a i r q (a 20) (a 12) ++ tl) sz)) 0 0 (va_A (xW cy a i r q (a 20) (a 12) ++ tl) sz) := c_X6_condition_kq38 l D cy a i r q tl kq vq 4 sz hRi hRr h4 15 363 14 340 ⟨Nat.le_of_ble_eq_true rfl, Nat.le_of_ble_eq_true rfl⟩ ⟨by decide, by decide⟩ (fun k9 e9 i r sz hRi hRr h4 => by subst e9; exact c_X6_piece_k4_9 l D cy a i r q tl kq vq sz hRi hRr h4) ⟨Nat.le_of_ble_eq_true rfl, Nat.le_of_ble_eq_true rfl⟩
theorem c_X6_condition_k4_124_9 (l : Launch) (D : va_G) (cy : Nat → ClassId) (a : Nat → Nat) (i : Nat → Int32) (r : Nat → Nat → Int32) (q : Nat → Option Nat) (tl : va_W) (kq vq : Nat) (sz : Nat) (hRi : yRi i) (hRr : yRr r) (h4 : 0 ≤ (i 4).toInt ∧ (i 4).toInt ≤ (i 3).toInt) : Met l yX6_condition (Cond.code yX6_condition cX6_condition 6 (some .boolean) :: gT) { frames := 16, cells := 0, slots := 0, locals := 388 } (va_Pc [.ref (a 10), .int 4, .int 124] (rS D cy (xW cy a i r q (a 20) (a 12) ++ tl) sz kq vq)) (va_Qi (fun (z : Int32) (u : (Nat → Int32) × (Nat → Nat → Int32)) => yRi u.1 ∧ yRr u.2 ∧ mEi [4, 5, 7] i u.1 ∧ mEr [17, 18] r u.2 ∧ ((z = 0 ∨ z = 1) ∧ ((0 ≤ (u.1 4).toInt ∧ (u.1 4).toInt ≤ (i 3).toInt) ∧ (z.toInt ≠ 0 → (i 4).toInt < (u.1 4).toInt ∧ u.1 5 = i 5)) ∧ qX (qTX (i 3) (r 11)) 8 10 (4 : Int32) qKo qEo False i r u.1 u.2 z)) (fun (u : (Nat → Int32) × (Nat → Nat → Int32)) t => va_P D vwCl (xW cy a u.1 u.2 q (a 20) (a 12) ++ tl) t.heap ∧ va_K D vwCl (vT cy) t ∧ va_D (va_A (xW cy a i r q (a 20) (a 12) ++ tl) sz) (xW cy a u.1 u.2 q (a 20) (a 12) ++ tl)) (va_A (xW cy a i r q (a 20) (a 12) ++ tl) sz)) 0 0 (va_A (xW cy a i r q (a 20) (a 12) ++ tl) sz) := c_X6_condition_kq124 l D cy a i r q tl kq vq 4 sz hRi hRr h4 16 388 15 363 ⟨Nat.le_of_ble_eq_true rfl, Nat.le_of_ble_eq_true rfl⟩ ⟨by decide, by decide⟩ (fun k9 e9 i r sz hRi hRr h4 => by subst e9; exact c_X6_condition_k4_38_9 l D cy a i r q tl kq vq sz hRi hRr h4) ⟨Nat.le_of_ble_eq_true rfl, Nat.le_of_ble_eq_true rfl⟩
theorem c_X6_piece_k3_9 (l : Launch) (D : va_G) (cy : Nat → ClassId) (a : Nat → Nat) (i : Nat → Int32) (r : Nat → Nat → Int32) (q : Nat → Option Nat) (tl : va_W) (kq vq : Nat) (sz : Nat) (hRi : yRi i) (hRr : yRr r) (h4 : 0 ≤ (i 4).toInt ∧ (i 4).toInt ≤ (i 3).toInt) : Met l yX6_piece (Cond.code yX6_piece cX6_piece 4 (some .boolean) :: gT) { frames := 17, cells := 0, slots := 0, locals := 415 } (va_Pc [.ref (a 10), .int 3] (rS D cy (xW cy a i r q (a 20) (a 12) ++ tl) sz kq vq)) (va_Qi (fun (z : Int32) (u : (Nat → Int32) × (Nat → Nat → Int32)) => yRi u.1 ∧ yRr u.2 ∧ mEi [4, 5, 7] i u.1 ∧ mEr [17, 18] r u.2 ∧ ((z = 0 ∨ z = 1) ∧ ((0 ≤ (u.1 4).toInt ∧ (u.1 4).toInt ≤ (i 3).toInt) ∧ (z.toInt ≠ 0 → (i 4).toInt < (u.1 4).toInt ∧ u.1 5 = i 5)) ∧ qX (qTX (i 3) (r 11)) 8 7 (3 : Int32) qK4 qTt False i r u.1 u.2 z)) (fun (u : (Nat → Int32) × (Nat → Nat → Int32)) t => va_P D vwCl (xW cy a u.1 u.2 q (a 20) (a 12) ++ tl) t.heap ∧ va_K D vwCl (vT cy) t ∧ va_D (va_A (xW cy a i r q (a 20) (a 12) ++ tl) sz) (xW cy a u.1 u.2 q (a 20) (a 12) ++ tl)) (va_A (xW cy a i r q (a 20) (a 12) ++ tl) sz)) 0 0 (va_A (xW cy a i r q (a 20) (a 12) ++ tl) sz) := c_X6_piece_kq l D cy a i r q tl kq vq 3 sz hRi hRr h4 17 415 16 388 14 340 16 389 ⟨Nat.le_of_ble_eq_true rfl, Nat.le_of_ble_eq_true rfl⟩ ⟨by decide, by decide⟩ (fun k9 e9 _ i r sz hRi hRr h4 => by obtain rfl : k9 = 4 := Int32.toInt_inj.mp (e9.trans (by decide)); exact c_X6_condition_k4_124_9 l D cy a i r q tl kq vq sz hRi hRr h4) ⟨Nat.le_of_ble_eq_true rfl, Nat.le_of_ble_eq_true rfl⟩ (fun k9 e9 _ i r sz hRi hRr h4 => by obtain rfl : k9 = 4 := Int32.toInt_inj.mp (e9.trans (by decide)); exact c_X6_piece_k4_9 l D cy a i r q tl kq vq sz hRi hRr h4) ⟨Nat.le_of_ble_eq_true rfl, Nat.le_of_ble_eq_true rfl⟩ (fun k9 e9 i r sz hRi hRr h4 => by subst e9; exact c_X6_expression_k3_1_9 l D cy a i r q tl kq vq sz hRi hRr h4) ⟨Nat.le_of_ble_eq_true rfl, Nat.le_of_ble_eq_true rfl⟩
theorem c_X6_condition_k3_38_9 (l : Launch) (D : va_G) (cy : Nat → ClassId) (a : Nat → Nat) (i : Nat → Int32) (r : Nat → Nat → Int32) (q : Nat → Option Nat) (tl : va_W) (kq vq : Nat) (sz : Nat) (hRi : yRi i) (hRr : yRr r) (h4 : 0 ≤ (i 4).toInt ∧ (i 4).toInt ≤ (i 3).toInt) : Met l yX6_condition (Cond.code yX6_condition cX6_condition 6 (some .boolean) :: gT) { frames := 18, cells := 0, slots := 0, locals := 438 } (va_Pc [.ref (a 10), .int 3, .int 38] (rS D cy (xW cy a i r q (a 20) (a 12) ++ tl) sz kq vq)) (va_Qi (fun (z : Int32) (u : (Nat → Int32) × (Nat → Nat → Int32)) => yRi u.1 ∧ yRr u.2 ∧ mEi [4, 5, 7] i u.1 ∧ mEr [17, 18] r u.2 ∧ ((z = 0 ∨ z = 1) ∧ ((0 ≤ (u.1 4).toInt ∧ (u.1 4).toInt ≤ (i 3).toInt) ∧ (z.toInt ≠ 0 → (i 4).toInt < (u.1 4).toInt ∧ u.1 5 = i 5)) ∧ qX (qTX (i 3) (r 11)) 8 10 (3 : Int32) qKa qEa False i r u.1 u.2 z)) (fun (u : (Nat → Int32) × (Nat → Nat → Int32)) t => va_P D vwCl (xW cy a u.1 u.2 q (a 20) (a 12) ++ tl) t.heap ∧ va_K D vwCl (vT cy) t ∧ va_D (va_A (xW cy a i r q (a 20) (a 12) ++ tl) sz) (xW cy a u.1 u.2 q (a 20) (a 12) ++ tl)) (va_A (xW cy a i r q (a 20) (a 12) ++ tl) sz)) 0 0 (va_A (xW cy a i r q (a 20) (a 12) ++ tl) sz) := c_X6_condition_kq38 l D cy a i r q tl kq vq 3 sz hRi hRr h4 18 438 17 415 ⟨Nat.le_of_ble_eq_true rfl, Nat.le_of_ble_eq_true rfl⟩ ⟨by decide, by decide⟩ (fun k9 e9 i r sz hRi hRr h4 => by subst e9; exact c_X6_piece_k3_9 l D cy a i r q tl kq vq sz hRi hRr h4) ⟨Nat.le_of_ble_eq_true rfl, Nat.le_of_ble_eq_true rfl⟩
theorem c_X6_condition_k3_124_9 (l : Launch) (D : va_G) (cy : Nat → ClassId) (a : Nat → Nat) (i : Nat → Int32) (r : Nat → Nat → Int32) (q : Nat → Option Nat) (tl : va_W) (kq vq : Nat) (sz : Nat) (hRi : yRi i) (hRr : yRr r) (h4 : 0 ≤ (i 4).toInt ∧ (i 4).toInt ≤ (i 3).toInt) : Met l yX6_condition (Cond.code yX6_condition cX6_condition 6 (some .boolean) :: gT) { frames := 19, cells := 0, slots := 0, locals := 463 } (va_Pc [.ref (a 10), .int 3, .int 124] (rS D cy (xW cy a i r q (a 20) (a 12) ++ tl) sz kq vq)) (va_Qi (fun (z : Int32) (u : (Nat → Int32) × (Nat → Nat → Int32)) => yRi u.1 ∧ yRr u.2 ∧ mEi [4, 5, 7] i u.1 ∧ mEr [17, 18] r u.2 ∧ ((z = 0 ∨ z = 1) ∧ ((0 ≤ (u.1 4).toInt ∧ (u.1 4).toInt ≤ (i 3).toInt) ∧ (z.toInt ≠ 0 → (i 4).toInt < (u.1 4).toInt ∧ u.1 5 = i 5)) ∧ qX (qTX (i 3) (r 11)) 8 10 (3 : Int32) qKo qEo False i r u.1 u.2 z)) (fun (u : (Nat → Int32) × (Nat → Nat → Int32)) t => va_P D vwCl (xW cy a u.1 u.2 q (a 20) (a 12) ++ tl) t.heap ∧ va_K D vwCl (vT cy) t ∧ va_D (va_A (xW cy a i r q (a 20) (a 12) ++ tl) sz) (xW cy a u.1 u.2 q (a 20) (a 12) ++ tl)) (va_A (xW cy a i r q (a 20) (a 12) ++ tl) sz)) 0 0 (va_A (xW cy a i r q (a 20) (a 12) ++ tl) sz) := c_X6_condition_kq124 l D cy a i r q tl kq vq 3 sz hRi hRr h4 19 463 18 438 ⟨Nat.le_of_ble_eq_true rfl, Nat.le_of_ble_eq_true rfl⟩ ⟨by decide, by decide⟩ (fun k9 e9 i r sz hRi hRr h4 => by subst e9; exact c_X6_condition_k3_38_9 l D cy a i r q tl kq vq sz hRi hRr h4) ⟨Nat.le_of_ble_eq_true rfl, Nat.le_of_ble_eq_true rfl⟩
theorem c_X6_piece_k2_9 (l : Launch) (D : va_G) (cy : Nat → ClassId) (a : Nat → Nat) (i : Nat → Int32) (r : Nat → Nat → Int32) (q : Nat → Option Nat) (tl : va_W) (kq vq : Nat) (sz : Nat) (hRi : yRi i) (hRr : yRr r) (h4 : 0 ≤ (i 4).toInt ∧ (i 4).toInt ≤ (i 3).toInt) : Met l yX6_piece (Cond.code yX6_piece cX6_piece 4 (some .boolean) :: gT) { frames := 20, cells := 0, slots := 0, locals := 490 } (va_Pc [.ref (a 10), .int 2] (rS D cy (xW cy a i r q (a 20) (a 12) ++ tl) sz kq vq)) (va_Qi (fun (z : Int32) (u : (Nat → Int32) × (Nat → Nat → Int32)) => yRi u.1 ∧ yRr u.2 ∧ mEi [4, 5, 7] i u.1 ∧ mEr [17, 18] r u.2 ∧ ((z = 0 ∨ z = 1) ∧ ((0 ≤ (u.1 4).toInt ∧ (u.1 4).toInt ≤ (i 3).toInt) ∧ (z.toInt ≠ 0 → (i 4).toInt < (u.1 4).toInt ∧ u.1 5 = i 5)) ∧ qX (qTX (i 3) (r 11)) 8 7 (2 : Int32) qK4 qTt False i r u.1 u.2 z)) (fun (u : (Nat → Int32) × (Nat → Nat → Int32)) t => va_P D vwCl (xW cy a u.1 u.2 q (a 20) (a 12) ++ tl) t.heap ∧ va_K D vwCl (vT cy) t ∧ va_D (va_A (xW cy a i r q (a 20) (a 12) ++ tl) sz) (xW cy a u.1 u.2 q (a 20) (a 12) ++ tl)) (va_A (xW cy a i r q (a 20) (a 12) ++ tl) sz)) 0 0 (va_A (xW cy a i r q (a 20) (a 12) ++ tl) sz) := c_X6_piece_kq l D cy a i r q tl kq vq 2 sz hRi hRr h4 20 490 19 463 17 415 19 464 ⟨Nat.le_of_ble_eq_true rfl, Nat.le_of_ble_eq_true rfl⟩ ⟨by decide, by decide⟩ (fun k9 e9 _ i r sz hRi hRr h4 => by obtain rfl : k9 = 3 := Int32.toInt_inj.mp (e9.trans (by decide)); exact c_X6_condition_k3_124_9 l D cy a i r q tl kq vq sz hRi hRr h4) ⟨Nat.le_of_ble_eq_true rfl, Nat.le_of_ble_eq_true rfl⟩ (fun k9 e9 _ i r sz hRi hRr h4 => by obtain rfl : k9 = 3 := Int32.toInt_inj.mp (e9.trans (by decide)); exact c_X6_piece_k3_9 l D cy a i r q tl kq vq sz hRi hRr h4) ⟨Nat.le_of_ble_eq_true rfl, Nat.le_of_ble_eq_true rfl⟩ (fun k9 e9 i r sz hRi hRr h4 => by subst e9; exact c_X6_expression_k2_1_9 l D cy a i r q tl kq vq sz hRi hRr h4) ⟨Nat.le_of_ble_eq_true rfl, Nat.le_of_ble_eq_true rfl⟩
theorem c_X6_condition_k2_38_9 (l : Launch) (D : va_G) (cy : Nat → ClassId) (a : Nat → Nat) (i : Nat → Int32) (r : Nat → Nat → Int32) (q : Nat → Option Nat) (tl : va_W) (kq vq : Nat) (sz : Nat) (hRi : yRi i) (hRr : yRr r) (h4 : 0 ≤ (i 4).toInt ∧ (i 4).toInt ≤ (i 3).toInt) : Met l yX6_condition (Cond.code yX6_condition cX6_condition 6 (some .boolean) :: gT) { frames := 21, cells := 0, slots := 0, locals := 513 } (va_Pc [.ref (a 10), .int 2, .int 38] (rS D cy (xW cy a i r q (a 20) (a 12) ++ tl) sz kq vq)) (va_Qi (fun (z : Int32) (u : (Nat → Int32) × (Nat → Nat → Int32)) => yRi u.1 ∧ yRr u.2 ∧ mEi [4, 5, 7] i u.1 ∧ mEr [17, 18] r u.2 ∧ ((z = 0 ∨ z = 1) ∧ ((0 ≤ (u.1 4).toInt ∧ (u.1 4).toInt ≤ (i 3).toInt) ∧ (z.toInt ≠ 0 → (i 4).toInt < (u.1 4).toInt ∧ u.1 5 = i 5)) ∧ qX (qTX (i 3) (r 11)) 8 10 (2 : Int32) qKa qEa False i r u.1 u.2 z)) (fun (u : (Nat → Int32) × (Nat → Nat → Int32)) t => va_P D vwCl (xW cy a u.1 u.2 q (a 20) (a 12) ++ tl) t.heap ∧ va_K D vwCl (vT cy) t ∧ va_D (va_A (xW cy a i r q (a 20) (a 12) ++ tl) sz) (xW cy a u.1 u.2 q (a 20) (a 12) ++ tl)) (va_A (xW cy a i r q (a 20) (a 12) ++ tl) sz)) 0 0 (va_A (xW cy a i r q (a 20) (a 12) ++ tl) sz) := c_X6_condition_kq38 l D cy a i r q tl kq vq 2 sz hRi hRr h4 21 513 20 490 ⟨Nat.le_of_ble_eq_true rfl, Nat.le_of_ble_eq_true rfl⟩ ⟨by decide, by decide⟩ (fun k9 e9 i r sz hRi hRr h4 => by subst e9; exact c_X6_piece_k2_9 l D cy a i r q tl kq vq sz hRi hRr h4) ⟨Nat.le_of_ble_eq_true rfl, Nat.le_of_ble_eq_true rfl⟩
theorem c_X6_condition_k2_124_9 (l : Launch) (D : va_G) (cy : Nat → ClassId) (a : Nat → Nat) (i : Nat → Int32) (r : Nat → Nat → Int32) (q : Nat → Option Nat) (tl : va_W) (kq vq : Nat) (sz : Nat) (hRi : yRi i) (hRr : yRr r) (h4 : 0 ≤ (i 4).toInt ∧ (i 4).toInt ≤ (i 3).toInt) : Met l yX6_condition (Cond.code yX6_condition cX6_condition 6 (some .boolean) :: gT) { frames := 22, cells := 0, slots := 0, locals := 538 } (va_Pc [.ref (a 10), .int 2, .int 124] (rS D cy (xW cy a i r q (a 20) (a 12) ++ tl) sz kq vq)) (va_Qi (fun (z : Int32) (u : (Nat → Int32) × (Nat → Nat → Int32)) => yRi u.1 ∧ yRr u.2 ∧ mEi [4, 5, 7] i u.1 ∧ mEr [17, 18] r u.2 ∧ ((z = 0 ∨ z = 1) ∧ ((0 ≤ (u.1 4).toInt ∧ (u.1 4).toInt ≤ (i 3).toInt) ∧ (z.toInt ≠ 0 → (i 4).toInt < (u.1 4).toInt ∧ u.1 5 = i 5)) ∧ qX (qTX (i 3) (r 11)) 8 10 (2 : Int32) qKo qEo False i r u.1 u.2 z)) (fun (u : (Nat → Int32) × (Nat → Nat → Int32)) t => va_P D vwCl (xW cy a u.1 u.2 q (a 20) (a 12) ++ tl) t.heap ∧ va_K D vwCl (vT cy) t ∧ va_D (va_A (xW cy a i r q (a 20) (a 12) ++ tl) sz) (xW cy a u.1 u.2 q (a 20) (a 12) ++ tl)) (va_A (xW cy a i r q (a 20) (a 12) ++ tl) sz)) 0 0 (va_A (xW cy a i r q (a 20) (a 12) ++ tl) sz) := c_X6_condition_kq124 l D cy a i r q tl kq vq 2 sz hRi hRr h4 22 538 21 513 ⟨Nat.le_of_ble_eq_true rfl, Nat.le_of_ble_eq_true rfl⟩ ⟨by decide, by decide⟩ (fun k9 e9 i r sz hRi hRr h4 => by subst e9; exact c_X6_condition_k2_38_9 l D cy a i r q tl kq vq sz hRi hRr h4) ⟨Nat.le_of_ble_eq_true rfl, Nat.le_of_ble_eq_true rfl⟩
theorem c_X6_piece_k1_9 (l : Launch) (D : va_G) (cy : Nat → ClassId) (a : Nat → Nat) (i : Nat → Int32) (r : Nat → Nat → Int32) (q : Nat → Option Nat) (tl : va_W) (kq vq : Nat) (sz : Nat) (hRi : yRi i) (hRr : yRr r) (h4 : 0 ≤ (i 4).toInt ∧ (i 4).toInt ≤ (i 3).toInt) : Met l yX6_piece (Cond.code yX6_piece cX6_piece 4 (some .boolean) :: gT) { frames := 23, cells := 0, slots := 0, locals := 565 } (va_Pc [.ref (a 10), .int 1] (rS D cy (xW cy a i r q (a 20) (a 12) ++ tl) sz kq vq)) (va_Qi (fun (z : Int32) (u : (Nat → Int32) × (Nat → Nat → Int32)) => yRi u.1 ∧ yRr u.2 ∧ mEi [4, 5, 7] i u.1 ∧ mEr [17, 18] r u.2 ∧ ((z = 0 ∨ z = 1) ∧ ((0 ≤ (u.1 4).toInt ∧ (u.1 4).toInt ≤ (i 3).toInt) ∧ (z.toInt ≠ 0 → (i 4).toInt < (u.1 4).toInt ∧ u.1 5 = i 5)) ∧ qX (qTX (i 3) (r 11)) 8 7 (1 : Int32) qK4 qTt False i r u.1 u.2 z)) (fun (u : (Nat → Int32) × (Nat → Nat → Int32)) t => va_P D vwCl (xW cy a u.1 u.2 q (a 20) (a 12) ++ tl) t.heap ∧ va_K D vwCl (vT cy) t ∧ va_D (va_A (xW cy a i r q (a 20) (a 12) ++ tl) sz) (xW cy a u.1 u.2 q (a 20) (a 12) ++ tl)) (va_A (xW cy a i r q (a 20) (a 12) ++ tl) sz)) 0 0 (va_A (xW cy a i r q (a 20) (a 12) ++ tl) sz) := c_X6_piece_kq l D cy a i r q tl kq vq 1 sz hRi hRr h4 23 565 22 538 20 490 22 539 ⟨Nat.le_of_ble_eq_true rfl, Nat.le_of_ble_eq_true rfl⟩ ⟨by decide, by decide⟩ (fun k9 e9 _ i r sz hRi hRr h4 => by obtain rfl : k9 = 2 := Int32.toInt_inj.mp (e9.trans (by decide)); exact c_X6_condition_k2_124_9 l D cy a i r q tl kq vq sz hRi hRr h4) ⟨Nat.le_of_ble_eq_true rfl, Nat.le_of_ble_eq_true rfl⟩ (fun k9 e9 _ i r sz hRi hRr h4 => by obtain rfl : k9 = 2 := Int32.toInt_inj.mp (e9.trans (by decide)); exact c_X6_piece_k2_9 l D cy a i r q tl kq vq sz hRi hRr h4) ⟨Nat.le_of_ble_eq_true rfl, Nat.le_of_ble_eq_true rfl⟩ (fun k9 e9 i r sz hRi hRr h4 => by subst e9; exact c_X6_expression_k1_1_9 l D cy a i r q tl kq vq sz hRi hRr h4) ⟨Nat.le_of_ble_eq_true rfl, Nat.le_of_ble_eq_true rfl⟩
theorem c_X6_condition_k1_38_9 (l : Launch) (D : va_G) (cy : Nat → ClassId) (a : Nat → Nat) (i : Nat → Int32) (r : Nat → Nat → Int32) (q : Nat → Option Nat) (tl : va_W) (kq vq : Nat) (sz : Nat) (hRi : yRi i) (hRr : yRr r) (h4 : 0 ≤ (i 4).toInt ∧ (i 4).toInt ≤ (i 3).toInt) : Met l yX6_condition (Cond.code yX6_condition cX6_condition 6 (some .boolean) :: gT) { frames := 24, cells := 0, slots := 0, locals := 588 } (va_Pc [.ref (a 10), .int 1, .int 38] (rS D cy (xW cy a i r q (a 20) (a 12) ++ tl) sz kq vq)) (va_Qi (fun (z : Int32) (u : (Nat → Int32) × (Nat → Nat → Int32)) => yRi u.1 ∧ yRr u.2 ∧ mEi [4, 5, 7] i u.1 ∧ mEr [17, 18] r u.2 ∧ ((z = 0 ∨ z = 1) ∧ ((0 ≤ (u.1 4).toInt ∧ (u.1 4).toInt ≤ (i 3).toInt) ∧ (z.toInt ≠ 0 → (i 4).toInt < (u.1 4).toInt ∧ u.1 5 = i 5)) ∧ qX (qTX (i 3) (r 11)) 8 10 (1 : Int32) qKa qEa False i r u.1 u.2 z)) (fun (u : (Nat → Int32) × (Nat → Nat → Int32)) t => va_P D vwCl (xW cy a u.1 u.2 q (a 20) (a 12) ++ tl) t.heap ∧ va_K D vwCl (vT cy) t ∧ va_D (va_A (xW cy a i r q (a 20) (a 12) ++ tl) sz) (xW cy a u.1 u.2 q (a 20) (a 12) ++ tl)) (va_A (xW cy a i r q (a 20) (a 12) ++ tl) sz)) 0 0 (va_A (xW cy a i r q (a 20) (a 12) ++ tl) sz) := c_X6_condition_kq38 l D cy a i r q tl kq vq 1 sz hRi hRr h4 24 588 23 565 ⟨Nat.le_of_ble_eq_true rfl, Nat.le_of_ble_eq_true rfl⟩ ⟨by decide, by decide⟩ (fun k9 e9 i r sz hRi hRr h4 => by subst e9; exact c_X6_piece_k1_9 l D cy a i r q tl kq vq sz hRi hRr h4) ⟨Nat.le_of_ble_eq_true rfl, Nat.le_of_ble_eq_true rfl⟩
theorem c_X6_condition_k1_124_9 (l : Launch) (D : va_G) (cy : Nat → ClassId) (a : Nat → Nat) (i : Nat → Int32) (r : Nat → Nat → Int32) (q : Nat → Option Nat) (tl : va_W) (kq vq : Nat) (sz : Nat) (hRi : yRi i) (hRr : yRr r) (h4 : 0 ≤ (i 4).toInt ∧ (i 4).toInt ≤ (i 3).toInt) : Met l yX6_condition (Cond.code yX6_condition cX6_condition 6 (some .boolean) :: gT) { frames := 25, cells := 0, slots := 0, locals := 613 } (va_Pc [.ref (a 10), .int 1, .int 124] (rS D cy (xW cy a i r q (a 20) (a 12) ++ tl) sz kq vq)) (va_Qi (fun (z : Int32) (u : (Nat → Int32) × (Nat → Nat → Int32)) => yRi u.1 ∧ yRr u.2 ∧ mEi [4, 5, 7] i u.1 ∧ mEr [17, 18] r u.2 ∧ ((z = 0 ∨ z = 1) ∧ ((0 ≤ (u.1 4).toInt ∧ (u.1 4).toInt ≤ (i 3).toInt) ∧ (z.toInt ≠ 0 → (i 4).toInt < (u.1 4).toInt ∧ u.1 5 = i 5)) ∧ qX (qTX (i 3) (r 11)) 8 10 (1 : Int32) qKo qEo False i r u.1 u.2 z)) (fun (u : (Nat → Int32) × (Nat → Nat → Int32)) t => va_P D vwCl (xW cy a u.1 u.2 q (a 20) (a 12) ++ tl) t.heap ∧ va_K D vwCl (vT cy) t ∧ va_D (va_A (xW cy a i r q (a 20) (a 12) ++ tl) sz) (xW cy a u.1 u.2 q (a 20) (a 12) ++ tl)) (va_A (xW cy a i r q (a 20) (a 12) ++ tl) sz)) 0 0 (va_A (xW cy a i r q (a 20) (a 12) ++ tl) sz) := c_X6_condition_kq124 l D cy a i r q tl kq vq 1 sz hRi hRr h4 25 613 24 588 ⟨Nat.le_of_ble_eq_true rfl, Nat.le_of_ble_eq_true rfl⟩ ⟨by decide, by decide⟩ (fun k9 e9 i r sz hRi hRr h4 => by subst e9; exact c_X6_condition_k1_38_9 l D cy a i r q tl kq vq sz hRi hRr h4) ⟨Nat.le_of_ble_eq_true rfl, Nat.le_of_ble_eq_true rfl⟩
