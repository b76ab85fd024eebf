theorem upd_s {f : Nat → Int32} {k : Nat} {v : Int32} : upd f k v k = v := if_pos rfl
set_option maxHeartbeats 4000000 in
set_option maxRecDepth 100000 in
theorem c_X10_add_r659 (l : Launch) (D : va_G) (cy : Nat → ClassId) (a : Nat → Nat) (i : Nat → Int32) (r : Nat → Nat → Int32) (q : Nat → Option Nat) (tl : va_W) (p0 p1 p2 p3 : Int32) (sz : Nat) (hRi : yRi i) (hRr : yRr r) (q0 : 0 ≤ p0.toInt ∧ p0.toInt ≤ 9) (q1 : 0 ≤ p1.toInt ∧ p1.toInt ≤ 7) (q2 : 1 ≤ p2.toInt ∧ p2.toInt ≤ 9) (q3 : 0 ≤ p3.toInt ∧ p3.toInt ≤ 360) : Met l yX10_add (Cond.code yX10_add cX10_add 5 (some .int) :: gT) { frames := 1, cells := 0, slots := 0, locals := 24 } (va_Pc [.ref (a 65), .int p0, .int p1, .int p2, .int p3] (rQ D cy (xW cy a i r q (a 20) (a 12) ++ (hW cy a i r ++ tl)) sz)) (va_Qi (fun (z : Int32) (u : (Nat → Int32) × (Nat → Nat → Int32)) => yRi u.1 ∧ yRr u.2 ∧ mEi [23] i u.1 ∧ mEr [66, 67, 68, 69] r u.2 ∧ ((((i 23).toInt ≤ 19) → z.toInt = (i 23).toInt ∧ (u.1 23).toInt = (i 23).toInt + 1 ∧ u.2 66 = upd (r 66) (i 23).toNatClampNeg p0 ∧ u.2 67 = upd (r 67) (i 23).toNatClampNeg p1 ∧ u.2 68 = upd (r 68) (i 23).toNatClampNeg p2 ∧ u.2 69 = upd (r 69) (i 23).toNatClampNeg p3) ∧ (¬ ((i 23).toInt ≤ 19) → z = -1 ∧ u.1 23 = i 23 ∧ mEr [] r u.2))) (fun (u : (Nat → Int32) × (Nat → Nat → Int32)) t => va_P D vwCl (xW cy a u.1 u.2 q (a 20) (a 12) ++ (hW cy a u.1 u.2 ++ tl)) t.heap ∧ va_K D vwCl (vT cy) t ∧ va_D (va_A (xW cy a i r q (a 20) (a 12) ++ (hW cy a i r ++ tl)) sz) (xW cy a u.1 u.2 q (a 20) (a 12) ++ (hW cy a u.1 u.2 ++ tl))) (va_A (xW cy a i r q (a 20) (a 12) ++ (hW cy a i r ++ tl)) sz)) 0 0 (va_A (xW cy a i r q (a 20) (a 12) ++ (hW cy a i r ++ tl)) sz) := by
  refine Met.ofQ (cc := cX10_add) (maxL := 5) (ret := (some .int)) (by decide) rfl ?_
  intro p e s m args below meth c s₁ B hml hv Q hQ
  obtain ⟨rfl, hsz, hP, hK, hD0⟩ := hv
  have hx := B.exec
  have hb := B.bytes
  have hr := B.returns
  have hlocks := B.notSynchronized
  have hT : ∀ w ∈ gT, w.before _ s = true := fun w h => atoms_spec (ws := (Cond.code yX10_add cX10_add 5 (some .int) :: gT)) B.pre w (List.mem_cons_of_mem _ h)
  have hown : s.vm.findClass RX10 = some m.cls := findClass_of_methodNamed B.named
  subst hsz
  have hD := hD0.self (sz := s.heap.size)
  generalize hAe : va_A (xW cy a i r q (a 20) (a 12) ++ (hW cy a i r ++ tl)) s.heap.size = A at hD hQ
  have hA : ∀ q : Nat, s.heap.size ≤ q → A q := fun q h => by rw [← hAe]; exact Or.inr h
  have hS : va_S A s.heap s.heap [] := va_S.rf
  have hl := lv_entry ([.ref (a 65), .int p0, .int p1, .int p2, .int p3]) (n := 5) (Nat.le_of_ble_eq_true rfl)
  rw [lg_entry_eq]
  generalize (lg_sl ([.ref (a 65), .int p0, .int p1, .int p2, .int p3]) ++ List.replicate (5 - (lg_sl ([.ref (a 65), .int p0, .int p1, .int p2, .int p3])).length) Slot.unset).toArray = ls at hl ⊢
  have hl : lv_has ls 5 [(0, .ref (a 65)), (1, .int p0), (2, .int p1), (3, .int p2), (4, .int p3)] := hl
  have hEi : mEi [23] i i := Ei_rf
  have hEr : mEr [66, 67, 68, 69] r r := Er_rf
  refine lv_aload_n hx hb dX10_add_0 rfl (lv_at hl 0 rfl) ?_
  refine va_get (D := D) (ci := 10) (v := .int (i 23)) (C := RX10) (T := TX10) (N := 5) hx hb hT iX10 hown hK hP 65 rfl rfl 0 (by decide) (hT _ t_402) (fun _ h9 => h9) rfl dX10_add_1 ?_
  have hg_1 : 0 ≤ (i 23).toInt ∧ (i 23).toInt ≤ 20 := hRi 23
  refine lv_bipush (v := 20) hx hb dX10_add_4 (by decide) ?_
  refine lv_icmp_lt (tgt := 11) hx hb dX10_add_6 (by decide) (fun c_2 => ?_) (fun c_2 => ?_)
  · have c_2 : (i 23).toInt < 20 := b_lt c_2
    refine lv_aload_n hx hb dX10_add_11 rfl (lv_at hl 0 rfl) ?_
    refine va_get (D := D) (ci := 10) (v := .ref (a 66)) (C := RX10) (T := TX10) (N := 5) hx hb hT iX10 hown hK hP 65 rfl rfl 1 (by decide) (hT _ t_403) (fun _ h9 => h9) rfl dX10_add_12 ?_
    refine lv_aload_n hx hb dX10_add_15 rfl (lv_at hl 0 rfl) ?_
    refine va_get (D := D) (ci := 10) (v := .int (i 23)) (C := RX10) (T := TX10) (N := 5) hx hb hT iX10 hown hK hP 65 rfl rfl 0 (by decide) (hT _ t_402) (fun _ h9 => h9) rfl dX10_add_16 ?_
    refine lv_iload_n hx hb dX10_add_19 rfl (lv_at hl 1 rfl) ?_
    refine va_iast hx hb hK hP hD hS 66 0 rfl rfl (vp_inI (by omega) (by omega)) dX10_add_20 (fun H locs hP hD hS => ?_)
    rw [yS66] at hP hD
    have hRr : yRr (va_up r 66 (upd (r 66) ((i 23).toNatClampNeg) p0)) := Yr_upd hRr 66 ((i 23).toNatClampNeg) p0 ⟨by show (0 : Int) ≤ p0.toInt; omega, by show p0.toInt ≤ (9 : Int); omega⟩
    have hEr : mEr [66, 67, 68, 69] _ (va_up r 66 (upd (r 66) ((i 23).toNatClampNeg) p0)) := Er_up hEr 66 _ (by decide)
    refine lv_aload_n hx hb dX10_add_21 rfl (lv_at hl 0 rfl) ?_
    refine va_get (D := D) (ci := 10) (v := .ref (a 67)) (C := RX10) (T := TX10) (N := 5) hx hb hT iX10 hown hK hP 65 rfl rfl 2 (by decide) (hT _ t_404) (fun _ h9 => h9) rfl dX10_add_22 ?_
    refine lv_aload_n hx hb dX10_add_25 rfl (lv_at hl 0 rfl) ?_
    refine va_get (D := D) (ci := 10) (v := .int (i 23)) (C := RX10) (T := TX10) (N := 5) hx hb hT iX10 hown hK hP 65 rfl rfl 0 (by decide) (hT _ t_402) (fun _ h9 => h9) rfl dX10_add_26 ?_
    refine lv_iload_n hx hb dX10_add_29 rfl (lv_at hl 2 rfl) ?_
    refine va_iast hx hb hK hP hD hS 67 0 rfl rfl (vp_inI (by omega) (by omega)) dX10_add_30 (fun H locs hP hD hS => ?_)
    rw [yS67] at hP hD
    have hRr : yRr (va_up (va_up r 66 (upd (r 66) ((i 23).toNatClampNeg) p0)) 67 (upd (r 67) ((i 23).toNatClampNeg) p1)) := Yr_upd hRr 67 ((i 23).toNatClampNeg) p1 ⟨by show (0 : Int) ≤ p1.toInt; omega, by show p1.toInt ≤ (7 : Int); omega⟩
    have hEr : mEr [66, 67, 68, 69] _ (va_up (va_up r 66 (upd (r 66) ((i 23).toNatClampNeg) p0)) 67 (upd (r 67) ((i 23).toNatClampNeg) p1)) := Er_up hEr 67 _ (by decide)
    refine lv_aload_n hx hb dX10_add_31 rfl (lv_at hl 0 rfl) ?_
    refine va_get (D := D) (ci := 10) (v := .ref (a 68)) (C := RX10) (T := TX10) (N := 5) hx hb hT iX10 hown hK hP 65 rfl rfl 3 (by decide) (hT _ t_405) (fun _ h9 => h9) rfl dX10_add_32 ?_
    refine lv_aload_n hx hb dX10_add_35 rfl (lv_at hl 0 rfl) ?_
    refine va_get (D := D) (ci := 10) (v := .int (i 23)) (C := RX10) (T := TX10) (N := 5) hx hb hT iX10 hown hK hP 65 rfl rfl 0 (by decide) (hT _ t_402) (fun _ h9 => h9) rfl dX10_add_36 ?_
    refine lv_iload_n hx hb dX10_add_39 rfl (lv_at hl 3 rfl) ?_
    refine va_iast hx hb hK hP hD hS 68 0 rfl rfl (vp_inI (by omega) (by omega)) dX10_add_40 (fun H locs hP hD hS => ?_)
    rw [yS68] at hP hD
    have hRr : yRr (va_up (va_up (va_up r 66 (upd (r 66) ((i 23).toNatClampNeg) p0)) 67 (upd (r 67) ((i 23).toNatClampNeg) p1)) 68 (upd (r 68) ((i 23).toNatClampNeg) p2)) := Yr_upd hRr 68 ((i 23).toNatClampNeg) p2 ⟨by show (0 : Int) ≤ p2.toInt; omega, by show p2.toInt ≤ (9 : Int); omega⟩
    have hEr : mEr [66, 67, 68, 69] _ (va_up (va_up (va_up r 66 (upd (r 66) ((i 23).toNatClampNeg) p0)) 67 (upd (r 67) ((i 23).toNatClampNeg) p1)) 68 (upd (r 68) ((i 23).toNatClampNeg) p2)) := Er_up hEr 68 _ (by decide)
    refine lv_aload_n hx hb dX10_add_41 rfl (lv_at hl 0 rfl) ?_
    refine va_get (D := D) (ci := 10) (v := .ref (a 69)) (C := RX10) (T := TX10) (N := 5) hx hb hT iX10 hown hK hP 65 rfl rfl 4 (by decide) (hT _ t_406) (fun _ h9 => h9) rfl dX10_add_42 ?_
    refine lv_aload_n hx hb dX10_add_45 rfl (lv_at hl 0 rfl) ?_
    refine va_get (D := D) (ci := 10) (v := .int (i 23)) (C := RX10) (T := TX10) (N := 5) hx hb hT iX10 hown hK hP 65 rfl rfl 0 (by decide) (hT _ t_402) (fun _ h9 => h9) rfl dX10_add_46 ?_
    refine lv_iload hx hb dX10_add_49 (lv_at hl 4 rfl) ?_
    refine va_iast hx hb hK hP hD hS 69 0 rfl rfl (vp_inI (by omega) (by omega)) dX10_add_51 (fun H locs hP hD hS => ?_)
    rw [yS69] at hP hD
    have hRr : yRr (va_up (va_up (va_up (va_up r 66 (upd (r 66) ((i 23).toNatClampNeg) p0)) 67 (upd (r 67) ((i 23).toNatClampNeg) p1)) 68 (upd (r 68) ((i 23).toNatClampNeg) p2)) 69 (upd (r 69) ((i 23).toNatClampNeg) p3)) := Yr_upd hRr 69 ((i 23).toNatClampNeg) p3 ⟨by show (0 : Int) ≤ p3.toInt; omega, by show p3.toInt ≤ (360 : Int); omega⟩
    have hEr : mEr [66, 67, 68, 69] _ (va_up (va_up (va_up (va_up r 66 (upd (r 66) ((i 23).toNatClampNeg) p0)) 67 (upd (r 67) ((i 23).toNatClampNeg) p1)) 68 (upd (r 68) ((i 23).toNatClampNeg) p2)) 69 (upd (r 69) ((i 23).toNatClampNeg) p3)) := Er_up hEr 69 _ (by decide)
    refine lv_aload_n hx hb dX10_add_52 rfl (lv_at hl 0 rfl) ?_
    refine lv_dup hx hb dX10_add_53 rfl ?_
    refine va_get (D := D) (ci := 10) (v := .int (i 23)) (C := RX10) (T := TX10) (N := 5) hx hb hT iX10 hown hK hP 65 rfl rfl 0 (by decide) (hT _ t_402) (fun _ h9 => h9) rfl dX10_add_54 ?_
    refine lv_iconst (v := 1) hx hb dX10_add_57 (by decide) ?_
    refine lv_iadd hx hb dX10_add_58 ?_
    refine lv_topi (fun v_3 ev_3 => ?_)
    have hv_3 : v_3.toInt = (i 23).toInt + 1 := by rw [ev_3]; have := b_rg (i 23); exact i_add (a := (i 23).toInt) (b := 1) rfl rfl (by omega) (by omega)
    refine va_put (D := D) (ci := 10) (v := .int v_3) (ty := .int) (C := RX10) (T := TX10) (N := 5) hx hb hT iX10 tyX10 tyX10_ok nmX10 hown hK hP hD hS 65 rfl rfl 0 (by decide) (hT _ t_402) (fun _ h9 => h9) rfl (by decide +kernel) rfl rfl (Nat.le_of_ble_eq_true rfl) dX10_add_59 (fun H locs hP hD hS => ?_)
    rw [yP23] at hP hD
    have hRi := Yi_upd hRi 23 v_3 ⟨by show (0 : Int) ≤ v_3.toInt; omega, by show v_3.toInt ≤ (20 : Int); omega⟩
    have hEi := Ei_upd hEi 23 v_3 (by decide)
    refine lv_aload_n hx hb dX10_add_62 rfl (lv_at hl 0 rfl) ?_
    refine va_get (D := D) (ci := 10) (v := .int v_3) (C := RX10) (T := TX10) (N := 5) hx hb hT iX10 hown hK hP 65 rfl rfl 0 (by decide) (hT _ t_402) (fun _ h9 => h9) rfl dX10_add_63 ?_
    refine lv_iconst (v := 1) hx hb dX10_add_66 (by decide) ?_
    refine lv_isub hx hb dX10_add_67 ?_
    refine lv_topi (fun v_4 ev_4 => ?_)
    have hv_4 : v_4.toInt = v_3.toInt - 1 := by rw [ev_4]; have := b_rg v_3; exact i_sub (a := v_3.toInt) (b := 1) rfl rfl (by omega) (by omega)
    subst hQ
    exact W.iret (v := v_4) hx hb hr (fun t ht hW => ⟨⟨_, (upd i 23 v_3, va_up (va_up (va_up (va_up r 66 (upd (r 66) ((i 23).toNatClampNeg) p0)) 67 (upd (r 67) ((i 23).toNatClampNeg) p1)) 68 (upd (r 68) ((i 23).toNatClampNeg) p2)) 69 (upd (r 69) ((i 23).toNatClampNeg) p3)), rfl, ⟨hRi, hRr, hEi, hEr, ⟨fun _ => ⟨by omega, by show v_3.toInt = _; omega, rfl, rfl, rfl, rfl⟩, fun h9 => absurd (by omega) h9⟩⟩, by rw [ht]; exact hP, va_K.moved hW.alike hK, hD⟩, hS.F ht⟩) hS.2.2 dX10_add_68
  · have c_2 : 20 ≤ (i 23).toInt := b_nlt c_2
    refine lv_iconst (v := (-1)) hx hb dX10_add_9 (by decide) ?_
    subst hQ
    exact W.iret (v := (-1)) hx hb hr (fun t ht hW => ⟨⟨_, (i, r), rfl, ⟨hRi, hRr, hEi, hEr, ⟨fun h9 => absurd h9 (by omega), fun _ => ⟨rfl, rfl, Er_rf⟩⟩⟩, by rw [ht]; exact hP, va_K.moved hW.alike hK, hD⟩, hS.F ht⟩) hS.2.2 dX10_add_10
set_option maxHeartbeats 4000000 in
set_option maxRecDepth 100000 in
theorem c_X10_add_r709 (l : Launch) (D : va_G) (cy : Nat → ClassId) (a : Nat → Nat) (i : Nat → Int32) (r : Nat → Nat → Int32) (q : Nat → Option Nat) (tl : va_W) (p0 p1 p2 p3 : Int32) (sz : Nat) (hRi : yRi i) (hRr : yRr r) (q0 : 0 ≤ p0.toInt ∧ p0.toInt ≤ 9) (q1 : 0 ≤ p1.toInt ∧ p1.toInt ≤ 7) (q2 : 1 ≤ p2.toInt ∧ p2.toInt ≤ 9) (q3 : 0 ≤ p3.toInt ∧ p3.toInt ≤ 360) : Met l yX10_add (Cond.code yX10_add cX10_add 5 (some .int) :: gT) { frames := 1, cells := 0, slots := 0, locals := 24 } (va_Pc [.ref (a 70), .int p0, .int p1, .int p2, .int p3] (rQ D cy (xW cy a i r q (a 20) (a 12) ++ (hW cy a i r ++ tl)) sz)) (va_Qi (fun (z : Int32) (u : (Nat → Int32) × (Nat → Nat → Int32)) => yRi u.1 ∧ yRr u.2 ∧ mEi [24] i u.1 ∧ mEr [71, 72, 73, 74] r u.2 ∧ ((((i 24).toInt ≤ 19) → z.toInt = (i 24).toInt ∧ (u.1 24).toInt = (i 24).toInt + 1 ∧ u.2 71 = upd (r 71) (i 24).toNatClampNeg p0 ∧ u.2 72 = upd (r 72) (i 24).toNatClampNeg p1 ∧ u.2 73 = upd (r 73) (i 24).toNatClampNeg p2 ∧ u.2 74 = upd (r 74) (i 24).toNatClampNeg p3) ∧ (¬ ((i 24).toInt ≤ 19) → z = -1 ∧ u.1 24 = i 24 ∧ mEr [] r u.2))) (fun (u : (Nat → Int32) × (Nat → Nat → Int32)) t => va_P D vwCl (xW cy a u.1 u.2 q (a 20) (a 12) ++ (hW cy a u.1 u.2 ++ tl)) t.heap ∧ va_K D vwCl (vT cy) t ∧ va_D (va_A (xW cy a i r q (a 20) (a 12) ++ (hW cy a i r ++ tl)) sz) (xW cy a u.1 u.2 q (a 20) (a 12) ++ (hW cy a u.1 u.2 ++ tl))) (va_A (xW cy a i r q (a 20) (a 12) ++ (hW cy a i r ++ tl)) sz)) 0 0 (va_A (xW cy a i r q (a 20) (a 12) ++ (hW cy a i r ++ tl)) sz) := by
  refine Met.ofQ (cc := cX10_add) (maxL := 5) (ret := (some .int)) (by decide) rfl ?_
  intro p e s m args below meth c s₁ B hml hv Q hQ
  obtain ⟨rfl, hsz, hP, hK, hD0⟩ := hv
  have hx := B.exec
  have hb := B.bytes
  have hr := B.returns
  have hlocks := B.notSynchronized
  have hT : ∀ w ∈ gT, w.before _ s = true := fun w h => atoms_spec (ws := (Cond.code yX10_add cX10_add 5 (some .int) :: gT)) B.pre w (List.mem_cons_of_mem _ h)
  have hown : s.vm.findClass RX10 = some m.cls := findClass_of_methodNamed B.named
  subst hsz
  have hD := hD0.self (sz := s.heap.size)
  generalize hAe : va_A (xW cy a i r q (a 20) (a 12) ++ (hW cy a i r ++ tl)) s.heap.size = A at hD hQ
  have hA : ∀ q : Nat, s.heap.size ≤ q → A q := fun q h => by rw [← hAe]; exact Or.inr h
  have hS : va_S A s.heap s.heap [] := va_S.rf
  have hl := lv_entry ([.ref (a 70), .int p0, .int p1, .int p2, .int p3]) (n := 5) (Nat.le_of_ble_eq_true rfl)
  rw [lg_entry_eq]
  generalize (lg_sl ([.ref (a 70), .int p0, .int p1, .int p2, .int p3]) ++ List.replicate (5 - (lg_sl ([.ref (a 70), .int p0, .int p1, .int p2, .int p3])).length) Slot.unset).toArray = ls at hl ⊢
  have hl : lv_has ls 5 [(0, .ref (a 70)), (1, .int p0), (2, .int p1), (3, .int p2), (4, .int p3)] := hl
  have hEi : mEi [24] i i := Ei_rf
  have hEr : mEr [71, 72, 73, 74] r r := Er_rf
  refine lv_aload_n hx hb dX10_add_0 rfl (lv_at hl 0 rfl) ?_
  refine va_get (D := D) (ci := 10) (v := .int (i 24)) (C := RX10) (T := TX10) (N := 5) hx hb hT iX10 hown hK hP 70 rfl rfl 0 (by decide) (hT _ t_402) (fun _ h9 => h9) rfl dX10_add_1 ?_
  have hg_1 : 0 ≤ (i 24).toInt ∧ (i 24).toInt ≤ 20 := hRi 24
  refine lv_bipush (v := 20) hx hb dX10_add_4 (by decide) ?_
  refine lv_icmp_lt (tgt := 11) hx hb dX10_add_6 (by decide) (fun c_2 => ?_) (fun c_2 => ?_)
  · have c_2 : (i 24).toInt < 20 := b_lt c_2
    refine lv_aload_n hx hb dX10_add_11 rfl (lv_at hl 0 rfl) ?_
    refine va_get (D := D) (ci := 10) (v := .ref (a 71)) (C := RX10) (T := TX10) (N := 5) hx hb hT iX10 hown hK hP 70 rfl rfl 1 (by decide) (hT _ t_403) (fun _ h9 => h9) rfl dX10_add_12 ?_
    refine lv_aload_n hx hb dX10_add_15 rfl (lv_at hl 0 rfl) ?_
    refine va_get (D := D) (ci := 10) (v := .int (i 24)) (C := RX10) (T := TX10) (N := 5) hx hb hT iX10 hown hK hP 70 rfl rfl 0 (by decide) (hT _ t_402) (fun _ h9 => h9) rfl dX10_add_16 ?_
    refine lv_iload_n hx hb dX10_add_19 rfl (lv_at hl 1 rfl) ?_
    refine va_iast hx hb hK hP hD hS 71 0 rfl rfl (vp_inI (by omega) (by omega)) dX10_add_20 (fun H locs hP hD hS => ?_)
    rw [yS71] at hP hD
    have hRr : yRr (va_up r 71 (upd (r 71) ((i 24).toNatClampNeg) p0)) := Yr_upd hRr 71 ((i 24).toNatClampNeg) p0 ⟨by show (0 : Int) ≤ p0.toInt; omega, by show p0.toInt ≤ (9 : Int); omega⟩
    have hEr : mEr [71, 72, 73, 74] _ (va_up r 71 (upd (r 71) ((i 24).toNatClampNeg) p0)) := Er_up hEr 71 _ (by decide)
    refine lv_aload_n hx hb dX10_add_21 rfl (lv_at hl 0 rfl) ?_
    refine va_get (D := D) (ci := 10) (v := .ref (a 72)) (C := RX10) (T := TX10) (N := 5) hx hb hT iX10 hown hK hP 70 rfl rfl 2 (by decide) (hT _ t_404) (fun _ h9 => h9) rfl dX10_add_22 ?_
    refine lv_aload_n hx hb dX10_add_25 rfl (lv_at hl 0 rfl) ?_
    refine va_get (D := D) (ci := 10) (v := .int (i 24)) (C := RX10) (T := TX10) (N := 5) hx hb hT iX10 hown hK hP 70 rfl rfl 0 (by decide) (hT _ t_402) (fun _ h9 => h9) rfl dX10_add_26 ?_
    refine lv_iload_n hx hb dX10_add_29 rfl (lv_at hl 2 rfl) ?_
    refine va_iast hx hb hK hP hD hS 72 0 rfl rfl (vp_inI (by omega) (by omega)) dX10_add_30 (fun H locs hP hD hS => ?_)
    rw [yS72] at hP hD
    have hRr : yRr (va_up (va_up r 71 (upd (r 71) ((i 24).toNatClampNeg) p0)) 72 (upd (r 72) ((i 24).toNatClampNeg) p1)) := Yr_upd hRr 72 ((i 24).toNatClampNeg) p1 ⟨by show (0 : Int) ≤ p1.toInt; omega, by show p1.toInt ≤ (7 : Int); omega⟩
    have hEr : mEr [71, 72, 73, 74] _ (va_up (va_up r 71 (upd (r 71) ((i 24).toNatClampNeg) p0)) 72 (upd (r 72) ((i 24).toNatClampNeg) p1)) := Er_up hEr 72 _ (by decide)
    refine lv_aload_n hx hb dX10_add_31 rfl (lv_at hl 0 rfl) ?_
    refine va_get (D := D) (ci := 10) (v := .ref (a 73)) (C := RX10) (T := TX10) (N := 5) hx hb hT iX10 hown hK hP 70 rfl rfl 3 (by decide) (hT _ t_405) (fun _ h9 => h9) rfl dX10_add_32 ?_
    refine lv_aload_n hx hb dX10_add_35 rfl (lv_at hl 0 rfl) ?_
    refine va_get (D := D) (ci := 10) (v := .int (i 24)) (C := RX10) (T := TX10) (N := 5) hx hb hT iX10 hown hK hP 70 rfl rfl 0 (by decide) (hT _ t_402) (fun _ h9 => h9) rfl dX10_add_36 ?_
    refine lv_iload_n hx hb dX10_add_39 rfl (lv_at hl 3 rfl) ?_
    refine va_iast hx hb hK hP hD hS 73 0 rfl rfl (vp_inI (by omega) (by omega)) dX10_add_40 (fun H locs hP hD hS => ?_)
    rw [yS73] at hP hD
    have hRr : yRr (va_up (va_up (va_up r 71 (upd (r 71) ((i 24).toNatClampNeg) p0)) 72 (upd (r 72) ((i 24).toNatClampNeg) p1)) 73 (upd (r 73) ((i 24).toNatClampNeg) p2)) := Yr_upd hRr 73 ((i 24).toNatClampNeg) p2 ⟨by show (0 : Int) ≤ p2.toInt; omega, by show p2.toInt ≤ (9 : Int); omega⟩
    have hEr : mEr [71, 72, 73, 74] _ (va_up (va_up (va_up r 71 (upd (r 71) ((i 24).toNatClampNeg) p0)) 72 (upd (r 72) ((i 24).toNatClampNeg) p1)) 73 (upd (r 73) ((i 24).toNatClampNeg) p2)) := Er_up hEr 73 _ (by decide)
    refine lv_aload_n hx hb dX10_add_41 rfl (lv_at hl 0 rfl) ?_
    refine va_get (D := D) (ci := 10) (v := .ref (a 74)) (C := RX10) (T := TX10) (N := 5) hx hb hT iX10 hown hK hP 70 rfl rfl 4 (by decide) (hT _ t_406) (fun _ h9 => h9) rfl dX10_add_42 ?_
    refine lv_aload_n hx hb dX10_add_45 rfl (lv_at hl 0 rfl) ?_
    refine va_get (D := D) (ci := 10) (v := .int (i 24)) (C := RX10) (T := TX10) (N := 5) hx hb hT iX10 hown hK hP 70 rfl rfl 0 (by decide) (hT _ t_402) (fun _ h9 => h9) rfl dX10_add_46 ?_
    refine lv_iload hx hb dX10_add_49 (lv_at hl 4 rfl) ?_
    refine va_iast hx hb hK hP hD hS 74 0 rfl rfl (vp_inI (by omega) (by omega)) dX10_add_51 (fun H locs hP hD hS => ?_)
    rw [yS74] at hP hD
    have hRr : yRr (va_up (va_up (va_up (va_up r 71 (upd (r 71) ((i 24).toNatClampNeg) p0)) 72 (upd (r 72) ((i 24).toNatClampNeg) p1)) 73 (upd (r 73) ((i 24).toNatClampNeg) p2)) 74 (upd (r 74) ((i 24).toNatClampNeg) p3)) := Yr_upd hRr 74 ((i 24).toNatClampNeg) p3 ⟨by show (0 : Int) ≤ p3.toInt; omega, by show p3.toInt ≤ (360 : Int); omega⟩
    have hEr : mEr [71, 72, 73, 74] _ (va_up (va_up (va_up (va_up r 71 (upd (r 71) ((i 24).toNatClampNeg) p0)) 72 (upd (r 72) ((i 24).toNatClampNeg) p1)) 73 (upd (r 73) ((i 24).toNatClampNeg) p2)) 74 (upd (r 74) ((i 24).toNatClampNeg) p3)) := Er_up hEr 74 _ (by decide)
    refine lv_aload_n hx hb dX10_add_52 rfl (lv_at hl 0 rfl) ?_
    refine lv_dup hx hb dX10_add_53 rfl ?_
    refine va_get (D := D) (ci := 10) (v := .int (i 24)) (C := RX10) (T := TX10) (N := 5) hx hb hT iX10 hown hK hP 70 rfl rfl 0 (by decide) (hT _ t_402) (fun _ h9 => h9) rfl dX10_add_54 ?_
    refine lv_iconst (v := 1) hx hb dX10_add_57 (by decide) ?_
    refine lv_iadd hx hb dX10_add_58 ?_
    refine lv_topi (fun v_3 ev_3 => ?_)
    have hv_3 : v_3.toInt = (i 24).toInt + 1 := by rw [ev_3]; have := b_rg (i 24); exact i_add (a := (i 24).toInt) (b := 1) rfl rfl (by omega) (by omega)
    refine va_put (D := D) (ci := 10) (v := .int v_3) (ty := .int) (C := RX10) (T := TX10) (N := 5) hx hb hT iX10 tyX10 tyX10_ok nmX10 hown hK hP hD hS 70 rfl rfl 0 (by decide) (hT _ t_402) (fun _ h9 => h9) rfl (by decide +kernel) rfl rfl (Nat.le_of_ble_eq_true rfl) dX10_add_59 (fun H locs hP hD hS => ?_)
    rw [yP24] at hP hD
    have hRi := Yi_upd hRi 24 v_3 ⟨by show (0 : Int) ≤ v_3.toInt; omega, by show v_3.toInt ≤ (20 : Int); omega⟩
    have hEi := Ei_upd hEi 24 v_3 (by decide)
    refine lv_aload_n hx hb dX10_add_62 rfl (lv_at hl 0 rfl) ?_
    refine va_get (D := D) (ci := 10) (v := .int v_3) (C := RX10) (T := TX10) (N := 5) hx hb hT iX10 hown hK hP 70 rfl rfl 0 (by decide) (hT _ t_402) (fun _ h9 => h9) rfl dX10_add_63 ?_
    refine lv_iconst (v := 1) hx hb dX10_add_66 (by decide) ?_
    refine lv_isub hx hb dX10_add_67 ?_
    refine lv_topi (fun v_4 ev_4 => ?_)
    have hv_4 : v_4.toInt = v_3.toInt - 1 := by rw [ev_4]; have := b_rg v_3; exact i_sub (a := v_3.toInt) (b := 1) rfl rfl (by omega) (by omega)
    subst hQ
    exact W.iret (v := v_4) hx hb hr (fun t ht hW => ⟨⟨_, (upd i 24 v_3, va_up (va_up (va_up (va_up r 71 (upd (r 71) ((i 24).toNatClampNeg) p0)) 72 (upd (r 72) ((i 24).toNatClampNeg) p1)) 73 (upd (r 73) ((i 24).toNatClampNeg) p2)) 74 (upd (r 74) ((i 24).toNatClampNeg) p3)), rfl, ⟨hRi, hRr, hEi, hEr, ⟨fun _ => ⟨by omega, by show v_3.toInt = _; omega, rfl, rfl, rfl, rfl⟩, fun h9 => absurd (by omega) h9⟩⟩, by rw [ht]; exact hP, va_K.moved hW.alike hK, hD⟩, hS.F ht⟩) hS.2.2 dX10_add_68
  · have c_2 : 20 ≤ (i 24).toInt := b_nlt c_2
    refine lv_iconst (v := (-1)) hx hb dX10_add_9 (by decide) ?_
    subst hQ
    exact W.iret (v := (-1)) hx hb hr (fun t ht hW => ⟨⟨_, (i, r), rfl, ⟨hRi, hRr, hEi, hEr, ⟨fun h9 => absurd h9 (by omega), fun _ => ⟨rfl, rfl, Er_rf⟩⟩⟩, by rw [ht]; exact hP, va_K.moved hW.alike hK, hD⟩, hS.F ht⟩) hS.2.2 dX10_add_10
def ABS (x : Int32) : Int32 := if 0 ≤ x then x else 0 - x
