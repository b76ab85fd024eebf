set_option maxHeartbeats 4000000 in
set_option maxRecDepth 100000 in
theorem c_X11_check.y9 (l : Launch) (D : va_G) (cy : Nat → ClassId) (a : Nat → Nat) (i : Nat → Int32) (r : Nat → Nat → Int32) (q : Nat → Option Nat) (tl : va_W) (p0 p1 p2 : Int32) (sz : Nat) (hRi : yRi i) (hRr : yRr r) (hh : 0 ≤ p0.toInt ∧ p0.toInt < (i 0).toInt) (hq : q p0.toNatClampNeg = some (a 61)) : Met l yX11_check (Cond.code yX11_check cX11_check 6 (some .int) :: gT) { frames := 7, cells := 0, slots := 0, locals := 175 } (va_Pc [.ref (a 0), .int p0, .int p1, .int p2] (rM D cy (xW cy a i r q (a 20) (a 12) ++ (hW cy a i r ++ tl)) sz)) (va_Qi (fun (z : Int32) (u : (Nat → Int32) × (Nat → Nat → Int32)) => yRi u.1 ∧ yRr u.2 ∧ mEi [2] i u.1 ∧ mEr [27, 28, 52, 53] r u.2 ∧ ((((0 ≤ p1.toInt ∧ p1.toInt ≤ 9999) ∧ (0 ≤ p2.toInt ∧ p2.toInt ≤ 4) ∧ 4 * p2.toInt ≤ (i 2).toInt) → u.1 2 = 0) ∧ (¬ ((0 ≤ p1.toInt ∧ p1.toInt ≤ 9999) ∧ (0 ≤ p2.toInt ∧ p2.toInt ≤ 4) ∧ 4 * p2.toInt ≤ (i 2).toInt) → u.1 2 = i 2))) (fun (u : (Nat → Int32) × (Nat → Nat → Int32)) t => va_P D vwCl (xW cy a u.1 u.2 q (a 20) (a 12) ++ (hW cy a u.1 u.2 ++ tl)) t.heap ∧ va_K D vwCl (vT cy) t ∧ va_D (va_A (xW cy a i r q (a 20) (a 12) ++ (hW cy a i r ++ tl)) sz) (xW cy a u.1 u.2 q (a 20) (a 12) ++ (hW cy a u.1 u.2 ++ tl))) (va_A (xW cy a i r q (a 20) (a 12) ++ (hW cy a i r ++ tl)) sz)) 0 0 (va_A (xW cy a i r q (a 20) (a 12) ++ (hW cy a i r ++ tl)) sz) := by
  refine Met.ofQ (cc := cX11_check) (maxL := 6) (ret := (some .int)) (by decide) rfl ?_
  intro p e s m args below meth c s₁ B hml hv Q hQ
  obtain ⟨rfl, hnw, hsz, hP, hK, hD0⟩ := hv
  have hx := B.exec
  have hb := B.bytes
  have hr := B.returns
  have hlocks := B.notSynchronized
  have hT : ∀ w ∈ gT, w.before _ s = true := fun w h => atoms_spec (ws := (Cond.code yX11_check cX11_check 6 (some .int) :: gT)) B.pre w (List.mem_cons_of_mem _ h)
  have hown : s.vm.findClass RX11 = some m.cls := findClass_of_methodNamed B.named
  subst hsz
  have hD := hD0.self (sz := s.heap.size)
  generalize hAe : va_A (xW cy a i r q (a 20) (a 12) ++ (hW cy a i r ++ tl)) s.heap.size = A at hD hQ
  have hA : ∀ q : Nat, s.heap.size ≤ q → A q := fun q h => by rw [← hAe]; exact Or.inr h
  have hS : va_S A s.heap s.heap [] := va_S.rf
  have hl := lv_entry ([.ref (a 0), .int p0, .int p1, .int p2]) (n := 6) (Nat.le_of_ble_eq_true rfl)
  rw [lg_entry_eq]
  generalize (lg_sl ([.ref (a 0), .int p0, .int p1, .int p2]) ++ List.replicate (6 - (lg_sl ([.ref (a 0), .int p0, .int p1, .int p2])).length) Slot.unset).toArray = ls at hl ⊢
  have hl : lv_has ls 6 [(0, .ref (a 0)), (1, .int p0), (2, .int p1), (3, .int p2)] := hl
  have hEi : mEi [2] i i := Ei_rf
  have hEr : mEr [27, 28, 52, 53] r r := Er_rf
  have hg0 : 0 ≤ (i 0).toInt ∧ (i 0).toInt ≤ 6 := hRi 0
  refine lv_aload_n hx hb dX11_check_0 rfl (lv_at hl 0 rfl) ?_
  refine lv_iload_n hx hb dX11_check_1 rfl (lv_at hl 1 rfl) ?_
  refine va_csq (W.runV (As := [.int p0]) (rest := []) ⟨hx, hb, hml, hown, hT⟩ (c_X11_homeAt l D cy a i r q (hW cy a i r ++ tl) p0 hRi hRr) (cwV 1 hT (gV t_443 t_444 t_445 t_446 t_2) rfl rfl rfl (by decide +kernel) ⟨Nat.le_of_ble_eq_true rfl, Nat.le_of_ble_eq_true rfl⟩) (rP_v hP hK (va_recv hK hP (ci := 11) (q0 := 0) rfl rfl)) rfl rfl hl.1 rfl (lv_room (Nat.le_of_ble_eq_true rfl)) dX11_check_2 ⟨Nat.le_of_ble_eq_true rfl, Nat.le_of_ble_eq_true rfl⟩) (fun r_1 hr_1 => ?_)
  obtain rfl : r_1 = some (a 61) := (hr_1.1 hh).trans hq
  refine W.eq (g2 := F0 m 5 ls [.ref (a 61)]) rfl ?_
  refine lv_astore (lv' := [(4, .ref (a 61)), (0, .ref (a 0)), (1, .int p0), (2, .int p1), (3, .int p2)]) hx hb dX11_check_5 hl (by decide) rfl (fun ls hl => ?_)
  refine lv_aload hx hb dX11_check_7 (lv_at hl 0 rfl) ?_
  refine lv_ifnull hx hb dX11_check_9 ?_
  refine lv_iload_n hx hb dX11_check_12 rfl (lv_at hl 3 rfl) ?_
  refine vp_callSi (W.runS (As := [.int p1]) (rest := []) ⟨hx, hb, hml, hown, hT⟩ (c_X11_isDay l p1) (va_cwS 1 hT (gS t_279 t_280 t_281 t_2) rfl rfl rfl (by decide +kernel) ⟨Nat.le_of_ble_eq_true rfl, Nat.le_of_ble_eq_true rfl⟩) preT rfl rfl hl.1 rfl (lv_room (Nat.le_of_ble_eq_true rfl)) dX11_check_13 ⟨Nat.le_of_ble_eq_true rfl, Nat.le_of_ble_eq_true rfl⟩) (fun r_2 hr_2 => ?_)
  have hr_2 : BR r_2 (0 ≤ p1.toInt ∧ p1.toInt ≤ 9999) 1 0 := hr_2
  rcases hr_2 with ⟨rfl, h_3⟩ | ⟨rfl, h_3⟩
  · skip
    refine lv_if_eq (tgt := 41) hx hb dX11_check_16 (by decide) (fun c_4 => absurd c_4 (by decide)) (fun c_4 => ?_)
    refine lv_iload_n hx hb dX11_check_19 rfl (lv_at hl 4 rfl) ?_
    refine lv_iconst (v := 0) hx hb dX11_check_20 (by decide) ?_
    refine lv_iconst (v := 4) hx hb dX11_check_21 (by decide) ?_
    refine vp_callSi (W.runS (As := [.int p2, .int 0, .int 4]) (rest := []) ⟨hx, hb, hml, hown, hT⟩ (c_X11_within l p2 0 4) (va_cwS 3 hT (gS t_1 t_3 t_4 t_2) rfl rfl rfl (by decide +kernel) ⟨Nat.le_of_ble_eq_true rfl, Nat.le_of_ble_eq_true rfl⟩) preT rfl rfl hl.1 rfl (lv_room (Nat.le_of_ble_eq_true rfl)) dX11_check_22 ⟨Nat.le_of_ble_eq_true rfl, Nat.le_of_ble_eq_true rfl⟩) (fun r_5 hr_5 => ?_)
    have hr_5 : BR r_5 (0 ≤ p2.toInt ∧ p2.toInt ≤ 4) 1 0 := hr_5
    rcases hr_5 with ⟨rfl, h_6⟩ | ⟨rfl, h_6⟩
    · skip
      refine lv_if_eq (tgt := 41) hx hb dX11_check_25 (by decide) (fun c_7 => absurd c_7 (by decide)) (fun c_7 => ?_)
      refine lv_iconst (v := 4) hx hb dX11_check_28 (by decide) ?_
      refine lv_iload_n hx hb dX11_check_29 rfl (lv_at hl 4 rfl) ?_
      refine lv_imul hx hb dX11_check_30 ?_
      refine lv_topi (fun v_8 ev_8 => ?_)
      have hv_8 : v_8.toInt = 4 * p2.toInt := by rw [ev_8]; have := b_rg p2; exact i_mul (a := 4) (b := p2.toInt) rfl rfl (by omega) (by omega)
      refine lv_aload_n hx hb dX11_check_31 rfl (lv_at hl 1 rfl) ?_
      refine va_get (D := D) (ci := 11) (v := .ref (a 8)) (C := RX11) (T := TX11) (N := 14) hx hb hT iX11 hown hK hP 0 rfl rfl 4 (by decide) (hT _ t_335) (fun _ h9 => h9) rfl dX11_check_32 ?_
      refine va_get (D := D) (ci := 9) (v := .int (i 2)) (C := RX9) (T := TX9) (N := 2) hx hb hT iX9 hown hK hP 8 rfl rfl 1 (by decide) (hT _ t_336) (fun _ h9 => h9) rfl dX11_check_35 ?_
      have hg_9 : 0 ≤ (i 2).toInt ∧ (i 2).toInt ≤ 220 := hRi 2
      refine lv_icmp_le (tgt := 44) hx hb dX11_check_38 (by decide) (fun c_10 => ?_) (fun c_10 => ?_)
      · have c_10 : v_8.toInt ≤ (i 2).toInt := b_le c_10
        refine lv_aload_n hx hb dX11_check_44 rfl (lv_at hl 1 rfl) ?_
        refine va_get (D := D) (ci := 11) (v := .ref (a 51)) (C := RX11) (T := TX11) (N := 14) hx hb hT iX11 hown hK hP 0 rfl rfl 11 (by decide) (hT _ t_595) (fun _ h9 => h9) rfl dX11_check_45 ?_
        refine lv_aload_n hx hb dX11_check_48 rfl (lv_at hl 1 rfl) ?_
        refine lv_aload hx hb dX11_check_49 (lv_at hl 0 rfl) ?_
        refine lv_aload_n hx hb dX11_check_51 rfl (lv_at hl 1 rfl) ?_
        refine lv_iload_n hx hb dX11_check_52 rfl (lv_at hl 2 rfl) ?_
        refine lv_iload_n hx hb dX11_check_53 rfl (lv_at hl 3 rfl) ?_
        have hF_11 := rF hD hS hA
        refine va_calli (va_runV (As := [.int p0, .int p1]) (rest := [.ref (a 61), .ref (a 0), .ref (a 51)]) ⟨hx, hb, hml, hown, hT⟩ (c_X11_awards l D cy a i r q tl p0 p1 _ hRi hRr hh hq) (cwV 2 hT (gV t_591 t_592 t_593 t_594 t_2) rfl rfl rfl (by decide +kernel) ⟨Nat.le_of_ble_eq_true rfl, Nat.le_of_ble_eq_true rfl⟩) (rM_v hnw hP hK hD (va_recv hK hP (ci := 11) (q0 := 0) rfl rfl)) rfl rfl hl.1 rfl (lv_room (Nat.le_of_ble_eq_true rfl)) dX11_check_54 ⟨Nat.le_of_ble_eq_true rfl, Nat.le_of_ble_eq_true rfl⟩) hS (fun q _ h => hF_11 q h) hF_11 (fun r_12 u_13 t H1 locs ht hvm hr_12 hB hz1 hk1 hS => ?_)
        obtain ⟨r13, rfl⟩ : ∃ z, z = u_13 := ⟨_, rfl⟩
        obtain ⟨hP, hK1, hD1⟩ := hB
        rw [ht] at hP
        have hD := hD1.weaken (fun k q _ h => hF_11 q.1 h)
        obtain ⟨hRr, hE2, hr_12⟩ := hr_12
        have hRr : yRr r13 := hRr
        have hE2 : mEr [27, 28] r r13 := hE2
        have hP : va_P D vwCl (xW cy a i r13 q (a 20) (a 12) ++ (hW cy a i r13 ++ tl)) H1 := hP
        have hD : va_D A (xW cy a i r13 q (a 20) (a 12) ++ (hW cy a i r13 ++ tl)) := hD
        have hEr : mEr [27, 28, 52, 53] _ r13 := Er_tr hEr hE2 (by decide)
        have hF_14 := rF hD hS hA
        refine va_calli (va_runV (As := [.ref (a 61), .int r_12]) (rest := [.ref (a 51)]) ⟨hx, hb, hml, hown, hT⟩ (c_X11_paidBack l D cy a i r13 q tl r_12 _ hRi hRr) (cwV 2 hT (gV t_596 t_597 t_598 t_599 t_2) rfl rfl rfl (by decide +kernel) ⟨Nat.le_of_ble_eq_true rfl, Nat.le_of_ble_eq_true rfl⟩) (rM_v hnw hP hK hD (va_recv hK hP (ci := 11) (q0 := 0) rfl rfl)) rfl rfl hl.1 rfl (lv_room (Nat.le_of_ble_eq_true rfl)) dX11_check_57 ⟨Nat.le_of_ble_eq_true rfl, Nat.le_of_ble_eq_true rfl⟩) hS (fun q _ h => hF_14 q h) hF_14 (fun r_15 u_16 t H1 locs ht hvm hr_15 hB hz1 hk1 hS => ?_)
        obtain ⟨r16, rfl⟩ : ∃ z, z = u_16 := ⟨_, rfl⟩
        obtain ⟨hP, hK1, hD1⟩ := hB
        rw [ht] at hP
        have hD := hD1.weaken (fun k q _ h => hF_14 q.1 h)
        obtain ⟨hRr, hE2, hr_15⟩ := hr_15
        have hRr : yRr r16 := hRr
        have hE2 : mEr [27, 28] r13 r16 := hE2
        have hP : va_P D vwCl (xW cy a i r16 q (a 20) (a 12) ++ (hW cy a i r16 ++ tl)) H1 := hP
        have hD : va_D A (xW cy a i r16 q (a 20) (a 12) ++ (hW cy a i r16 ++ tl)) := hD
        have hEr : mEr [27, 28, 52, 53] _ r16 := Er_tr hEr hE2 (by decide)
        refine lv_aload hx hb dX11_check_60 (lv_at hl 0 rfl) ?_
        have hF_17 := rF hD hS hA
        refine va_callv (va_runV (As := [.int r_15, .ref (a 61)]) (rest := []) ⟨hx, hb, hml, hown, hT⟩ (c_X0_divide l D cy a i r16 q tl r_15 _ hRi hRr) (cwV 2 hT (gV t_600 t_601 t_602 t_603 t_586) rfl rfl rfl (by decide +kernel) ⟨Nat.le_of_ble_eq_true rfl, Nat.le_of_ble_eq_true rfl⟩) (rQ_v hP hK hD (va_recv hK hP (ci := 0) (q0 := 51) rfl rfl)) rfl rfl hl.1 rfl (lv_room (Nat.le_of_ble_eq_true rfl)) dX11_check_62 ⟨Nat.le_of_ble_eq_true rfl, Nat.le_of_ble_eq_true rfl⟩) hS (fun q _ h => hF_17 q h) hF_17 (fun u_19 t H1 locs ht hvm hr_18 hB hz1 hk1 hS => ?_)
        obtain ⟨r19, rfl⟩ : ∃ z, z = u_19 := ⟨_, rfl⟩
        obtain ⟨hP, hK1, hD1⟩ := hB
        rw [ht] at hP
        have hD := hD1.weaken (fun k q _ h => hF_17 q.1 h)
        obtain ⟨hRr, hE2, hr_18⟩ := hr_18
        have hRr : yRr r19 := hRr
        have hE2 : mEr [52, 53] r16 r19 := hE2
        have hP : va_P D vwCl (xW cy a i r19 q (a 20) (a 12) ++ (hW cy a i r19 ++ tl)) H1 := hP
        have hD : va_D A (xW cy a i r19 q (a 20) (a 12) ++ (hW cy a i r19 ++ tl)) := hD
        have hEr : mEr [27, 28, 52, 53] _ r19 := Er_tr hEr hE2 (by decide)
        refine lv_aload_n hx hb dX11_check_65 rfl (lv_at hl 1 rfl) ?_
        refine va_get (D := D) (ci := 11) (v := .ref (a 51)) (C := RX11) (T := TX11) (N := 14) hx hb hT iX11 hown hK hP 0 rfl rfl 11 (by decide) (hT _ t_595) (fun _ h9 => h9) rfl dX11_check_66 ?_
        refine lv_aload_n hx hb dX11_check_69 rfl (lv_at hl 1 rfl) ?_
        refine va_get (D := D) (ci := 11) (v := .ref (a 8)) (C := RX11) (T := TX11) (N := 14) hx hb hT iX11 hown hK hP 0 rfl rfl 4 (by decide) (hT _ t_335) (fun _ h9 => h9) rfl dX11_check_70 ?_
        refine lv_iload_n hx hb dX11_check_73 rfl (lv_at hl 4 rfl) ?_
        refine lv_aload hx hb dX11_check_74 (lv_at hl 0 rfl) ?_
        refine va_get (D := D) (ci := 3) (v := .int (i 18)) (C := RX3) (T := TX3) (N := 12) hx hb hT iX3 hown hK hP 61 rfl rfl 1 (by decide) (hT _ t_447) (fun _ h9 => h9) rfl dX11_check_76 ?_
        have hg_20 : 1 ≤ (i 18).toInt ∧ (i 18).toInt ≤ 4 := hRi 18
        refine va_mmin hx hb (by rw [hml]; exact hl.1.symm) hown (hT _ t_568) (hT _ t_380) (hT _ t_289) (hT _ t_381) (Nat.le_of_ble_eq_true rfl) (Nat.le_of_ble_eq_true rfl) (Nat.le_of_ble_eq_true rfl) (Nat.le_of_ble_eq_true rfl) dX11_check_79 ?_
        refine lv_topi (fun v_21 ev_21 => ?_)
        refine vp_callSi (W.runV (As := [.ref (a 8), .int v_21]) (rest := []) ⟨hx, hb, hml, hown, hT⟩ (c_X0_firstUnlike l D cy a i r19 q (hW cy a i r19 ++ tl) v_21 hRi hRr) (cwV 2 hT (gV t_605 t_606 t_607 t_608 t_586) rfl rfl rfl (by decide +kernel) ⟨Nat.le_of_ble_eq_true rfl, Nat.le_of_ble_eq_true rfl⟩) (rP_v hP hK (va_recv hK hP (ci := 0) (q0 := 51) rfl rfl)) rfl rfl hl.1 rfl (lv_room (Nat.le_of_ble_eq_true rfl)) dX11_check_82 ⟨Nat.le_of_ble_eq_true rfl, Nat.le_of_ble_eq_true rfl⟩) (fun r_22 hr_22 => ?_)
        refine lv_istore (lv' := [(5, .int r_22), (4, .ref (a 61)), (0, .ref (a 0)), (1, .int p0), (2, .int p1), (3, .int p2)]) hx hb dX11_check_85 hl (by decide) rfl (fun ls hl => ?_)
        refine lv_aload_n hx hb dX11_check_87 rfl (lv_at hl 2 rfl) ?_
        refine va_get (D := D) (ci := 11) (v := .ref (a 8)) (C := RX11) (T := TX11) (N := 14) hx hb hT iX11 hown hK hP 0 rfl rfl 4 (by decide) (hT _ t_335) (fun _ h9 => h9) rfl dX11_check_88 ?_
        refine lv_iconst (v := 0) hx hb dX11_check_91 (by decide) ?_
        refine va_put (D := D) (ci := 9) (v := .int 0) (ty := .int) (C := RX9) (T := TX9) (N := 2) hx hb hT iX9 tyX9 tyX9_ok nmX9 hown hK hP hD hS 8 rfl rfl 1 (by decide) (hT _ t_336) (fun _ h9 => h9) rfl (by decide +kernel) rfl rfl (Nat.le_of_ble_eq_true rfl) dX11_check_92 (fun H locs hP hD hS => ?_)
        rw [yP2] at hP hD
        have hRi := Yi_upd hRi 2 0 ⟨by decide, by decide⟩
        have hEi := Ei_upd hEi 2 0 (by decide)
        refine lv_iload hx hb dX11_check_95 (lv_at hl 0 rfl) ?_
        refine lv_iload_n hx hb dX11_check_97 rfl (lv_at hl 5 rfl) ?_
        refine lv_icmp_ne (tgt := 114) hx hb dX11_check_98 (by decide) (fun c_23 => ?_) (fun c_23 => ?_)
        · have c_23 : r_22.toInt ≠ p2.toInt := b_ne c_23
          refine lv_iload hx hb dX11_check_114 (lv_at hl 0 rfl) ?_
          subst hQ
          exact W.iret (v := r_22) hx hb hr (fun t ht hW => ⟨⟨_, (upd i 2 0, r19), rfl, ⟨hRi, hRr, hEi, hEr, ⟨fun _ => rfl, fun h9 => absurd (by omega) h9⟩⟩, by rw [ht]; exact hP, va_K.moved hW.alike hK, hD⟩, hS.F ht⟩) hS.2.2 dX11_check_116
        · have c_23 : r_22.toInt = p2.toInt := b_nne c_23
          refine lv_iload_n hx hb dX11_check_101 rfl (lv_at hl 5 rfl) ?_
          refine lv_aload hx hb dX11_check_102 (lv_at hl 1 rfl) ?_
          refine va_get (D := D) (ci := 3) (v := .int (i 18)) (C := RX3) (T := TX3) (N := 12) hx hb hT iX3 hown hK hP 61 rfl rfl 1 (by decide) (hT _ t_447) (fun _ h9 => h9) rfl dX11_check_104 ?_
          refine lv_icmp_ne (tgt := 114) hx hb dX11_check_107 (by decide) (fun c_24 => ?_) (fun c_24 => ?_)
          · have c_24 : p2.toInt ≠ (i 18).toInt := b_ne c_24
            refine lv_iload hx hb dX11_check_114 (lv_at hl 0 rfl) ?_
            subst hQ
            exact W.iret (v := r_22) hx hb hr (fun t ht hW => ⟨⟨_, (upd i 2 0, r19), rfl, ⟨hRi, hRr, hEi, hEr, ⟨fun _ => rfl, fun h9 => absurd (by omega) h9⟩⟩, by rw [ht]; exact hP, va_K.moved hW.alike hK, hD⟩, hS.F ht⟩) hS.2.2 dX11_check_116
          · have c_24 : p2.toInt = (i 18).toInt := b_nne c_24
            refine lv_iconst (v := (-1)) hx hb dX11_check_110 (by decide) ?_
            refine lv_goto (tgt := 116) hx hb dX11_check_111 (by decide) ?_
            subst hQ
            exact W.iret (v := (-1)) hx hb hr (fun t ht hW => ⟨⟨_, (upd i 2 0, r19), rfl, ⟨hRi, hRr, hEi, hEr, ⟨fun _ => rfl, fun h9 => absurd (by omega) h9⟩⟩, by rw [ht]; exact hP, va_K.moved hW.alike hK, hD⟩, hS.F ht⟩) hS.2.2 dX11_check_116
      · have c_10 : (i 2).toInt < v_8.toInt := b_nle c_10
        refine lv_bipush (v := (-2)) hx hb dX11_check_41 (by decide) ?_
        subst hQ
        exact W.iret (v := (-2)) hx hb hr (fun t ht hW => ⟨⟨_, (i, r), rfl, ⟨hRi, hRr, hEi, hEr, ⟨fun h9 => absurd h9 (by omega), fun _ => rfl⟩⟩, by rw [ht]; exact hP, va_K.moved hW.alike hK, hD⟩, hS.F ht⟩) hS.2.2 dX11_check_43
    · skip
      refine lv_if_eq (tgt := 41) hx hb dX11_check_25 (by decide) (fun c_25 => ?_) (fun c_25 => absurd (by decide) c_25)
      refine lv_bipush (v := (-2)) hx hb dX11_check_41 (by decide) ?_
      subst hQ
      exact W.iret (v := (-2)) hx hb hr (fun t ht hW => ⟨⟨_, (i, r), rfl, ⟨hRi, hRr, hEi, hEr, ⟨fun h9 => absurd h9 (by omega), fun _ => rfl⟩⟩, by rw [ht]; exact hP, va_K.moved hW.alike hK, hD⟩, hS.F ht⟩) hS.2.2 dX11_check_43
  · skip
    refine lv_if_eq (tgt := 41) hx hb dX11_check_16 (by decide) (fun c_26 => ?_) (fun c_26 => absurd (by decide) c_26)
    refine lv_bipush (v := (-2)) hx hb dX11_check_41 (by decide) ?_
    subst hQ
    exact W.iret (v := (-2)) hx hb hr (fun t ht hW => ⟨⟨_, (i, r), rfl, ⟨hRi, hRr, hEi, hEr, ⟨fun h9 => absurd h9 (by omega), fun _ => rfl⟩⟩, by rw [ht]; exact hP, va_K.moved hW.alike hK, hD⟩, hS.F ht⟩) hS.2.2 dX11_check_43
