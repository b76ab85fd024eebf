-- evidence: the first list signed, and one of the others
theorem evB {e a b : Int32} (h : 0 ≤ e.toInt ∧ e.toInt ≤ 7) (ea : a = e &&& 1) (eb : b = e &&& 6) : (a.toInt ≠ 0 ∧ b.toInt ≠ 0) ↔ (e.toInt % 2 = 1 ∧ 1 < e.toInt) := by
  obtain ⟨n, hn, rfl⟩ := nI_of (x := e) (fun h2 => by have := b_lt h2; have h3 : (0 : Int32).toInt = 0 := rfl; omega)
  rw [nI_toInt (by omega)] at h
  subst ea eb
  rcases (show n = 0 ∨ n = 1 ∨ n = 2 ∨ n = 3 ∨ n = 4 ∨ n = 5 ∨ n = 6 ∨ n = 7 by omega) with rfl | rfl | rfl | rfl | rfl | rfl | rfl | rfl <;> decide
set_option maxHeartbeats 4000000 in
set_option maxRecDepth 100000 in
theorem c_X1_isAnsweredBy9 (l : Launch) (D : va_G) (cy : Nat → ClassId) (a : Nat → Nat) (i : Nat → Int32) (r : Nat → Nat → Int32) (q : Nat → Option Nat) (tl : va_W) (p0 p1 : Int32) (hRi : yRi i) (hRr : yRr r) (q0 : 0 ≤ p0.toInt ∧ p0.toInt ≤ 29) : Met l yX1_isAnsweredBy (Cond.code yX1_isAnsweredBy cX1_isAnsweredBy 3 (some .boolean) :: gT) { frames := 1, cells := 0, slots := 0, locals := 24 } (va_Pc [.ref (a 29), .int p0, .int p1] (rP D cy (xW cy a i r q (a 20) (a 12) ++ tl))) (vp_Si (fun z => BR z (((r 36 p0.toNatClampNeg).toInt ≠ -1 ∧ (r 36 p0.toNatClampNeg).toInt ≤ p1.toInt)) 1 0)) 0 0 (fun _ => False) := by
  refine Met.ofQ (cc := cX1_isAnsweredBy) (maxL := 3) (ret := (some .boolean)) (by decide) rfl ?_
  intro p e s m args below meth c s₁ B hml hv Q hQ
  obtain ⟨rfl, hP, hK⟩ := hv
  have hx := B.exec
  have hb := B.bytes
  have hr := B.returns
  have hlocks := B.notSynchronized
  have hT : ∀ w ∈ gT, w.before _ s = true := fun w h => atoms_spec (ws := (Cond.code yX1_isAnsweredBy cX1_isAnsweredBy 3 (some .boolean) :: gT)) B.pre w (List.mem_cons_of_mem _ h)
  have hown : s.vm.findClass RX1 = some m.cls := findClass_of_methodNamed B.named
  have hl := lv_entry ([.ref (a 29), .int p0, .int p1]) (n := 3) (Nat.le_of_ble_eq_true rfl)
  rw [lg_entry_eq]
  generalize (lg_sl ([.ref (a 29), .int p0, .int p1]) ++ List.replicate (3 - (lg_sl ([.ref (a 29), .int p0, .int p1])).length) Slot.unset).toArray = ls at hl ⊢
  have hl : lv_has ls 3 [(0, .ref (a 29)), (1, .int p0), (2, .int p1)] := hl
  have hEi : mEi [] i i := Ei_rf
  have hEr : mEr [] r r := Er_rf
  refine lv_aload_n hx hb dX1_isAnsweredBy_0 rfl (lv_at hl 0 rfl) ?_
  refine va_get (D := D) (ci := 1) (v := .ref (a 36)) (C := RX1) (T := TX1) (N := 12) hx hb hT iX1 hown hK hP 29 rfl rfl 7 (by decide) (hT _ t_345) (fun _ h9 => h9) rfl dX1_isAnsweredBy_1 ?_
  refine lv_iload_n hx hb dX1_isAnsweredBy_4 rfl (lv_at hl 1 rfl) ?_
  refine va_iald hx hb hK hP 36 0 rfl rfl (vp_inI (by omega) (by omega)) dX1_isAnsweredBy_5 ?_
  refine lv_topi (fun v_1 ev_1 => ?_)
  have hgv_1 : -1 ≤ v_1.toInt ∧ v_1.toInt ≤ 9999 := by rw [ev_1]; exact hRr 36 _
  have hwv_1 : v_1.toInt = (r 36 (p0.toNatClampNeg)).toInt := congrArg Int32.toInt ev_1
  refine lv_iconst (v := (-1)) hx hb dX1_isAnsweredBy_6 (by decide) ?_
  refine lv_icmp_eq (tgt := 24) hx hb dX1_isAnsweredBy_7 (by decide) (fun c_2 => ?_) (fun c_2 => ?_)
  · have c_2 : v_1.toInt = (-1) := b_eq c_2
    refine lv_iconst (v := 0) hx hb dX1_isAnsweredBy_24 (by decide) ?_
    subst hQ
    exact W.zret hx hb hr rfl (fun t ht hW => ⟨_, rfl, Or.inr ⟨rfl, by omega⟩, ht⟩) (fun q hq => absurd hq List.not_mem_nil) dX1_isAnsweredBy_25
  · have c_2 : v_1.toInt ≠ (-1) := b_ne c_2
    refine lv_aload_n hx hb dX1_isAnsweredBy_10 rfl (lv_at hl 0 rfl) ?_
    refine va_get (D := D) (ci := 1) (v := .ref (a 36)) (C := RX1) (T := TX1) (N := 12) hx hb hT iX1 hown hK hP 29 rfl rfl 7 (by decide) (hT _ t_345) (fun _ h9 => h9) rfl dX1_isAnsweredBy_11 ?_
    refine lv_iload_n hx hb dX1_isAnsweredBy_14 rfl (lv_at hl 1 rfl) ?_
    refine va_iald hx hb hK hP 36 0 rfl rfl (vp_inI (by omega) (by omega)) dX1_isAnsweredBy_15 ?_
    refine lv_topi (fun v_3 ev_3 => ?_)
    have hgv_3 : -1 ≤ v_3.toInt ∧ v_3.toInt ≤ 9999 := by rw [ev_3]; exact hRr 36 _
    have hwv_3 : v_3.toInt = (r 36 (p0.toNatClampNeg)).toInt := congrArg Int32.toInt ev_3
    refine lv_iload_n hx hb dX1_isAnsweredBy_16 rfl (lv_at hl 2 rfl) ?_
    refine lv_icmp_gt (tgt := 24) hx hb dX1_isAnsweredBy_17 (by decide) (fun c_4 => ?_) (fun c_4 => ?_)
    · have c_4 : p1.toInt < v_3.toInt := b_lt c_4
      refine lv_iconst (v := 0) hx hb dX1_isAnsweredBy_24 (by decide) ?_
      subst hQ
      exact W.zret hx hb hr rfl (fun t ht hW => ⟨_, rfl, Or.inr ⟨rfl, by omega⟩, ht⟩) (fun q hq => absurd hq List.not_mem_nil) dX1_isAnsweredBy_25
    · have c_4 : v_3.toInt ≤ p1.toInt := b_nlt c_4
      refine lv_iconst (v := 1) hx hb dX1_isAnsweredBy_20 (by decide) ?_
      refine lv_goto (tgt := 25) hx hb dX1_isAnsweredBy_21 (by decide) ?_
      subst hQ
      exact W.zret hx hb hr rfl (fun t ht hW => ⟨_, rfl, Or.inl ⟨rfl, by omega⟩, ht⟩) (fun q hq => absurd hq List.not_mem_nil) dX1_isAnsweredBy_25
set_option maxHeartbeats 4000000 in
set_option maxRecDepth 100000 in
theorem c_X11_reason9 (l : Launch) (D : va_G) (cy : Nat → ClassId) (a : Nat → Nat) (i : Nat → Int32) (r : Nat → Nat → Int32) (q : Nat → Option Nat) (tl : va_W) (p0 p1 p2 : Int32) (sz : Nat) (hRi : yRi i) (hRr : yRr r) (q0 : 0 ≤ p0.toInt ∧ p0.toInt ≤ 29) (d9 : lwT) (fa9 : Nat → Int32) (hL9 : xLw d9 i r) (hG9 : gLw d9) (hf9 : ∀ k, k < 10 → r 28 k = fa9 k) : Met l yX11_reason (Cond.code yX11_reason cX11_reason 5 (some .int) :: gT) { frames := 4, cells := 0, slots := 0, locals := 100 } (va_Pc [.ref (a 0), .int p0, .int p1, .int p2] (rM D cy (xW cy a i r q (a 20) (a 12) ++ tl) sz)) (va_Qi (fun (z : Int32) (u : Nat → Nat → Int32) => yRr u ∧ mEr [27] r u ∧ (z = awR d9 fa9 p2 (r 35 p0.toNatClampNeg) (r 34 p0.toNatClampNeg) (r 36 p0.toNatClampNeg) (r 37 p0.toNatClampNeg) (r 33 p0.toNatClampNeg) p1 ∧ (1 ≤ z.toInt ∧ z.toInt ≤ 8))) (fun (u : Nat → Nat → Int32) t => va_P D vwCl (xW cy a i u q (a 20) (a 12) ++ tl) t.heap ∧ va_K D vwCl (vT cy) t ∧ va_D (va_A (xW cy a i r q (a 20) (a 12) ++ tl) sz) (xW cy a i u q (a 20) (a 12) ++ tl)) (va_A (xW cy a i r q (a 20) (a 12) ++ tl) sz)) 0 0 (va_A (xW cy a i r q (a 20) (a 12) ++ tl) sz) := by
  refine Met.ofQ (cc := cX11_reason) (maxL := 5) (ret := (some .int)) (by decide) rfl ?_
  intro p e s m args below meth c s₁ B hml hv Q hQ
  obtain ⟨rfl, hnw, hsz, hP, hK, hD0⟩ := hv
  have hx := B.exec
  have hb := B.bytes
  have hr := B.returns
  have hlocks := B.notSynchronized
  have hT : ∀ w ∈ gT, w.before _ s = true := fun w h => atoms_spec (ws := (Cond.code yX11_reason cX11_reason 5 (some .int) :: gT)) B.pre w (List.mem_cons_of_mem _ h)
  have hown : s.vm.findClass RX11 = some m.cls := findClass_of_methodNamed B.named
  subst hsz
  have hD := hD0.self (sz := s.heap.size)
  generalize hAe : va_A (xW cy a i r q (a 20) (a 12) ++ tl) s.heap.size = A at hD hQ
  have hA : ∀ q : Nat, s.heap.size ≤ q → A q := fun q h => by rw [← hAe]; exact Or.inr h
  have hS : va_S A s.heap s.heap [] := va_S.rf
  have hl := lv_entry ([.ref (a 0), .int p0, .int p1, .int p2]) (n := 5) (Nat.le_of_ble_eq_true rfl)
  rw [lg_entry_eq]
  generalize (lg_sl ([.ref (a 0), .int p0, .int p1, .int p2]) ++ List.replicate (5 - (lg_sl ([.ref (a 0), .int p0, .int p1, .int p2])).length) Slot.unset).toArray = ls at hl ⊢
  have hl : lv_has ls 5 [(0, .ref (a 0)), (1, .int p0), (2, .int p1), (3, .int p2)] := hl
  have hEi : mEi [] i i := Ei_rf
  have hEr : mEr [27] r r := Er_rf
  refine lv_iload_n hx hb dX11_reason_0 rfl (lv_at hl 3 rfl) ?_
  refine lv_if_ne (tgt := 6) hx hb dX11_reason_1 (by decide) (fun c_1 => ?_) (fun c_1 => ?_)
  · have c_1 : p2.toInt ≠ 0 := b_ne c_1
    refine lv_aload_n hx hb dX11_reason_6 rfl (lv_at hl 0 rfl) ?_
    refine va_get (D := D) (ci := 11) (v := .ref (a 29)) (C := RX11) (T := TX11) (N := 14) hx hb hT iX11 hown hK hP 0 rfl rfl 8 (by decide) (hT _ t_265) (fun _ h9 => h9) rfl dX11_reason_7 ?_
    refine va_get (D := D) (ci := 1) (v := .ref (a 35)) (C := RX1) (T := TX1) (N := 12) hx hb hT iX1 hown hK hP 29 rfl rfl 6 (by decide) (hT _ t_278) (fun _ h9 => h9) rfl dX11_reason_10 ?_
    refine lv_iload_n hx hb dX11_reason_13 rfl (lv_at hl 1 rfl) ?_
    refine va_iald hx hb hK hP 35 0 rfl rfl (vp_inI (by omega) (by omega)) dX11_reason_14 ?_
    refine lv_topi (fun v_2 ev_2 => ?_)
    have hgv_2 : 0 ≤ v_2.toInt ∧ v_2.toInt ≤ 999999 := by rw [ev_2]; exact hRr 35 _
    have hsv_2 : v_2 = r 35 p0.toNatClampNeg := ev_2.trans (congrFun (hEr 35 (by decide)) _)
    have htv_2 : v_2.toInt = (r 35 p0.toNatClampNeg).toInt := congrArg Int32.toInt hsv_2
    refine lv_iload_n hx hb dX11_reason_15 rfl (lv_at hl 3 rfl) ?_
    refine lv_icmp_lt (tgt := 21) hx hb dX11_reason_16 (by decide) (fun c_3 => ?_) (fun c_3 => ?_)
    · have c_3 : v_2.toInt < p2.toInt := b_lt c_3
      refine lv_aload_n hx hb dX11_reason_21 rfl (lv_at hl 0 rfl) ?_
      refine va_get (D := D) (ci := 11) (v := .ref (a 29)) (C := RX11) (T := TX11) (N := 14) hx hb hT iX11 hown hK hP 0 rfl rfl 8 (by decide) (hT _ t_265) (fun _ h9 => h9) rfl dX11_reason_22 ?_
      refine lv_iload_n hx hb dX11_reason_25 rfl (lv_at hl 1 rfl) ?_
      refine lv_iload_n hx hb dX11_reason_26 rfl (lv_at hl 2 rfl) ?_
      refine vp_callSi (W.runV (As := [.int p0, .int p1]) (rest := []) ⟨hx, hb, hml, hown, hT⟩ (c_X1_isAnsweredBy9 l D cy a i r q tl p0 p1 hRi hRr (by first | omega | decide)) (cwV 2 hT (gV t_539 t_540 t_541 t_542 t_356) rfl rfl rfl (by decide +kernel) ⟨Nat.le_of_ble_eq_true rfl, Nat.le_of_ble_eq_true rfl⟩) (rP_v hP hK (va_recv hK hP (ci := 1) (q0 := 29) rfl rfl)) rfl rfl hl.1 rfl (lv_room (Nat.le_of_ble_eq_true rfl)) dX11_reason_27 ⟨Nat.le_of_ble_eq_true rfl, Nat.le_of_ble_eq_true rfl⟩) (fun r_4 hr_4 => ?_)
      have hr_4 : BR r_4 (((r 36 p0.toNatClampNeg).toInt ≠ -1 ∧ (r 36 p0.toNatClampNeg).toInt ≤ p1.toInt)) 1 0 := hr_4
      rcases hr_4 with ⟨rfl, han9⟩ | ⟨rfl, han9⟩
      · skip
        refine lv_if_ne (tgt := 76) hx hb dX11_reason_30 (by decide) (fun c_5 => ?_) (fun c_5 => absurd c_5 (by decide))
        refine lv_aload_n hx hb dX11_reason_76 rfl (lv_at hl 0 rfl) ?_
        refine va_get (D := D) (ci := 11) (v := .ref (a 20)) (C := RX11) (T := TX11) (N := 14) hx hb hT iX11 hown hK hP 0 rfl rfl 6 (by decide) (hT _ t_516) (fun _ h9 => h9) rfl dX11_reason_77 ?_
        refine lv_bipush (v := 98) hx hb dX11_reason_80 (by decide) ?_
        refine lv_aload_n hx hb dX11_reason_82 rfl (lv_at hl 0 rfl) ?_
        refine va_get (D := D) (ci := 11) (v := .ref (a 28)) (C := RX11) (T := TX11) (N := 14) hx hb hT iX11 hown hK hP 0 rfl rfl 7 (by decide) (hT _ t_500) (fun _ h9 => h9) rfl dX11_reason_83 ?_
        have hF_6 := rF hD hS hA
        refine va_calli (va_runV (As := [.int 98, .ref (a 28)]) (rest := []) ⟨hx, hb, hml, hown, hT⟩ (c_X5_someHolds9 l D cy a i r q tl 98 _ hRi hRr d9 fa9 (xLw_co hL9 rfl (hEr 21 (by decide)) (hEr 22 (by decide)) (hEr 23 (by decide)) (hEr 24 (by decide)) (hEr 25 (by decide)) (hEr 26 (by decide))) hG9 (by rw [hEr 28 (by decide)]; exact hf9) (by first | rfl | decide | omega)) (cwV 2 hT (gV t_543 t_544 t_545 t_546 t_367) rfl rfl rfl (by decide +kernel) ⟨Nat.le_of_ble_eq_true rfl, Nat.le_of_ble_eq_true rfl⟩) (rM_v hnw hP hK hD (va_recv hK hP (ci := 5) (q0 := 20) rfl rfl)) rfl rfl hl.1 rfl (lv_room (Nat.le_of_ble_eq_true rfl)) dX11_reason_86 ⟨Nat.le_of_ble_eq_true rfl, Nat.le_of_ble_eq_true rfl⟩) hS (fun q _ h => hF_6 q h) hF_6 (fun r_7 u_8 t H1 locs ht hvm hr_7 hB hz1 hk1 hS => ?_)
        obtain ⟨r8, rfl⟩ : ∃ z, z = u_8 := ⟨_, rfl⟩
        obtain ⟨hP, hK1, hD1⟩ := hB
        rw [ht] at hP
        have hD := hD1.weaken (fun k q _ h => hF_6 q.1 h)
        obtain ⟨hRr, hE2, hr_7⟩ := hr_7
        have hRr : yRr r8 := hRr
        have hE2 : mEr [27] r r8 := hE2
        have hP : va_P D vwCl (xW cy a i r8 q (a 20) (a 12) ++ tl) H1 := hP
        have hD : va_D A (xW cy a i r8 q (a 20) (a 12) ++ tl) := hD
        have hEr : mEr [27] _ r8 := Er_tr hEr hE2 (by decide)
        have hqr_7 : r_7 = anB d9 fa9 := hr_7
        have ha9 : r_7 = anB d9 fa9 := hqr_7
        refine lv_if_eq (tgt := 111) hx hb dX11_reason_89 (by decide) (fun c_9 => ?_) (fun c_9 => ?_)
        · have c_9 : r_7.toInt = 0 := b_eq c_9
          refine lv_aload_n hx hb dX11_reason_111 rfl (lv_at hl 0 rfl) ?_
          refine va_get (D := D) (ci := 11) (v := .ref (a 29)) (C := RX11) (T := TX11) (N := 14) hx hb hT iX11 hown hK hP 0 rfl rfl 8 (by decide) (hT _ t_265) (fun _ h9 => h9) rfl dX11_reason_112 ?_
          refine va_get (D := D) (ci := 1) (v := .ref (a 33)) (C := RX1) (T := TX1) (N := 12) hx hb hT iX1 hown hK hP 29 rfl rfl 4 (by decide) (hT _ t_547) (fun _ h9 => h9) rfl dX11_reason_115 ?_
          refine lv_iload_n hx hb dX11_reason_118 rfl (lv_at hl 1 rfl) ?_
          refine va_iald hx hb hK hP 33 0 rfl rfl (vp_inI (by omega) (by omega)) dX11_reason_119 ?_
          refine lv_topi (fun v_10 ev_10 => ?_)
          have hgv_10 : 0 ≤ v_10.toInt ∧ v_10.toInt ≤ 7 := by rw [ev_10]; exact hRr 33 _
          have hsv_10 : v_10 = r 33 p0.toNatClampNeg := ev_10.trans (congrFun (hEr 33 (by decide)) _)
          have htv_10 : v_10.toInt = (r 33 p0.toNatClampNeg).toInt := congrArg Int32.toInt hsv_10
          refine lv_istore (lv' := [(4, .int v_10), (0, .ref (a 0)), (1, .int p0), (2, .int p1), (3, .int p2)]) hx hb dX11_reason_120 hl (by decide) rfl (fun ls hl => ?_)
          refine lv_iload hx hb dX11_reason_122 (lv_at hl 0 rfl) ?_
          refine lv_iconst (v := 1) hx hb dX11_reason_124 (by decide) ?_
          refine lv_iand hx hb dX11_reason_125 ?_
          refine lv_topi (fun v_11 ev_11 => ?_)
          have hmv_11 : 0 ≤ v_11.toInt ∧ v_11.toInt ≤ 1 := by rw [ev_11]; exact b_andm v_10 1 (by decide) (by decide)
          refine lv_if_eq (tgt := 142) hx hb dX11_reason_126 (by decide) (fun c_12 => ?_) (fun c_12 => ?_)
          · have c_12 : v_11.toInt = 0 := b_eq c_12
            refine lv_bipush (v := 8) hx hb dX11_reason_142 (by decide) ?_
            subst hQ
            have ha1 : ¬ anB d9 fa9 = 1 := fun h9 => by rw [← ha9] at h9; have h8 : r_7.toInt = 1 := (by rw [h9]; rfl); omega
            have hev9 : (v_10 &&& 1).toInt ≠ 0 ∧ (v_10 &&& 6).toInt ≠ 0 ↔ (r 33 p0.toNatClampNeg).toInt % 2 = 1 ∧ 1 < (r 33 p0.toNatClampNeg).toInt := by have h9 := evB (e := v_10) (by omega) rfl rfl; rw [htv_10] at h9; exact h9
            exact W.iret (v := 8) hx hb hr (fun t ht hW => ⟨⟨_, r8, rfl, ⟨hRr, hEr, ⟨(awR_8 (show p2.toInt ≠ 0 by omega) (show ¬ p2.toInt ≤ (r 35 p0.toNatClampNeg).toInt by rw [← htv_2]; omega) (show ¬ ((r 36 p0.toNatClampNeg).toInt = -1 ∨ p1.toInt < (r 36 p0.toNatClampNeg).toInt) by omega) ha1 (fun h9 => by have h8 := hev9.mpr h9; have h7 : v_11.toInt = (v_10 &&& 1).toInt := congrArg Int32.toInt ev_11; have h5 := h8.1; have h4 := h8.2; omega)).symm, by decide⟩⟩, by rw [ht]; exact hP, va_K.moved hW.alike hK, hD⟩, hS.F ht⟩) hS.2.2 dX11_reason_144
          · have c_12 : v_11.toInt ≠ 0 := b_ne c_12
            refine lv_iload hx hb dX11_reason_129 (lv_at hl 0 rfl) ?_
            refine lv_bipush (v := 6) hx hb dX11_reason_131 (by decide) ?_
            refine lv_iand hx hb dX11_reason_133 ?_
            refine lv_topi (fun v_13 ev_13 => ?_)
            refine lv_if_eq (tgt := 142) hx hb dX11_reason_134 (by decide) (fun c_14 => ?_) (fun c_14 => ?_)
            · have c_14 : v_13.toInt = 0 := b_eq c_14
              refine lv_bipush (v := 8) hx hb dX11_reason_142 (by decide) ?_
              subst hQ
              have ha1 : ¬ anB d9 fa9 = 1 := fun h9 => by rw [← ha9] at h9; have h8 : r_7.toInt = 1 := (by rw [h9]; rfl); omega
              have hev9 : (v_10 &&& 1).toInt ≠ 0 ∧ (v_10 &&& 6).toInt ≠ 0 ↔ (r 33 p0.toNatClampNeg).toInt % 2 = 1 ∧ 1 < (r 33 p0.toNatClampNeg).toInt := by have h9 := evB (e := v_10) (by omega) rfl rfl; rw [htv_10] at h9; exact h9
              exact W.iret (v := 8) hx hb hr (fun t ht hW => ⟨⟨_, r8, rfl, ⟨hRr, hEr, ⟨(awR_8 (show p2.toInt ≠ 0 by omega) (show ¬ p2.toInt ≤ (r 35 p0.toNatClampNeg).toInt by rw [← htv_2]; omega) (show ¬ ((r 36 p0.toNatClampNeg).toInt = -1 ∨ p1.toInt < (r 36 p0.toNatClampNeg).toInt) by omega) ha1 (fun h9 => by have h8 := hev9.mpr h9; have h7 : v_11.toInt = (v_10 &&& 1).toInt := congrArg Int32.toInt ev_11; have h6 : v_13.toInt = (v_10 &&& 6).toInt := congrArg Int32.toInt ev_13; have h5 := h8.1; have h4 := h8.2; omega)).symm, by decide⟩⟩, by rw [ht]; exact hP, va_K.moved hW.alike hK, hD⟩, hS.F ht⟩) hS.2.2 dX11_reason_144
            · have c_14 : v_13.toInt ≠ 0 := b_ne c_14
              refine lv_bipush (v := 7) hx hb dX11_reason_137 (by decide) ?_
              refine lv_goto (tgt := 144) hx hb dX11_reason_139 (by decide) ?_
              subst hQ
              have ha1 : ¬ anB d9 fa9 = 1 := fun h9 => by rw [← ha9] at h9; have h8 : r_7.toInt = 1 := (by rw [h9]; rfl); omega
              have hev9 : (v_10 &&& 1).toInt ≠ 0 ∧ (v_10 &&& 6).toInt ≠ 0 ↔ (r 33 p0.toNatClampNeg).toInt % 2 = 1 ∧ 1 < (r 33 p0.toNatClampNeg).toInt := by have h9 := evB (e := v_10) (by omega) rfl rfl; rw [htv_10] at h9; exact h9
              exact W.iret (v := 7) hx hb hr (fun t ht hW => ⟨⟨_, r8, rfl, ⟨hRr, hEr, ⟨(awR_7 (show p2.toInt ≠ 0 by omega) (show ¬ p2.toInt ≤ (r 35 p0.toNatClampNeg).toInt by rw [← htv_2]; omega) (show ¬ ((r 36 p0.toNatClampNeg).toInt = -1 ∨ p1.toInt < (r 36 p0.toNatClampNeg).toInt) by omega) ha1 (hev9.mp (by have h7 : v_11.toInt = (v_10 &&& 1).toInt := congrArg Int32.toInt ev_11; have h6 : v_13.toInt = (v_10 &&& 6).toInt := congrArg Int32.toInt ev_13; exact ⟨by omega, by omega⟩))).symm, by decide⟩⟩, by rw [ht]; exact hP, va_K.moved hW.alike hK, hD⟩, hS.F ht⟩) hS.2.2 dX11_reason_144
        · have c_9 : r_7.toInt ≠ 0 := b_ne c_9
          refine lv_aload_n hx hb dX11_reason_92 rfl (lv_at hl 0 rfl) ?_
          refine va_get (D := D) (ci := 11) (v := .ref (a 29)) (C := RX11) (T := TX11) (N := 14) hx hb hT iX11 hown hK hP 0 rfl rfl 8 (by decide) (hT _ t_265) (fun _ h9 => h9) rfl dX11_reason_93 ?_
          refine va_get (D := D) (ci := 1) (v := .ref (a 37)) (C := RX1) (T := TX1) (N := 12) hx hb hT iX1 hown hK hP 29 rfl rfl 8 (by decide) (hT _ t_284) (fun _ h9 => h9) rfl dX11_reason_96 ?_
          refine lv_iload_n hx hb dX11_reason_99 rfl (lv_at hl 1 rfl) ?_
          refine va_zald hx hb hK hP 37 2 rfl rfl (vp_inI (by omega) (by omega)) dX11_reason_100 ?_
          refine lv_topi (fun v_15 ev_15 => ?_)
          have hsv_15 : v_15 = r 37 p0.toNatClampNeg := ev_15.trans (congrFun (hEr 37 (by decide)) _)
          have htv_15 : v_15.toInt = (r 37 p0.toNatClampNeg).toInt := congrArg Int32.toInt hsv_15
          refine lv_if_eq (tgt := 109) hx hb dX11_reason_101 (by decide) (fun c_16 => ?_) (fun c_16 => ?_)
          · have c_16 : v_15.toInt = 0 := b_eq c_16
            refine lv_iconst (v := 5) hx hb dX11_reason_109 (by decide) ?_
            subst hQ
            have ha1 : anB d9 fa9 = 1 := anB_01.resolve_left (fun h9 => by rw [← ha9] at h9; have h8 : r_7.toInt = 0 := (by rw [h9]; rfl); omega)
            exact W.iret (v := 5) hx hb hr (fun t ht hW => ⟨⟨_, r8, rfl, ⟨hRr, hEr, ⟨(awR_5 (show p2.toInt ≠ 0 by omega) (show ¬ p2.toInt ≤ (r 35 p0.toNatClampNeg).toInt by rw [← htv_2]; omega) (show ¬ ((r 36 p0.toNatClampNeg).toInt = -1 ∨ p1.toInt < (r 36 p0.toNatClampNeg).toInt) by omega) ha1 (by rw [← htv_15]; omega)).symm, by decide⟩⟩, by rw [ht]; exact hP, va_K.moved hW.alike hK, hD⟩, hS.F ht⟩) hS.2.2 dX11_reason_110
          · have c_16 : v_15.toInt ≠ 0 := b_ne c_16
            refine lv_bipush (v := 6) hx hb dX11_reason_104 (by decide) ?_
            refine lv_goto (tgt := 110) hx hb dX11_reason_106 (by decide) ?_
            subst hQ
            have ha1 : anB d9 fa9 = 1 := anB_01.resolve_left (fun h9 => by rw [← ha9] at h9; have h8 : r_7.toInt = 0 := (by rw [h9]; rfl); omega)
            exact W.iret (v := 6) hx hb hr (fun t ht hW => ⟨⟨_, r8, rfl, ⟨hRr, hEr, ⟨(awR_6 (show p2.toInt ≠ 0 by omega) (show ¬ p2.toInt ≤ (r 35 p0.toNatClampNeg).toInt by rw [← htv_2]; omega) (show ¬ ((r 36 p0.toNatClampNeg).toInt = -1 ∨ p1.toInt < (r 36 p0.toNatClampNeg).toInt) by omega) ha1 (by rw [← htv_15]; omega)).symm, by decide⟩⟩, by rw [ht]; exact hP, va_K.moved hW.alike hK, hD⟩, hS.F ht⟩) hS.2.2 dX11_reason_110
      · skip
        refine lv_if_ne (tgt := 76) hx hb dX11_reason_30 (by decide) (fun c_17 => absurd (by decide) c_17) (fun c_17 => ?_)
        refine lv_aload_n hx hb dX11_reason_33 rfl (lv_at hl 0 rfl) ?_
        refine va_get (D := D) (ci := 11) (v := .ref (a 20)) (C := RX11) (T := TX11) (N := 14) hx hb hT iX11 hown hK hP 0 rfl rfl 6 (by decide) (hT _ t_516) (fun _ h9 => h9) rfl dX11_reason_34 ?_
        refine lv_bipush (v := 100) hx hb dX11_reason_37 (by decide) ?_
        refine lv_aload_n hx hb dX11_reason_39 rfl (lv_at hl 0 rfl) ?_
        refine va_get (D := D) (ci := 11) (v := .ref (a 28)) (C := RX11) (T := TX11) (N := 14) hx hb hT iX11 hown hK hP 0 rfl rfl 7 (by decide) (hT _ t_500) (fun _ h9 => h9) rfl dX11_reason_40 ?_
        refine lv_sipush (v := 999) hx hb dX11_reason_43 (by decide) ?_
        refine lv_sipush (v := 999) hx hb dX11_reason_46 (by decide) ?_
        have hF_18 := rF hD hS hA
        refine va_calli (va_runV (As := [.int 100, .ref (a 28), .int 999, .int 999]) (rest := []) ⟨hx, hb, hml, hown, hT⟩ (c_X5_amount9 l D cy a i r q tl 100 999 999 _ hRi hRr d9 fa9 (xLw_co hL9 rfl (hEr 21 (by decide)) (hEr 22 (by decide)) (hEr 23 (by decide)) (hEr 24 (by decide)) (hEr 25 (by decide)) (hEr 26 (by decide))) hG9 (by rw [hEr 28 (by decide)]; exact hf9) (by first | omega | decide) (by first | omega | decide)) (cwV 4 hT (gV t_517 t_518 t_519 t_520 t_367) rfl rfl rfl (by decide +kernel) ⟨Nat.le_of_ble_eq_true rfl, Nat.le_of_ble_eq_true rfl⟩) (rM_v hnw hP hK hD (va_recv hK hP (ci := 5) (q0 := 20) rfl rfl)) rfl rfl hl.1 rfl (lv_room (Nat.le_of_ble_eq_true rfl)) dX11_reason_49 ⟨Nat.le_of_ble_eq_true rfl, Nat.le_of_ble_eq_true rfl⟩) hS (fun q _ h => hF_18 q h) hF_18 (fun r_19 u_20 t H1 locs ht hvm hr_19 hB hz1 hk1 hS => ?_)
        obtain ⟨r20, rfl⟩ : ∃ z, z = u_20 := ⟨_, rfl⟩
        obtain ⟨hP, hK1, hD1⟩ := hB
        rw [ht] at hP
        have hD := hD1.weaken (fun k q _ h => hF_18 q.1 h)
        obtain ⟨hRr, hE2, hr_19⟩ := hr_19
        have hRr : yRr r20 := hRr
        have hE2 : mEr [27] r r20 := hE2
        have hP : va_P D vwCl (xW cy a i r20 q (a 20) (a 12) ++ tl) H1 := hP
        have hD : va_D A (xW cy a i r20 q (a 20) (a 12) ++ tl) := hD
        have hEr : mEr [27] _ r20 := Er_tr hEr hE2 (by decide)
        have hqr_19 : r_19 = byL d9 fa9 (100 : Int32) (999 : Int32) (999 : Int32) := hr_19
        have hb9 : r_19 = byL d9 fa9 100 999 999 := hqr_19
        refine lv_istore (lv' := [(4, .int r_19), (0, .ref (a 0)), (1, .int p0), (2, .int p1), (3, .int p2)]) hx hb dX11_reason_52 hl (by decide) rfl (fun ls hl => ?_)
        refine lv_iload_n hx hb dX11_reason_54 rfl (lv_at hl 3 rfl) ?_
        refine lv_aload_n hx hb dX11_reason_55 rfl (lv_at hl 1 rfl) ?_
        refine va_get (D := D) (ci := 11) (v := .ref (a 29)) (C := RX11) (T := TX11) (N := 14) hx hb hT iX11 hown hK hP 0 rfl rfl 8 (by decide) (hT _ t_265) (fun _ h9 => h9) rfl dX11_reason_56 ?_
        refine va_get (D := D) (ci := 1) (v := .ref (a 34)) (C := RX1) (T := TX1) (N := 12) hx hb hT iX1 hown hK hP 29 rfl rfl 5 (by decide) (hT _ t_282) (fun _ h9 => h9) rfl dX11_reason_59 ?_
        refine lv_iload_n hx hb dX11_reason_62 rfl (lv_at hl 2 rfl) ?_
        refine va_iald hx hb hK hP 34 0 rfl rfl (vp_inI (by omega) (by omega)) dX11_reason_63 ?_
        refine lv_topi (fun v_21 ev_21 => ?_)
        have hgv_21 : 0 ≤ v_21.toInt ∧ v_21.toInt ≤ 9999 := by rw [ev_21]; exact hRr 34 _
        have hsv_21 : v_21 = r 34 p0.toNatClampNeg := ev_21.trans (congrFun (hEr 34 (by decide)) _)
        have htv_21 : v_21.toInt = (r 34 p0.toNatClampNeg).toInt := congrArg Int32.toInt hsv_21
        refine lv_isub hx hb dX11_reason_64 ?_
        refine lv_topi (fun v_22 ev_22 => ?_)
        refine lv_iload hx hb dX11_reason_65 (lv_at hl 0 rfl) ?_
        refine lv_icmp_le (tgt := 74) hx hb dX11_reason_67 (by decide) (fun c_23 => ?_) (fun c_23 => ?_)
        · have c_23 : v_22.toInt ≤ r_19.toInt := b_le c_23
          refine lv_iconst (v := 4) hx hb dX11_reason_74 (by decide) ?_
          subst hQ
          exact W.iret (v := 4) hx hb hr (fun t ht hW => ⟨⟨_, r20, rfl, ⟨hRr, hEr, ⟨(awR_4 (show p2.toInt ≠ 0 by omega) (show ¬ p2.toInt ≤ (r 35 p0.toNatClampNeg).toInt by rw [← htv_2]; omega) (show (r 36 p0.toNatClampNeg).toInt = -1 ∨ p1.toInt < (r 36 p0.toNatClampNeg).toInt by omega) (by rw [← hb9, ← hsv_21, ← ev_22]; omega)).symm, by decide⟩⟩, by rw [ht]; exact hP, va_K.moved hW.alike hK, hD⟩, hS.F ht⟩) hS.2.2 dX11_reason_75
        · have c_23 : r_19.toInt < v_22.toInt := b_nle c_23
          refine lv_iconst (v := 3) hx hb dX11_reason_70 (by decide) ?_
          refine lv_goto (tgt := 75) hx hb dX11_reason_71 (by decide) ?_
          subst hQ
          exact W.iret (v := 3) hx hb hr (fun t ht hW => ⟨⟨_, r20, rfl, ⟨hRr, hEr, ⟨(awR_3 (show p2.toInt ≠ 0 by omega) (show ¬ p2.toInt ≤ (r 35 p0.toNatClampNeg).toInt by rw [← htv_2]; omega) (show (r 36 p0.toNatClampNeg).toInt = -1 ∨ p1.toInt < (r 36 p0.toNatClampNeg).toInt by omega) (by rw [← hb9, ← hsv_21, ← ev_22]; omega)).symm, by decide⟩⟩, by rw [ht]; exact hP, va_K.moved hW.alike hK, hD⟩, hS.F ht⟩) hS.2.2 dX11_reason_75
    · have c_3 : p2.toInt ≤ v_2.toInt := b_nlt c_3
      refine lv_iconst (v := 2) hx hb dX11_reason_19 (by decide) ?_
      subst hQ
      exact W.iret (v := 2) hx hb hr (fun t ht hW => ⟨⟨_, r, rfl, ⟨hRr, hEr, ⟨(awR_2 (show p2.toInt ≠ 0 by omega) (show p2.toInt ≤ (r 35 p0.toNatClampNeg).toInt by rw [← htv_2]; omega)).symm, by decide⟩⟩, by rw [ht]; exact hP, va_K.moved hW.alike hK, hD⟩, hS.F ht⟩) hS.2.2 dX11_reason_20
  · have c_1 : p2.toInt = 0 := b_nne c_1
    refine lv_iconst (v := 1) hx hb dX11_reason_4 (by decide) ?_
    subst hQ
    exact W.iret (v := 1) hx hb hr (fun t ht hW => ⟨⟨_, r, rfl, ⟨hRr, hEr, ⟨(awR_1 (show p2.toInt = 0 by omega)).symm, by decide⟩⟩, by rw [ht]; exact hP, va_K.moved hW.alike hK, hD⟩, hS.F ht⟩) hS.2.2 dX11_reason_5
set_option maxHeartbeats 4000000 in
set_option maxRecDepth 100000 in
theorem c_X11_awarded9 (l : Launch) (D : va_G) (cy : Nat → ClassId) (a : Nat → Nat) (i : Nat → Int32) (r : Nat → Nat → Int32) (q : Nat → Option Nat) (tl : va_W) (p0 p1 p2 : Int32) (sz : Nat) (hRi : yRi i) (hRr : yRr r) (q0 : 0 ≤ p0.toInt ∧ p0.toInt ≤ 29) (q1 : 1 ≤ p1.toInt ∧ p1.toInt ≤ 8) (d9 : lwT) (fa9 : Nat → Int32) (hL9 : xLw d9 i r) (hG9 : gLw d9) (hf9 : ∀ k, k < 10 → r 28 k = fa9 k) : Met l yX11_awarded (Cond.code yX11_awarded cX11_awarded 5 (some .int) :: gT) { frames := 4, cells := 0, slots := 0, locals := 100 } (va_Pc [.ref (a 0), .int p0, .int p1, .int p2] (rM D cy (xW cy a i r q (a 20) (a 12) ++ tl) sz)) (va_Qi (fun (z : Int32) (u : Nat → Nat → Int32) => yRr u ∧ mEr [27] r u ∧ (z = awV d9 fa9 p2 (r 35 p0.toNatClampNeg) p1)) (fun (u : Nat → Nat → Int32) t => va_P D vwCl (xW cy a i u q (a 20) (a 12) ++ tl) t.heap ∧ va_K D vwCl (vT cy) t ∧ va_D (va_A (xW cy a i r q (a 20) (a 12) ++ tl) sz) (xW cy a i u q (a 20) (a 12) ++ tl)) (va_A (xW cy a i r q (a 20) (a 12) ++ tl) sz)) 0 0 (va_A (xW cy a i r q (a 20) (a 12) ++ tl) sz) := by
  refine Met.ofQ (cc := cX11_awarded) (maxL := 5) (ret := (some .int)) (by decide) rfl ?_
  intro p e s m args below meth c s₁ B hml hv Q hQ
  obtain ⟨rfl, hnw, hsz, hP, hK, hD0⟩ := hv
  have hx := B.exec
  have hb := B.bytes
  have hr := B.returns
  have hlocks := B.notSynchronized
  have hT : ∀ w ∈ gT, w.before _ s = true := fun w h => atoms_spec (ws := (Cond.code yX11_awarded cX11_awarded 5 (some .int) :: gT)) B.pre w (List.mem_cons_of_mem _ h)
  have hown : s.vm.findClass RX11 = some m.cls := findClass_of_methodNamed B.named
  subst hsz
  have hD := hD0.self (sz := s.heap.size)
  generalize hAe : va_A (xW cy a i r q (a 20) (a 12) ++ tl) s.heap.size = A at hD hQ
  have hA : ∀ q : Nat, s.heap.size ≤ q → A q := fun q h => by rw [← hAe]; exact Or.inr h
  have hS : va_S A s.heap s.heap [] := va_S.rf
  have hl := lv_entry ([.ref (a 0), .int p0, .int p1, .int p2]) (n := 5) (Nat.le_of_ble_eq_true rfl)
  rw [lg_entry_eq]
  generalize (lg_sl ([.ref (a 0), .int p0, .int p1, .int p2]) ++ List.replicate (5 - (lg_sl ([.ref (a 0), .int p0, .int p1, .int p2])).length) Slot.unset).toArray = ls at hl ⊢
  have hl : lv_has ls 5 [(0, .ref (a 0)), (1, .int p0), (2, .int p1), (3, .int p2)] := hl
  have hEi : mEi [] i i := Ei_rf
  have hEr : mEr [27] r r := Er_rf
  refine lv_aload_n hx hb dX11_awarded_0 rfl (lv_at hl 0 rfl) ?_
  refine va_get (D := D) (ci := 11) (v := .ref (a 29)) (C := RX11) (T := TX11) (N := 14) hx hb hT iX11 hown hK hP 0 rfl rfl 8 (by decide) (hT _ t_265) (fun _ h9 => h9) rfl dX11_awarded_1 ?_
  refine va_get (D := D) (ci := 1) (v := .ref (a 35)) (C := RX1) (T := TX1) (N := 12) hx hb hT iX1 hown hK hP 29 rfl rfl 6 (by decide) (hT _ t_278) (fun _ h9 => h9) rfl dX11_awarded_4 ?_
  refine lv_iload_n hx hb dX11_awarded_7 rfl (lv_at hl 1 rfl) ?_
  refine va_iald hx hb hK hP 35 0 rfl rfl (vp_inI (by omega) (by omega)) dX11_awarded_8 ?_
  refine lv_topi (fun v_1 ev_1 => ?_)
  have hgv_1 : 0 ≤ v_1.toInt ∧ v_1.toInt ≤ 999999 := by rw [ev_1]; exact hRr 35 _
  have hsv_1 : v_1 = r 35 p0.toNatClampNeg := ev_1.trans (congrFun (hEr 35 (by decide)) _)
  have htv_1 : v_1.toInt = (r 35 p0.toNatClampNeg).toInt := congrArg Int32.toInt hsv_1
  refine lv_istore (lv' := [(4, .int v_1), (0, .ref (a 0)), (1, .int p0), (2, .int p1), (3, .int p2)]) hx hb dX11_awarded_9 hl (by decide) rfl (fun ls hl => ?_)
  refine lv_iload_n hx hb dX11_awarded_11 rfl (lv_at hl 3 rfl) ?_
  rcases (show (p1.toInt < 1 ∨ 7 < p1.toInt) ∨ p1.toInt = 1 ∨ p1.toInt = 2 ∨ p1.toInt = 3 ∨ p1.toInt = 4 ∨ p1.toInt = 5 ∨ p1.toInt = 6 ∨ p1.toInt = 7 by omega) with h_2 | h_2 | h_2 | h_2 | h_2 | h_2 | h_2 | h_2
  · refine lv_tableOut (tgt := 88) hx hb dX11_awarded_12 h_2 (by decide) ?_
    refine lv_iload hx hb dX11_awarded_88 (lv_at hl 0 rfl) ?_
    subst hQ
    exact W.iret (v := v_1) hx hb hr (fun t ht hW => ⟨⟨_, r, rfl, ⟨hRr, hEr, (hsv_1.trans (awV_o (by omega)).symm)⟩, by rw [ht]; exact hP, va_K.moved hW.alike hK, hD⟩, hS.F ht⟩) hS.2.2 dX11_awarded_90
  · refine lv_tableIn (off := 44) (tgt := 56) hx hb dX11_awarded_12 (by omega) (by omega) (by rw [h_2]; rfl) (by decide) ?_
    refine lv_iconst (v := 0) hx hb dX11_awarded_56 (by decide) ?_
    subst hQ
    exact W.iret (v := 0) hx hb hr (fun t ht hW => ⟨⟨_, r, rfl, ⟨hRr, hEr, (awV_1 (by omega)).symm⟩, by rw [ht]; exact hP, va_K.moved hW.alike hK, hD⟩, hS.F ht⟩) hS.2.2 dX11_awarded_57
  · refine lv_tableIn (off := 46) (tgt := 58) hx hb dX11_awarded_12 (by omega) (by omega) (by rw [h_2]; rfl) (by decide) ?_
    refine lv_iload_n hx hb dX11_awarded_58 rfl (lv_at hl 4 rfl) ?_
    subst hQ
    exact W.iret (v := p2) hx hb hr (fun t ht hW => ⟨⟨_, r, rfl, ⟨hRr, hEr, (awV_23 (by omega)).symm⟩, by rw [ht]; exact hP, va_K.moved hW.alike hK, hD⟩, hS.F ht⟩) hS.2.2 dX11_awarded_59
  · refine lv_tableIn (off := 46) (tgt := 58) hx hb dX11_awarded_12 (by omega) (by omega) (by rw [h_2]; rfl) (by decide) ?_
    refine lv_iload_n hx hb dX11_awarded_58 rfl (lv_at hl 4 rfl) ?_
    subst hQ
    exact W.iret (v := p2) hx hb hr (fun t ht hW => ⟨⟨_, r, rfl, ⟨hRr, hEr, (awV_23 (by omega)).symm⟩, by rw [ht]; exact hP, va_K.moved hW.alike hK, hD⟩, hS.F ht⟩) hS.2.2 dX11_awarded_59
  · refine lv_tableIn (off := 76) (tgt := 88) hx hb dX11_awarded_12 (by omega) (by omega) (by rw [h_2]; rfl) (by decide) ?_
    refine lv_iload hx hb dX11_awarded_88 (lv_at hl 0 rfl) ?_
    subst hQ
    exact W.iret (v := v_1) hx hb hr (fun t ht hW => ⟨⟨_, r, rfl, ⟨hRr, hEr, (hsv_1.trans (awV_o (by omega)).symm)⟩, by rw [ht]; exact hP, va_K.moved hW.alike hK, hD⟩, hS.F ht⟩) hS.2.2 dX11_awarded_90
  · refine lv_tableIn (off := 48) (tgt := 60) hx hb dX11_awarded_12 (by omega) (by omega) (by rw [h_2]; rfl) (by decide) ?_
    refine lv_iload hx hb dX11_awarded_60 (lv_at hl 0 rfl) ?_
    refine lv_iload_n hx hb dX11_awarded_62 rfl (lv_at hl 4 rfl) ?_
    refine lv_aload_n hx hb dX11_awarded_63 rfl (lv_at hl 1 rfl) ?_
    refine va_get (D := D) (ci := 11) (v := .ref (a 20)) (C := RX11) (T := TX11) (N := 14) hx hb hT iX11 hown hK hP 0 rfl rfl 6 (by decide) (hT _ t_516) (fun _ h9 => h9) rfl dX11_awarded_64 ?_
    refine lv_bipush (v := 112) hx hb dX11_awarded_67 (by decide) ?_
    refine lv_aload_n hx hb dX11_awarded_69 rfl (lv_at hl 1 rfl) ?_
    refine va_get (D := D) (ci := 11) (v := .ref (a 28)) (C := RX11) (T := TX11) (N := 14) hx hb hT iX11 hown hK hP 0 rfl rfl 7 (by decide) (hT _ t_500) (fun _ h9 => h9) rfl dX11_awarded_70 ?_
    refine lv_bipush (v := 100) hx hb dX11_awarded_73 (by decide) ?_
    refine lv_bipush (v := 100) hx hb dX11_awarded_75 (by decide) ?_
    have hF_3 := rF hD hS hA
    refine va_calli (va_runV (As := [.int 112, .ref (a 28), .int 100, .int 100]) (rest := [.int p2, .int v_1]) ⟨hx, hb, hml, hown, hT⟩ (c_X5_amount9 l D cy a i r q tl 112 100 100 _ hRi hRr d9 fa9 (xLw_co hL9 rfl (hEr 21 (by decide)) (hEr 22 (by decide)) (hEr 23 (by decide)) (hEr 24 (by decide)) (hEr 25 (by decide)) (hEr 26 (by decide))) hG9 (by rw [hEr 28 (by decide)]; exact hf9) (by first | omega | decide) (by first | omega | decide)) (cwV 4 hT (gV t_517 t_518 t_519 t_520 t_367) rfl rfl rfl (by decide +kernel) ⟨Nat.le_of_ble_eq_true rfl, Nat.le_of_ble_eq_true rfl⟩) (rM_v hnw hP hK hD (va_recv hK hP (ci := 5) (q0 := 20) rfl rfl)) rfl rfl hl.1 rfl (lv_room (Nat.le_of_ble_eq_true rfl)) dX11_awarded_77 ⟨Nat.le_of_ble_eq_true rfl, Nat.le_of_ble_eq_true rfl⟩) hS (fun q _ h => hF_3 q h) hF_3 (fun r_4 u_5 t H1 locs ht hvm hr_4 hB hz1 hk1 hS => ?_)
    obtain ⟨r5, rfl⟩ : ∃ z, z = u_5 := ⟨_, rfl⟩
    obtain ⟨hP, hK1, hD1⟩ := hB
    rw [ht] at hP
    have hD := hD1.weaken (fun k q _ h => hF_3 q.1 h)
    obtain ⟨hRr, hE2, hr_4⟩ := hr_4
    have hRr : yRr r5 := hRr
    have hE2 : mEr [27] r r5 := hE2
    have hP : va_P D vwCl (xW cy a i r5 q (a 20) (a 12) ++ tl) H1 := hP
    have hD : va_D A (xW cy a i r5 q (a 20) (a 12) ++ tl) := hD
    have hEr : mEr [27] _ r5 := Er_tr hEr hE2 (by decide)
    have hqr_4 : r_4 = byL d9 fa9 (112 : Int32) (100 : Int32) (100 : Int32) := hr_4
    have hb9 : r_4 = byL d9 fa9 112 100 100 := hqr_4
    refine lv_imul hx hb dX11_awarded_80 ?_
    refine lv_topi (fun v_6 ev_6 => ?_)
    refine lv_bipush (v := 100) hx hb dX11_awarded_81 (by decide) ?_
    refine lv_idiv hx hb dX11_awarded_83 (by decide) ?_
    refine lv_topi (fun v_7 ev_7 => ?_)
    refine va_mmax hx hb (by rw [hml]; exact hl.1.symm) hown (hT _ t_521) (hT _ t_307) (hT _ t_289) (hT _ t_308) (Nat.le_of_ble_eq_true rfl) (Nat.le_of_ble_eq_true rfl) (Nat.le_of_ble_eq_true rfl) (Nat.le_of_ble_eq_true rfl) dX11_awarded_84 ?_
    refine lv_topi (fun v_8 ev_8 => ?_)
    subst hQ
    have hx9 : v_6 = p2 * byL d9 fa9 112 100 100 := by rw [ev_6, hb9]
    have hm9 := mx_a ev_8
    rw [hsv_1] at hm9
    have hp9 : v_8 = awP d9 fa9 p2 (r 35 p0.toNatClampNeg) := by
      rw [hm9]
      by_cases h8 : v_7.toInt < (r 35 p0.toNatClampNeg).toInt
      · rw [if_pos h8]; exact awP_g hx9 ev_7 h8
      · rw [if_neg h8]; exact awP_n hx9 ev_7 h8
    exact W.iret (v := v_8) hx hb hr (fun t ht hW => ⟨⟨_, r5, rfl, ⟨hRr, hEr, (hp9.trans (awV_57 (by omega)).symm)⟩, by rw [ht]; exact hP, va_K.moved hW.alike hK, hD⟩, hS.F ht⟩) hS.2.2 dX11_awarded_87
  · refine lv_tableIn (off := 76) (tgt := 88) hx hb dX11_awarded_12 (by omega) (by omega) (by rw [h_2]; rfl) (by decide) ?_
    refine lv_iload hx hb dX11_awarded_88 (lv_at hl 0 rfl) ?_
    subst hQ
    exact W.iret (v := v_1) hx hb hr (fun t ht hW => ⟨⟨_, r, rfl, ⟨hRr, hEr, (hsv_1.trans (awV_o (by omega)).symm)⟩, by rw [ht]; exact hP, va_K.moved hW.alike hK, hD⟩, hS.F ht⟩) hS.2.2 dX11_awarded_90
  · refine lv_tableIn (off := 48) (tgt := 60) hx hb dX11_awarded_12 (by omega) (by omega) (by rw [h_2]; rfl) (by decide) ?_
    refine lv_iload hx hb dX11_awarded_60 (lv_at hl 0 rfl) ?_
    refine lv_iload_n hx hb dX11_awarded_62 rfl (lv_at hl 4 rfl) ?_
    refine lv_aload_n hx hb dX11_awarded_63 rfl (lv_at hl 1 rfl) ?_
    refine va_get (D := D) (ci := 11) (v := .ref (a 20)) (C := RX11) (T := TX11) (N := 14) hx hb hT iX11 hown hK hP 0 rfl rfl 6 (by decide) (hT _ t_516) (fun _ h9 => h9) rfl dX11_awarded_64 ?_
    refine lv_bipush (v := 112) hx hb dX11_awarded_67 (by decide) ?_
    refine lv_aload_n hx hb dX11_awarded_69 rfl (lv_at hl 1 rfl) ?_
    refine va_get (D := D) (ci := 11) (v := .ref (a 28)) (C := RX11) (T := TX11) (N := 14) hx hb hT iX11 hown hK hP 0 rfl rfl 7 (by decide) (hT _ t_500) (fun _ h9 => h9) rfl dX11_awarded_70 ?_
    refine lv_bipush (v := 100) hx hb dX11_awarded_73 (by decide) ?_
    refine lv_bipush (v := 100) hx hb dX11_awarded_75 (by decide) ?_
    have hF_9 := rF hD hS hA
    refine va_calli (va_runV (As := [.int 112, .ref (a 28), .int 100, .int 100]) (rest := [.int p2, .int v_1]) ⟨hx, hb, hml, hown, hT⟩ (c_X5_amount9 l D cy a i r q tl 112 100 100 _ hRi hRr d9 fa9 (xLw_co hL9 rfl (hEr 21 (by decide)) (hEr 22 (by decide)) (hEr 23 (by decide)) (hEr 24 (by decide)) (hEr 25 (by decide)) (hEr 26 (by decide))) hG9 (by rw [hEr 28 (by decide)]; exact hf9) (by first | omega | decide) (by first | omega | decide)) (cwV 4 hT (gV t_517 t_518 t_519 t_520 t_367) rfl rfl rfl (by decide +kernel) ⟨Nat.le_of_ble_eq_true rfl, Nat.le_of_ble_eq_true rfl⟩) (rM_v hnw hP hK hD (va_recv hK hP (ci := 5) (q0 := 20) rfl rfl)) rfl rfl hl.1 rfl (lv_room (Nat.le_of_ble_eq_true rfl)) dX11_awarded_77 ⟨Nat.le_of_ble_eq_true rfl, Nat.le_of_ble_eq_true rfl⟩) hS (fun q _ h => hF_9 q h) hF_9 (fun r_10 u_11 t H1 locs ht hvm hr_10 hB hz1 hk1 hS => ?_)
    obtain ⟨r11, rfl⟩ : ∃ z, z = u_11 := ⟨_, rfl⟩
    obtain ⟨hP, hK1, hD1⟩ := hB
    rw [ht] at hP
    have hD := hD1.weaken (fun k q _ h => hF_9 q.1 h)
    obtain ⟨hRr, hE2, hr_10⟩ := hr_10
    have hRr : yRr r11 := hRr
    have hE2 : mEr [27] r r11 := hE2
    have hP : va_P D vwCl (xW cy a i r11 q (a 20) (a 12) ++ tl) H1 := hP
    have hD : va_D A (xW cy a i r11 q (a 20) (a 12) ++ tl) := hD
    have hEr : mEr [27] _ r11 := Er_tr hEr hE2 (by decide)
    have hqr_10 : r_10 = byL d9 fa9 (112 : Int32) (100 : Int32) (100 : Int32) := hr_10
    have hb9 : r_10 = byL d9 fa9 112 100 100 := hqr_10
    refine lv_imul hx hb dX11_awarded_80 ?_
    refine lv_topi (fun v_12 ev_12 => ?_)
    refine lv_bipush (v := 100) hx hb dX11_awarded_81 (by decide) ?_
    refine lv_idiv hx hb dX11_awarded_83 (by decide) ?_
    refine lv_topi (fun v_13 ev_13 => ?_)
    refine va_mmax hx hb (by rw [hml]; exact hl.1.symm) hown (hT _ t_521) (hT _ t_307) (hT _ t_289) (hT _ t_308) (Nat.le_of_ble_eq_true rfl) (Nat.le_of_ble_eq_true rfl) (Nat.le_of_ble_eq_true rfl) (Nat.le_of_ble_eq_true rfl) dX11_awarded_84 ?_
    refine lv_topi (fun v_14 ev_14 => ?_)
    subst hQ
    have hx9 : v_12 = p2 * byL d9 fa9 112 100 100 := by rw [ev_12, hb9]
    have hm9 := mx_a ev_14
    rw [hsv_1] at hm9
    have hp9 : v_14 = awP d9 fa9 p2 (r 35 p0.toNatClampNeg) := by
      rw [hm9]
      by_cases h8 : v_13.toInt < (r 35 p0.toNatClampNeg).toInt
      · rw [if_pos h8]; exact awP_g hx9 ev_13 h8
      · rw [if_neg h8]; exact awP_n hx9 ev_13 h8
    exact W.iret (v := v_14) hx hb hr (fun t ht hW => ⟨⟨_, r11, rfl, ⟨hRr, hEr, (hp9.trans (awV_57 (by omega)).symm)⟩, by rw [ht]; exact hP, va_K.moved hW.alike hK, hD⟩, hS.F ht⟩) hS.2.2 dX11_awarded_87
set_option maxHeartbeats 4000000 in
set_option maxRecDepth 100000 in
theorem c_X11_award_y9 (l : Launch) (D : va_G) (cy : Nat → ClassId) (a : Nat → Nat) (i : Nat → Int32) (r : Nat → Nat → Int32) (q : Nat → Option Nat) (tl : va_W) (p0 p1 p2 : Int32) (sz : Nat) (hRi : yRi i) (hRr : yRr r) (hc : 0 ≤ p0.toInt ∧ p0.toInt < (i 10).toInt) (hh : (r 30 p0.toNatClampNeg).toInt < (i 0).toInt) (hq : q (r 30 p0.toNatClampNeg).toNatClampNeg = some (a 61)) (d9 : lwT) (hL9 : xLw d9 i r) (hG9 : gLw d9) (hgd : 1 ≤ (r 68 (r 31 p0.toNatClampNeg).toNatClampNeg).toInt ∧ 0 < (r 2 (r 67 (r 31 p0.toNatClampNeg).toNatClampNeg).toNatClampNeg).toInt) : Met l yX11_award (Cond.code yX11_award cX11_award 8 (some .int) :: gT) { frames := 5, cells := 0, slots := 0, locals := 124 } (va_Pc [.ref (a 0), .int p0, .int p1, .int p2] (rM D cy (xW cy a i r q (a 20) (a 12) ++ (hW cy a i r ++ tl)) sz)) (va_Qi (fun (z : Int32) (u : Nat → Nat → Int32) => yRr u ∧ mEr [27, 28] r u ∧ ((((0 ≤ p1.toInt ∧ p1.toInt ≤ 9999) ∧ (0 ≤ p2.toInt ∧ p2.toInt ≤ 1)) → ((p1.toInt < (r 34 p0.toNatClampNeg).toInt → z = -2) ∧ ((r 34 p0.toNatClampNeg).toInt ≤ p1.toInt → (p2.toInt = 0 → z = xAV d9 i r p0.toNatClampNeg p1) ∧ (p2.toInt = 1 → z = xAR d9 i r p0.toNatClampNeg p1)))) ∧ (¬ ((0 ≤ p1.toInt ∧ p1.toInt ≤ 9999) ∧ (0 ≤ p2.toInt ∧ p2.toInt ≤ 1)) → z = -1))) (fun (u : Nat → Nat → Int32) t => va_P D vwCl (xW cy a i u q (a 20) (a 12) ++ (hW cy a i u ++ tl)) t.heap ∧ va_K D vwCl (vT cy) t ∧ va_D (va_A (xW cy a i r q (a 20) (a 12) ++ (hW cy a i r ++ tl)) sz) (xW cy a i u q (a 20) (a 12) ++ (hW cy a i u ++ tl))) (va_A (xW cy a i r q (a 20) (a 12) ++ (hW cy a i r ++ tl)) sz)) 0 0 (va_A (xW cy a i r q (a 20) (a 12) ++ (hW cy a i r ++ tl)) sz) := by
  refine Met.ofQ (cc := cX11_award) (maxL := 8) (ret := (some .int)) (by decide) rfl ?_
  intro p e s m args below meth c s₁ B hml hv Q hQ
  obtain ⟨rfl, hnw, hsz, hP, hK, hD0⟩ := hv
  have hx := B.exec
  have hb := B.bytes
  have hr := B.returns
  have hlocks := B.notSynchronized
  have hT : ∀ w ∈ gT, w.before _ s = true := fun w h => atoms_spec (ws := (Cond.code yX11_award cX11_award 8 (some .int) :: gT)) B.pre w (List.mem_cons_of_mem _ h)
  have hown : s.vm.findClass RX11 = some m.cls := findClass_of_methodNamed B.named
  subst hsz
  have hD := hD0.self (sz := s.heap.size)
  generalize hAe : va_A (xW cy a i r q (a 20) (a 12) ++ (hW cy a i r ++ tl)) s.heap.size = A at hD hQ
  have hA : ∀ q : Nat, s.heap.size ≤ q → A q := fun q h => by rw [← hAe]; exact Or.inr h
  have hS : va_S A s.heap s.heap [] := va_S.rf
  have hl := lv_entry ([.ref (a 0), .int p0, .int p1, .int p2]) (n := 8) (Nat.le_of_ble_eq_true rfl)
  rw [lg_entry_eq]
  generalize (lg_sl ([.ref (a 0), .int p0, .int p1, .int p2]) ++ List.replicate (8 - (lg_sl ([.ref (a 0), .int p0, .int p1, .int p2])).length) Slot.unset).toArray = ls at hl ⊢
  have hl : lv_has ls 8 [(0, .ref (a 0)), (1, .int p0), (2, .int p1), (3, .int p2)] := hl
  have hEi : mEi [] i i := Ei_rf
  have hEr : mEr [27, 28] r r := Er_rf
  have hg0 : 0 ≤ (i 0).toInt ∧ (i 0).toInt ≤ 6 := hRi 0
  have hg10 : 0 ≤ (i 10).toInt ∧ (i 10).toInt ≤ 30 := hRi 10
  refine lv_aload_n hx hb dX11_award_0 rfl (lv_at hl 0 rfl) ?_
  refine lv_iload_n hx hb dX11_award_1 rfl (lv_at hl 1 rfl) ?_
  refine vp_callSi (W.runV (As := [.int p0]) (rest := []) ⟨hx, hb, hml, hown, hT⟩ (c_X11_isClaim l D cy a i r q (hW cy a i r ++ tl) p0 hRi hRr) (cwV 1 hT (gV t_273 t_274 t_275 t_276 t_2) rfl rfl rfl (by decide +kernel) ⟨Nat.le_of_ble_eq_true rfl, Nat.le_of_ble_eq_true rfl⟩) (rP_v hP hK (va_recv hK hP (ci := 11) (q0 := 0) rfl rfl)) rfl rfl hl.1 rfl (lv_room (Nat.le_of_ble_eq_true rfl)) dX11_award_2 ⟨Nat.le_of_ble_eq_true rfl, Nat.le_of_ble_eq_true rfl⟩) (fun r_1 hr_1 => ?_)
  have hg_2 : 0 ≤ (i 10).toInt ∧ (i 10).toInt ≤ 30 := hRi 10
  have hr_1 : BR r_1 (0 ≤ p0.toInt ∧ p0.toInt < (i 10).toInt) 1 0 := hr_1
  rcases hr_1 with ⟨rfl, h_3⟩ | ⟨rfl, h_3⟩
  · skip
    refine lv_if_eq (tgt := 24) hx hb dX11_award_5 (by decide) (fun c_4 => absurd c_4 (by decide)) (fun c_4 => ?_)
    refine lv_aload_n hx hb dX11_award_8 rfl (lv_at hl 0 rfl) ?_
    refine lv_aload_n hx hb dX11_award_9 rfl (lv_at hl 0 rfl) ?_
    refine va_get (D := D) (ci := 11) (v := .ref (a 29)) (C := RX11) (T := TX11) (N := 14) hx hb hT iX11 hown hK hP 0 rfl rfl 8 (by decide) (hT _ t_265) (fun _ h9 => h9) rfl dX11_award_10 ?_
    refine va_get (D := D) (ci := 1) (v := .ref (a 30)) (C := RX1) (T := TX1) (N := 12) hx hb hT iX1 hown hK hP 29 rfl rfl 1 (by decide) (hT _ t_548) (fun _ h9 => h9) rfl dX11_award_13 ?_
    refine lv_iload_n hx hb dX11_award_16 rfl (lv_at hl 1 rfl) ?_
    refine va_iald hx hb hK hP 30 0 rfl rfl (vp_inI (by omega) (by omega)) dX11_award_17 ?_
    refine lv_topi (fun v_5 ev_5 => ?_)
    have hgv_5 : 0 ≤ v_5.toInt ∧ v_5.toInt ≤ 5 := by rw [ev_5]; exact hRr 30 _
    refine va_csq (W.runV (As := [.int v_5]) (rest := []) ⟨hx, hb, hml, hown, hT⟩ (c_X11_homeAt l D cy a i r q (hW cy a i r ++ tl) v_5 hRi hRr) (cwV 1 hT (gV t_443 t_444 t_445 t_446 t_2) rfl rfl rfl (by decide +kernel) ⟨Nat.le_of_ble_eq_true rfl, Nat.le_of_ble_eq_true rfl⟩) (rP_v hP hK (va_recv hK hP (ci := 11) (q0 := 0) rfl rfl)) rfl rfl hl.1 rfl (lv_room (Nat.le_of_ble_eq_true rfl)) dX11_award_18 ⟨Nat.le_of_ble_eq_true rfl, Nat.le_of_ble_eq_true rfl⟩) (fun r_6 hr_6 => ?_)
    obtain rfl : r_6 = some (a 61) := (hr_6.1 (by rw [ev_5]; exact ⟨(hRr 30 _).1, hh⟩)).trans (by rw [ev_5]; exact hq)
    refine W.eq (g2 := F0 m 21 ls [.ref (a 61)]) rfl ?_
    refine lv_goto (tgt := 25) hx hb dX11_award_21 (by decide) ?_
    refine lv_astore (lv' := [(4, .ref (a 61)), (0, .ref (a 0)), (1, .int p0), (2, .int p1), (3, .int p2)]) hx hb dX11_award_25 hl (by decide) rfl (fun ls hl => ?_)
    refine lv_aload hx hb dX11_award_27 (lv_at hl 0 rfl) ?_
    refine lv_ifnull hx hb dX11_award_29 ?_
    refine lv_iload_n hx hb dX11_award_32 rfl (lv_at hl 3 rfl) ?_
    refine vp_callSi (W.runS (As := [.int p1]) (rest := []) ⟨hx, hb, hml, hown, hT⟩ (c_X11_isDay l p1) (va_cwS 1 hT (gS t_279 t_280 t_281 t_2) rfl rfl rfl (by decide +kernel) ⟨Nat.le_of_ble_eq_true rfl, Nat.le_of_ble_eq_true rfl⟩) preT rfl rfl hl.1 rfl (lv_room (Nat.le_of_ble_eq_true rfl)) dX11_award_33 ⟨Nat.le_of_ble_eq_true rfl, Nat.le_of_ble_eq_true rfl⟩) (fun r_7 hr_7 => ?_)
    have hr_7 : BR r_7 (0 ≤ p1.toInt ∧ p1.toInt ≤ 9999) 1 0 := hr_7
    rcases hr_7 with ⟨rfl, h_8⟩ | ⟨rfl, h_8⟩
    · skip
      refine lv_if_eq (tgt := 48) hx hb dX11_award_36 (by decide) (fun c_9 => absurd c_9 (by decide)) (fun c_9 => ?_)
      refine lv_iload_n hx hb dX11_award_39 rfl (lv_at hl 4 rfl) ?_
      refine lv_iconst (v := 0) hx hb dX11_award_40 (by decide) ?_
      refine lv_iconst (v := 1) hx hb dX11_award_41 (by decide) ?_
      refine vp_callSi (W.runS (As := [.int p2, .int 0, .int 1]) (rest := []) ⟨hx, hb, hml, hown, hT⟩ (c_X11_within l p2 0 1) (va_cwS 3 hT (gS t_1 t_3 t_4 t_2) rfl rfl rfl (by decide +kernel) ⟨Nat.le_of_ble_eq_true rfl, Nat.le_of_ble_eq_true rfl⟩) preT rfl rfl hl.1 rfl (lv_room (Nat.le_of_ble_eq_true rfl)) dX11_award_42 ⟨Nat.le_of_ble_eq_true rfl, Nat.le_of_ble_eq_true rfl⟩) (fun r_10 hr_10 => ?_)
      have hr_10 : BR r_10 (0 ≤ p2.toInt ∧ p2.toInt ≤ 1) 1 0 := hr_10
      rcases hr_10 with ⟨rfl, h_11⟩ | ⟨rfl, h_11⟩
      · skip
        refine lv_if_ne (tgt := 50) hx hb dX11_award_45 (by decide) (fun c_12 => ?_) (fun c_12 => absurd c_12 (by decide))
        refine lv_iload_n hx hb dX11_award_50 rfl (lv_at hl 3 rfl) ?_
        refine lv_aload_n hx hb dX11_award_51 rfl (lv_at hl 1 rfl) ?_
        refine va_get (D := D) (ci := 11) (v := .ref (a 29)) (C := RX11) (T := TX11) (N := 14) hx hb hT iX11 hown hK hP 0 rfl rfl 8 (by decide) (hT _ t_265) (fun _ h9 => h9) rfl dX11_award_52 ?_
        refine va_get (D := D) (ci := 1) (v := .ref (a 34)) (C := RX1) (T := TX1) (N := 12) hx hb hT iX1 hown hK hP 29 rfl rfl 5 (by decide) (hT _ t_282) (fun _ h9 => h9) rfl dX11_award_55 ?_
        refine lv_iload_n hx hb dX11_award_58 rfl (lv_at hl 2 rfl) ?_
        refine va_iald hx hb hK hP 34 0 rfl rfl (vp_inI (by omega) (by omega)) dX11_award_59 ?_
        refine lv_topi (fun v_13 ev_13 => ?_)
        have hgv_13 : 0 ≤ v_13.toInt ∧ v_13.toInt ≤ 9999 := by rw [ev_13]; exact hRr 34 _
        have hsv_13 : v_13 = r 34 p0.toNatClampNeg := ev_13.trans (congrFun (hEr 34 (by decide)) _)
        have htv_13 : v_13.toInt = (r 34 p0.toNatClampNeg).toInt := congrArg Int32.toInt hsv_13
        refine lv_icmp_ge (tgt := 66) hx hb dX11_award_60 (by decide) (fun c_14 => ?_) (fun c_14 => ?_)
        · have c_14 : v_13.toInt ≤ p1.toInt := b_le c_14
          refine lv_aload_n hx hb dX11_award_66 rfl (lv_at hl 1 rfl) ?_
          refine va_get (D := D) (ci := 11) (v := .ref (a 29)) (C := RX11) (T := TX11) (N := 14) hx hb hT iX11 hown hK hP 0 rfl rfl 8 (by decide) (hT _ t_265) (fun _ h9 => h9) rfl dX11_award_67 ?_
          refine va_get (D := D) (ci := 1) (v := .ref (a 31)) (C := RX1) (T := TX1) (N := 12) hx hb hT iX1 hown hK hP 29 rfl rfl 2 (by decide) (hT _ t_549) (fun _ h9 => h9) rfl dX11_award_70 ?_
          refine lv_iload_n hx hb dX11_award_73 rfl (lv_at hl 2 rfl) ?_
          refine va_iald hx hb hK hP 31 0 rfl rfl (vp_inI (by omega) (by omega)) dX11_award_74 ?_
          refine lv_topi (fun v_15 ev_15 => ?_)
          have hgv_15 : 0 ≤ v_15.toInt ∧ v_15.toInt ≤ 19 := by rw [ev_15]; exact hRr 31 _
          have hsv_15 : v_15 = r 31 p0.toNatClampNeg := ev_15.trans (congrFun (hEr 31 (by decide)) _)
          have htv_15 : v_15.toInt = (r 31 p0.toNatClampNeg).toInt := congrArg Int32.toInt hsv_15
          refine lv_istore (lv' := [(5, .int v_15), (4, .ref (a 61)), (0, .ref (a 0)), (1, .int p0), (2, .int p1), (3, .int p2)]) hx hb dX11_award_75 hl (by decide) rfl (fun ls hl => ?_)
          refine lv_aload_n hx hb dX11_award_77 rfl (lv_at hl 2 rfl) ?_
          refine lv_aload hx hb dX11_award_78 (lv_at hl 1 rfl) ?_
          refine lv_iload hx hb dX11_award_80 (lv_at hl 0 rfl) ?_
          refine lv_aload_n hx hb dX11_award_82 rfl (lv_at hl 2 rfl) ?_
          refine lv_aload hx hb dX11_award_83 (lv_at hl 1 rfl) ?_
          refine lv_iload hx hb dX11_award_85 (lv_at hl 0 rfl) ?_
          have hF_16 := rF hD hS hA
          refine va_calli (va_runV (As := [.ref (a 61), .int v_15]) (rest := [.int v_15, .ref (a 61), .ref (a 0)]) ⟨hx, hb, hml, hown, hT⟩ (c_X11_fairWear9 l D cy a i r q tl v_15 _ hRi hRr (by omega) d9 (xLw_co hL9 rfl (hEr 21 (by decide)) (hEr 22 (by decide)) (hEr 23 (by decide)) (hEr 24 (by decide)) (hEr 25 (by decide)) (hEr 26 (by decide))) hG9) (cwV 2 hT (gV t_531 t_532 t_533 t_534 t_2) rfl rfl rfl (by decide +kernel) ⟨Nat.le_of_ble_eq_true rfl, Nat.le_of_ble_eq_true rfl⟩) (rM_v hnw hP hK hD (va_recv hK hP (ci := 11) (q0 := 0) rfl rfl)) rfl rfl hl.1 rfl (lv_room (Nat.le_of_ble_eq_true rfl)) dX11_award_87 ⟨Nat.le_of_ble_eq_true rfl, Nat.le_of_ble_eq_true rfl⟩) hS (fun q _ h => hF_16 q h) hF_16 (fun r_17 u_18 t H1 locs ht hvm hr_17 hB hz1 hk1 hS => ?_)
          obtain ⟨r18, rfl⟩ : ∃ z, z = u_18 := ⟨_, rfl⟩
          obtain ⟨hP, hK1, hD1⟩ := hB
          rw [ht] at hP
          have hD := hD1.weaken (fun k q _ h => hF_16 q.1 h)
          obtain ⟨hRr, hE2, hr_17⟩ := hr_17
          have hRr : yRr r18 := hRr
          have hE2 : mEr [27, 28] r r18 := hE2
          have hP : va_P D vwCl (xW cy a i r18 q (a 20) (a 12) ++ (hW cy a i r18 ++ tl)) H1 := hP
          have hD : va_D A (xW cy a i r18 q (a 20) (a 12) ++ (hW cy a i r18 ++ tl)) := hD
          have hEr : mEr [27, 28] _ r18 := Er_tr hEr hE2 (by decide)
          have hqr_17 : r_17 = xWe d9 i r v_15.toNatClampNeg := hr_17
          refine vp_callSi (W.runV (As := [.ref (a 61), .int v_15, .int r_17]) (rest := []) ⟨hx, hb, hml, hown, hT⟩ (c_X11_lost9 l D cy a i r18 q tl v_15 r_17 hRi hRr (by omega) (by rw [hsv_15, hEr 68 (by decide)]; exact hgd.1) (by rw [hsv_15, hEr 2 (by decide), hEr 67 (by decide)]; exact hgd.2)) (cwV 3 hT (gV t_535 t_536 t_537 t_538 t_2) rfl rfl rfl (by decide +kernel) ⟨Nat.le_of_ble_eq_true rfl, Nat.le_of_ble_eq_true rfl⟩) (rP_v hP hK (va_recv hK hP (ci := 11) (q0 := 0) rfl rfl)) rfl rfl hl.1 rfl (lv_room (Nat.le_of_ble_eq_true rfl)) dX11_award_90 ⟨Nat.le_of_ble_eq_true rfl, Nat.le_of_ble_eq_true rfl⟩) (fun r_19 hr_19 => ?_)
          have hqr_19 : r_19 = lsT (r18 68 v_15.toNatClampNeg) r_17 (nI (lkX (r18 75) (r18 73) (i 24).toInt v_15.toNatClampNeg).toNat) (xWo i r18 v_15.toNatClampNeg) := hr_19
          have hLo9 : r_19 = xLc d9 i r p0.toNatClampNeg := by have h9 := hqr_19; unfold xLc xLs; rw [← hsv_15, ← hqr_17]; unfold xWo at h9 ⊢; rw [hEr 68 (by decide), hEr 75 (by decide), hEr 73 (by decide), hEr 2 (by decide), hEr 3 (by decide), hEr 67 (by decide), hEr 69 (by decide)] at h9; exact h9
          refine lv_istore (lv' := [(6, .int r_19), (5, .int v_15), (4, .ref (a 61)), (0, .ref (a 0)), (1, .int p0), (2, .int p1), (3, .int p2)]) hx hb dX11_award_93 hl (by decide) rfl (fun ls hl => ?_)
          refine lv_aload_n hx hb dX11_award_95 rfl (lv_at hl 3 rfl) ?_
          refine lv_aload hx hb dX11_award_96 (lv_at hl 2 rfl) ?_
          refine lv_iload hx hb dX11_award_98 (lv_at hl 1 rfl) ?_
          refine lv_aload_n hx hb dX11_award_100 rfl (lv_at hl 3 rfl) ?_
          refine va_get (D := D) (ci := 11) (v := .ref (a 29)) (C := RX11) (T := TX11) (N := 14) hx hb hT iX11 hown hK hP 0 rfl rfl 8 (by decide) (hT _ t_265) (fun _ h9 => h9) rfl dX11_award_101 ?_
          refine va_get (D := D) (ci := 1) (v := .ref (a 32)) (C := RX1) (T := TX1) (N := 12) hx hb hT iX1 hown hK hP 29 rfl rfl 3 (by decide) (hT _ t_550) (fun _ h9 => h9) rfl dX11_award_104 ?_
          refine lv_iload_n hx hb dX11_award_107 rfl (lv_at hl 4 rfl) ?_
          refine va_iald hx hb hK hP 32 0 rfl rfl (vp_inI (by omega) (by omega)) dX11_award_108 ?_
          refine lv_topi (fun v_20 ev_20 => ?_)
          have hgv_20 : 0 ≤ v_20.toInt ∧ v_20.toInt ≤ 9 := by rw [ev_20]; exact hRr 32 _
          have hsv_20 : v_20 = r 32 p0.toNatClampNeg := ev_20.trans (congrFun (hEr 32 (by decide)) _)
          have htv_20 : v_20.toInt = (r 32 p0.toNatClampNeg).toInt := congrArg Int32.toInt hsv_20
          refine lv_aload_n hx hb dX11_award_109 rfl (lv_at hl 3 rfl) ?_
          refine va_get (D := D) (ci := 11) (v := .ref (a 29)) (C := RX11) (T := TX11) (N := 14) hx hb hT iX11 hown hK hP 0 rfl rfl 8 (by decide) (hT _ t_265) (fun _ h9 => h9) rfl dX11_award_110 ?_
          refine va_get (D := D) (ci := 1) (v := .ref (a 33)) (C := RX1) (T := TX1) (N := 12) hx hb hT iX1 hown hK hP 29 rfl rfl 4 (by decide) (hT _ t_547) (fun _ h9 => h9) rfl dX11_award_113 ?_
          refine lv_iload_n hx hb dX11_award_116 rfl (lv_at hl 4 rfl) ?_
          refine va_iald hx hb hK hP 33 0 rfl rfl (vp_inI (by omega) (by omega)) dX11_award_117 ?_
          refine lv_topi (fun v_21 ev_21 => ?_)
          have hgv_21 : 0 ≤ v_21.toInt ∧ v_21.toInt ≤ 7 := by rw [ev_21]; exact hRr 33 _
          have hsv_21 : v_21 = r 33 p0.toNatClampNeg := ev_21.trans (congrFun (hEr 33 (by decide)) _)
          have htv_21 : v_21.toInt = (r 33 p0.toNatClampNeg).toInt := congrArg Int32.toInt hsv_21
          have hErD := hEr
          have hF_22 := rF hD hS hA
          refine va_callv (va_runV (As := [.ref (a 61), .int v_15, .int v_20, .int v_21]) (rest := []) ⟨hx, hb, hml, hown, hT⟩ (c_X11_describe9 l D cy a i r18 q tl v_15 v_20 v_21 _ hRi hRr (by first | omega | decide)) (cwV 4 hT (gV t_512 t_513 t_514 t_515 t_2) rfl rfl rfl (by decide +kernel) ⟨Nat.le_of_ble_eq_true rfl, Nat.le_of_ble_eq_true rfl⟩) (rQ_v hP hK hD (va_recv hK hP (ci := 11) (q0 := 0) rfl rfl)) rfl rfl hl.1 rfl (lv_room (Nat.le_of_ble_eq_true rfl)) dX11_award_118 ⟨Nat.le_of_ble_eq_true rfl, Nat.le_of_ble_eq_true rfl⟩) hS (fun q _ h => hF_22 q h) hF_22 (fun u_24 t H1 locs ht hvm hr_23 hB hz1 hk1 hS => ?_)
          obtain ⟨r24, rfl⟩ : ∃ z, z = u_24 := ⟨_, rfl⟩
          obtain ⟨hP, hK1, hD1⟩ := hB
          rw [ht] at hP
          have hD := hD1.weaken (fun k q _ h => hF_22 q.1 h)
          obtain ⟨hRr, hE2, hr_23⟩ := hr_23
          have hRr : yRr r24 := hRr
          have hE2 : mEr [28] r18 r24 := hE2
          have hP : va_P D vwCl (xW cy a i r24 q (a 20) (a 12) ++ (hW cy a i r24 ++ tl)) H1 := hP
          have hD : va_D A (xW cy a i r24 q (a 20) (a 12) ++ (hW cy a i r24 ++ tl)) := hD
          have hEr : mEr [27, 28] _ r24 := Er_tr hEr hE2 (by decide)
          have hqr_23 : ∀ k9, k9 < 10 → r24 28 k9 = faL (xTh i r18 v_15.toNatClampNeg v_20 v_21) k9 := hr_23
          have hde : ∀ k9, k9 < 10 → r24 28 k9 = xFa i r p0.toNatClampNeg k9 := by have h9 := hqr_23; unfold xTh at h9; rw [show r18 67 = r 67 from hErD 67 (by decide), show r18 66 = r 66 from hErD 66 (by decide), show r18 68 = r 68 from hErD 68 (by decide), show r18 75 = r 75 from hErD 75 (by decide), show r18 73 = r 73 from hErD 73 (by decide), show r18 69 = r 69 from hErD 69 (by decide), hsv_15, hsv_20, hsv_21] at h9; exact h9
          refine lv_aload_n hx hb dX11_award_121 rfl (lv_at hl 3 rfl) ?_
          have hEr5 := hEr
          refine lv_iload_n hx hb dX11_award_122 rfl (lv_at hl 4 rfl) ?_
          refine lv_iload_n hx hb dX11_award_123 rfl (lv_at hl 5 rfl) ?_
          refine lv_iload hx hb dX11_award_124 (lv_at hl 0 rfl) ?_
          have hF_25 := rF hD hS hA
          refine va_calli (va_runV (As := [.int p0, .int p1, .int r_19]) (rest := []) ⟨hx, hb, hml, hown, hT⟩ (c_X11_reason9 l D cy a i r24 q (hW cy a i r24 ++ tl) p0 p1 r_19 _ hRi hRr (by omega) d9 (xFa i r p0.toNatClampNeg) (xLw_co hL9 rfl (hEr 21 (by decide)) (hEr 22 (by decide)) (hEr 23 (by decide)) (hEr 24 (by decide)) (hEr 25 (by decide)) (hEr 26 (by decide))) hG9 hde) (cwV 3 hT (gV t_551 t_552 t_553 t_554 t_2) rfl rfl rfl (by decide +kernel) ⟨Nat.le_of_ble_eq_true rfl, Nat.le_of_ble_eq_true rfl⟩) (rM_v hnw hP hK hD (va_recv hK hP (ci := 11) (q0 := 0) rfl rfl)) rfl rfl hl.1 rfl (lv_room (Nat.le_of_ble_eq_true rfl)) dX11_award_126 ⟨Nat.le_of_ble_eq_true rfl, Nat.le_of_ble_eq_true rfl⟩) hS (fun q _ h => hF_25 q h) hF_25 (fun r_26 u_27 t H1 locs ht hvm hr_26 hB hz1 hk1 hS => ?_)
          obtain ⟨r27, rfl⟩ : ∃ z, z = u_27 := ⟨_, rfl⟩
          obtain ⟨hP, hK1, hD1⟩ := hB
          rw [ht] at hP
          have hD := hD1.weaken (fun k q _ h => hF_25 q.1 h)
          obtain ⟨hRr, hE2, hr_26⟩ := hr_26
          have hRr : yRr r27 := hRr
          have hE2 : mEr [27] r24 r27 := hE2
          have hwe : hW cy a i r27 = hW cy a i r24 := hW_eqE (Ei_rf (T := [])) hE2 rfl rfl
          have hP : va_P D vwCl (xW cy a i r27 q (a 20) (a 12) ++ (hW cy a i r27 ++ tl)) H1 := by rw [hwe]; exact hP
          have hD : va_D A (xW cy a i r27 q (a 20) (a 12) ++ (hW cy a i r27 ++ tl)) := by rw [hwe]; exact hD
          have hEr : mEr [27, 28] _ r27 := Er_tr hEr hE2 (by decide)
          have hqr_26 : r_26 = awR d9 (xFa i r p0.toNatClampNeg) r_19 (r24 35 p0.toNatClampNeg) (r24 34 p0.toNatClampNeg) (r24 36 p0.toNatClampNeg) (r24 37 p0.toNatClampNeg) (r24 33 p0.toNatClampNeg) p1 ∧ (1 ≤ r_26.toInt ∧ r_26.toInt ≤ 8) := hr_26
          have hrgr_26 : 1 ≤ r_26.toInt ∧ r_26.toInt ≤ 8 := hqr_26.2
          have hr9 : r_26 = xAR d9 i r p0.toNatClampNeg p1 := by have h9 := hqr_26.1; rw [hLo9, hEr5 35 (by decide), hEr5 34 (by decide), hEr5 36 (by decide), hEr5 37 (by decide), hEr5 33 (by decide)] at h9; exact h9
          have hEd28 : r27 28 = r24 28 := hE2 28 (by decide)
          have hEr6 := hEr
          refine lv_istore (lv' := [(7, .int r_26), (6, .int r_19), (5, .int v_15), (4, .ref (a 61)), (0, .ref (a 0)), (1, .int p0), (2, .int p1), (3, .int p2)]) hx hb dX11_award_129 hl (by decide) rfl (fun ls hl => ?_)
          refine lv_iload_n hx hb dX11_award_131 rfl (lv_at hl 7 rfl) ?_
          refine lv_if_ne (tgt := 147) hx hb dX11_award_132 (by decide) (fun c_28 => ?_) (fun c_28 => ?_)
          · have c_28 : p2.toInt ≠ 0 := b_ne c_28
            refine lv_iload hx hb dX11_award_147 (lv_at hl 0 rfl) ?_
            subst hQ
            exact W.iret (v := r_26) hx hb hr (fun t ht hW => ⟨⟨_, r27, rfl, ⟨hRr, hEr, ⟨fun _ => ⟨fun h9 => absurd h9 (by rw [← htv_13]; omega), fun _ => ⟨fun h9 => absurd h9 (by omega), fun _ => hr9⟩⟩, fun h9 => absurd (by omega) h9⟩⟩, by rw [ht]; exact hP, va_K.moved hW.alike hK, hD⟩, hS.F ht⟩) hS.2.2 dX11_award_149
          · have c_28 : p2.toInt = 0 := b_nne c_28
            refine lv_aload_n hx hb dX11_award_135 rfl (lv_at hl 4 rfl) ?_
            refine lv_iload_n hx hb dX11_award_136 rfl (lv_at hl 5 rfl) ?_
            refine lv_iload hx hb dX11_award_137 (lv_at hl 0 rfl) ?_
            refine lv_iload hx hb dX11_award_139 (lv_at hl 1 rfl) ?_
            have hF_29 := rF hD hS hA
            refine va_calli (va_runV (As := [.int p0, .int r_26, .int r_19]) (rest := []) ⟨hx, hb, hml, hown, hT⟩ (c_X11_awarded9 l D cy a i r27 q (hW cy a i r27 ++ tl) p0 r_26 r_19 _ hRi hRr (by omega) (by omega) d9 (xFa i r p0.toNatClampNeg) (xLw_co hL9 rfl (hEr 21 (by decide)) (hEr 22 (by decide)) (hEr 23 (by decide)) (hEr 24 (by decide)) (hEr 25 (by decide)) (hEr 26 (by decide))) hG9 (fun k9 hk9 => by rw [hEd28]; exact hde k9 hk9)) (cwV 3 hT (gV t_555 t_556 t_557 t_558 t_2) rfl rfl rfl (by decide +kernel) ⟨Nat.le_of_ble_eq_true rfl, Nat.le_of_ble_eq_true rfl⟩) (rM_v hnw hP hK hD (va_recv hK hP (ci := 11) (q0 := 0) rfl rfl)) rfl rfl hl.1 rfl (lv_room (Nat.le_of_ble_eq_true rfl)) dX11_award_141 ⟨Nat.le_of_ble_eq_true rfl, Nat.le_of_ble_eq_true rfl⟩) hS (fun q _ h => hF_29 q h) hF_29 (fun r_30 u_31 t H1 locs ht hvm hr_30 hB hz1 hk1 hS => ?_)
            obtain ⟨r31, rfl⟩ : ∃ z, z = u_31 := ⟨_, rfl⟩
            obtain ⟨hP, hK1, hD1⟩ := hB
            rw [ht] at hP
            have hD := hD1.weaken (fun k q _ h => hF_29 q.1 h)
            obtain ⟨hRr, hE2, hr_30⟩ := hr_30
            have hRr : yRr r31 := hRr
            have hE2 : mEr [27] r27 r31 := hE2
            have hwe : hW cy a i r31 = hW cy a i r27 := hW_eqE (Ei_rf (T := [])) hE2 rfl rfl
            have hP : va_P D vwCl (xW cy a i r31 q (a 20) (a 12) ++ (hW cy a i r31 ++ tl)) H1 := by rw [hwe]; exact hP
            have hD : va_D A (xW cy a i r31 q (a 20) (a 12) ++ (hW cy a i r31 ++ tl)) := by rw [hwe]; exact hD
            have hEr : mEr [27, 28] _ r31 := Er_tr hEr hE2 (by decide)
            have hqr_30 : r_30 = awV d9 (xFa i r p0.toNatClampNeg) r_19 (r27 35 p0.toNatClampNeg) r_26 := hr_30
            have hv9 : r_30 = xAV d9 i r p0.toNatClampNeg p1 := by have h9 := hqr_30; rw [hLo9, hr9, hEr6 35 (by decide)] at h9; exact h9
            refine lv_goto (tgt := 149) hx hb dX11_award_144 (by decide) ?_
            subst hQ
            exact W.iret (v := r_30) hx hb hr (fun t ht hW => ⟨⟨_, r31, rfl, ⟨hRr, hEr, ⟨fun _ => ⟨fun h9 => absurd h9 (by rw [← htv_13]; omega), fun _ => ⟨fun _ => hv9, fun h9 => absurd h9 (by omega)⟩⟩, fun h9 => absurd (by omega) h9⟩⟩, by rw [ht]; exact hP, va_K.moved hW.alike hK, hD⟩, hS.F ht⟩) hS.2.2 dX11_award_149
        · have c_14 : p1.toInt < v_13.toInt := b_nle c_14
          refine lv_bipush (v := (-2)) hx hb dX11_award_63 (by decide) ?_
          subst hQ
          exact W.iret (v := (-2)) hx hb hr (fun t ht hW => ⟨⟨_, r, rfl, ⟨hRr, hEr, ⟨fun _ => ⟨fun _ => rfl, fun h9 => absurd h9 (by rw [← htv_13]; omega)⟩, fun h9 => absurd (by omega) h9⟩⟩, by rw [ht]; exact hP, va_K.moved hW.alike hK, hD⟩, hS.F ht⟩) hS.2.2 dX11_award_65
      · skip
        refine lv_if_ne (tgt := 50) hx hb dX11_award_45 (by decide) (fun c_32 => absurd (by decide) c_32) (fun c_32 => ?_)
        refine lv_iconst (v := (-1)) hx hb dX11_award_48 (by decide) ?_
        subst hQ
        exact W.iret (v := (-1)) hx hb hr (fun t ht hW => ⟨⟨_, r, rfl, ⟨hRr, hEr, ⟨fun h9 => absurd h9 (by omega), fun _ => rfl⟩⟩, by rw [ht]; exact hP, va_K.moved hW.alike hK, hD⟩, hS.F ht⟩) hS.2.2 dX11_award_49
    · skip
      refine lv_if_eq (tgt := 48) hx hb dX11_award_36 (by decide) (fun c_33 => ?_) (fun c_33 => absurd (by decide) c_33)
      refine lv_iconst (v := (-1)) hx hb dX11_award_48 (by decide) ?_
      subst hQ
      exact W.iret (v := (-1)) hx hb hr (fun t ht hW => ⟨⟨_, r, rfl, ⟨hRr, hEr, ⟨fun h9 => absurd h9 (by omega), fun _ => rfl⟩⟩, by rw [ht]; exact hP, va_K.moved hW.alike hK, hD⟩, hS.F ht⟩) hS.2.2 dX11_award_49
  · exact absurd h_3 (by omega)
