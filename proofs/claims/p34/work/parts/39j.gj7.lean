set_option maxHeartbeats 4000000 in
set_option maxRecDepth 100000 in
theorem c_X3_isJoinedTo9 (l : Launch) (D : va_G) (cy : Nat → ClassId) (a : Nat → Nat) (i : Nat → Int32) (r : Nat → Nat → Int32) (q : Nat → Option Nat) (tl : va_W) (p0 : Int32) (hRi : yRi i) (hRr : yRr r) : Met l yX3_isJoinedTo (Cond.code yX3_isJoinedTo cX3_isJoinedTo 3 (some .boolean) :: gT) { frames := 1, cells := 0, slots := 0, locals := 24 } (va_Pc [.ref (a 61), .int p0] (rP D cy (xW cy a i r q (a 20) (a 12) ++ (hW cy a i r ++ tl)))) (vp_Si (fun z => BR z (∃ k : Nat, k < (i 23).toNatClampNeg ∧ (r 75 k).toInt = p0.toInt) 1 0)) 0 0 (fun _ => False) := by
  refine Met.ofQ (cc := cX3_isJoinedTo) (maxL := 3) (ret := (some .boolean)) (by decide) rfl ?_
  intro p e s m args below meth c s₁ B hml hv Q hQ
  obtain ⟨rfl, hP, hK⟩ := hv
  have hx := B.exec
  have hb := B.bytes
  have hr := B.returns
  have hlocks := B.notSynchronized
  have hT : ∀ w ∈ gT, w.before _ s = true := fun w h => atoms_spec (ws := (Cond.code yX3_isJoinedTo cX3_isJoinedTo 3 (some .boolean) :: gT)) B.pre w (List.mem_cons_of_mem _ h)
  have hown : s.vm.findClass RX3 = some m.cls := findClass_of_methodNamed B.named
  have hl := lv_entry ([.ref (a 61), .int p0]) (n := 3) (Nat.le_of_ble_eq_true rfl)
  rw [lg_entry_eq]
  generalize (lg_sl ([.ref (a 61), .int p0]) ++ List.replicate (3 - (lg_sl ([.ref (a 61), .int p0])).length) Slot.unset).toArray = ls at hl ⊢
  have hl : lv_has ls 3 [(0, .ref (a 61)), (1, .int p0)] := hl
  have hEi : mEi [] i i := Ei_rf
  have hEr : mEr [] r r := Er_rf
  refine lv_iconst (v := 0) hx hb dX3_isJoinedTo_0 (by decide) ?_
  refine lv_istore_n (lv' := [(2, .int 0), (0, .ref (a 61)), (1, .int p0)]) hx hb dX3_isJoinedTo_1 rfl hl (by decide) rfl (fun ls hl => ?_)
  have loop_1 : ∀ (n : Nat) (x1_2 : Int32) (ls : Array Slot), (20 - x1_2.toInt).toNat < n → (0 ≤ x1_2.toInt ∧ x1_2.toInt ≤ 20) → (∀ k, k < x1_2.toNatClampNeg → (r 75 k).toInt ≠ p0.toInt) → lv_has ls 3 [(2, .int x1_2), (0, .ref (a 61)), (1, .int p0)] → W p l e ({ frames := 1, cells := 0, slots := 0, locals := 24 } : Room) s m ([.ref (a 61), .int p0] : List Value).toArray below meth c s.heap [] 0 0 Q (F0 m 2 ls []) := by
    intro n
    induction n with
    | zero =>
      intro x1_2 ls hm1 hf1_0 hx1 hl
      exact absurd hm1 (by omega)
    | succ n ih1 =>
      intro x1_2 ls hm1 hf1_0 hx1 hl
      refine lv_iload_n hx hb dX3_isJoinedTo_2 rfl (lv_at hl 0 rfl) ?_
      refine lv_aload_n hx hb dX3_isJoinedTo_3 rfl (lv_at hl 1 rfl) ?_
      refine va_get (D := D) (ci := 3) (v := .ref (a 65)) (C := RX3) (T := TX3) (N := 12) hx hb hT iX3 hown hK hP 61 rfl rfl 9 (by decide) (hT _ t_396) (fun _ h9 => h9) rfl dX3_isJoinedTo_4 ?_
      refine va_get (D := D) (ci := 10) (v := .int (i 23)) (C := RX10) (T := TX10) (N := 5) hx hb hT iX10 hown hK hP 65 rfl rfl 0 (by decide) (hT _ t_389) (fun _ h9 => h9) rfl dX3_isJoinedTo_7 ?_
      have hg_2 : 0 ≤ (i 23).toInt ∧ (i 23).toInt ≤ 20 := hRi 23
      refine lv_icmp_ge (tgt := 31) hx hb dX3_isJoinedTo_10 (by decide) (fun c_3 => ?_) (fun c_3 => ?_)
      · have c_3 : (i 23).toInt ≤ x1_2.toInt := b_le c_3
        refine lv_iconst (v := 0) hx hb dX3_isJoinedTo_31 (by decide) ?_
        subst hQ
        exact W.zret hx hb hr rfl (fun t ht hW => ⟨_, rfl, Or.inr ⟨rfl, fun h9 => by obtain ⟨k, k1, k2⟩ := h9; exact hx1 k (by have h8 : (i 23).toNatClampNeg = (i 23).toInt.toNat := rfl; have h7 : x1_2.toNatClampNeg = x1_2.toInt.toNat := rfl; omega) k2⟩, ht⟩) (fun q hq => absurd hq List.not_mem_nil) dX3_isJoinedTo_32
      · have c_3 : x1_2.toInt < (i 23).toInt := b_nle c_3
        refine lv_aload_n hx hb dX3_isJoinedTo_13 rfl (lv_at hl 1 rfl) ?_
        refine va_get (D := D) (ci := 3) (v := .ref (a 75)) (C := RX3) (T := TX3) (N := 12) hx hb hT iX3 hown hK hP 61 rfl rfl 11 (by decide) (hT _ t_387) (fun _ h9 => h9) rfl dX3_isJoinedTo_14 ?_
        refine lv_iload_n hx hb dX3_isJoinedTo_17 rfl (lv_at hl 0 rfl) ?_
        refine va_iald hx hb hK hP 75 0 rfl rfl (vp_inI (by omega) (by omega)) dX3_isJoinedTo_18 ?_
        refine lv_topi (fun v_4 ev_4 => ?_)
        have hgv_4 : -2 ≤ v_4.toInt ∧ v_4.toInt ≤ 19 := by rw [ev_4]; exact hRr 75 _
        have hwv_4 : v_4.toInt = (r 75 (x1_2.toNatClampNeg)).toInt := congrArg Int32.toInt ev_4
        refine lv_iload_n hx hb dX3_isJoinedTo_19 rfl (lv_at hl 2 rfl) ?_
        refine lv_icmp_ne (tgt := 25) hx hb dX3_isJoinedTo_20 (by decide) (fun c_5 => ?_) (fun c_5 => ?_)
        · have c_5 : v_4.toInt ≠ p0.toInt := b_ne c_5
          obtain ⟨x_6, ex_6⟩ : ∃ y : Int32, y = x1_2 + 1 := ⟨_, rfl⟩
          refine lv_iinc (v := x_6) (lv' := [(2, .int x_6), (0, .ref (a 61)), (1, .int p0)]) hx hb dX3_isJoinedTo_25 hl (k := 0) rfl (by rw [ex_6]; rfl) (by decide) rfl (fun ls hl => ?_)
          have hx_6 : x_6.toInt = x1_2.toInt + 1 := by rw [ex_6]; have := b_rg x1_2; exact i_add (a := x1_2.toInt) (b := 1) rfl rfl (by omega) (by omega)
          refine lv_goto (tgt := 2) hx hb dX3_isJoinedTo_28 (by decide) ?_
          have hk : x_6.toNatClampNeg = x1_2.toNatClampNeg + 1 := by show x_6.toInt.toNat = x1_2.toInt.toNat + 1; omega
          exact ih1 x_6 _ (by first | omega | (simp only [Int.toNat]; omega)) (by first | omega | decide)  (fun k hk2 => (Nat.lt_succ_iff_lt_or_eq.mp (by rw [hk] at hk2; exact hk2)).elim (fun h8 => hx1 k h8) (fun h8 => by rw [h8]; omega))  (lv_sub hl [0, 1, 2] rfl)
        · have c_5 : v_4.toInt = p0.toInt := b_nne c_5
          refine lv_iconst (v := 1) hx hb dX3_isJoinedTo_23 (by decide) ?_
          subst hQ
          exact W.zret hx hb hr rfl (fun t ht hW => ⟨_, rfl, Or.inl ⟨rfl, x1_2.toNatClampNeg, by show x1_2.toInt.toNat < (i 23).toInt.toNat; omega, by omega⟩, ht⟩) (fun q hq => absurd hq List.not_mem_nil) dX3_isJoinedTo_24
  exact loop_1 _ 0 _ (Nat.lt_succ_self _) (by first | omega | decide)  (fun k hk => absurd (show k < 0 from hk) (Nat.not_lt_zero k))  hl
set_option maxHeartbeats 4000000 in
set_option maxRecDepth 100000 in
theorem c_X11_isNew.y9 (l : Launch) (D : va_G) (cy : Nat → ClassId) (a : Nat → Nat) (i : Nat → Int32) (r : Nat → Nat → Int32) (q : Nat → Option Nat) (tl : va_W) (p0 p1 : Int32) (hRi : yRi i) (hRr : yRr r) (hh : 0 ≤ p0.toInt ∧ p0.toInt < (i 0).toInt) (hq : q p0.toNatClampNeg = some (a 61)) : Met l yX11_isNew (Cond.code yX11_isNew cX11_isNew 4 (some .int) :: gT) { frames := 3, cells := 0, slots := 0, locals := 67 } (va_Pc [.ref (a 0), .int p0, .int p1] (rP D cy (xW cy a i r q (a 20) (a 12) ++ (hW cy a i r ++ tl)))) (vp_Si (fun z => (((0 ≤ p1.toInt ∧ p1.toInt < (i 24).toInt)) → BR z (∀ k9, k9 < (i 23).toNatClampNeg → (r 75 k9).toInt ≠ p1.toInt) 1 0) ∧ (¬ ((0 ≤ p1.toInt ∧ p1.toInt < (i 24).toInt)) → z = -1))) 0 0 (fun _ => False) := by
  refine Met.ofQ (cc := cX11_isNew) (maxL := 4) (ret := (some .int)) (by decide) rfl ?_
  intro p e s m args below meth c s₁ B hml hv Q hQ
  obtain ⟨rfl, hP, hK⟩ := hv
  have hx := B.exec
  have hb := B.bytes
  have hr := B.returns
  have hlocks := B.notSynchronized
  have hT : ∀ w ∈ gT, w.before _ s = true := fun w h => atoms_spec (ws := (Cond.code yX11_isNew cX11_isNew 4 (some .int) :: gT)) B.pre w (List.mem_cons_of_mem _ h)
  have hown : s.vm.findClass RX11 = some m.cls := findClass_of_methodNamed B.named
  have hl := lv_entry ([.ref (a 0), .int p0, .int p1]) (n := 4) (Nat.le_of_ble_eq_true rfl)
  rw [lg_entry_eq]
  generalize (lg_sl ([.ref (a 0), .int p0, .int p1]) ++ List.replicate (4 - (lg_sl ([.ref (a 0), .int p0, .int p1])).length) Slot.unset).toArray = ls at hl ⊢
  have hl : lv_has ls 4 [(0, .ref (a 0)), (1, .int p0), (2, .int p1)] := hl
  have hEi : mEi [] i i := Ei_rf
  have hEr : mEr [] r r := Er_rf
  have hg0 : 0 ≤ (i 0).toInt ∧ (i 0).toInt ≤ 6 := hRi 0
  refine lv_aload_n hx hb dX11_isNew_0 rfl (lv_at hl 0 rfl) ?_
  refine lv_iload_n hx hb dX11_isNew_1 rfl (lv_at hl 1 rfl) ?_
  refine va_csq (W.runV (As := [.int p0]) (rest := []) ⟨hx, hb, hml, hown, hT⟩ (c_X11_homeAt l D cy a i r q (hW cy a i r ++ tl) p0 hRi hRr) (cwV 1 hT (gV t_443 t_444 t_445 t_446 t_2) rfl rfl rfl (by decide +kernel) ⟨Nat.le_of_ble_eq_true rfl, Nat.le_of_ble_eq_true rfl⟩) (rP_v hP hK (va_recv hK hP (ci := 11) (q0 := 0) rfl rfl)) rfl rfl hl.1 rfl (lv_room (Nat.le_of_ble_eq_true rfl)) dX11_isNew_2 ⟨Nat.le_of_ble_eq_true rfl, Nat.le_of_ble_eq_true rfl⟩) (fun r_1 hr_1 => ?_)
  obtain rfl : r_1 = some (a 61) := (hr_1.1 hh).trans hq
  refine W.eq (g2 := F0 m 5 ls [.ref (a 61)]) rfl ?_
  refine lv_astore_n (lv' := [(3, .ref (a 61)), (0, .ref (a 0)), (1, .int p0), (2, .int p1)]) hx hb dX11_isNew_5 rfl hl (by decide) rfl (fun ls hl => ?_)
  refine lv_aload_n hx hb dX11_isNew_6 rfl (lv_at hl 0 rfl) ?_
  refine lv_ifnull hx hb dX11_isNew_7 ?_
  refine lv_iload_n hx hb dX11_isNew_10 rfl (lv_at hl 3 rfl) ?_
  refine lv_iconst (v := 0) hx hb dX11_isNew_11 (by decide) ?_
  refine lv_aload_n hx hb dX11_isNew_12 rfl (lv_at hl 0 rfl) ?_
  refine va_get (D := D) (ci := 3) (v := .ref (a 70)) (C := RX3) (T := TX3) (N := 12) hx hb hT iX3 hown hK hP 61 rfl rfl 10 (by decide) (hT _ t_462) (fun _ h9 => h9) rfl dX11_isNew_13 ?_
  refine va_get (D := D) (ci := 10) (v := .int (i 24)) (C := RX10) (T := TX10) (N := 5) hx hb hT iX10 hown hK hP 70 rfl rfl 0 (by decide) (hT _ t_463) (fun _ h9 => h9) rfl dX11_isNew_16 ?_
  have hg_2 : 0 ≤ (i 24).toInt ∧ (i 24).toInt ≤ 20 := hRi 24
  refine lv_iconst (v := 1) hx hb dX11_isNew_19 (by decide) ?_
  refine lv_isub hx hb dX11_isNew_20 ?_
  refine lv_topi (fun v_3 ev_3 => ?_)
  have hv_3 : v_3.toInt = (i 24).toInt - 1 := by rw [ev_3]; have := b_rg (i 24); exact i_sub (a := (i 24).toInt) (b := 1) rfl rfl (by omega) (by omega)
  refine vp_callSi (W.runS (As := [.int p1, .int 0, .int v_3]) (rest := []) ⟨hx, hb, hml, hown, hT⟩ (c_X11_within l p1 0 v_3) (va_cwS 3 hT (gS t_1 t_3 t_4 t_2) rfl rfl rfl (by decide +kernel) ⟨Nat.le_of_ble_eq_true rfl, Nat.le_of_ble_eq_true rfl⟩) preT rfl rfl hl.1 rfl (lv_room (Nat.le_of_ble_eq_true rfl)) dX11_isNew_21 ⟨Nat.le_of_ble_eq_true rfl, Nat.le_of_ble_eq_true rfl⟩) (fun r_4 hr_4 => ?_)
  have hr_4 : BR r_4 (0 ≤ p1.toInt ∧ p1.toInt ≤ v_3.toInt) 1 0 := hr_4
  rcases hr_4 with ⟨rfl, h_5⟩ | ⟨rfl, h_5⟩
  · skip
    refine lv_if_ne (tgt := 29) hx hb dX11_isNew_24 (by decide) (fun c_6 => ?_) (fun c_6 => absurd c_6 (by decide))
    refine lv_aload_n hx hb dX11_isNew_29 rfl (lv_at hl 0 rfl) ?_
    refine lv_iload_n hx hb dX11_isNew_30 rfl (lv_at hl 3 rfl) ?_
    refine vp_callSi (W.runV (As := [.int p1]) (rest := []) ⟨hx, hb, hml, hown, hT⟩ (c_X3_isJoinedTo9 l D cy a i r q tl p1 hRi hRr) (cwV 1 hT (gV t_464 t_465 t_466 t_467 t_391) rfl rfl rfl (by decide +kernel) ⟨Nat.le_of_ble_eq_true rfl, Nat.le_of_ble_eq_true rfl⟩) (rP_v hP hK (va_recv hK hP (ci := 3) (q0 := 61) rfl rfl)) rfl rfl hl.1 rfl (lv_room (Nat.le_of_ble_eq_true rfl)) dX11_isNew_31 ⟨Nat.le_of_ble_eq_true rfl, Nat.le_of_ble_eq_true rfl⟩) (fun r_7 hr_7 => ?_)
    have hr_7 : BR r_7 (∃ k : Nat, k < (i 23).toNatClampNeg ∧ (r 75 k).toInt = p1.toInt) 1 0 := hr_7
    rcases hr_7 with ⟨rfl, h_8⟩ | ⟨rfl, h_8⟩
    · skip
      refine lv_if_eq (tgt := 41) hx hb dX11_isNew_34 (by decide) (fun c_9 => absurd c_9 (by decide)) (fun c_9 => ?_)
      refine lv_iconst (v := 0) hx hb dX11_isNew_37 (by decide) ?_
      refine lv_goto (tgt := 42) hx hb dX11_isNew_38 (by decide) ?_
      subst hQ
      have hbr : BR 0 (∀ k9, k9 < (i 23).toNatClampNeg → (r 75 k9).toInt ≠ p1.toInt) 1 0 := Or.inr ⟨rfl, fun h9 => by obtain ⟨k, k1, k2⟩ := h_8; exact h9 k k1 k2⟩
      clear h_8
      exact W.iret (v := 0) hx hb hr (fun t ht hW => ⟨_, rfl, ⟨fun _ => hbr, fun h9 => absurd (by omega) h9⟩, ht⟩) (fun q hq => absurd hq List.not_mem_nil) dX11_isNew_42
    · skip
      refine lv_if_eq (tgt := 41) hx hb dX11_isNew_34 (by decide) (fun c_10 => ?_) (fun c_10 => absurd (by decide) c_10)
      refine lv_iconst (v := 1) hx hb dX11_isNew_41 (by decide) ?_
      subst hQ
      have hbr : BR 1 (∀ k9, k9 < (i 23).toNatClampNeg → (r 75 k9).toInt ≠ p1.toInt) 1 0 := Or.inl ⟨rfl, fun k k1 k2 => h_8 ⟨k, k1, k2⟩⟩
      clear h_8
      exact W.iret (v := 1) hx hb hr (fun t ht hW => ⟨_, rfl, ⟨fun _ => hbr, fun h9 => absurd (by omega) h9⟩, ht⟩) (fun q hq => absurd hq List.not_mem_nil) dX11_isNew_42
  · skip
    refine lv_if_ne (tgt := 29) hx hb dX11_isNew_24 (by decide) (fun c_11 => absurd (by decide) c_11) (fun c_11 => ?_)
    refine lv_iconst (v := (-1)) hx hb dX11_isNew_27 (by decide) ?_
    subst hQ
    exact W.iret (v := (-1)) hx hb hr (fun t ht hW => ⟨_, rfl, ⟨fun h9 => absurd h9 (by omega), fun _ => rfl⟩, ht⟩) (fun q hq => absurd hq List.not_mem_nil) dX11_isNew_28
