set_option maxHeartbeats 4000000 in
set_option maxRecDepth 100000 in
theorem c_X12_twice9 (l : Launch) (D : va_G) (cy : Nat → ClassId) (a : Nat → Nat) (i : Nat → Int32) (r : Nat → Nat → Int32) (rl : Nat → Int64) (p0 p1 p2 p3 : Int32) (sz : Nat) (hRi : mRi i) (hRr : mRr r) : Met l yX12_twice (Cond.code yX12_twice cX12_twice 5 (some .int) :: gT) { frames := 2, cells := 0, slots := 0, locals := 46 } (va_Pc [.ref (a 0), .int p0, .int p1, .int p2, .int p3] (rQ D cy (mW cy a i r rl) sz)) (va_Qi (fun (z : Int32) (u : (Nat → Int32) × (Nat → Nat → Int32)) => mRi u.1 ∧ mRr u.2 ∧ mEi [63] i u.1 ∧ mEr [52, 53, 54, 55] r u.2 ∧ ((((0 ≤ p0.toInt ∧ p0.toInt ≤ 5) ∧ (0 ≤ p1.toInt ∧ p1.toInt ≤ 5) ∧ p0.toInt ≠ p1.toInt ∧ (0 ≤ p2.toInt ∧ p2.toInt ≤ 9999) ∧ (0 ≤ p3.toInt ∧ p3.toInt ≤ 9999) ∧ (i 63).toInt ≤ 39) → z.toInt = (i 63).toInt + 1 ∧ (u.1 63).toInt = (i 63).toInt + 1 ∧ u.2 52 = upd (r 52) (i 63).toNatClampNeg p0 ∧ u.2 53 = upd (r 53) (i 63).toNatClampNeg p1 ∧ u.2 54 = upd (r 54) (i 63).toNatClampNeg p2 ∧ u.2 55 = upd (r 55) (i 63).toNatClampNeg p3) ∧ (¬ ((0 ≤ p0.toInt ∧ p0.toInt ≤ 5) ∧ (0 ≤ p1.toInt ∧ p1.toInt ≤ 5) ∧ p0.toInt ≠ p1.toInt ∧ (0 ≤ p2.toInt ∧ p2.toInt ≤ 9999) ∧ (0 ≤ p3.toInt ∧ p3.toInt ≤ 9999) ∧ (i 63).toInt ≤ 39) → z = -1 ∧ mEi [] i u.1 ∧ mEr [] r u.2))) (fun (u : (Nat → Int32) × (Nat → Nat → Int32)) t => va_P D vwCl (mW cy a u.1 u.2 rl) t.heap ∧ va_K D vwCl (vT cy) t ∧ va_D (va_A (mW cy a i r rl) sz) (mW cy a u.1 u.2 rl)) (va_A (mW cy a i r rl) sz)) 0 0 (va_A (mW cy a i r rl) sz) := by
  refine Met.ofQ (cc := cX12_twice) (maxL := 5) (ret := (some .int)) (by decide) rfl ?_
  intro p e s m args below meth c s₁ B hml hv Q hQ
  obtain ⟨rfl, hsz, hP, hK, hD0⟩ := hv
  have hx := B.exec
  have hb := B.bytes
  have hr := B.returns
  have hlocks := B.notSynchronized
  have hT : ∀ w ∈ gT, w.before _ s = true := fun w h => atoms_spec (ws := (Cond.code yX12_twice cX12_twice 5 (some .int) :: gT)) B.pre w (List.mem_cons_of_mem _ h)
  have hown : s.vm.findClass RX12 = some m.cls := findClass_of_methodNamed B.named
  subst hsz
  have hD := hD0.self (sz := s.heap.size)
  generalize hAe : va_A (mW cy a i r rl) s.heap.size = A at hD hQ
  have hA : ∀ q : Nat, s.heap.size ≤ q → A q := fun q h => by rw [← hAe]; exact Or.inr h
  have hS : va_S A s.heap s.heap [] := va_S.rf
  have hl := lv_entry ([.ref (a 0), .int p0, .int p1, .int p2, .int p3]) (n := 5) (Nat.le_of_ble_eq_true rfl)
  rw [lg_entry_eq]
  generalize (lg_sl ([.ref (a 0), .int p0, .int p1, .int p2, .int p3]) ++ List.replicate (5 - (lg_sl ([.ref (a 0), .int p0, .int p1, .int p2, .int p3])).length) Slot.unset).toArray = ls at hl ⊢
  have hl : lv_has ls 5 [(0, .ref (a 0)), (1, .int p0), (2, .int p1), (3, .int p2), (4, .int p3)] := hl
  have hEi : mEi [63] i i := Ei_rf
  have hEr : mEr [52, 53, 54, 55] r r := Er_rf
  refine lv_iload_n hx hb dX12_twice_0 rfl (lv_at hl 1 rfl) ?_
  refine vp_callSi (W.runS (As := [.int p0]) (rest := []) ⟨hx, hb, hml, hown, hT⟩ (c_X12_isJudge l p0) (va_cwS 1 hT (gS t_187 t_188 t_189 t_6) rfl rfl rfl (by decide +kernel) ⟨Nat.le_of_ble_eq_true rfl, Nat.le_of_ble_eq_true rfl⟩) preT rfl rfl hl.1 rfl (lv_room (Nat.le_of_ble_eq_true rfl)) dX12_twice_1 ⟨Nat.le_of_ble_eq_true rfl, Nat.le_of_ble_eq_true rfl⟩) (fun r_1 hr_1 => ?_)
  have hr_1 : BR r_1 (0 ≤ p0.toInt ∧ p0.toInt ≤ 5) 1 0 := hr_1
  rcases hr_1 with ⟨rfl, h_2⟩ | ⟨rfl, h_2⟩
  · skip
    refine lv_if_eq (tgt := 51) hx hb dX12_twice_4 (by decide) (fun c_3 => absurd c_3 (by decide)) (fun c_3 => ?_)
    refine lv_iload_n hx hb dX12_twice_7 rfl (lv_at hl 2 rfl) ?_
    refine vp_callSi (W.runS (As := [.int p1]) (rest := []) ⟨hx, hb, hml, hown, hT⟩ (c_X12_isJudge l p1) (va_cwS 1 hT (gS t_187 t_188 t_189 t_6) rfl rfl rfl (by decide +kernel) ⟨Nat.le_of_ble_eq_true rfl, Nat.le_of_ble_eq_true rfl⟩) preT rfl rfl hl.1 rfl (lv_room (Nat.le_of_ble_eq_true rfl)) dX12_twice_8 ⟨Nat.le_of_ble_eq_true rfl, Nat.le_of_ble_eq_true rfl⟩) (fun r_4 hr_4 => ?_)
    have hr_4 : BR r_4 (0 ≤ p1.toInt ∧ p1.toInt ≤ 5) 1 0 := hr_4
    rcases hr_4 with ⟨rfl, h_5⟩ | ⟨rfl, h_5⟩
    · skip
      refine lv_if_eq (tgt := 51) hx hb dX12_twice_11 (by decide) (fun c_6 => absurd c_6 (by decide)) (fun c_6 => ?_)
      refine lv_iload_n hx hb dX12_twice_14 rfl (lv_at hl 1 rfl) ?_
      refine lv_iload_n hx hb dX12_twice_15 rfl (lv_at hl 2 rfl) ?_
      refine lv_icmp_eq (tgt := 51) hx hb dX12_twice_16 (by decide) (fun c_7 => ?_) (fun c_7 => ?_)
      · have c_7 : p0.toInt = p1.toInt := b_eq c_7
        refine lv_iconst (v := (-1)) hx hb dX12_twice_51 (by decide) ?_
        subst hQ
        exact W.iret (v := (-1)) hx hb hr (fun t ht hW => ⟨⟨_, (i, r), rfl, ⟨hRi, hRr, hEi, hEr, ⟨fun h9 => absurd h9 (by omega), fun _ => ⟨rfl, Ei_rf, Er_rf⟩⟩⟩, by rw [ht]; exact hP, va_K.moved hW.alike hK, hD⟩, hS.F ht⟩) hS.2.2 dX12_twice_52
      · have c_7 : p0.toInt ≠ p1.toInt := b_ne c_7
        refine lv_iload_n hx hb dX12_twice_19 rfl (lv_at hl 3 rfl) ?_
        refine lv_iconst (v := 0) hx hb dX12_twice_20 (by decide) ?_
        refine lv_sipush (v := 9999) hx hb dX12_twice_21 (by decide) ?_
        refine vp_callSi (W.runS (As := [.int p2, .int 0, .int 9999]) (rest := []) ⟨hx, hb, hml, hown, hT⟩ (c_X12_in l p2 0 9999) (va_cwS 3 hT (gS t_113 t_114 t_115 t_6) rfl rfl rfl (by decide +kernel) ⟨Nat.le_of_ble_eq_true rfl, Nat.le_of_ble_eq_true rfl⟩) preT rfl rfl hl.1 rfl (lv_room (Nat.le_of_ble_eq_true rfl)) dX12_twice_24 ⟨Nat.le_of_ble_eq_true rfl, Nat.le_of_ble_eq_true rfl⟩) (fun r_8 hr_8 => ?_)
        have hr_8 : BR r_8 (0 ≤ p2.toInt ∧ p2.toInt ≤ 9999) 1 0 := hr_8
        rcases hr_8 with ⟨rfl, h_9⟩ | ⟨rfl, h_9⟩
        · skip
          refine lv_if_eq (tgt := 51) hx hb dX12_twice_27 (by decide) (fun c_10 => absurd c_10 (by decide)) (fun c_10 => ?_)
          refine lv_iload hx hb dX12_twice_30 (lv_at hl 4 rfl) ?_
          refine lv_iconst (v := 0) hx hb dX12_twice_32 (by decide) ?_
          refine lv_sipush (v := 9999) hx hb dX12_twice_33 (by decide) ?_
          refine vp_callSi (W.runS (As := [.int p3, .int 0, .int 9999]) (rest := []) ⟨hx, hb, hml, hown, hT⟩ (c_X12_in l p3 0 9999) (va_cwS 3 hT (gS t_113 t_114 t_115 t_6) rfl rfl rfl (by decide +kernel) ⟨Nat.le_of_ble_eq_true rfl, Nat.le_of_ble_eq_true rfl⟩) preT rfl rfl hl.1 rfl (lv_room (Nat.le_of_ble_eq_true rfl)) dX12_twice_36 ⟨Nat.le_of_ble_eq_true rfl, Nat.le_of_ble_eq_true rfl⟩) (fun r_11 hr_11 => ?_)
          have hr_11 : BR r_11 (0 ≤ p3.toInt ∧ p3.toInt ≤ 9999) 1 0 := hr_11
          rcases hr_11 with ⟨rfl, h_12⟩ | ⟨rfl, h_12⟩
          · skip
            refine lv_if_eq (tgt := 51) hx hb dX12_twice_39 (by decide) (fun c_13 => absurd c_13 (by decide)) (fun c_13 => ?_)
            refine lv_aload_n hx hb dX12_twice_42 rfl (lv_at hl 0 rfl) ?_
            refine va_get (D := D) (ci := 12) (v := .int (i 63)) (C := RX12) (T := TX12) (N := 91) hx hb hT iX12 hown hK hP 0 rfl rfl 63 (by decide) (hT _ t_191) (fun _ h9 => h9) rfl dX12_twice_43 ?_
            have hg_14 : 0 ≤ (i 63).toInt ∧ (i 63).toInt ≤ 40 := hRi 63
            refine lv_bipush (v := 40) hx hb dX12_twice_46 (by decide) ?_
            refine lv_icmp_ne (tgt := 53) hx hb dX12_twice_48 (by decide) (fun c_15 => ?_) (fun c_15 => ?_)
            · have c_15 : (i 63).toInt ≠ 40 := b_ne c_15
              refine lv_aload_n hx hb dX12_twice_53 rfl (lv_at hl 0 rfl) ?_
              refine va_get (D := D) (ci := 12) (v := .ref (a 52)) (C := RX12) (T := TX12) (N := 91) hx hb hT iX12 hown hK hP 0 rfl rfl 66 (by decide) (hT _ t_192) (fun _ h9 => h9) rfl dX12_twice_54 ?_
              refine lv_aload_n hx hb dX12_twice_57 rfl (lv_at hl 0 rfl) ?_
              refine va_get (D := D) (ci := 12) (v := .int (i 63)) (C := RX12) (T := TX12) (N := 91) hx hb hT iX12 hown hK hP 0 rfl rfl 63 (by decide) (hT _ t_191) (fun _ h9 => h9) rfl dX12_twice_58 ?_
              refine lv_iload_n hx hb dX12_twice_61 rfl (lv_at hl 1 rfl) ?_
              refine va_iast hx hb hK hP hD hS 52 0 rfl rfl (vp_inI (by omega) (by omega)) dX12_twice_62 (fun H locs hP hD hS => ?_)
              rw [mS52] at hP hD
              have hRr : mRr (va_up r 52 (upd (r 52) ((i 63).toNatClampNeg) p0)) := Rr_upd hRr 52 ((i 63).toNatClampNeg) p0 ⟨by show (0 : Int) ≤ p0.toInt; omega, by show p0.toInt ≤ (5 : Int); omega⟩
              have hEr : mEr [52, 53, 54, 55] _ (va_up r 52 (upd (r 52) ((i 63).toNatClampNeg) p0)) := Er_up hEr 52 _ (by decide)
              refine lv_aload_n hx hb dX12_twice_63 rfl (lv_at hl 0 rfl) ?_
              refine va_get (D := D) (ci := 12) (v := .ref (a 53)) (C := RX12) (T := TX12) (N := 91) hx hb hT iX12 hown hK hP 0 rfl rfl 67 (by decide) (hT _ t_193) (fun _ h9 => h9) rfl dX12_twice_64 ?_
              refine lv_aload_n hx hb dX12_twice_67 rfl (lv_at hl 0 rfl) ?_
              refine va_get (D := D) (ci := 12) (v := .int (i 63)) (C := RX12) (T := TX12) (N := 91) hx hb hT iX12 hown hK hP 0 rfl rfl 63 (by decide) (hT _ t_191) (fun _ h9 => h9) rfl dX12_twice_68 ?_
              refine lv_iload_n hx hb dX12_twice_71 rfl (lv_at hl 2 rfl) ?_
              refine va_iast hx hb hK hP hD hS 53 0 rfl rfl (vp_inI (by omega) (by omega)) dX12_twice_72 (fun H locs hP hD hS => ?_)
              rw [mS53] at hP hD
              have hRr : mRr (va_up (va_up r 52 (upd (r 52) ((i 63).toNatClampNeg) p0)) 53 (upd (r 53) ((i 63).toNatClampNeg) p1)) := Rr_upd hRr 53 ((i 63).toNatClampNeg) p1 ⟨by show (0 : Int) ≤ p1.toInt; omega, by show p1.toInt ≤ (5 : Int); omega⟩
              have hEr : mEr [52, 53, 54, 55] _ (va_up (va_up r 52 (upd (r 52) ((i 63).toNatClampNeg) p0)) 53 (upd (r 53) ((i 63).toNatClampNeg) p1)) := Er_up hEr 53 _ (by decide)
              refine lv_aload_n hx hb dX12_twice_73 rfl (lv_at hl 0 rfl) ?_
              refine va_get (D := D) (ci := 12) (v := .ref (a 54)) (C := RX12) (T := TX12) (N := 91) hx hb hT iX12 hown hK hP 0 rfl rfl 68 (by decide) (hT _ t_194) (fun _ h9 => h9) rfl dX12_twice_74 ?_
              refine lv_aload_n hx hb dX12_twice_77 rfl (lv_at hl 0 rfl) ?_
              refine va_get (D := D) (ci := 12) (v := .int (i 63)) (C := RX12) (T := TX12) (N := 91) hx hb hT iX12 hown hK hP 0 rfl rfl 63 (by decide) (hT _ t_191) (fun _ h9 => h9) rfl dX12_twice_78 ?_
              refine lv_iload_n hx hb dX12_twice_81 rfl (lv_at hl 3 rfl) ?_
              refine va_iast hx hb hK hP hD hS 54 0 rfl rfl (vp_inI (by omega) (by omega)) dX12_twice_82 (fun H locs hP hD hS => ?_)
              rw [mS54] at hP hD
              have hRr : mRr (va_up (va_up (va_up r 52 (upd (r 52) ((i 63).toNatClampNeg) p0)) 53 (upd (r 53) ((i 63).toNatClampNeg) p1)) 54 (upd (r 54) ((i 63).toNatClampNeg) p2)) := Rr_upd hRr 54 ((i 63).toNatClampNeg) p2 ⟨by show (0 : Int) ≤ p2.toInt; omega, by show p2.toInt ≤ (9999 : Int); omega⟩
              have hEr : mEr [52, 53, 54, 55] _ (va_up (va_up (va_up r 52 (upd (r 52) ((i 63).toNatClampNeg) p0)) 53 (upd (r 53) ((i 63).toNatClampNeg) p1)) 54 (upd (r 54) ((i 63).toNatClampNeg) p2)) := Er_up hEr 54 _ (by decide)
              refine lv_aload_n hx hb dX12_twice_83 rfl (lv_at hl 0 rfl) ?_
              refine va_get (D := D) (ci := 12) (v := .ref (a 55)) (C := RX12) (T := TX12) (N := 91) hx hb hT iX12 hown hK hP 0 rfl rfl 69 (by decide) (hT _ t_195) (fun _ h9 => h9) rfl dX12_twice_84 ?_
              refine lv_aload_n hx hb dX12_twice_87 rfl (lv_at hl 0 rfl) ?_
              refine va_get (D := D) (ci := 12) (v := .int (i 63)) (C := RX12) (T := TX12) (N := 91) hx hb hT iX12 hown hK hP 0 rfl rfl 63 (by decide) (hT _ t_191) (fun _ h9 => h9) rfl dX12_twice_88 ?_
              refine lv_iload hx hb dX12_twice_91 (lv_at hl 4 rfl) ?_
              refine va_iast hx hb hK hP hD hS 55 0 rfl rfl (vp_inI (by omega) (by omega)) dX12_twice_93 (fun H locs hP hD hS => ?_)
              rw [mS55] at hP hD
              have hRr : mRr (va_up (va_up (va_up (va_up r 52 (upd (r 52) ((i 63).toNatClampNeg) p0)) 53 (upd (r 53) ((i 63).toNatClampNeg) p1)) 54 (upd (r 54) ((i 63).toNatClampNeg) p2)) 55 (upd (r 55) ((i 63).toNatClampNeg) p3)) := Rr_upd hRr 55 ((i 63).toNatClampNeg) p3 ⟨by show (0 : Int) ≤ p3.toInt; omega, by show p3.toInt ≤ (9999 : Int); omega⟩
              have hEr : mEr [52, 53, 54, 55] _ (va_up (va_up (va_up (va_up r 52 (upd (r 52) ((i 63).toNatClampNeg) p0)) 53 (upd (r 53) ((i 63).toNatClampNeg) p1)) 54 (upd (r 54) ((i 63).toNatClampNeg) p2)) 55 (upd (r 55) ((i 63).toNatClampNeg) p3)) := Er_up hEr 55 _ (by decide)
              refine lv_aload_n hx hb dX12_twice_94 rfl (lv_at hl 0 rfl) ?_
              refine lv_aload_n hx hb dX12_twice_95 rfl (lv_at hl 0 rfl) ?_
              refine va_get (D := D) (ci := 12) (v := .int (i 63)) (C := RX12) (T := TX12) (N := 91) hx hb hT iX12 hown hK hP 0 rfl rfl 63 (by decide) (hT _ t_191) (fun _ h9 => h9) rfl dX12_twice_96 ?_
              refine lv_iconst (v := 1) hx hb dX12_twice_99 (by decide) ?_
              refine lv_iadd hx hb dX12_twice_100 ?_
              refine lv_topi (fun v_16 ev_16 => ?_)
              have hv_16 : v_16.toInt = (i 63).toInt + 1 := by rw [ev_16]; have := b_rg (i 63); exact i_add (a := (i 63).toInt) (b := 1) rfl rfl (by omega) (by omega)
              refine va_put (D := D) (ci := 12) (v := .int v_16) (ty := .int) (C := RX12) (T := TX12) (N := 91) hx hb hT iX12 tyX12 tyX12_ok nmX12 hown hK hP hD hS 0 rfl rfl 63 (by decide) (hT _ t_191) (fun _ h9 => h9) rfl (by decide +kernel) rfl rfl (Nat.le_of_ble_eq_true rfl) dX12_twice_101 (fun H locs hP hD hS => ?_)
              rw [mP63] at hP hD
              have hRi := Ri_upd hRi 63 v_16 ⟨by show (0 : Int) ≤ v_16.toInt; omega, by show v_16.toInt ≤ (40 : Int); omega⟩
              have hEi := Ei_upd hEi 63 v_16 (by decide)
              refine lv_aload_n hx hb dX12_twice_104 rfl (lv_at hl 0 rfl) ?_
              refine va_get (D := D) (ci := 12) (v := .int v_16) (C := RX12) (T := TX12) (N := 91) hx hb hT iX12 hown hK hP 0 rfl rfl 63 (by decide) (hT _ t_191) (fun _ h9 => h9) rfl dX12_twice_105 ?_
              subst hQ
              exact W.iret (v := v_16) hx hb hr (fun t ht hW => ⟨⟨_, (upd i 63 v_16, va_up (va_up (va_up (va_up r 52 (upd (r 52) ((i 63).toNatClampNeg) p0)) 53 (upd (r 53) ((i 63).toNatClampNeg) p1)) 54 (upd (r 54) ((i 63).toNatClampNeg) p2)) 55 (upd (r 55) ((i 63).toNatClampNeg) p3)), rfl, ⟨hRi, hRr, hEi, hEr, ⟨fun _ => ⟨by omega, by show v_16.toInt = _; omega, rfl, rfl, rfl, rfl⟩, fun h9 => absurd (by omega) h9⟩⟩, by rw [ht]; exact hP, va_K.moved hW.alike hK, hD⟩, hS.F ht⟩) hS.2.2 dX12_twice_108
            · have c_15 : (i 63).toInt = 40 := b_nne c_15
              refine lv_iconst (v := (-1)) hx hb dX12_twice_51 (by decide) ?_
              subst hQ
              exact W.iret (v := (-1)) hx hb hr (fun t ht hW => ⟨⟨_, (i, r), rfl, ⟨hRi, hRr, hEi, hEr, ⟨fun h9 => absurd h9 (by omega), fun _ => ⟨rfl, Ei_rf, Er_rf⟩⟩⟩, by rw [ht]; exact hP, va_K.moved hW.alike hK, hD⟩, hS.F ht⟩) hS.2.2 dX12_twice_52
          · skip
            refine lv_if_eq (tgt := 51) hx hb dX12_twice_39 (by decide) (fun c_17 => ?_) (fun c_17 => absurd (by decide) c_17)
            refine lv_iconst (v := (-1)) hx hb dX12_twice_51 (by decide) ?_
            subst hQ
            exact W.iret (v := (-1)) hx hb hr (fun t ht hW => ⟨⟨_, (i, r), rfl, ⟨hRi, hRr, hEi, hEr, ⟨fun h9 => absurd h9 (by omega), fun _ => ⟨rfl, Ei_rf, Er_rf⟩⟩⟩, by rw [ht]; exact hP, va_K.moved hW.alike hK, hD⟩, hS.F ht⟩) hS.2.2 dX12_twice_52
        · skip
          refine lv_if_eq (tgt := 51) hx hb dX12_twice_27 (by decide) (fun c_18 => ?_) (fun c_18 => absurd (by decide) c_18)
          refine lv_iconst (v := (-1)) hx hb dX12_twice_51 (by decide) ?_
          subst hQ
          exact W.iret (v := (-1)) hx hb hr (fun t ht hW => ⟨⟨_, (i, r), rfl, ⟨hRi, hRr, hEi, hEr, ⟨fun h9 => absurd h9 (by omega), fun _ => ⟨rfl, Ei_rf, Er_rf⟩⟩⟩, by rw [ht]; exact hP, va_K.moved hW.alike hK, hD⟩, hS.F ht⟩) hS.2.2 dX12_twice_52
    · skip
      refine lv_if_eq (tgt := 51) hx hb dX12_twice_11 (by decide) (fun c_19 => ?_) (fun c_19 => absurd (by decide) c_19)
      refine lv_iconst (v := (-1)) hx hb dX12_twice_51 (by decide) ?_
      subst hQ
      exact W.iret (v := (-1)) hx hb hr (fun t ht hW => ⟨⟨_, (i, r), rfl, ⟨hRi, hRr, hEi, hEr, ⟨fun h9 => absurd h9 (by omega), fun _ => ⟨rfl, Ei_rf, Er_rf⟩⟩⟩, by rw [ht]; exact hP, va_K.moved hW.alike hK, hD⟩, hS.F ht⟩) hS.2.2 dX12_twice_52
  · skip
    refine lv_if_eq (tgt := 51) hx hb dX12_twice_4 (by decide) (fun c_20 => ?_) (fun c_20 => absurd (by decide) c_20)
    refine lv_iconst (v := (-1)) hx hb dX12_twice_51 (by decide) ?_
    subst hQ
    exact W.iret (v := (-1)) hx hb hr (fun t ht hW => ⟨⟨_, (i, r), rfl, ⟨hRi, hRr, hEi, hEr, ⟨fun h9 => absurd h9 (by omega), fun _ => ⟨rfl, Ei_rf, Er_rf⟩⟩⟩, by rw [ht]; exact hP, va_K.moved hW.alike hK, hD⟩, hS.F ht⟩) hS.2.2 dX12_twice_52
def ABS (x : Int32) : Int32 := if 0 ≤ x then x else 0 - x
set_option maxHeartbeats 4000000 in
set_option maxRecDepth 100000 in
theorem c_X2_add9 (l : Launch) (D : va_G) (cy : Nat → ClassId) (a : Nat → Nat) (i : Nat → Int32) (r : Nat → Nat → Int32) (q : Nat → Option Nat) (tl : va_W) (p0 p1 : Int32) (sz : Nat) (hRi : yRi i) (hRr : yRr r) (q0 : 0 ≤ p0.toInt ∧ p0.toInt ≤ 5) : Met l yX2_add (Cond.code yX2_add cX2_add 3 none :: gT) { frames := 1, cells := 0, slots := 0, locals := 24 } (va_Pc [.ref (a 54), .int p0, .int p1] (rQ D cy (xW cy a i r q (a 20) (a 12) ++ tl) sz)) (va_Qv (fun u : Nat → Nat → Int32 => yRr u ∧ mEr [55, 56, 57] r u ∧ (u 55 = upd (r 55) p0.toNatClampNeg (r 55 p0.toNatClampNeg + 1) ∧ u 56 = upd (r 56) p0.toNatClampNeg (r 56 p0.toNatClampNeg + ABS p1) ∧ u 57 = upd (r 57) p0.toNatClampNeg (r 57 p0.toNatClampNeg + p1))) (fun (u : Nat → Nat → Int32) t => va_P D vwCl (xW cy a i u q (a 20) (a 12) ++ tl) t.heap ∧ va_K D vwCl (vT cy) t ∧ va_D (va_A (xW cy a i r q (a 20) (a 12) ++ tl) sz) (xW cy a i u q (a 20) (a 12) ++ tl)) (va_A (xW cy a i r q (a 20) (a 12) ++ tl) sz)) 0 0 (va_A (xW cy a i r q (a 20) (a 12) ++ tl) sz) := by
  refine Met.ofQ (cc := cX2_add) (maxL := 3) (ret := none) (by decide) rfl ?_
  intro p e s m args below meth c s₁ B hml hv Q hQ
  obtain ⟨rfl, hsz, hP, hK, hD0⟩ := hv
  have hx := B.exec
  have hb := B.bytes
  have hr := B.returns
  have hlocks := B.notSynchronized
  have hT : ∀ w ∈ gT, w.before _ s = true := fun w h => atoms_spec (ws := (Cond.code yX2_add cX2_add 3 none :: gT)) B.pre w (List.mem_cons_of_mem _ h)
  have hown : s.vm.findClass RX2 = some m.cls := findClass_of_methodNamed B.named
  subst hsz
  have hD := hD0.self (sz := s.heap.size)
  generalize hAe : va_A (xW cy a i r q (a 20) (a 12) ++ tl) s.heap.size = A at hD hQ
  have hA : ∀ q : Nat, s.heap.size ≤ q → A q := fun q h => by rw [← hAe]; exact Or.inr h
  have hS : va_S A s.heap s.heap [] := va_S.rf
  have hl := lv_entry ([.ref (a 54), .int p0, .int p1]) (n := 3) (Nat.le_of_ble_eq_true rfl)
  rw [lg_entry_eq]
  generalize (lg_sl ([.ref (a 54), .int p0, .int p1]) ++ List.replicate (3 - (lg_sl ([.ref (a 54), .int p0, .int p1])).length) Slot.unset).toArray = ls at hl ⊢
  have hl : lv_has ls 3 [(0, .ref (a 54)), (1, .int p0), (2, .int p1)] := hl
  have hEi : mEi [] i i := Ei_rf
  have hEr : mEr [55, 56, 57] r r := Er_rf
  refine lv_aload_n hx hb dX2_add_0 rfl (lv_at hl 0 rfl) ?_
  refine va_get (D := D) (ci := 2) (v := .ref (a 55)) (C := RX2) (T := TX2) (N := 4) hx hb hT iX2 hown hK hP 54 rfl rfl 1 (by decide) (hT _ t_285) (fun _ h9 => h9) rfl dX2_add_1 ?_
  refine lv_iload_n hx hb dX2_add_4 rfl (lv_at hl 1 rfl) ?_
  refine lv_dup2_11 hx hb dX2_add_5 rfl rfl ?_
  refine va_iald hx hb hK hP 55 0 rfl rfl (vp_inI (by omega) (by omega)) dX2_add_6 ?_
  refine lv_topi (fun v_1 ev_1 => ?_)
  refine lv_iconst (v := 1) hx hb dX2_add_7 (by decide) ?_
  refine lv_iadd hx hb dX2_add_8 ?_
  refine lv_topi (fun v_2 ev_2 => ?_)
  refine va_iast hx hb hK hP hD hS 55 0 rfl rfl (vp_inI (by omega) (by omega)) dX2_add_9 (fun H locs hP hD hS => ?_)
  rw [zS55] at hP hD
  have hRr : yRr (va_up r 55 (upd (r 55) p0.toNatClampNeg v_2)) := Yr_upd hRr 55 (p0.toNatClampNeg) v_2 (b_rg _)
  have hEr : mEr [55, 56, 57] _ (va_up r 55 (upd (r 55) p0.toNatClampNeg v_2)) := Er_up hEr 55 _ (by decide)
  refine lv_aload_n hx hb dX2_add_10 rfl (lv_at hl 0 rfl) ?_
  refine va_get (D := D) (ci := 2) (v := .ref (a 56)) (C := RX2) (T := TX2) (N := 4) hx hb hT iX2 hown hK hP 54 rfl rfl 2 (by decide) (hT _ t_286) (fun _ h9 => h9) rfl dX2_add_11 ?_
  refine lv_iload_n hx hb dX2_add_14 rfl (lv_at hl 1 rfl) ?_
  refine lv_dup2_11 hx hb dX2_add_15 rfl rfl ?_
  refine va_iald hx hb hK hP 56 0 rfl rfl (vp_inI (by omega) (by omega)) dX2_add_16 ?_
  refine lv_topi (fun v_3 ev_3 => ?_)
  refine lv_iload_n hx hb dX2_add_17 rfl (lv_at hl 2 rfl) ?_
  refine va_mabs hx hb (by rw [hml]; exact hl.1.symm) hown (hT _ t_287) (hT _ t_288) (hT _ t_289) (hT _ t_290) (Nat.le_of_ble_eq_true rfl) (Nat.le_of_ble_eq_true rfl) (Nat.le_of_ble_eq_true rfl) (Nat.le_of_ble_eq_true rfl) dX2_add_18 ?_
  refine lv_topi (fun v_4 ev_4 => ?_)
  refine lv_iadd hx hb dX2_add_21 ?_
  refine lv_topi (fun v_5 ev_5 => ?_)
  refine va_iast hx hb hK hP hD hS 56 0 rfl rfl (vp_inI (by omega) (by omega)) dX2_add_22 (fun H locs hP hD hS => ?_)
  rw [zS56] at hP hD
  have hRr : yRr (va_up (va_up r 55 (upd (r 55) p0.toNatClampNeg v_2)) 56 (upd (r 56) p0.toNatClampNeg v_5)) := Yr_upd hRr 56 (p0.toNatClampNeg) v_5 (b_rg _)
  have hEr : mEr [55, 56, 57] _ (va_up (va_up r 55 (upd (r 55) p0.toNatClampNeg v_2)) 56 (upd (r 56) p0.toNatClampNeg v_5)) := Er_up hEr 56 _ (by decide)
  refine lv_aload_n hx hb dX2_add_23 rfl (lv_at hl 0 rfl) ?_
  refine va_get (D := D) (ci := 2) (v := .ref (a 57)) (C := RX2) (T := TX2) (N := 4) hx hb hT iX2 hown hK hP 54 rfl rfl 3 (by decide) (hT _ t_291) (fun _ h9 => h9) rfl dX2_add_24 ?_
  refine lv_iload_n hx hb dX2_add_27 rfl (lv_at hl 1 rfl) ?_
  refine lv_dup2_11 hx hb dX2_add_28 rfl rfl ?_
  refine va_iald hx hb hK hP 57 0 rfl rfl (vp_inI (by omega) (by omega)) dX2_add_29 ?_
  refine lv_topi (fun v_6 ev_6 => ?_)
  refine lv_iload_n hx hb dX2_add_30 rfl (lv_at hl 2 rfl) ?_
  refine lv_iadd hx hb dX2_add_31 ?_
  refine lv_topi (fun v_7 ev_7 => ?_)
  refine va_iast hx hb hK hP hD hS 57 0 rfl rfl (vp_inI (by omega) (by omega)) dX2_add_32 (fun H locs hP hD hS => ?_)
  rw [zS57] at hP hD
  have hRr : yRr (va_up (va_up (va_up r 55 (upd (r 55) p0.toNatClampNeg v_2)) 56 (upd (r 56) p0.toNatClampNeg v_5)) 57 (upd (r 57) p0.toNatClampNeg v_7)) := Yr_upd hRr 57 (p0.toNatClampNeg) v_7 (b_rg _)
  have hEr : mEr [55, 56, 57] _ (va_up (va_up (va_up r 55 (upd (r 55) p0.toNatClampNeg v_2)) 56 (upd (r 56) p0.toNatClampNeg v_5)) 57 (upd (r 57) p0.toNatClampNeg v_7)) := Er_up hEr 57 _ (by decide)
  subst hQ
  have h1 : v_2 = r 55 p0.toNatClampNeg + 1 := by rw [ev_2, ev_1] <;> rfl
  have h2 : v_5 = r 56 p0.toNatClampNeg + ABS p1 := by rw [ev_5, ev_3, ev_4] <;> rfl
  have h3 : v_7 = r 57 p0.toNatClampNeg + p1 := by rw [ev_7, ev_6] <;> rfl
  exact W.vret hx hb hr (fun t ht hW => ⟨⟨(va_up (va_up (va_up r 55 (upd (r 55) p0.toNatClampNeg v_2)) 56 (upd (r 56) p0.toNatClampNeg v_5)) 57 (upd (r 57) p0.toNatClampNeg v_7)), rfl, ⟨hRr, hEr, ⟨by rw [← h1]; rfl, by rw [← h2]; rfl, by rw [← h3]; rfl⟩⟩, by rw [ht]; exact hP, va_K.moved hW.alike hK, hD⟩, hS.F ht⟩) hS.2.2 dX2_add_33
set_option maxHeartbeats 4000000 in
set_option maxRecDepth 100000 in
theorem c_X11_twice9 (l : Launch) (D : va_G) (cy : Nat → ClassId) (a : Nat → Nat) (i : Nat → Int32) (r : Nat → Nat → Int32) (q : Nat → Option Nat) (tl : va_W) (p0 p1 p2 p3 : Int32) (sz : Nat) (hRi : yRi i) (hRr : yRr r) : Met l yX11_twice (Cond.code yX11_twice cX11_twice 5 (some .int) :: gT) { frames := 2, cells := 0, slots := 0, locals := 46 } (va_Pc [.ref (a 0), .int p0, .int p1, .int p2, .int p3] (rQ D cy (xW cy a i r q (a 20) (a 12) ++ tl) sz)) (va_Qi (fun (z : Int32) (u : (Nat → Int32) × (Nat → Nat → Int32)) => yRi u.1 ∧ yRr u.2 ∧ mEi [14] i u.1 ∧ mEr [55, 56, 57] r u.2 ∧ ((((0 ≤ p0.toInt ∧ p0.toInt ≤ 5) ∧ (0 ≤ p1.toInt ∧ p1.toInt ≤ 5) ∧ p0.toInt ≠ p1.toInt ∧ (0 ≤ p2.toInt ∧ p2.toInt ≤ 9999) ∧ (0 ≤ p3.toInt ∧ p3.toInt ≤ 9999) ∧ (i 14).toInt ≤ 39) → z.toInt = (i 14).toInt + 1 ∧ (u.1 14).toInt = (i 14).toInt + 1 ∧ u.2 55 = upd (upd (r 55) p0.toNatClampNeg (r 55 p0.toNatClampNeg + 1)) p1.toNatClampNeg (r 55 p1.toNatClampNeg + 1) ∧ u.2 56 = upd (upd (r 56) p0.toNatClampNeg (r 56 p0.toNatClampNeg + ABS (p2 - p3))) p1.toNatClampNeg (r 56 p1.toNatClampNeg + ABS (p3 - p2)) ∧ u.2 57 = upd (upd (r 57) p0.toNatClampNeg (r 57 p0.toNatClampNeg + (p2 - p3))) p1.toNatClampNeg (r 57 p1.toNatClampNeg + (p3 - p2))) ∧ (¬ ((0 ≤ p0.toInt ∧ p0.toInt ≤ 5) ∧ (0 ≤ p1.toInt ∧ p1.toInt ≤ 5) ∧ p0.toInt ≠ p1.toInt ∧ (0 ≤ p2.toInt ∧ p2.toInt ≤ 9999) ∧ (0 ≤ p3.toInt ∧ p3.toInt ≤ 9999) ∧ (i 14).toInt ≤ 39) → z = -1 ∧ mEi [] i u.1 ∧ mEr [] r u.2))) (fun (u : (Nat → Int32) × (Nat → Nat → Int32)) t => va_P D vwCl (xW cy a u.1 u.2 q (a 20) (a 12) ++ tl) t.heap ∧ va_K D vwCl (vT cy) t ∧ va_D (va_A (xW cy a i r q (a 20) (a 12) ++ tl) sz) (xW cy a u.1 u.2 q (a 20) (a 12) ++ tl)) (va_A (xW cy a i r q (a 20) (a 12) ++ tl) sz)) 0 0 (va_A (xW cy a i r q (a 20) (a 12) ++ tl) sz) := by
  refine Met.ofQ (cc := cX11_twice) (maxL := 5) (ret := (some .int)) (by decide) rfl ?_
  intro p e s m args below meth c s₁ B hml hv Q hQ
  obtain ⟨rfl, hsz, hP, hK, hD0⟩ := hv
  have hx := B.exec
  have hb := B.bytes
  have hr := B.returns
  have hlocks := B.notSynchronized
  have hT : ∀ w ∈ gT, w.before _ s = true := fun w h => atoms_spec (ws := (Cond.code yX11_twice cX11_twice 5 (some .int) :: gT)) B.pre w (List.mem_cons_of_mem _ h)
  have hown : s.vm.findClass RX11 = some m.cls := findClass_of_methodNamed B.named
  subst hsz
  have hD := hD0.self (sz := s.heap.size)
  generalize hAe : va_A (xW cy a i r q (a 20) (a 12) ++ tl) s.heap.size = A at hD hQ
  have hA : ∀ q : Nat, s.heap.size ≤ q → A q := fun q h => by rw [← hAe]; exact Or.inr h
  have hS : va_S A s.heap s.heap [] := va_S.rf
  have hl := lv_entry ([.ref (a 0), .int p0, .int p1, .int p2, .int p3]) (n := 5) (Nat.le_of_ble_eq_true rfl)
  rw [lg_entry_eq]
  generalize (lg_sl ([.ref (a 0), .int p0, .int p1, .int p2, .int p3]) ++ List.replicate (5 - (lg_sl ([.ref (a 0), .int p0, .int p1, .int p2, .int p3])).length) Slot.unset).toArray = ls at hl ⊢
  have hl : lv_has ls 5 [(0, .ref (a 0)), (1, .int p0), (2, .int p1), (3, .int p2), (4, .int p3)] := hl
  have hEi : mEi [14] i i := Ei_rf
  have hEr : mEr [55, 56, 57] r r := Er_rf
  refine lv_iload_n hx hb dX11_twice_0 rfl (lv_at hl 1 rfl) ?_
  refine lv_iconst (v := 0) hx hb dX11_twice_1 (by decide) ?_
  refine lv_iconst (v := 5) hx hb dX11_twice_2 (by decide) ?_
  refine vp_callSi (W.runS (As := [.int p0, .int 0, .int 5]) (rest := []) ⟨hx, hb, hml, hown, hT⟩ (c_X11_within l p0 0 5) (va_cwS 3 hT (gS t_1 t_3 t_4 t_2) rfl rfl rfl (by decide +kernel) ⟨Nat.le_of_ble_eq_true rfl, Nat.le_of_ble_eq_true rfl⟩) preT rfl rfl hl.1 rfl (lv_room (Nat.le_of_ble_eq_true rfl)) dX11_twice_3 ⟨Nat.le_of_ble_eq_true rfl, Nat.le_of_ble_eq_true rfl⟩) (fun r_1 hr_1 => ?_)
  have hr_1 : BR r_1 (0 ≤ p0.toInt ∧ p0.toInt ≤ 5) 1 0 := hr_1
  rcases hr_1 with ⟨rfl, h_2⟩ | ⟨rfl, h_2⟩
  · skip
    refine lv_if_eq (tgt := 58) hx hb dX11_twice_6 (by decide) (fun c_3 => absurd c_3 (by decide)) (fun c_3 => ?_)
    refine lv_iload_n hx hb dX11_twice_9 rfl (lv_at hl 2 rfl) ?_
    refine lv_iconst (v := 0) hx hb dX11_twice_10 (by decide) ?_
    refine lv_iconst (v := 5) hx hb dX11_twice_11 (by decide) ?_
    refine vp_callSi (W.runS (As := [.int p1, .int 0, .int 5]) (rest := []) ⟨hx, hb, hml, hown, hT⟩ (c_X11_within l p1 0 5) (va_cwS 3 hT (gS t_1 t_3 t_4 t_2) rfl rfl rfl (by decide +kernel) ⟨Nat.le_of_ble_eq_true rfl, Nat.le_of_ble_eq_true rfl⟩) preT rfl rfl hl.1 rfl (lv_room (Nat.le_of_ble_eq_true rfl)) dX11_twice_12 ⟨Nat.le_of_ble_eq_true rfl, Nat.le_of_ble_eq_true rfl⟩) (fun r_4 hr_4 => ?_)
    have hr_4 : BR r_4 (0 ≤ p1.toInt ∧ p1.toInt ≤ 5) 1 0 := hr_4
    rcases hr_4 with ⟨rfl, h_5⟩ | ⟨rfl, h_5⟩
    · skip
      refine lv_if_eq (tgt := 58) hx hb dX11_twice_15 (by decide) (fun c_6 => absurd c_6 (by decide)) (fun c_6 => ?_)
      refine lv_iload_n hx hb dX11_twice_18 rfl (lv_at hl 1 rfl) ?_
      refine lv_iload_n hx hb dX11_twice_19 rfl (lv_at hl 2 rfl) ?_
      refine lv_icmp_eq (tgt := 58) hx hb dX11_twice_20 (by decide) (fun c_7 => ?_) (fun c_7 => ?_)
      · have c_7 : p0.toInt = p1.toInt := b_eq c_7
        refine lv_iconst (v := (-1)) hx hb dX11_twice_58 (by decide) ?_
        subst hQ
        exact W.iret (v := (-1)) hx hb hr (fun t ht hW => ⟨⟨_, (i, r), rfl, ⟨hRi, hRr, hEi, hEr, ⟨fun h9 => absurd h9 (by omega), fun _ => ⟨rfl, Ei_rf, Er_rf⟩⟩⟩, by rw [ht]; exact hP, va_K.moved hW.alike hK, hD⟩, hS.F ht⟩) hS.2.2 dX11_twice_59
      · have c_7 : p0.toInt ≠ p1.toInt := b_ne c_7
        refine lv_iload_n hx hb dX11_twice_23 rfl (lv_at hl 3 rfl) ?_
        refine lv_iconst (v := 0) hx hb dX11_twice_24 (by decide) ?_
        refine lv_sipush (v := 9999) hx hb dX11_twice_25 (by decide) ?_
        refine vp_callSi (W.runS (As := [.int p2, .int 0, .int 9999]) (rest := []) ⟨hx, hb, hml, hown, hT⟩ (c_X11_within l p2 0 9999) (va_cwS 3 hT (gS t_1 t_3 t_4 t_2) rfl rfl rfl (by decide +kernel) ⟨Nat.le_of_ble_eq_true rfl, Nat.le_of_ble_eq_true rfl⟩) preT rfl rfl hl.1 rfl (lv_room (Nat.le_of_ble_eq_true rfl)) dX11_twice_28 ⟨Nat.le_of_ble_eq_true rfl, Nat.le_of_ble_eq_true rfl⟩) (fun r_8 hr_8 => ?_)
        have hr_8 : BR r_8 (0 ≤ p2.toInt ∧ p2.toInt ≤ 9999) 1 0 := hr_8
        rcases hr_8 with ⟨rfl, h_9⟩ | ⟨rfl, h_9⟩
        · skip
          refine lv_if_eq (tgt := 58) hx hb dX11_twice_31 (by decide) (fun c_10 => absurd c_10 (by decide)) (fun c_10 => ?_)
          refine lv_iload hx hb dX11_twice_34 (lv_at hl 4 rfl) ?_
          refine lv_iconst (v := 0) hx hb dX11_twice_36 (by decide) ?_
          refine lv_sipush (v := 9999) hx hb dX11_twice_37 (by decide) ?_
          refine vp_callSi (W.runS (As := [.int p3, .int 0, .int 9999]) (rest := []) ⟨hx, hb, hml, hown, hT⟩ (c_X11_within l p3 0 9999) (va_cwS 3 hT (gS t_1 t_3 t_4 t_2) rfl rfl rfl (by decide +kernel) ⟨Nat.le_of_ble_eq_true rfl, Nat.le_of_ble_eq_true rfl⟩) preT rfl rfl hl.1 rfl (lv_room (Nat.le_of_ble_eq_true rfl)) dX11_twice_40 ⟨Nat.le_of_ble_eq_true rfl, Nat.le_of_ble_eq_true rfl⟩) (fun r_11 hr_11 => ?_)
          have hr_11 : BR r_11 (0 ≤ p3.toInt ∧ p3.toInt ≤ 9999) 1 0 := hr_11
          rcases hr_11 with ⟨rfl, h_12⟩ | ⟨rfl, h_12⟩
          · skip
            refine lv_if_eq (tgt := 58) hx hb dX11_twice_43 (by decide) (fun c_13 => absurd c_13 (by decide)) (fun c_13 => ?_)
            refine lv_aload_n hx hb dX11_twice_46 rfl (lv_at hl 0 rfl) ?_
            refine va_get (D := D) (ci := 11) (v := .ref (a 54)) (C := RX11) (T := TX11) (N := 14) hx hb hT iX11 hown hK hP 0 rfl rfl 12 (by decide) (hT _ t_292) (fun _ h9 => h9) rfl dX11_twice_47 ?_
            refine va_get (D := D) (ci := 2) (v := .int (i 14)) (C := RX2) (T := TX2) (N := 4) hx hb hT iX2 hown hK hP 54 rfl rfl 0 (by decide) (hT _ t_293) (fun _ h9 => h9) rfl dX11_twice_50 ?_
            have hg_14 : 0 ≤ (i 14).toInt ∧ (i 14).toInt ≤ 40 := hRi 14
            refine lv_bipush (v := 40) hx hb dX11_twice_53 (by decide) ?_
            refine lv_icmp_lt (tgt := 60) hx hb dX11_twice_55 (by decide) (fun c_15 => ?_) (fun c_15 => ?_)
            · have c_15 : (i 14).toInt < 40 := b_lt c_15
              refine lv_aload_n hx hb dX11_twice_60 rfl (lv_at hl 0 rfl) ?_
              refine va_get (D := D) (ci := 11) (v := .ref (a 54)) (C := RX11) (T := TX11) (N := 14) hx hb hT iX11 hown hK hP 0 rfl rfl 12 (by decide) (hT _ t_292) (fun _ h9 => h9) rfl dX11_twice_61 ?_
              refine lv_dup hx hb dX11_twice_64 rfl ?_
              refine va_get (D := D) (ci := 2) (v := .int (i 14)) (C := RX2) (T := TX2) (N := 4) hx hb hT iX2 hown hK hP 54 rfl rfl 0 (by decide) (hT _ t_293) (fun _ h9 => h9) rfl dX11_twice_65 ?_
              refine lv_iconst (v := 1) hx hb dX11_twice_68 (by decide) ?_
              refine lv_iadd hx hb dX11_twice_69 ?_
              refine lv_topi (fun v_16 ev_16 => ?_)
              have hv_16 : v_16.toInt = (i 14).toInt + 1 := by rw [ev_16]; have := b_rg (i 14); exact i_add (a := (i 14).toInt) (b := 1) rfl rfl (by omega) (by omega)
              refine va_put (D := D) (ci := 2) (v := .int v_16) (ty := .int) (C := RX2) (T := TX2) (N := 4) hx hb hT iX2 tyX2 tyX2_ok nmX2 hown hK hP hD hS 54 rfl rfl 0 (by decide) (hT _ t_293) (fun _ h9 => h9) rfl (by decide +kernel) rfl rfl (Nat.le_of_ble_eq_true rfl) dX11_twice_70 (fun H locs hP hD hS => ?_)
              rw [zP14] at hP hD
              have hRi := Yi_upd hRi 14 v_16 ⟨by show (0 : Int) ≤ v_16.toInt; omega, by show v_16.toInt ≤ (40 : Int); omega⟩
              have hEi := Ei_upd hEi 14 v_16 (by decide)
              refine lv_aload_n hx hb dX11_twice_73 rfl (lv_at hl 0 rfl) ?_
              refine va_get (D := D) (ci := 11) (v := .ref (a 54)) (C := RX11) (T := TX11) (N := 14) hx hb hT iX11 hown hK hP 0 rfl rfl 12 (by decide) (hT _ t_292) (fun _ h9 => h9) rfl dX11_twice_74 ?_
              refine lv_iload_n hx hb dX11_twice_77 rfl (lv_at hl 1 rfl) ?_
              refine lv_iload_n hx hb dX11_twice_78 rfl (lv_at hl 3 rfl) ?_
              refine lv_iload hx hb dX11_twice_79 (lv_at hl 4 rfl) ?_
              refine lv_isub hx hb dX11_twice_81 ?_
              refine lv_topi (fun v_17 ev_17 => ?_)
              have hv_17 : v_17.toInt = p2.toInt - p3.toInt := by rw [ev_17]; have := b_rg p2; have := b_rg p3; exact i_sub (a := p2.toInt) (b := p3.toInt) rfl rfl (by omega) (by omega)
              have hF_18 := rF hD hS hA
              refine va_callv (va_runV (As := [.int p0, .int v_17]) (rest := []) ⟨hx, hb, hml, hown, hT⟩ (c_X2_add9 l D cy a (upd i 14 v_16) r q tl p0 v_17 _ hRi hRr (by omega)) (cwV 2 hT (gV t_294 t_296 t_297 t_298 t_295) rfl rfl rfl (by decide +kernel) ⟨Nat.le_of_ble_eq_true rfl, Nat.le_of_ble_eq_true rfl⟩) (rQ_v hP hK hD (va_recv hK hP (ci := 2) (q0 := 54) rfl rfl)) rfl rfl hl.1 rfl (lv_room (Nat.le_of_ble_eq_true rfl)) dX11_twice_82 ⟨Nat.le_of_ble_eq_true rfl, Nat.le_of_ble_eq_true rfl⟩) hS (fun q _ h => hF_18 q h) hF_18 (fun u_20 t H1 locs ht hvm hr_19 hB hz1 hk1 hS => ?_)
              obtain ⟨r20, rfl⟩ : ∃ z, z = u_20 := ⟨_, rfl⟩
              obtain ⟨hP, hK1, hD1⟩ := hB
              rw [ht] at hP
              have hD := hD1.weaken (fun k q _ h => hF_18 q.1 h)
              obtain ⟨hRr, hE2, hr_19⟩ := hr_19
              have hRr : yRr r20 := hRr
              have hE2 : mEr [55, 56, 57] r r20 := hE2
              have hP : va_P D vwCl (xW cy a (upd i 14 v_16) r20 q (a 20) (a 12) ++ tl) H1 := hP
              have hD : va_D A (xW cy a (upd i 14 v_16) r20 q (a 20) (a 12) ++ tl) := hD
              have hEr : mEr [55, 56, 57] _ r20 := Er_tr hEr hE2 (by decide)
              have hr_19 : r20 55 = upd (r 55) p0.toNatClampNeg (r 55 p0.toNatClampNeg + 1) ∧ r20 56 = upd (r 56) p0.toNatClampNeg (r 56 p0.toNatClampNeg + ABS v_17) ∧ r20 57 = upd (r 57) p0.toNatClampNeg (r 57 p0.toNatClampNeg + v_17) := hr_19
              refine lv_aload_n hx hb dX11_twice_85 rfl (lv_at hl 0 rfl) ?_
              refine va_get (D := D) (ci := 11) (v := .ref (a 54)) (C := RX11) (T := TX11) (N := 14) hx hb hT iX11 hown hK hP 0 rfl rfl 12 (by decide) (hT _ t_292) (fun _ h9 => h9) rfl dX11_twice_86 ?_
              refine lv_iload_n hx hb dX11_twice_89 rfl (lv_at hl 2 rfl) ?_
              refine lv_iload hx hb dX11_twice_90 (lv_at hl 4 rfl) ?_
              refine lv_iload_n hx hb dX11_twice_92 rfl (lv_at hl 3 rfl) ?_
              refine lv_isub hx hb dX11_twice_93 ?_
              refine lv_topi (fun v_21 ev_21 => ?_)
              have hv_21 : v_21.toInt = p3.toInt - p2.toInt := by rw [ev_21]; have := b_rg p3; have := b_rg p2; exact i_sub (a := p3.toInt) (b := p2.toInt) rfl rfl (by omega) (by omega)
              have hF_22 := rF hD hS hA
              refine va_callv (va_runV (As := [.int p1, .int v_21]) (rest := []) ⟨hx, hb, hml, hown, hT⟩ (c_X2_add9 l D cy a (upd i 14 v_16) r20 q tl p1 v_21 _ hRi hRr (by omega)) (cwV 2 hT (gV t_294 t_296 t_297 t_298 t_295) rfl rfl rfl (by decide +kernel) ⟨Nat.le_of_ble_eq_true rfl, Nat.le_of_ble_eq_true rfl⟩) (rQ_v hP hK hD (va_recv hK hP (ci := 2) (q0 := 54) rfl rfl)) rfl rfl hl.1 rfl (lv_room (Nat.le_of_ble_eq_true rfl)) dX11_twice_94 ⟨Nat.le_of_ble_eq_true rfl, Nat.le_of_ble_eq_true rfl⟩) hS (fun q _ h => hF_22 q h) hF_22 (fun u_24 t H1 locs ht hvm hr_23 hB hz1 hk1 hS => ?_)
              obtain ⟨r24, rfl⟩ : ∃ z, z = u_24 := ⟨_, rfl⟩
              obtain ⟨hP, hK1, hD1⟩ := hB
              rw [ht] at hP
              have hD := hD1.weaken (fun k q _ h => hF_22 q.1 h)
              obtain ⟨hRr, hE2, hr_23⟩ := hr_23
              have hRr : yRr r24 := hRr
              have hE2 : mEr [55, 56, 57] r20 r24 := hE2
              have hP : va_P D vwCl (xW cy a (upd i 14 v_16) r24 q (a 20) (a 12) ++ tl) H1 := hP
              have hD : va_D A (xW cy a (upd i 14 v_16) r24 q (a 20) (a 12) ++ tl) := hD
              have hEr : mEr [55, 56, 57] _ r24 := Er_tr hEr hE2 (by decide)
              have hr_23 : r24 55 = upd (r20 55) p1.toNatClampNeg (r20 55 p1.toNatClampNeg + 1) ∧ r24 56 = upd (r20 56) p1.toNatClampNeg (r20 56 p1.toNatClampNeg + ABS v_21) ∧ r24 57 = upd (r20 57) p1.toNatClampNeg (r20 57 p1.toNatClampNeg + v_21) := hr_23
              refine lv_aload_n hx hb dX11_twice_97 rfl (lv_at hl 0 rfl) ?_
              refine va_get (D := D) (ci := 11) (v := .ref (a 54)) (C := RX11) (T := TX11) (N := 14) hx hb hT iX11 hown hK hP 0 rfl rfl 12 (by decide) (hT _ t_292) (fun _ h9 => h9) rfl dX11_twice_98 ?_
              refine va_get (D := D) (ci := 2) (v := .int v_16) (C := RX2) (T := TX2) (N := 4) hx hb hT iX2 hown hK hP 54 rfl rfl 0 (by decide) (hT _ t_293) (fun _ h9 => h9) rfl dX11_twice_101 ?_
              subst hQ
              have hne : p1.toNatClampNeg ≠ p0.toNatClampNeg := by show p1.toInt.toNat ≠ p0.toInt.toNat; omega
              have hb55 : r20 55 p1.toNatClampNeg = r 55 p1.toNatClampNeg := by rw [hr_19.1]; exact if_neg hne
              have hc55 : r24 55 = upd (upd (r 55) p0.toNatClampNeg (r 55 p0.toNatClampNeg + 1)) p1.toNatClampNeg (r 55 p1.toNatClampNeg + 1) := by rw [hr_23.1, hb55, hr_19.1]
              have hb56 : r20 56 p1.toNatClampNeg = r 56 p1.toNatClampNeg := by rw [hr_19.2.1]; exact if_neg hne
              have hc56 : r24 56 = upd (upd (r 56) p0.toNatClampNeg (r 56 p0.toNatClampNeg + ABS (p2 - p3))) p1.toNatClampNeg (r 56 p1.toNatClampNeg + ABS (p3 - p2)) := by rw [hr_23.2.1, hb56, hr_19.2.1]; rw [ev_17, ev_21]
              have hb57 : r20 57 p1.toNatClampNeg = r 57 p1.toNatClampNeg := by rw [hr_19.2.2]; exact if_neg hne
              have hc57 : r24 57 = upd (upd (r 57) p0.toNatClampNeg (r 57 p0.toNatClampNeg + (p2 - p3))) p1.toNatClampNeg (r 57 p1.toNatClampNeg + (p3 - p2)) := by rw [hr_23.2.2, hb57, hr_19.2.2]; rw [ev_17, ev_21]
              exact W.iret (v := v_16) hx hb hr (fun t ht hW => ⟨⟨_, (upd i 14 v_16, r24), rfl, ⟨hRi, hRr, hEi, hEr, ⟨fun _ => ⟨by omega, by show v_16.toInt = _; omega, hc55, hc56, hc57⟩, fun h9 => absurd (by omega) h9⟩⟩, by rw [ht]; exact hP, va_K.moved hW.alike hK, hD⟩, hS.F ht⟩) hS.2.2 dX11_twice_104
            · have c_15 : 40 ≤ (i 14).toInt := b_nlt c_15
              refine lv_iconst (v := (-1)) hx hb dX11_twice_58 (by decide) ?_
              subst hQ
              exact W.iret (v := (-1)) hx hb hr (fun t ht hW => ⟨⟨_, (i, r), rfl, ⟨hRi, hRr, hEi, hEr, ⟨fun h9 => absurd h9 (by omega), fun _ => ⟨rfl, Ei_rf, Er_rf⟩⟩⟩, by rw [ht]; exact hP, va_K.moved hW.alike hK, hD⟩, hS.F ht⟩) hS.2.2 dX11_twice_59
          · skip
            refine lv_if_eq (tgt := 58) hx hb dX11_twice_43 (by decide) (fun c_25 => ?_) (fun c_25 => absurd (by decide) c_25)
            refine lv_iconst (v := (-1)) hx hb dX11_twice_58 (by decide) ?_
            subst hQ
            exact W.iret (v := (-1)) hx hb hr (fun t ht hW => ⟨⟨_, (i, r), rfl, ⟨hRi, hRr, hEi, hEr, ⟨fun h9 => absurd h9 (by omega), fun _ => ⟨rfl, Ei_rf, Er_rf⟩⟩⟩, by rw [ht]; exact hP, va_K.moved hW.alike hK, hD⟩, hS.F ht⟩) hS.2.2 dX11_twice_59
        · skip
          refine lv_if_eq (tgt := 58) hx hb dX11_twice_31 (by decide) (fun c_26 => ?_) (fun c_26 => absurd (by decide) c_26)
          refine lv_iconst (v := (-1)) hx hb dX11_twice_58 (by decide) ?_
          subst hQ
          exact W.iret (v := (-1)) hx hb hr (fun t ht hW => ⟨⟨_, (i, r), rfl, ⟨hRi, hRr, hEi, hEr, ⟨fun h9 => absurd h9 (by omega), fun _ => ⟨rfl, Ei_rf, Er_rf⟩⟩⟩, by rw [ht]; exact hP, va_K.moved hW.alike hK, hD⟩, hS.F ht⟩) hS.2.2 dX11_twice_59
    · skip
      refine lv_if_eq (tgt := 58) hx hb dX11_twice_15 (by decide) (fun c_27 => ?_) (fun c_27 => absurd (by decide) c_27)
      refine lv_iconst (v := (-1)) hx hb dX11_twice_58 (by decide) ?_
      subst hQ
      exact W.iret (v := (-1)) hx hb hr (fun t ht hW => ⟨⟨_, (i, r), rfl, ⟨hRi, hRr, hEi, hEr, ⟨fun h9 => absurd h9 (by omega), fun _ => ⟨rfl, Ei_rf, Er_rf⟩⟩⟩, by rw [ht]; exact hP, va_K.moved hW.alike hK, hD⟩, hS.F ht⟩) hS.2.2 dX11_twice_59
  · skip
    refine lv_if_eq (tgt := 58) hx hb dX11_twice_6 (by decide) (fun c_28 => ?_) (fun c_28 => absurd (by decide) c_28)
    refine lv_iconst (v := (-1)) hx hb dX11_twice_58 (by decide) ?_
    subst hQ
    exact W.iret (v := (-1)) hx hb hr (fun t ht hW => ⟨⟨_, (i, r), rfl, ⟨hRi, hRr, hEi, hEr, ⟨fun h9 => absurd h9 (by omega), fun _ => ⟨rfl, Ei_rf, Er_rf⟩⟩⟩, by rw [ht]; exact hP, va_K.moved hW.alike hK, hD⟩, hS.F ht⟩) hS.2.2 dX11_twice_59
