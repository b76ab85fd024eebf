theorem upd_s {f : Nat → Int32} {k : Nat} {v : Int32} : upd f k v k = v := if_pos rfl
theorem upd_4 {f : Nat → Int32} {n a0 a1 a2 a3 : Nat} (h0 : a0 = 4 * n) (h1 : a1 = 4 * n + 1) (h2 : a2 = 4 * n + 2) (h3 : a3 = 4 * n + 3) : (∀ t, t < 4 → upd (upd (upd (upd f a0 1) a1 1) a2 1) a3 1 (4 * n + t) = 1) ∧ ∀ j, ¬ (4 * n ≤ j ∧ j < 4 * n + 4) → upd (upd (upd (upd f a0 1) a1 1) a2 1) a3 1 j = f j := by
  subst h0 h1 h2 h3
  unfold upd
  refine ⟨fun t ht => ?_, fun j hj => ?_⟩
  · rcases (show t = 0 ∨ t = 1 ∨ t = 2 ∨ t = 3 by omega) with rfl | rfl | rfl | rfl
    · rw [if_neg (by omega), if_neg (by omega), if_neg (by omega), if_pos (by omega)]
    · rw [if_neg (by omega), if_neg (by omega), if_pos (by omega)]
    · rw [if_neg (by omega), if_pos (by omega)]
    · rw [if_pos (by omega)]
  · rw [if_neg (by omega), if_neg (by omega), if_neg (by omega), if_neg (by omega)]
set_option maxHeartbeats 4000000 in
set_option maxRecDepth 100000 in
theorem c_X12_home9 (l : Launch) (D : va_G) (cy : Nat → ClassId) (a : Nat → Nat) (i : Nat → Int32) (r : Nat → Nat → Int32) (rl : Nat → Int64) (p0 p1 p2 p3 p4 p5 : Int32) (sz : Nat) (hRi : mRi i) (hRr : mRr r) (hE : mE i r) : Met l yX12_home (Cond.code yX12_home cX12_home 8 (some .int) :: gT) { frames := 2, cells := 0, slots := 0, locals := 46 } (va_Pc [.ref (a 0), .int p0, .int p1, .int p2, .int p3, .int p4, .int p5] (rQ D cy (mW cy a i r rl) sz)) (va_Qi (fun (z : Int32) (u : (Nat → Int32) × (Nat → Nat → Int32)) => mRi u.1 ∧ mRr u.2 ∧ mEi [0] i u.1 ∧ mEr [3, 4, 5, 6, 7, 8, 19] r u.2 ∧ (mE u.1 u.2 ∧ ((((0 ≤ p0.toInt ∧ p0.toInt ≤ 3) ∧ (1 ≤ p1.toInt ∧ p1.toInt ≤ 4) ∧ (0 ≤ p2.toInt ∧ p2.toInt ≤ 999999) ∧ (0 ≤ p3.toInt ∧ p3.toInt ≤ 999) ∧ p3.toInt ≤ p4.toInt ∧ p4.toInt ≤ 999 ∧ (i 0).toInt ≤ 5) → z.toInt = (i 0).toInt ∧ (u.1 0).toInt = (i 0).toInt + 1 ∧ u.2 3 = upd (r 3) (i 0).toNatClampNeg p0 ∧ u.2 4 = upd (r 4) (i 0).toNatClampNeg p1 ∧ u.2 5 = upd (r 5) (i 0).toNatClampNeg p2 ∧ u.2 6 = upd (r 6) (i 0).toNatClampNeg p3 ∧ u.2 7 = upd (r 7) (i 0).toNatClampNeg p4 ∧ u.2 19 = upd (r 19) (i 0).toNatClampNeg (vp_nar .boolean p5) ∧ (∀ t, t < 4 → u.2 8 (4 * (i 0).toNatClampNeg + t) = 1) ∧ ∀ j, ¬ (4 * (i 0).toNatClampNeg ≤ j ∧ j < 4 * (i 0).toNatClampNeg + 4) → u.2 8 j = r 8 j) ∧ (¬ ((0 ≤ p0.toInt ∧ p0.toInt ≤ 3) ∧ (1 ≤ p1.toInt ∧ p1.toInt ≤ 4) ∧ (0 ≤ p2.toInt ∧ p2.toInt ≤ 999999) ∧ (0 ≤ p3.toInt ∧ p3.toInt ≤ 999) ∧ p3.toInt ≤ p4.toInt ∧ p4.toInt ≤ 999 ∧ (i 0).toInt ≤ 5) → z = -1 ∧ mEi [] i u.1 ∧ mEr [] r u.2)))) (fun (u : (Nat → Int32) × (Nat → Nat → Int32)) t => va_P D vwCl (mW cy a u.1 u.2 rl) t.heap ∧ va_K D vwCl (vT cy) t ∧ va_D (va_A (mW cy a i r rl) sz) (mW cy a u.1 u.2 rl)) (va_A (mW cy a i r rl) sz)) 0 0 (va_A (mW cy a i r rl) sz) := by
  refine Met.ofQ (cc := cX12_home) (maxL := 8) (ret := (some .int)) (by decide) rfl ?_
  intro p e s m args below meth c s₁ B hml hv Q hQ
  obtain ⟨rfl, hsz, hP, hK, hD0⟩ := hv
  have hx := B.exec
  have hb := B.bytes
  have hr := B.returns
  have hlocks := B.notSynchronized
  have hT : ∀ w ∈ gT, w.before _ s = true := fun w h => atoms_spec (ws := (Cond.code yX12_home cX12_home 8 (some .int) :: gT)) B.pre w (List.mem_cons_of_mem _ h)
  have hown : s.vm.findClass RX12 = some m.cls := findClass_of_methodNamed B.named
  subst hsz
  have hD := hD0.self (sz := s.heap.size)
  generalize hAe : va_A (mW cy a i r rl) s.heap.size = A at hD hQ
  have hA : ∀ q : Nat, s.heap.size ≤ q → A q := fun q h => by rw [← hAe]; exact Or.inr h
  have hS : va_S A s.heap s.heap [] := va_S.rf
  have hl := lv_entry ([.ref (a 0), .int p0, .int p1, .int p2, .int p3, .int p4, .int p5]) (n := 8) (Nat.le_of_ble_eq_true rfl)
  rw [lg_entry_eq]
  generalize (lg_sl ([.ref (a 0), .int p0, .int p1, .int p2, .int p3, .int p4, .int p5]) ++ List.replicate (8 - (lg_sl ([.ref (a 0), .int p0, .int p1, .int p2, .int p3, .int p4, .int p5])).length) Slot.unset).toArray = ls at hl ⊢
  have hl : lv_has ls 8 [(0, .ref (a 0)), (1, .int p0), (2, .int p1), (3, .int p2), (4, .int p3), (5, .int p4), (6, .int p5)] := hl
  have hEi : mEi [0] i i := Ei_rf
  have hEr : mEr [3, 4, 5, 6, 7, 8, 19] r r := Er_rf
  refine lv_iload_n hx hb dX12_home_0 rfl (lv_at hl 1 rfl) ?_
  refine lv_iconst (v := 0) hx hb dX12_home_1 (by decide) ?_
  refine lv_iconst (v := 3) hx hb dX12_home_2 (by decide) ?_
  refine vp_callSi (W.runS (As := [.int p0, .int 0, .int 3]) (rest := []) ⟨hx, hb, hml, hown, hT⟩ (c_X12_in l p0 0 3) (va_cwS 3 hT (gS t_113 t_114 t_115 t_6) rfl rfl rfl (by decide +kernel) ⟨Nat.le_of_ble_eq_true rfl, Nat.le_of_ble_eq_true rfl⟩) preT rfl rfl hl.1 rfl (lv_room (Nat.le_of_ble_eq_true rfl)) dX12_home_3 ⟨Nat.le_of_ble_eq_true rfl, Nat.le_of_ble_eq_true rfl⟩) (fun r_1 hr_1 => ?_)
  have hr_1 : BR r_1 (0 ≤ p0.toInt ∧ p0.toInt ≤ 3) 1 0 := hr_1
  rcases hr_1 with ⟨rfl, h_2⟩ | ⟨rfl, h_2⟩
  · skip
    refine lv_if_eq (tgt := 59) hx hb dX12_home_6 (by decide) (fun c_3 => absurd c_3 (by decide)) (fun c_3 => ?_)
    refine lv_iload_n hx hb dX12_home_9 rfl (lv_at hl 2 rfl) ?_
    refine lv_iconst (v := 1) hx hb dX12_home_10 (by decide) ?_
    refine lv_iconst (v := 4) hx hb dX12_home_11 (by decide) ?_
    refine vp_callSi (W.runS (As := [.int p1, .int 1, .int 4]) (rest := []) ⟨hx, hb, hml, hown, hT⟩ (c_X12_in l p1 1 4) (va_cwS 3 hT (gS t_113 t_114 t_115 t_6) rfl rfl rfl (by decide +kernel) ⟨Nat.le_of_ble_eq_true rfl, Nat.le_of_ble_eq_true rfl⟩) preT rfl rfl hl.1 rfl (lv_room (Nat.le_of_ble_eq_true rfl)) dX12_home_12 ⟨Nat.le_of_ble_eq_true rfl, Nat.le_of_ble_eq_true rfl⟩) (fun r_4 hr_4 => ?_)
    have hr_4 : BR r_4 (1 ≤ p1.toInt ∧ p1.toInt ≤ 4) 1 0 := hr_4
    rcases hr_4 with ⟨rfl, h_5⟩ | ⟨rfl, h_5⟩
    · skip
      refine lv_if_eq (tgt := 59) hx hb dX12_home_15 (by decide) (fun c_6 => absurd c_6 (by decide)) (fun c_6 => ?_)
      refine lv_iload_n hx hb dX12_home_18 rfl (lv_at hl 3 rfl) ?_
      refine vp_callSi (W.runS (As := [.int p2]) (rest := []) ⟨hx, hb, hml, hown, hT⟩ (c_X12_isPence l p2) (va_cwS 1 hT (gS t_177 t_178 t_179 t_6) rfl rfl rfl (by decide +kernel) ⟨Nat.le_of_ble_eq_true rfl, Nat.le_of_ble_eq_true rfl⟩) preT rfl rfl hl.1 rfl (lv_room (Nat.le_of_ble_eq_true rfl)) dX12_home_19 ⟨Nat.le_of_ble_eq_true rfl, Nat.le_of_ble_eq_true rfl⟩) (fun r_7 hr_7 => ?_)
      have hr_7 : BR r_7 (0 ≤ p2.toInt ∧ p2.toInt ≤ 999999) 1 0 := hr_7
      rcases hr_7 with ⟨rfl, h_8⟩ | ⟨rfl, h_8⟩
      · skip
        refine lv_if_eq (tgt := 59) hx hb dX12_home_22 (by decide) (fun c_9 => absurd c_9 (by decide)) (fun c_9 => ?_)
        refine lv_iload hx hb dX12_home_25 (lv_at hl 4 rfl) ?_
        refine lv_iconst (v := 0) hx hb dX12_home_27 (by decide) ?_
        refine lv_sipush (v := 999) hx hb dX12_home_28 (by decide) ?_
        refine vp_callSi (W.runS (As := [.int p3, .int 0, .int 999]) (rest := []) ⟨hx, hb, hml, hown, hT⟩ (c_X12_in l p3 0 999) (va_cwS 3 hT (gS t_113 t_114 t_115 t_6) rfl rfl rfl (by decide +kernel) ⟨Nat.le_of_ble_eq_true rfl, Nat.le_of_ble_eq_true rfl⟩) preT rfl rfl hl.1 rfl (lv_room (Nat.le_of_ble_eq_true rfl)) dX12_home_31 ⟨Nat.le_of_ble_eq_true rfl, Nat.le_of_ble_eq_true rfl⟩) (fun r_10 hr_10 => ?_)
        have hr_10 : BR r_10 (0 ≤ p3.toInt ∧ p3.toInt ≤ 999) 1 0 := hr_10
        rcases hr_10 with ⟨rfl, h_11⟩ | ⟨rfl, h_11⟩
        · skip
          refine lv_if_eq (tgt := 59) hx hb dX12_home_34 (by decide) (fun c_12 => absurd c_12 (by decide)) (fun c_12 => ?_)
          refine lv_iload hx hb dX12_home_37 (lv_at hl 5 rfl) ?_
          refine lv_iload hx hb dX12_home_39 (lv_at hl 4 rfl) ?_
          refine lv_sipush (v := 999) hx hb dX12_home_41 (by decide) ?_
          refine vp_callSi (W.runS (As := [.int p4, .int p3, .int 999]) (rest := []) ⟨hx, hb, hml, hown, hT⟩ (c_X12_in l p4 p3 999) (va_cwS 3 hT (gS t_113 t_114 t_115 t_6) rfl rfl rfl (by decide +kernel) ⟨Nat.le_of_ble_eq_true rfl, Nat.le_of_ble_eq_true rfl⟩) preT rfl rfl hl.1 rfl (lv_room (Nat.le_of_ble_eq_true rfl)) dX12_home_44 ⟨Nat.le_of_ble_eq_true rfl, Nat.le_of_ble_eq_true rfl⟩) (fun r_13 hr_13 => ?_)
          have hr_13 : BR r_13 (p3.toInt ≤ p4.toInt ∧ p4.toInt ≤ 999) 1 0 := hr_13
          rcases hr_13 with ⟨rfl, h_14⟩ | ⟨rfl, h_14⟩
          · skip
            refine lv_if_eq (tgt := 59) hx hb dX12_home_47 (by decide) (fun c_15 => absurd c_15 (by decide)) (fun c_15 => ?_)
            refine lv_aload_n hx hb dX12_home_50 rfl (lv_at hl 0 rfl) ?_
            refine va_get (D := D) (ci := 12) (v := .int (i 0)) (C := RX12) (T := TX12) (N := 91) hx hb hT iX12 hown hK hP 0 rfl rfl 0 (by decide) (hT _ t_10) (fun _ h9 => h9) rfl dX12_home_51 ?_
            have hg_16 : 0 ≤ (i 0).toInt ∧ (i 0).toInt ≤ 6 := hRi 0
            refine lv_bipush (v := 6) hx hb dX12_home_54 (by decide) ?_
            refine lv_icmp_ne (tgt := 61) hx hb dX12_home_56 (by decide) (fun c_17 => ?_) (fun c_17 => ?_)
            · have c_17 : (i 0).toInt ≠ 6 := b_ne c_17
              refine lv_aload_n hx hb dX12_home_61 rfl (lv_at hl 0 rfl) ?_
              refine va_get (D := D) (ci := 12) (v := .ref (a 3)) (C := RX12) (T := TX12) (N := 91) hx hb hT iX12 hown hK hP 0 rfl rfl 4 (by decide) (hT _ t_27) (fun _ h9 => h9) rfl dX12_home_62 ?_
              refine lv_aload_n hx hb dX12_home_65 rfl (lv_at hl 0 rfl) ?_
              refine va_get (D := D) (ci := 12) (v := .int (i 0)) (C := RX12) (T := TX12) (N := 91) hx hb hT iX12 hown hK hP 0 rfl rfl 0 (by decide) (hT _ t_10) (fun _ h9 => h9) rfl dX12_home_66 ?_
              refine lv_iload_n hx hb dX12_home_69 rfl (lv_at hl 1 rfl) ?_
              refine va_iast hx hb hK hP hD hS 3 0 rfl rfl (vp_inI (by omega) (by omega)) dX12_home_70 (fun H locs hP hD hS => ?_)
              rw [mS3] at hP hD
              have hRr : mRr (va_up r 3 (upd (r 3) ((i 0).toNatClampNeg) p0)) := Rr_upd hRr 3 ((i 0).toNatClampNeg) p0 ⟨by show (0 : Int) ≤ p0.toInt; omega, by show p0.toInt ≤ (3 : Int); omega⟩
              have hEr : mEr [3, 4, 5, 6, 7, 8, 19] _ (va_up r 3 (upd (r 3) ((i 0).toNatClampNeg) p0)) := Er_up hEr 3 _ (by decide)
              refine lv_aload_n hx hb dX12_home_71 rfl (lv_at hl 0 rfl) ?_
              refine va_get (D := D) (ci := 12) (v := .ref (a 4)) (C := RX12) (T := TX12) (N := 91) hx hb hT iX12 hown hK hP 0 rfl rfl 5 (by decide) (hT _ t_66) (fun _ h9 => h9) rfl dX12_home_72 ?_
              refine lv_aload_n hx hb dX12_home_75 rfl (lv_at hl 0 rfl) ?_
              refine va_get (D := D) (ci := 12) (v := .int (i 0)) (C := RX12) (T := TX12) (N := 91) hx hb hT iX12 hown hK hP 0 rfl rfl 0 (by decide) (hT _ t_10) (fun _ h9 => h9) rfl dX12_home_76 ?_
              refine lv_iload_n hx hb dX12_home_79 rfl (lv_at hl 2 rfl) ?_
              refine va_iast hx hb hK hP hD hS 4 0 rfl rfl (vp_inI (by omega) (by omega)) dX12_home_80 (fun H locs hP hD hS => ?_)
              rw [mS4] at hP hD
              have hRr : mRr (va_up (va_up r 3 (upd (r 3) ((i 0).toNatClampNeg) p0)) 4 (upd (r 4) ((i 0).toNatClampNeg) p1)) := Rr_upd hRr 4 ((i 0).toNatClampNeg) p1 ⟨by show (0 : Int) ≤ p1.toInt; omega, by show p1.toInt ≤ (4 : Int); omega⟩
              have hEr : mEr [3, 4, 5, 6, 7, 8, 19] _ (va_up (va_up r 3 (upd (r 3) ((i 0).toNatClampNeg) p0)) 4 (upd (r 4) ((i 0).toNatClampNeg) p1)) := Er_up hEr 4 _ (by decide)
              refine lv_aload_n hx hb dX12_home_81 rfl (lv_at hl 0 rfl) ?_
              refine va_get (D := D) (ci := 12) (v := .ref (a 5)) (C := RX12) (T := TX12) (N := 91) hx hb hT iX12 hown hK hP 0 rfl rfl 6 (by decide) (hT _ t_168) (fun _ h9 => h9) rfl dX12_home_82 ?_
              refine lv_aload_n hx hb dX12_home_85 rfl (lv_at hl 0 rfl) ?_
              refine va_get (D := D) (ci := 12) (v := .int (i 0)) (C := RX12) (T := TX12) (N := 91) hx hb hT iX12 hown hK hP 0 rfl rfl 0 (by decide) (hT _ t_10) (fun _ h9 => h9) rfl dX12_home_86 ?_
              refine lv_iload_n hx hb dX12_home_89 rfl (lv_at hl 3 rfl) ?_
              refine va_iast hx hb hK hP hD hS 5 0 rfl rfl (vp_inI (by omega) (by omega)) dX12_home_90 (fun H locs hP hD hS => ?_)
              rw [mS5] at hP hD
              have hRr : mRr (va_up (va_up (va_up r 3 (upd (r 3) ((i 0).toNatClampNeg) p0)) 4 (upd (r 4) ((i 0).toNatClampNeg) p1)) 5 (upd (r 5) ((i 0).toNatClampNeg) p2)) := Rr_upd hRr 5 ((i 0).toNatClampNeg) p2 ⟨by show (0 : Int) ≤ p2.toInt; omega, by show p2.toInt ≤ (999999 : Int); omega⟩
              have hEr : mEr [3, 4, 5, 6, 7, 8, 19] _ (va_up (va_up (va_up r 3 (upd (r 3) ((i 0).toNatClampNeg) p0)) 4 (upd (r 4) ((i 0).toNatClampNeg) p1)) 5 (upd (r 5) ((i 0).toNatClampNeg) p2)) := Er_up hEr 5 _ (by decide)
              refine lv_aload_n hx hb dX12_home_91 rfl (lv_at hl 0 rfl) ?_
              refine va_get (D := D) (ci := 12) (v := .ref (a 6)) (C := RX12) (T := TX12) (N := 91) hx hb hT iX12 hown hK hP 0 rfl rfl 7 (by decide) (hT _ t_18) (fun _ h9 => h9) rfl dX12_home_92 ?_
              refine lv_aload_n hx hb dX12_home_95 rfl (lv_at hl 0 rfl) ?_
              refine va_get (D := D) (ci := 12) (v := .int (i 0)) (C := RX12) (T := TX12) (N := 91) hx hb hT iX12 hown hK hP 0 rfl rfl 0 (by decide) (hT _ t_10) (fun _ h9 => h9) rfl dX12_home_96 ?_
              refine lv_iload hx hb dX12_home_99 (lv_at hl 4 rfl) ?_
              refine va_iast hx hb hK hP hD hS 6 0 rfl rfl (vp_inI (by omega) (by omega)) dX12_home_101 (fun H locs hP hD hS => ?_)
              rw [mS6] at hP hD
              have hRr : mRr (va_up (va_up (va_up (va_up r 3 (upd (r 3) ((i 0).toNatClampNeg) p0)) 4 (upd (r 4) ((i 0).toNatClampNeg) p1)) 5 (upd (r 5) ((i 0).toNatClampNeg) p2)) 6 (upd (r 6) ((i 0).toNatClampNeg) p3)) := Rr_upd hRr 6 ((i 0).toNatClampNeg) p3 ⟨by show (0 : Int) ≤ p3.toInt; omega, by show p3.toInt ≤ (999 : Int); omega⟩
              have hEr : mEr [3, 4, 5, 6, 7, 8, 19] _ (va_up (va_up (va_up (va_up r 3 (upd (r 3) ((i 0).toNatClampNeg) p0)) 4 (upd (r 4) ((i 0).toNatClampNeg) p1)) 5 (upd (r 5) ((i 0).toNatClampNeg) p2)) 6 (upd (r 6) ((i 0).toNatClampNeg) p3)) := Er_up hEr 6 _ (by decide)
              refine lv_aload_n hx hb dX12_home_102 rfl (lv_at hl 0 rfl) ?_
              refine va_get (D := D) (ci := 12) (v := .ref (a 7)) (C := RX12) (T := TX12) (N := 91) hx hb hT iX12 hown hK hP 0 rfl rfl 8 (by decide) (hT _ t_17) (fun _ h9 => h9) rfl dX12_home_103 ?_
              refine lv_aload_n hx hb dX12_home_106 rfl (lv_at hl 0 rfl) ?_
              refine va_get (D := D) (ci := 12) (v := .int (i 0)) (C := RX12) (T := TX12) (N := 91) hx hb hT iX12 hown hK hP 0 rfl rfl 0 (by decide) (hT _ t_10) (fun _ h9 => h9) rfl dX12_home_107 ?_
              refine lv_iload hx hb dX12_home_110 (lv_at hl 5 rfl) ?_
              refine va_iast hx hb hK hP hD hS 7 0 rfl rfl (vp_inI (by omega) (by omega)) dX12_home_112 (fun H locs hP hD hS => ?_)
              rw [mS7] at hP hD
              have hRr : mRr (va_up (va_up (va_up (va_up (va_up r 3 (upd (r 3) ((i 0).toNatClampNeg) p0)) 4 (upd (r 4) ((i 0).toNatClampNeg) p1)) 5 (upd (r 5) ((i 0).toNatClampNeg) p2)) 6 (upd (r 6) ((i 0).toNatClampNeg) p3)) 7 (upd (r 7) ((i 0).toNatClampNeg) p4)) := Rr_upd hRr 7 ((i 0).toNatClampNeg) p4 ⟨by show (0 : Int) ≤ p4.toInt; omega, by show p4.toInt ≤ (999 : Int); omega⟩
              have hEr : mEr [3, 4, 5, 6, 7, 8, 19] _ (va_up (va_up (va_up (va_up (va_up r 3 (upd (r 3) ((i 0).toNatClampNeg) p0)) 4 (upd (r 4) ((i 0).toNatClampNeg) p1)) 5 (upd (r 5) ((i 0).toNatClampNeg) p2)) 6 (upd (r 6) ((i 0).toNatClampNeg) p3)) 7 (upd (r 7) ((i 0).toNatClampNeg) p4)) := Er_up hEr 7 _ (by decide)
              refine lv_aload_n hx hb dX12_home_113 rfl (lv_at hl 0 rfl) ?_
              refine va_get (D := D) (ci := 12) (v := .ref (a 19)) (C := RX12) (T := TX12) (N := 91) hx hb hT iX12 hown hK hP 0 rfl rfl 20 (by decide) (hT _ t_170) (fun _ h9 => h9) rfl dX12_home_114 ?_
              refine lv_aload_n hx hb dX12_home_117 rfl (lv_at hl 0 rfl) ?_
              refine va_get (D := D) (ci := 12) (v := .int (i 0)) (C := RX12) (T := TX12) (N := 91) hx hb hT iX12 hown hK hP 0 rfl rfl 0 (by decide) (hT _ t_10) (fun _ h9 => h9) rfl dX12_home_118 ?_
              refine lv_iload hx hb dX12_home_121 (lv_at hl 6 rfl) ?_
              refine va_zast hx hb hK hP hD hS 19 2 rfl rfl (vp_inI (by omega) (by omega)) dX12_home_123 (fun H locs hP hD hS => ?_)
              rw [mS19] at hP hD
              have hRr : mRr (va_up (va_up (va_up (va_up (va_up (va_up r 3 (upd (r 3) ((i 0).toNatClampNeg) p0)) 4 (upd (r 4) ((i 0).toNatClampNeg) p1)) 5 (upd (r 5) ((i 0).toNatClampNeg) p2)) 6 (upd (r 6) ((i 0).toNatClampNeg) p3)) 7 (upd (r 7) ((i 0).toNatClampNeg) p4)) 19 (upd (r 19) ((i 0).toNatClampNeg) (vp_nar .boolean p5))) := Rr_upd hRr 19 ((i 0).toNatClampNeg) (vp_nar .boolean p5) (b_rg _)
              have hEr : mEr [3, 4, 5, 6, 7, 8, 19] _ (va_up (va_up (va_up (va_up (va_up (va_up r 3 (upd (r 3) ((i 0).toNatClampNeg) p0)) 4 (upd (r 4) ((i 0).toNatClampNeg) p1)) 5 (upd (r 5) ((i 0).toNatClampNeg) p2)) 6 (upd (r 6) ((i 0).toNatClampNeg) p3)) 7 (upd (r 7) ((i 0).toNatClampNeg) p4)) 19 (upd (r 19) ((i 0).toNatClampNeg) (vp_nar .boolean p5))) := Er_up hEr 19 _ (by decide)
              refine lv_iconst (v := 0) hx hb dX12_home_124 (by decide) ?_
              refine lv_istore (lv' := [(7, .int 0), (0, .ref (a 0)), (1, .int p0), (2, .int p1), (3, .int p2), (4, .int p3), (5, .int p4), (6, .int p5)]) hx hb dX12_home_125 hl (by decide) rfl (fun ls hl => ?_)
              refine lv_iload hx hb dX12_home_127 (lv_at hl 0 rfl) ?_
              refine lv_iconst (v := 4) hx hb dX12_home_129 (by decide) ?_
              refine lv_icmp_ge (tgt := 154) hx hb dX12_home_130 (by decide) (fun c_18 => absurd c_18 (by decide)) (fun c_18 => ?_)
              refine lv_aload_n hx hb dX12_home_133 rfl (lv_at hl 1 rfl) ?_
              refine va_get (D := D) (ci := 12) (v := .ref (a 8)) (C := RX12) (T := TX12) (N := 91) hx hb hT iX12 hown hK hP 0 rfl rfl 9 (by decide) (hT _ t_176) (fun _ h9 => h9) rfl dX12_home_134 ?_
              refine lv_iconst (v := 4) hx hb dX12_home_137 (by decide) ?_
              refine lv_aload_n hx hb dX12_home_138 rfl (lv_at hl 1 rfl) ?_
              refine va_get (D := D) (ci := 12) (v := .int (i 0)) (C := RX12) (T := TX12) (N := 91) hx hb hT iX12 hown hK hP 0 rfl rfl 0 (by decide) (hT _ t_10) (fun _ h9 => h9) rfl dX12_home_139 ?_
              refine lv_imul hx hb dX12_home_142 ?_
              refine lv_topi (fun v_19 ev_19 => ?_)
              have hv_19 : v_19.toInt = 4 * (i 0).toInt := by rw [ev_19]; have := b_rg (i 0); exact i_mul (a := 4) (b := (i 0).toInt) rfl rfl (by omega) (by omega)
              refine lv_iload hx hb dX12_home_143 (lv_at hl 0 rfl) ?_
              refine lv_iadd hx hb dX12_home_145 ?_
              refine lv_topi (fun v_20 ev_20 => ?_)
              have hv_20 : v_20.toInt = v_19.toInt + 0 := by rw [ev_20]; have := b_rg v_19; exact i_add (a := v_19.toInt) (b := 0) rfl rfl (by omega) (by omega)
              refine lv_iconst (v := 1) hx hb dX12_home_146 (by decide) ?_
              refine va_iast hx hb hK hP hD hS 8 0 rfl rfl (vp_inI (by omega) (by omega)) dX12_home_147 (fun H locs hP hD hS => ?_)
              rw [mS8] at hP hD
              have hRr : mRr (va_up (va_up (va_up (va_up (va_up (va_up (va_up r 3 (upd (r 3) ((i 0).toNatClampNeg) p0)) 4 (upd (r 4) ((i 0).toNatClampNeg) p1)) 5 (upd (r 5) ((i 0).toNatClampNeg) p2)) 6 (upd (r 6) ((i 0).toNatClampNeg) p3)) 7 (upd (r 7) ((i 0).toNatClampNeg) p4)) 19 (upd (r 19) ((i 0).toNatClampNeg) (vp_nar .boolean p5))) 8 (upd (r 8) v_20.toNatClampNeg 1)) := Rr_upd hRr 8 (v_20.toNatClampNeg) 1 ⟨by decide, by decide⟩
              have hEr : mEr [3, 4, 5, 6, 7, 8, 19] _ (va_up (va_up (va_up (va_up (va_up (va_up (va_up r 3 (upd (r 3) ((i 0).toNatClampNeg) p0)) 4 (upd (r 4) ((i 0).toNatClampNeg) p1)) 5 (upd (r 5) ((i 0).toNatClampNeg) p2)) 6 (upd (r 6) ((i 0).toNatClampNeg) p3)) 7 (upd (r 7) ((i 0).toNatClampNeg) p4)) 19 (upd (r 19) ((i 0).toNatClampNeg) (vp_nar .boolean p5))) 8 (upd (r 8) v_20.toNatClampNeg 1)) := Er_up hEr 8 _ (by decide)
              obtain ⟨x_21, ex_21⟩ : ∃ y : Int32, y = (0 : Int32) + 1 := ⟨_, rfl⟩
              refine lv_iinc (v := x_21) (lv' := [(7, .int x_21), (0, .ref (a 0)), (1, .int p0), (2, .int p1), (3, .int p2), (4, .int p3), (5, .int p4), (6, .int p5)]) hx hb dX12_home_148 hl (k := 0) rfl (by rw [ex_21]; rfl) (by decide) rfl (fun ls hl => ?_)
              obtain rfl : x_21 = 1 := ex_21.trans (by decide)
              refine lv_goto (tgt := 127) hx hb dX12_home_151 (by decide) ?_
              refine lv_iload hx hb dX12_home_127 (lv_at hl 0 rfl) ?_
              refine lv_iconst (v := 4) hx hb dX12_home_129 (by decide) ?_
              refine lv_icmp_ge (tgt := 154) hx hb dX12_home_130 (by decide) (fun c_22 => absurd c_22 (by decide)) (fun c_22 => ?_)
              refine lv_aload_n hx hb dX12_home_133 rfl (lv_at hl 1 rfl) ?_
              refine va_get (D := D) (ci := 12) (v := .ref (a 8)) (C := RX12) (T := TX12) (N := 91) hx hb hT iX12 hown hK hP 0 rfl rfl 9 (by decide) (hT _ t_176) (fun _ h9 => h9) rfl dX12_home_134 ?_
              refine lv_iconst (v := 4) hx hb dX12_home_137 (by decide) ?_
              refine lv_aload_n hx hb dX12_home_138 rfl (lv_at hl 1 rfl) ?_
              refine va_get (D := D) (ci := 12) (v := .int (i 0)) (C := RX12) (T := TX12) (N := 91) hx hb hT iX12 hown hK hP 0 rfl rfl 0 (by decide) (hT _ t_10) (fun _ h9 => h9) rfl dX12_home_139 ?_
              refine lv_imul hx hb dX12_home_142 ?_
              refine lv_topi (fun v_23 ev_23 => ?_)
              have hv_23 : v_23.toInt = 4 * (i 0).toInt := by rw [ev_23]; have := b_rg (i 0); exact i_mul (a := 4) (b := (i 0).toInt) rfl rfl (by omega) (by omega)
              refine lv_iload hx hb dX12_home_143 (lv_at hl 0 rfl) ?_
              refine lv_iadd hx hb dX12_home_145 ?_
              refine lv_topi (fun v_24 ev_24 => ?_)
              have hv_24 : v_24.toInt = v_23.toInt + 1 := by rw [ev_24]; have := b_rg v_23; exact i_add (a := v_23.toInt) (b := 1) rfl rfl (by omega) (by omega)
              refine lv_iconst (v := 1) hx hb dX12_home_146 (by decide) ?_
              refine va_iast hx hb hK hP hD hS 8 0 rfl rfl (vp_inI (by omega) (by omega)) dX12_home_147 (fun H locs hP hD hS => ?_)
              rw [mS8] at hP hD
              have hRr : mRr (va_up (va_up (va_up (va_up (va_up (va_up (va_up (va_up r 3 (upd (r 3) ((i 0).toNatClampNeg) p0)) 4 (upd (r 4) ((i 0).toNatClampNeg) p1)) 5 (upd (r 5) ((i 0).toNatClampNeg) p2)) 6 (upd (r 6) ((i 0).toNatClampNeg) p3)) 7 (upd (r 7) ((i 0).toNatClampNeg) p4)) 19 (upd (r 19) ((i 0).toNatClampNeg) (vp_nar .boolean p5))) 8 (upd (r 8) v_20.toNatClampNeg 1)) 8 (upd (upd (r 8) v_20.toNatClampNeg 1) v_24.toNatClampNeg 1)) := Rr_upd hRr 8 (v_24.toNatClampNeg) 1 ⟨by decide, by decide⟩
              have hEr : mEr [3, 4, 5, 6, 7, 8, 19] _ (va_up (va_up (va_up (va_up (va_up (va_up (va_up (va_up r 3 (upd (r 3) ((i 0).toNatClampNeg) p0)) 4 (upd (r 4) ((i 0).toNatClampNeg) p1)) 5 (upd (r 5) ((i 0).toNatClampNeg) p2)) 6 (upd (r 6) ((i 0).toNatClampNeg) p3)) 7 (upd (r 7) ((i 0).toNatClampNeg) p4)) 19 (upd (r 19) ((i 0).toNatClampNeg) (vp_nar .boolean p5))) 8 (upd (r 8) v_20.toNatClampNeg 1)) 8 (upd (upd (r 8) v_20.toNatClampNeg 1) v_24.toNatClampNeg 1)) := Er_up hEr 8 _ (by decide)
              obtain ⟨x_25, ex_25⟩ : ∃ y : Int32, y = (1 : Int32) + 1 := ⟨_, rfl⟩
              refine lv_iinc (v := x_25) (lv' := [(7, .int x_25), (0, .ref (a 0)), (1, .int p0), (2, .int p1), (3, .int p2), (4, .int p3), (5, .int p4), (6, .int p5)]) hx hb dX12_home_148 hl (k := 0) rfl (by rw [ex_25]; rfl) (by decide) rfl (fun ls hl => ?_)
              obtain rfl : x_25 = 2 := ex_25.trans (by decide)
              refine lv_goto (tgt := 127) hx hb dX12_home_151 (by decide) ?_
              refine lv_iload hx hb dX12_home_127 (lv_at hl 0 rfl) ?_
              refine lv_iconst (v := 4) hx hb dX12_home_129 (by decide) ?_
              refine lv_icmp_ge (tgt := 154) hx hb dX12_home_130 (by decide) (fun c_26 => absurd c_26 (by decide)) (fun c_26 => ?_)
              refine lv_aload_n hx hb dX12_home_133 rfl (lv_at hl 1 rfl) ?_
              refine va_get (D := D) (ci := 12) (v := .ref (a 8)) (C := RX12) (T := TX12) (N := 91) hx hb hT iX12 hown hK hP 0 rfl rfl 9 (by decide) (hT _ t_176) (fun _ h9 => h9) rfl dX12_home_134 ?_
              refine lv_iconst (v := 4) hx hb dX12_home_137 (by decide) ?_
              refine lv_aload_n hx hb dX12_home_138 rfl (lv_at hl 1 rfl) ?_
              refine va_get (D := D) (ci := 12) (v := .int (i 0)) (C := RX12) (T := TX12) (N := 91) hx hb hT iX12 hown hK hP 0 rfl rfl 0 (by decide) (hT _ t_10) (fun _ h9 => h9) rfl dX12_home_139 ?_
              refine lv_imul hx hb dX12_home_142 ?_
              refine lv_topi (fun v_27 ev_27 => ?_)
              have hv_27 : v_27.toInt = 4 * (i 0).toInt := by rw [ev_27]; have := b_rg (i 0); exact i_mul (a := 4) (b := (i 0).toInt) rfl rfl (by omega) (by omega)
              refine lv_iload hx hb dX12_home_143 (lv_at hl 0 rfl) ?_
              refine lv_iadd hx hb dX12_home_145 ?_
              refine lv_topi (fun v_28 ev_28 => ?_)
              have hv_28 : v_28.toInt = v_27.toInt + 2 := by rw [ev_28]; have := b_rg v_27; exact i_add (a := v_27.toInt) (b := 2) rfl rfl (by omega) (by omega)
              refine lv_iconst (v := 1) hx hb dX12_home_146 (by decide) ?_
              refine va_iast hx hb hK hP hD hS 8 0 rfl rfl (vp_inI (by omega) (by omega)) dX12_home_147 (fun H locs hP hD hS => ?_)
              rw [mS8] at hP hD
              have hRr : mRr (va_up (va_up (va_up (va_up (va_up (va_up (va_up (va_up (va_up r 3 (upd (r 3) ((i 0).toNatClampNeg) p0)) 4 (upd (r 4) ((i 0).toNatClampNeg) p1)) 5 (upd (r 5) ((i 0).toNatClampNeg) p2)) 6 (upd (r 6) ((i 0).toNatClampNeg) p3)) 7 (upd (r 7) ((i 0).toNatClampNeg) p4)) 19 (upd (r 19) ((i 0).toNatClampNeg) (vp_nar .boolean p5))) 8 (upd (r 8) v_20.toNatClampNeg 1)) 8 (upd (upd (r 8) v_20.toNatClampNeg 1) v_24.toNatClampNeg 1)) 8 (upd (upd (upd (r 8) v_20.toNatClampNeg 1) v_24.toNatClampNeg 1) v_28.toNatClampNeg 1)) := Rr_upd hRr 8 (v_28.toNatClampNeg) 1 ⟨by decide, by decide⟩
              have hEr : mEr [3, 4, 5, 6, 7, 8, 19] _ (va_up (va_up (va_up (va_up (va_up (va_up (va_up (va_up (va_up r 3 (upd (r 3) ((i 0).toNatClampNeg) p0)) 4 (upd (r 4) ((i 0).toNatClampNeg) p1)) 5 (upd (r 5) ((i 0).toNatClampNeg) p2)) 6 (upd (r 6) ((i 0).toNatClampNeg) p3)) 7 (upd (r 7) ((i 0).toNatClampNeg) p4)) 19 (upd (r 19) ((i 0).toNatClampNeg) (vp_nar .boolean p5))) 8 (upd (r 8) v_20.toNatClampNeg 1)) 8 (upd (upd (r 8) v_20.toNatClampNeg 1) v_24.toNatClampNeg 1)) 8 (upd (upd (upd (r 8) v_20.toNatClampNeg 1) v_24.toNatClampNeg 1) v_28.toNatClampNeg 1)) := Er_up hEr 8 _ (by decide)
              obtain ⟨x_29, ex_29⟩ : ∃ y : Int32, y = (2 : Int32) + 1 := ⟨_, rfl⟩
              refine lv_iinc (v := x_29) (lv' := [(7, .int x_29), (0, .ref (a 0)), (1, .int p0), (2, .int p1), (3, .int p2), (4, .int p3), (5, .int p4), (6, .int p5)]) hx hb dX12_home_148 hl (k := 0) rfl (by rw [ex_29]; rfl) (by decide) rfl (fun ls hl => ?_)
              obtain rfl : x_29 = 3 := ex_29.trans (by decide)
              refine lv_goto (tgt := 127) hx hb dX12_home_151 (by decide) ?_
              refine lv_iload hx hb dX12_home_127 (lv_at hl 0 rfl) ?_
              refine lv_iconst (v := 4) hx hb dX12_home_129 (by decide) ?_
              refine lv_icmp_ge (tgt := 154) hx hb dX12_home_130 (by decide) (fun c_30 => absurd c_30 (by decide)) (fun c_30 => ?_)
              refine lv_aload_n hx hb dX12_home_133 rfl (lv_at hl 1 rfl) ?_
              refine va_get (D := D) (ci := 12) (v := .ref (a 8)) (C := RX12) (T := TX12) (N := 91) hx hb hT iX12 hown hK hP 0 rfl rfl 9 (by decide) (hT _ t_176) (fun _ h9 => h9) rfl dX12_home_134 ?_
              refine lv_iconst (v := 4) hx hb dX12_home_137 (by decide) ?_
              refine lv_aload_n hx hb dX12_home_138 rfl (lv_at hl 1 rfl) ?_
              refine va_get (D := D) (ci := 12) (v := .int (i 0)) (C := RX12) (T := TX12) (N := 91) hx hb hT iX12 hown hK hP 0 rfl rfl 0 (by decide) (hT _ t_10) (fun _ h9 => h9) rfl dX12_home_139 ?_
              refine lv_imul hx hb dX12_home_142 ?_
              refine lv_topi (fun v_31 ev_31 => ?_)
              have hv_31 : v_31.toInt = 4 * (i 0).toInt := by rw [ev_31]; have := b_rg (i 0); exact i_mul (a := 4) (b := (i 0).toInt) rfl rfl (by omega) (by omega)
              refine lv_iload hx hb dX12_home_143 (lv_at hl 0 rfl) ?_
              refine lv_iadd hx hb dX12_home_145 ?_
              refine lv_topi (fun v_32 ev_32 => ?_)
              have hv_32 : v_32.toInt = v_31.toInt + 3 := by rw [ev_32]; have := b_rg v_31; exact i_add (a := v_31.toInt) (b := 3) rfl rfl (by omega) (by omega)
              refine lv_iconst (v := 1) hx hb dX12_home_146 (by decide) ?_
              refine va_iast hx hb hK hP hD hS 8 0 rfl rfl (vp_inI (by omega) (by omega)) dX12_home_147 (fun H locs hP hD hS => ?_)
              rw [mS8] at hP hD
              have hRr : mRr (va_up (va_up (va_up (va_up (va_up (va_up (va_up (va_up (va_up (va_up r 3 (upd (r 3) ((i 0).toNatClampNeg) p0)) 4 (upd (r 4) ((i 0).toNatClampNeg) p1)) 5 (upd (r 5) ((i 0).toNatClampNeg) p2)) 6 (upd (r 6) ((i 0).toNatClampNeg) p3)) 7 (upd (r 7) ((i 0).toNatClampNeg) p4)) 19 (upd (r 19) ((i 0).toNatClampNeg) (vp_nar .boolean p5))) 8 (upd (r 8) v_20.toNatClampNeg 1)) 8 (upd (upd (r 8) v_20.toNatClampNeg 1) v_24.toNatClampNeg 1)) 8 (upd (upd (upd (r 8) v_20.toNatClampNeg 1) v_24.toNatClampNeg 1) v_28.toNatClampNeg 1)) 8 (upd (upd (upd (upd (r 8) v_20.toNatClampNeg 1) v_24.toNatClampNeg 1) v_28.toNatClampNeg 1) v_32.toNatClampNeg 1)) := Rr_upd hRr 8 (v_32.toNatClampNeg) 1 ⟨by decide, by decide⟩
              have hEr : mEr [3, 4, 5, 6, 7, 8, 19] _ (va_up (va_up (va_up (va_up (va_up (va_up (va_up (va_up (va_up (va_up r 3 (upd (r 3) ((i 0).toNatClampNeg) p0)) 4 (upd (r 4) ((i 0).toNatClampNeg) p1)) 5 (upd (r 5) ((i 0).toNatClampNeg) p2)) 6 (upd (r 6) ((i 0).toNatClampNeg) p3)) 7 (upd (r 7) ((i 0).toNatClampNeg) p4)) 19 (upd (r 19) ((i 0).toNatClampNeg) (vp_nar .boolean p5))) 8 (upd (r 8) v_20.toNatClampNeg 1)) 8 (upd (upd (r 8) v_20.toNatClampNeg 1) v_24.toNatClampNeg 1)) 8 (upd (upd (upd (r 8) v_20.toNatClampNeg 1) v_24.toNatClampNeg 1) v_28.toNatClampNeg 1)) 8 (upd (upd (upd (upd (r 8) v_20.toNatClampNeg 1) v_24.toNatClampNeg 1) v_28.toNatClampNeg 1) v_32.toNatClampNeg 1)) := Er_up hEr 8 _ (by decide)
              obtain ⟨x_33, ex_33⟩ : ∃ y : Int32, y = (3 : Int32) + 1 := ⟨_, rfl⟩
              refine lv_iinc (v := x_33) (lv' := [(7, .int x_33), (0, .ref (a 0)), (1, .int p0), (2, .int p1), (3, .int p2), (4, .int p3), (5, .int p4), (6, .int p5)]) hx hb dX12_home_148 hl (k := 0) rfl (by rw [ex_33]; rfl) (by decide) rfl (fun ls hl => ?_)
              obtain rfl : x_33 = 4 := ex_33.trans (by decide)
              refine lv_goto (tgt := 127) hx hb dX12_home_151 (by decide) ?_
              refine lv_iload hx hb dX12_home_127 (lv_at hl 0 rfl) ?_
              refine lv_iconst (v := 4) hx hb dX12_home_129 (by decide) ?_
              refine lv_icmp_ge (tgt := 154) hx hb dX12_home_130 (by decide) (fun c_34 => ?_) (fun c_34 => absurd (by decide) c_34)
              refine lv_aload_n hx hb dX12_home_154 rfl (lv_at hl 1 rfl) ?_
              refine lv_aload_n hx hb dX12_home_155 rfl (lv_at hl 1 rfl) ?_
              refine va_get (D := D) (ci := 12) (v := .int (i 0)) (C := RX12) (T := TX12) (N := 91) hx hb hT iX12 hown hK hP 0 rfl rfl 0 (by decide) (hT _ t_10) (fun _ h9 => h9) rfl dX12_home_156 ?_
              refine lv_iconst (v := 1) hx hb dX12_home_159 (by decide) ?_
              refine lv_iadd hx hb dX12_home_160 ?_
              refine lv_topi (fun v_35 ev_35 => ?_)
              have hv_35 : v_35.toInt = (i 0).toInt + 1 := by rw [ev_35]; have := b_rg (i 0); exact i_add (a := (i 0).toInt) (b := 1) rfl rfl (by omega) (by omega)
              refine va_put (D := D) (ci := 12) (v := .int v_35) (ty := .int) (C := RX12) (T := TX12) (N := 91) hx hb hT iX12 tyX12 tyX12_ok nmX12 hown hK hP hD hS 0 rfl rfl 0 (by decide) (hT _ t_10) (fun _ h9 => h9) rfl (by decide +kernel) rfl rfl (Nat.le_of_ble_eq_true rfl) dX12_home_161 (fun H locs hP hD hS => ?_)
              rw [mP0] at hP hD
              have hRi := Ri_upd hRi 0 v_35 ⟨by show (0 : Int) ≤ v_35.toInt; omega, by show v_35.toInt ≤ (6 : Int); omega⟩
              have hEi := Ei_upd hEi 0 v_35 (by decide)
              refine lv_aload_n hx hb dX12_home_164 rfl (lv_at hl 1 rfl) ?_
              refine va_get (D := D) (ci := 12) (v := .int v_35) (C := RX12) (T := TX12) (N := 91) hx hb hT iX12 hown hK hP 0 rfl rfl 0 (by decide) (hT _ t_10) (fun _ h9 => h9) rfl dX12_home_165 ?_
              refine lv_iconst (v := 1) hx hb dX12_home_168 (by decide) ?_
              refine lv_isub hx hb dX12_home_169 ?_
              refine lv_topi (fun v_36 ev_36 => ?_)
              have hv_36 : v_36.toInt = v_35.toInt - 1 := by rw [ev_36]; have := b_rg v_35; exact i_sub (a := v_35.toInt) (b := 1) rfl rfl (by omega) (by omega)
              subst hQ
              obtain ⟨nn, hnn⟩ : ∃ nn : Nat, (nn : Int) = (i 0).toInt := ⟨(i 0).toInt.toNat, by omega⟩
              have hix : (i 0).toNatClampNeg = nn := by have h9 : (i 0).toNatClampNeg = (i 0).toInt.toNat := rfl; omega
              have h5 : (va_up (va_up (va_up (va_up (va_up (va_up (va_up (va_up (va_up (va_up r 3 (upd (r 3) ((i 0).toNatClampNeg) p0)) 4 (upd (r 4) ((i 0).toNatClampNeg) p1)) 5 (upd (r 5) ((i 0).toNatClampNeg) p2)) 6 (upd (r 6) ((i 0).toNatClampNeg) p3)) 7 (upd (r 7) ((i 0).toNatClampNeg) p4)) 19 (upd (r 19) ((i 0).toNatClampNeg) (vp_nar .boolean p5))) 8 (upd (r 8) v_20.toNatClampNeg 1)) 8 (upd (upd (r 8) v_20.toNatClampNeg 1) v_24.toNatClampNeg 1)) 8 (upd (upd (upd (r 8) v_20.toNatClampNeg 1) v_24.toNatClampNeg 1) v_28.toNatClampNeg 1)) 8 (upd (upd (upd (upd (r 8) v_20.toNatClampNeg 1) v_24.toNatClampNeg 1) v_28.toNatClampNeg 1) v_32.toNatClampNeg 1)) 4 = upd (r 4) nn p1 := by rw [← hix]; rfl
              have hic : (i 0).toNatClampNeg = (i 0).toInt.toNat := rfl
              have hu0 : v_20.toNatClampNeg = 4 * (i 0).toNatClampNeg := by show v_20.toInt.toNat = _; omega
              have hu1 : v_24.toNatClampNeg = 4 * (i 0).toNatClampNeg + 1 := by show v_24.toInt.toNat = _; omega
              have hu2 : v_28.toNatClampNeg = 4 * (i 0).toNatClampNeg + 2 := by show v_28.toInt.toNat = _; omega
              have hu3 : v_32.toNatClampNeg = 4 * (i 0).toNatClampNeg + 3 := by show v_32.toInt.toNat = _; omega
              exact W.iret (v := v_36) hx hb hr (fun t ht hW => ⟨⟨_, (upd i 0 v_35, va_up (va_up (va_up (va_up (va_up (va_up (va_up (va_up (va_up (va_up r 3 (upd (r 3) ((i 0).toNatClampNeg) p0)) 4 (upd (r 4) ((i 0).toNatClampNeg) p1)) 5 (upd (r 5) ((i 0).toNatClampNeg) p2)) 6 (upd (r 6) ((i 0).toNatClampNeg) p3)) 7 (upd (r 7) ((i 0).toNatClampNeg) p4)) 19 (upd (r 19) ((i 0).toNatClampNeg) (vp_nar .boolean p5))) 8 (upd (r 8) v_20.toNatClampNeg 1)) 8 (upd (upd (r 8) v_20.toNatClampNeg 1) v_24.toNatClampNeg 1)) 8 (upd (upd (upd (r 8) v_20.toNatClampNeg 1) v_24.toNatClampNeg 1) v_28.toNatClampNeg 1)) 8 (upd (upd (upd (upd (r 8) v_20.toNatClampNeg 1) v_24.toNatClampNeg 1) v_28.toNatClampNeg 1) v_32.toNatClampNeg 1)), rfl, ⟨hRi, hRr, hEi, hEr, ⟨mE_home hE nn p1 (by omega) (by show v_35.toInt = _; omega) (by omega) rfl rfl rfl h5 rfl rfl rfl rfl rfl rfl rfl rfl rfl rfl rfl, ⟨fun _ => ⟨by omega, by show v_35.toInt = _; omega, rfl, rfl, rfl, rfl, rfl, rfl, (upd_4 hu0 hu1 hu2 hu3).1, (upd_4 hu0 hu1 hu2 hu3).2⟩, fun h9 => absurd (by omega) h9⟩⟩⟩, by rw [ht]; exact hP, va_K.moved hW.alike hK, hD⟩, hS.F ht⟩) hS.2.2 dX12_home_170
            · have c_17 : (i 0).toInt = 6 := b_nne c_17
              refine lv_iconst (v := (-1)) hx hb dX12_home_59 (by decide) ?_
              subst hQ
              exact W.iret (v := (-1)) hx hb hr (fun t ht hW => ⟨⟨_, (i, r), rfl, ⟨hRi, hRr, hEi, hEr, ⟨hE, ⟨fun h9 => absurd h9 (by omega), fun _ => ⟨rfl, Ei_rf, Er_rf⟩⟩⟩⟩, by rw [ht]; exact hP, va_K.moved hW.alike hK, hD⟩, hS.F ht⟩) hS.2.2 dX12_home_60
          · skip
            refine lv_if_eq (tgt := 59) hx hb dX12_home_47 (by decide) (fun c_37 => ?_) (fun c_37 => absurd (by decide) c_37)
            refine lv_iconst (v := (-1)) hx hb dX12_home_59 (by decide) ?_
            subst hQ
            exact W.iret (v := (-1)) hx hb hr (fun t ht hW => ⟨⟨_, (i, r), rfl, ⟨hRi, hRr, hEi, hEr, ⟨hE, ⟨fun h9 => absurd h9 (by omega), fun _ => ⟨rfl, Ei_rf, Er_rf⟩⟩⟩⟩, by rw [ht]; exact hP, va_K.moved hW.alike hK, hD⟩, hS.F ht⟩) hS.2.2 dX12_home_60
        · skip
          refine lv_if_eq (tgt := 59) hx hb dX12_home_34 (by decide) (fun c_38 => ?_) (fun c_38 => absurd (by decide) c_38)
          refine lv_iconst (v := (-1)) hx hb dX12_home_59 (by decide) ?_
          subst hQ
          exact W.iret (v := (-1)) hx hb hr (fun t ht hW => ⟨⟨_, (i, r), rfl, ⟨hRi, hRr, hEi, hEr, ⟨hE, ⟨fun h9 => absurd h9 (by omega), fun _ => ⟨rfl, Ei_rf, Er_rf⟩⟩⟩⟩, by rw [ht]; exact hP, va_K.moved hW.alike hK, hD⟩, hS.F ht⟩) hS.2.2 dX12_home_60
      · skip
        refine lv_if_eq (tgt := 59) hx hb dX12_home_22 (by decide) (fun c_39 => ?_) (fun c_39 => absurd (by decide) c_39)
        refine lv_iconst (v := (-1)) hx hb dX12_home_59 (by decide) ?_
        subst hQ
        exact W.iret (v := (-1)) hx hb hr (fun t ht hW => ⟨⟨_, (i, r), rfl, ⟨hRi, hRr, hEi, hEr, ⟨hE, ⟨fun h9 => absurd h9 (by omega), fun _ => ⟨rfl, Ei_rf, Er_rf⟩⟩⟩⟩, by rw [ht]; exact hP, va_K.moved hW.alike hK, hD⟩, hS.F ht⟩) hS.2.2 dX12_home_60
    · skip
      refine lv_if_eq (tgt := 59) hx hb dX12_home_15 (by decide) (fun c_40 => ?_) (fun c_40 => absurd (by decide) c_40)
      refine lv_iconst (v := (-1)) hx hb dX12_home_59 (by decide) ?_
      subst hQ
      exact W.iret (v := (-1)) hx hb hr (fun t ht hW => ⟨⟨_, (i, r), rfl, ⟨hRi, hRr, hEi, hEr, ⟨hE, ⟨fun h9 => absurd h9 (by omega), fun _ => ⟨rfl, Ei_rf, Er_rf⟩⟩⟩⟩, by rw [ht]; exact hP, va_K.moved hW.alike hK, hD⟩, hS.F ht⟩) hS.2.2 dX12_home_60
  · skip
    refine lv_if_eq (tgt := 59) hx hb dX12_home_6 (by decide) (fun c_41 => ?_) (fun c_41 => absurd (by decide) c_41)
    refine lv_iconst (v := (-1)) hx hb dX12_home_59 (by decide) ?_
    subst hQ
    exact W.iret (v := (-1)) hx hb hr (fun t ht hW => ⟨⟨_, (i, r), rfl, ⟨hRi, hRr, hEi, hEr, ⟨hE, ⟨fun h9 => absurd h9 (by omega), fun _ => ⟨rfl, Ei_rf, Er_rf⟩⟩⟩⟩, by rw [ht]; exact hP, va_K.moved hW.alike hK, hD⟩, hS.F ht⟩) hS.2.2 dX12_home_60
set_option maxHeartbeats 4000000 in
set_option maxRecDepth 100000 in
theorem c_X12_kin9 (l : Launch) (D : va_G) (cy : Nat → ClassId) (a : Nat → Nat) (i : Nat → Int32) (r : Nat → Nat → Int32) (rl : Nat → Int64) (p0 p1 p2 : Int32) (sz : Nat) (hRi : mRi i) (hRr : mRr r) : Met l yX12_kin (Cond.code yX12_kin cX12_kin 4 (some .boolean) :: gT) { frames := 2, cells := 0, slots := 0, locals := 45 } (va_Pc [.ref (a 0), .int p0, .int p1, .int p2] (rQ D cy (mW cy a i r rl) sz)) (va_Qi (fun (z : Int32) (u : Nat → Nat → Int32) => mRr u ∧ mEr [56] r u ∧ ((((0 ≤ p0.toInt ∧ p0.toInt ≤ 5) ∧ (0 ≤ p1.toInt ∧ p1.toInt < (i 0).toInt) ∧ (r 56 (6 * p0.toInt + p1.toInt).toNat).toInt ≠ p2.toInt) → z = 1 ∧ u 56 = upd (r 56) (6 * p0.toInt + p1.toInt).toNat (vp_nar .boolean p2)) ∧ (¬ ((0 ≤ p0.toInt ∧ p0.toInt ≤ 5) ∧ (0 ≤ p1.toInt ∧ p1.toInt < (i 0).toInt) ∧ (r 56 (6 * p0.toInt + p1.toInt).toNat).toInt ≠ p2.toInt) → z = 0 ∧ mEr [] r u))) (fun (u : Nat → Nat → Int32) t => va_P D vwCl (mW cy a i u rl) t.heap ∧ va_K D vwCl (vT cy) t ∧ va_D (va_A (mW cy a i r rl) sz) (mW cy a i u rl)) (va_A (mW cy a i r rl) sz)) 0 0 (va_A (mW cy a i r rl) sz) := by
  refine Met.ofQ (cc := cX12_kin) (maxL := 4) (ret := (some .boolean)) (by decide) rfl ?_
  intro p e s m args below meth c s₁ B hml hv Q hQ
  obtain ⟨rfl, hsz, hP, hK, hD0⟩ := hv
  have hx := B.exec
  have hb := B.bytes
  have hr := B.returns
  have hlocks := B.notSynchronized
  have hT : ∀ w ∈ gT, w.before _ s = true := fun w h => atoms_spec (ws := (Cond.code yX12_kin cX12_kin 4 (some .boolean) :: gT)) B.pre w (List.mem_cons_of_mem _ h)
  have hown : s.vm.findClass RX12 = some m.cls := findClass_of_methodNamed B.named
  subst hsz
  have hD := hD0.self (sz := s.heap.size)
  generalize hAe : va_A (mW cy a i r rl) s.heap.size = A at hD hQ
  have hA : ∀ q : Nat, s.heap.size ≤ q → A q := fun q h => by rw [← hAe]; exact Or.inr h
  have hS : va_S A s.heap s.heap [] := va_S.rf
  have hl := lv_entry ([.ref (a 0), .int p0, .int p1, .int p2]) (n := 4) (Nat.le_of_ble_eq_true rfl)
  rw [lg_entry_eq]
  generalize (lg_sl ([.ref (a 0), .int p0, .int p1, .int p2]) ++ List.replicate (4 - (lg_sl ([.ref (a 0), .int p0, .int p1, .int p2])).length) Slot.unset).toArray = ls at hl ⊢
  have hl : lv_has ls 4 [(0, .ref (a 0)), (1, .int p0), (2, .int p1), (3, .int p2)] := hl
  have hEi : mEi [] i i := Ei_rf
  have hEr : mEr [56] r r := Er_rf
  refine lv_iload_n hx hb dX12_kin_0 rfl (lv_at hl 1 rfl) ?_
  refine vp_callSi (W.runS (As := [.int p0]) (rest := []) ⟨hx, hb, hml, hown, hT⟩ (c_X12_isJudge l p0) (va_cwS 1 hT (gS t_187 t_188 t_189 t_6) rfl rfl rfl (by decide +kernel) ⟨Nat.le_of_ble_eq_true rfl, Nat.le_of_ble_eq_true rfl⟩) preT rfl rfl hl.1 rfl (lv_room (Nat.le_of_ble_eq_true rfl)) dX12_kin_1 ⟨Nat.le_of_ble_eq_true rfl, Nat.le_of_ble_eq_true rfl⟩) (fun r_1 hr_1 => ?_)
  have hr_1 : BR r_1 (0 ≤ p0.toInt ∧ p0.toInt ≤ 5) 1 0 := hr_1
  rcases hr_1 with ⟨rfl, h_2⟩ | ⟨rfl, h_2⟩
  · skip
    refine lv_if_eq (tgt := 30) hx hb dX12_kin_4 (by decide) (fun c_3 => absurd c_3 (by decide)) (fun c_3 => ?_)
    refine lv_aload_n hx hb dX12_kin_7 rfl (lv_at hl 0 rfl) ?_
    refine lv_iload_n hx hb dX12_kin_8 rfl (lv_at hl 2 rfl) ?_
    refine vp_callSi (W.runV (As := [.int p1]) (rest := []) ⟨hx, hb, hml, hown, hT⟩ (c_X12_isHome l D cy a i r rl p1 hRi hRr) (cwV 1 hT (gV t_12 t_13 t_14 t_15 t_6) rfl rfl rfl (by decide +kernel) ⟨Nat.le_of_ble_eq_true rfl, Nat.le_of_ble_eq_true rfl⟩) (rP_v hP hK (va_recv hK hP (ci := 12) (q0 := 0) rfl rfl)) rfl rfl hl.1 rfl (lv_room (Nat.le_of_ble_eq_true rfl)) dX12_kin_9 ⟨Nat.le_of_ble_eq_true rfl, Nat.le_of_ble_eq_true rfl⟩) (fun r_4 hr_4 => ?_)
    have hg_5 : 0 ≤ (i 0).toInt ∧ (i 0).toInt ≤ 6 := hRi 0
    have hr_4 : BR r_4 (0 ≤ p1.toInt ∧ p1.toInt < (i 0).toInt) 1 0 := hr_4
    rcases hr_4 with ⟨rfl, h_6⟩ | ⟨rfl, h_6⟩
    · skip
      refine lv_if_eq (tgt := 30) hx hb dX12_kin_12 (by decide) (fun c_7 => absurd c_7 (by decide)) (fun c_7 => ?_)
      refine lv_aload_n hx hb dX12_kin_15 rfl (lv_at hl 0 rfl) ?_
      refine va_get (D := D) (ci := 12) (v := .ref (a 56)) (C := RX12) (T := TX12) (N := 91) hx hb hT iX12 hown hK hP 0 rfl rfl 70 (by decide) (hT _ t_190) (fun _ h9 => h9) rfl dX12_kin_16 ?_
      refine lv_bipush (v := 6) hx hb dX12_kin_19 (by decide) ?_
      refine lv_iload_n hx hb dX12_kin_21 rfl (lv_at hl 1 rfl) ?_
      refine lv_imul hx hb dX12_kin_22 ?_
      refine lv_topi (fun v_8 ev_8 => ?_)
      have hv_8 : v_8.toInt = 6 * p0.toInt := by rw [ev_8]; have := b_rg p0; exact i_mul (a := 6) (b := p0.toInt) rfl rfl (by omega) (by omega)
      refine lv_iload_n hx hb dX12_kin_23 rfl (lv_at hl 2 rfl) ?_
      refine lv_iadd hx hb dX12_kin_24 ?_
      refine lv_topi (fun v_9 ev_9 => ?_)
      have hv_9 : v_9.toInt = v_8.toInt + p1.toInt := by rw [ev_9]; have := b_rg v_8; have := b_rg p1; exact i_add (a := v_8.toInt) (b := p1.toInt) rfl rfl (by omega) (by omega)
      refine va_zald hx hb hK hP 56 2 rfl rfl (vp_inI (by omega) (by omega)) dX12_kin_25 ?_
      refine lv_topi (fun v_10 ev_10 => ?_)
      have hwv_10 : v_10 = r 56 (((6 * p0.toInt) + p1.toInt)).toNat := by rw [ev_10]; exact congrArg (r 56) (by show v_9.toInt.toNat = _; omega)
      have hwiv_10 : v_10.toInt = (r 56 (6 * p0.toInt + p1.toInt).toNat).toInt := congrArg Int32.toInt hwv_10
      refine lv_iload_n hx hb dX12_kin_26 rfl (lv_at hl 3 rfl) ?_
      refine lv_icmp_ne (tgt := 32) hx hb dX12_kin_27 (by decide) (fun c_11 => ?_) (fun c_11 => ?_)
      · have c_11 : v_10.toInt ≠ p2.toInt := b_ne c_11
        refine lv_aload_n hx hb dX12_kin_32 rfl (lv_at hl 0 rfl) ?_
        refine va_get (D := D) (ci := 12) (v := .ref (a 56)) (C := RX12) (T := TX12) (N := 91) hx hb hT iX12 hown hK hP 0 rfl rfl 70 (by decide) (hT _ t_190) (fun _ h9 => h9) rfl dX12_kin_33 ?_
        refine lv_bipush (v := 6) hx hb dX12_kin_36 (by decide) ?_
        refine lv_iload_n hx hb dX12_kin_38 rfl (lv_at hl 1 rfl) ?_
        refine lv_imul hx hb dX12_kin_39 ?_
        refine lv_topi (fun v_12 ev_12 => ?_)
        have hv_12 : v_12.toInt = 6 * p0.toInt := by rw [ev_12]; have := b_rg p0; exact i_mul (a := 6) (b := p0.toInt) rfl rfl (by omega) (by omega)
        refine lv_iload_n hx hb dX12_kin_40 rfl (lv_at hl 2 rfl) ?_
        refine lv_iadd hx hb dX12_kin_41 ?_
        refine lv_topi (fun v_13 ev_13 => ?_)
        have hv_13 : v_13.toInt = v_12.toInt + p1.toInt := by rw [ev_13]; have := b_rg v_12; have := b_rg p1; exact i_add (a := v_12.toInt) (b := p1.toInt) rfl rfl (by omega) (by omega)
        refine lv_iload_n hx hb dX12_kin_42 rfl (lv_at hl 3 rfl) ?_
        refine va_zast hx hb hK hP hD hS 56 2 rfl rfl (vp_inI (by omega) (by omega)) dX12_kin_43 (fun H locs hP hD hS => ?_)
        rw [mS56] at hP hD
        have hRr : mRr (va_up r 56 (upd (r 56) v_13.toNatClampNeg (vp_nar .boolean p2))) := Rr_upd hRr 56 (v_13.toNatClampNeg) (vp_nar .boolean p2) (b_rg _)
        have hEr : mEr [56] _ (va_up r 56 (upd (r 56) v_13.toNatClampNeg (vp_nar .boolean p2))) := Er_up hEr 56 _ (by decide)
        refine lv_iconst (v := 1) hx hb dX12_kin_44 (by decide) ?_
        subst hQ
        have hix : v_13.toNatClampNeg = (6 * p0.toInt + p1.toInt).toNat := by show v_13.toInt.toNat = _; omega
        exact W.zret hx hb hr rfl (fun t ht hW => ⟨⟨_, (va_up r 56 (upd (r 56) v_13.toNatClampNeg (vp_nar .boolean p2))), rfl, ⟨hRr, hEr, ⟨fun _ => ⟨rfl, by rw [← hix]; rfl⟩, fun h9 => absurd (by omega) h9⟩⟩, by rw [ht]; exact hP, va_K.moved hW.alike hK, hD⟩, hS.F ht⟩) hS.2.2 dX12_kin_45
      · have c_11 : v_10.toInt = p2.toInt := b_nne c_11
        refine lv_iconst (v := 0) hx hb dX12_kin_30 (by decide) ?_
        subst hQ
        exact W.zret hx hb hr rfl (fun t ht hW => ⟨⟨_, r, rfl, ⟨hRr, hEr, ⟨fun h9 => absurd h9 (by omega), fun _ => ⟨rfl, Er_rf⟩⟩⟩, by rw [ht]; exact hP, va_K.moved hW.alike hK, hD⟩, hS.F ht⟩) hS.2.2 dX12_kin_31
    · skip
      refine lv_if_eq (tgt := 30) hx hb dX12_kin_12 (by decide) (fun c_14 => ?_) (fun c_14 => absurd (by decide) c_14)
      refine lv_iconst (v := 0) hx hb dX12_kin_30 (by decide) ?_
      subst hQ
      exact W.zret hx hb hr rfl (fun t ht hW => ⟨⟨_, r, rfl, ⟨hRr, hEr, ⟨fun h9 => absurd h9 (by omega), fun _ => ⟨rfl, Er_rf⟩⟩⟩, by rw [ht]; exact hP, va_K.moved hW.alike hK, hD⟩, hS.F ht⟩) hS.2.2 dX12_kin_31
  · skip
    refine lv_if_eq (tgt := 30) hx hb dX12_kin_4 (by decide) (fun c_15 => ?_) (fun c_15 => absurd (by decide) c_15)
    refine lv_iconst (v := 0) hx hb dX12_kin_30 (by decide) ?_
    subst hQ
    exact W.zret hx hb hr rfl (fun t ht hW => ⟨⟨_, r, rfl, ⟨hRr, hEr, ⟨fun h9 => absurd h9 (by omega), fun _ => ⟨rfl, Er_rf⟩⟩⟩, by rw [ht]; exact hP, va_K.moved hW.alike hK, hD⟩, hS.F ht⟩) hS.2.2 dX12_kin_31
set_option maxHeartbeats 4000000 in
set_option maxRecDepth 100000 in
theorem c_X11_kin.y9 (l : Launch) (D : va_G) (cy : Nat → ClassId) (a : Nat → Nat) (i : Nat → Int32) (r : Nat → Nat → Int32) (q : Nat → Option Nat) (tl : va_W) (p0 p1 p2 : Int32) (sz : Nat) (hRi : yRi i) (hRr : yRr r) (hh : 0 ≤ p1.toInt ∧ p1.toInt < (i 0).toInt) (hq : q p1.toNatClampNeg = some (a 61)) : Met l yX11_kin (Cond.code yX11_kin cX11_kin 5 (some .boolean) :: gT) { frames := 3, cells := 0, slots := 0, locals := 67 } (va_Pc [.ref (a 0), .int p0, .int p1, .int p2] (rQ D cy (xW cy a i r q (a 20) (a 12) ++ (hW cy a i r ++ tl)) sz)) (va_Qi (fun (z : Int32) (u : Nat → Nat → Int32) => yRr u ∧ mEr [64] r u ∧ ((((0 ≤ p0.toInt ∧ p0.toInt ≤ 5) ∧ (r 64 p0.toNatClampNeg).toInt ≠ p2.toInt) → z = 1 ∧ u 64 = upd (r 64) p0.toNatClampNeg (vp_nar .boolean p2)) ∧ (¬ ((0 ≤ p0.toInt ∧ p0.toInt ≤ 5) ∧ (r 64 p0.toNatClampNeg).toInt ≠ p2.toInt) → z = 0 ∧ mEr [] r u))) (fun (u : Nat → Nat → Int32) t => va_P D vwCl (xW cy a i u q (a 20) (a 12) ++ (hW cy a i u ++ tl)) t.heap ∧ va_K D vwCl (vT cy) t ∧ va_D (va_A (xW cy a i r q (a 20) (a 12) ++ (hW cy a i r ++ tl)) sz) (xW cy a i u q (a 20) (a 12) ++ (hW cy a i u ++ tl))) (va_A (xW cy a i r q (a 20) (a 12) ++ (hW cy a i r ++ tl)) sz)) 0 0 (va_A (xW cy a i r q (a 20) (a 12) ++ (hW cy a i r ++ tl)) sz) := by
  refine Met.ofQ (cc := cX11_kin) (maxL := 5) (ret := (some .boolean)) (by decide) rfl ?_
  intro p e s m args below meth c s₁ B hml hv Q hQ
  obtain ⟨rfl, hsz, hP, hK, hD0⟩ := hv
  have hx := B.exec
  have hb := B.bytes
  have hr := B.returns
  have hlocks := B.notSynchronized
  have hT : ∀ w ∈ gT, w.before _ s = true := fun w h => atoms_spec (ws := (Cond.code yX11_kin cX11_kin 5 (some .boolean) :: gT)) B.pre w (List.mem_cons_of_mem _ h)
  have hown : s.vm.findClass RX11 = some m.cls := findClass_of_methodNamed B.named
  subst hsz
  have hD := hD0.self (sz := s.heap.size)
  generalize hAe : va_A (xW cy a i r q (a 20) (a 12) ++ (hW cy a i r ++ tl)) s.heap.size = A at hD hQ
  have hA : ∀ q : Nat, s.heap.size ≤ q → A q := fun q h => by rw [← hAe]; exact Or.inr h
  have hS : va_S A s.heap s.heap [] := va_S.rf
  have hl := lv_entry ([.ref (a 0), .int p0, .int p1, .int p2]) (n := 5) (Nat.le_of_ble_eq_true rfl)
  rw [lg_entry_eq]
  generalize (lg_sl ([.ref (a 0), .int p0, .int p1, .int p2]) ++ List.replicate (5 - (lg_sl ([.ref (a 0), .int p0, .int p1, .int p2])).length) Slot.unset).toArray = ls at hl ⊢
  have hl : lv_has ls 5 [(0, .ref (a 0)), (1, .int p0), (2, .int p1), (3, .int p2)] := hl
  have hEi : mEi [] i i := Ei_rf
  have hEr : mEr [64] r r := Er_rf
  have hg0 : 0 ≤ (i 0).toInt ∧ (i 0).toInt ≤ 6 := hRi 0
  refine lv_aload_n hx hb dX11_kin_0 rfl (lv_at hl 0 rfl) ?_
  refine lv_iload_n hx hb dX11_kin_1 rfl (lv_at hl 2 rfl) ?_
  refine va_csq (W.runV (As := [.int p1]) (rest := []) ⟨hx, hb, hml, hown, hT⟩ (c_X11_homeAt l D cy a i r q (hW cy a i r ++ tl) p1 hRi hRr) (cwV 1 hT (gV t_443 t_444 t_445 t_446 t_2) rfl rfl rfl (by decide +kernel) ⟨Nat.le_of_ble_eq_true rfl, Nat.le_of_ble_eq_true rfl⟩) (rP_v hP hK (va_recv hK hP (ci := 11) (q0 := 0) rfl rfl)) rfl rfl hl.1 rfl (lv_room (Nat.le_of_ble_eq_true rfl)) dX11_kin_2 ⟨Nat.le_of_ble_eq_true rfl, Nat.le_of_ble_eq_true rfl⟩) (fun r_1 hr_1 => ?_)
  obtain rfl : r_1 = some (a 61) := (hr_1.1 hh).trans hq
  refine W.eq (g2 := F0 m 5 ls [.ref (a 61)]) rfl ?_
  refine lv_astore (lv' := [(4, .ref (a 61)), (0, .ref (a 0)), (1, .int p0), (2, .int p1), (3, .int p2)]) hx hb dX11_kin_5 hl (by decide) rfl (fun ls hl => ?_)
  refine lv_aload hx hb dX11_kin_7 (lv_at hl 0 rfl) ?_
  refine lv_ifnull hx hb dX11_kin_9 ?_
  refine lv_iload_n hx hb dX11_kin_12 rfl (lv_at hl 2 rfl) ?_
  refine lv_iconst (v := 0) hx hb dX11_kin_13 (by decide) ?_
  refine lv_iconst (v := 5) hx hb dX11_kin_14 (by decide) ?_
  refine vp_callSi (W.runS (As := [.int p0, .int 0, .int 5]) (rest := []) ⟨hx, hb, hml, hown, hT⟩ (c_X11_within l p0 0 5) (va_cwS 3 hT (gS t_1 t_3 t_4 t_2) rfl rfl rfl (by decide +kernel) ⟨Nat.le_of_ble_eq_true rfl, Nat.le_of_ble_eq_true rfl⟩) preT rfl rfl hl.1 rfl (lv_room (Nat.le_of_ble_eq_true rfl)) dX11_kin_15 ⟨Nat.le_of_ble_eq_true rfl, Nat.le_of_ble_eq_true rfl⟩) (fun r_2 hr_2 => ?_)
  have hr_2 : BR r_2 (0 ≤ p0.toInt ∧ p0.toInt ≤ 5) 1 0 := hr_2
  rcases hr_2 with ⟨rfl, h_3⟩ | ⟨rfl, h_3⟩
  · skip
    refine lv_if_eq (tgt := 32) hx hb dX11_kin_18 (by decide) (fun c_4 => absurd c_4 (by decide)) (fun c_4 => ?_)
    refine lv_aload hx hb dX11_kin_21 (lv_at hl 0 rfl) ?_
    refine va_get (D := D) (ci := 3) (v := .ref (a 64)) (C := RX3) (T := TX3) (N := 12) hx hb hT iX3 hown hK hP 61 rfl rfl 8 (by decide) (hT _ t_478) (fun _ h9 => h9) rfl dX11_kin_23 ?_
    refine lv_iload_n hx hb dX11_kin_26 rfl (lv_at hl 2 rfl) ?_
    refine va_zald hx hb hK hP 64 2 rfl rfl (vp_inI (by omega) (by omega)) dX11_kin_27 ?_
    refine lv_topi (fun v_5 ev_5 => ?_)
    have hwv_5 : v_5.toInt = (r 64 (p0.toNatClampNeg)).toInt := congrArg Int32.toInt ev_5
    refine lv_iload_n hx hb dX11_kin_28 rfl (lv_at hl 4 rfl) ?_
    refine lv_icmp_ne (tgt := 34) hx hb dX11_kin_29 (by decide) (fun c_6 => ?_) (fun c_6 => ?_)
    · have c_6 : v_5.toInt ≠ p2.toInt := b_ne c_6
      refine lv_aload hx hb dX11_kin_34 (lv_at hl 0 rfl) ?_
      refine va_get (D := D) (ci := 3) (v := .ref (a 64)) (C := RX3) (T := TX3) (N := 12) hx hb hT iX3 hown hK hP 61 rfl rfl 8 (by decide) (hT _ t_478) (fun _ h9 => h9) rfl dX11_kin_36 ?_
      refine lv_iload_n hx hb dX11_kin_39 rfl (lv_at hl 2 rfl) ?_
      refine lv_iload_n hx hb dX11_kin_40 rfl (lv_at hl 4 rfl) ?_
      refine va_zast hx hb hK hP hD hS 64 2 rfl rfl (vp_inI (by omega) (by omega)) dX11_kin_41 (fun H locs hP hD hS => ?_)
      rw [yS64] at hP hD
      have hRr : yRr (va_up r 64 (upd (r 64) p0.toNatClampNeg (vp_nar .boolean p2))) := Yr_upd hRr 64 (p0.toNatClampNeg) (vp_nar .boolean p2) (b_rg _)
      have hEr : mEr [64] _ (va_up r 64 (upd (r 64) p0.toNatClampNeg (vp_nar .boolean p2))) := Er_up hEr 64 _ (by decide)
      refine lv_iconst (v := 1) hx hb dX11_kin_42 (by decide) ?_
      subst hQ
      exact W.zret hx hb hr rfl (fun t ht hW => ⟨⟨_, (va_up r 64 (upd (r 64) p0.toNatClampNeg (vp_nar .boolean p2))), rfl, ⟨hRr, hEr, ⟨fun _ => ⟨rfl, rfl⟩, fun h9 => absurd (by omega) h9⟩⟩, by rw [ht]; exact hP, va_K.moved hW.alike hK, hD⟩, hS.F ht⟩) hS.2.2 dX11_kin_43
    · have c_6 : v_5.toInt = p2.toInt := b_nne c_6
      refine lv_iconst (v := 0) hx hb dX11_kin_32 (by decide) ?_
      subst hQ
      exact W.zret hx hb hr rfl (fun t ht hW => ⟨⟨_, r, rfl, ⟨hRr, hEr, ⟨fun h9 => absurd h9 (by omega), fun _ => ⟨rfl, Er_rf⟩⟩⟩, by rw [ht]; exact hP, va_K.moved hW.alike hK, hD⟩, hS.F ht⟩) hS.2.2 dX11_kin_33
  · skip
    refine lv_if_eq (tgt := 32) hx hb dX11_kin_18 (by decide) (fun c_7 => ?_) (fun c_7 => absurd (by decide) c_7)
    refine lv_iconst (v := 0) hx hb dX11_kin_32 (by decide) ?_
    subst hQ
    exact W.zret hx hb hr rfl (fun t ht hW => ⟨⟨_, r, rfl, ⟨hRr, hEr, ⟨fun h9 => absurd h9 (by omega), fun _ => ⟨rfl, Er_rf⟩⟩⟩, by rw [ht]; exact hP, va_K.moved hW.alike hK, hD⟩, hS.F ht⟩) hS.2.2 dX11_kin_33
set_option maxHeartbeats 4000000 in
set_option maxRecDepth 100000 in
theorem c_X10_add_r659 (l : Launch) (D : va_G) (cy : Nat → ClassId) (a : Nat → Nat) (i : Nat → Int32) (r : Nat → Nat → Int32) (q : Nat → Option Nat) (tl : va_W) (p0 p1 p2 p3 : Int32) (sz : Nat) (hRi : yRi i) (hRr : yRr r) (q0 : 0 ≤ p0.toInt ∧ p0.toInt ≤ 9) (q1 : 0 ≤ p1.toInt ∧ p1.toInt ≤ 7) (q2 : 1 ≤ p2.toInt ∧ p2.toInt ≤ 9) (q3 : 0 ≤ p3.toInt ∧ p3.toInt ≤ 360) : Met l yX10_add (Cond.code yX10_add cX10_add 5 (some .int) :: gT) { frames := 1, cells := 0, slots := 0, locals := 24 } (va_Pc [.ref (a 65), .int p0, .int p1, .int p2, .int p3] (rQ D cy (xW cy a i r q (a 20) (a 12) ++ (hW cy a i r ++ tl)) sz)) (va_Qi (fun (z : Int32) (u : (Nat → Int32) × (Nat → Nat → Int32)) => yRi u.1 ∧ yRr u.2 ∧ mEi [23] i u.1 ∧ mEr [66, 67, 68, 69] r u.2 ∧ ((((i 23).toInt ≤ 19) → z.toInt = (i 23).toInt ∧ (u.1 23).toInt = (i 23).toInt + 1 ∧ u.2 66 = upd (r 66) (i 23).toNatClampNeg p0 ∧ u.2 67 = upd (r 67) (i 23).toNatClampNeg p1 ∧ u.2 68 = upd (r 68) (i 23).toNatClampNeg p2 ∧ u.2 69 = upd (r 69) (i 23).toNatClampNeg p3) ∧ (¬ ((i 23).toInt ≤ 19) → z = -1 ∧ u.1 23 = i 23 ∧ mEr [] r u.2))) (fun (u : (Nat → Int32) × (Nat → Nat → Int32)) t => va_P D vwCl (xW cy a u.1 u.2 q (a 20) (a 12) ++ (hW cy a u.1 u.2 ++ tl)) t.heap ∧ va_K D vwCl (vT cy) t ∧ va_D (va_A (xW cy a i r q (a 20) (a 12) ++ (hW cy a i r ++ tl)) sz) (xW cy a u.1 u.2 q (a 20) (a 12) ++ (hW cy a u.1 u.2 ++ tl))) (va_A (xW cy a i r q (a 20) (a 12) ++ (hW cy a i r ++ tl)) sz)) 0 0 (va_A (xW cy a i r q (a 20) (a 12) ++ (hW cy a i r ++ tl)) sz) := by
  refine Met.ofQ (cc := cX10_add) (maxL := 5) (ret := (some .int)) (by decide) rfl ?_
  intro p e s m args below meth c s₁ B hml hv Q hQ
  obtain ⟨rfl, hsz, hP, hK, hD0⟩ := hv
  have hx := B.exec
  have hb := B.bytes
  have hr := B.returns
  have hlocks := B.notSynchronized
  have hT : ∀ w ∈ gT, w.before _ s = true := fun w h => atoms_spec (ws := (Cond.code yX10_add cX10_add 5 (some .int) :: gT)) B.pre w (List.mem_cons_of_mem _ h)
  have hown : s.vm.findClass RX10 = some m.cls := findClass_of_methodNamed B.named
  subst hsz
  have hD := hD0.self (sz := s.heap.size)
  generalize hAe : va_A (xW cy a i r q (a 20) (a 12) ++ (hW cy a i r ++ tl)) s.heap.size = A at hD hQ
  have hA : ∀ q : Nat, s.heap.size ≤ q → A q := fun q h => by rw [← hAe]; exact Or.inr h
  have hS : va_S A s.heap s.heap [] := va_S.rf
  have hl := lv_entry ([.ref (a 65), .int p0, .int p1, .int p2, .int p3]) (n := 5) (Nat.le_of_ble_eq_true rfl)
  rw [lg_entry_eq]
  generalize (lg_sl ([.ref (a 65), .int p0, .int p1, .int p2, .int p3]) ++ List.replicate (5 - (lg_sl ([.ref (a 65), .int p0, .int p1, .int p2, .int p3])).length) Slot.unset).toArray = ls at hl ⊢
  have hl : lv_has ls 5 [(0, .ref (a 65)), (1, .int p0), (2, .int p1), (3, .int p2), (4, .int p3)] := hl
  have hEi : mEi [23] i i := Ei_rf
  have hEr : mEr [66, 67, 68, 69] r r := Er_rf
  refine lv_aload_n hx hb dX10_add_0 rfl (lv_at hl 0 rfl) ?_
  refine va_get (D := D) (ci := 10) (v := .int (i 23)) (C := RX10) (T := TX10) (N := 5) hx hb hT iX10 hown hK hP 65 rfl rfl 0 (by decide) (hT _ t_402) (fun _ h9 => h9) rfl dX10_add_1 ?_
  have hg_1 : 0 ≤ (i 23).toInt ∧ (i 23).toInt ≤ 20 := hRi 23
  refine lv_bipush (v := 20) hx hb dX10_add_4 (by decide) ?_
  refine lv_icmp_lt (tgt := 11) hx hb dX10_add_6 (by decide) (fun c_2 => ?_) (fun c_2 => ?_)
  · have c_2 : (i 23).toInt < 20 := b_lt c_2
    refine lv_aload_n hx hb dX10_add_11 rfl (lv_at hl 0 rfl) ?_
    refine va_get (D := D) (ci := 10) (v := .ref (a 66)) (C := RX10) (T := TX10) (N := 5) hx hb hT iX10 hown hK hP 65 rfl rfl 1 (by decide) (hT _ t_403) (fun _ h9 => h9) rfl dX10_add_12 ?_
    refine lv_aload_n hx hb dX10_add_15 rfl (lv_at hl 0 rfl) ?_
    refine va_get (D := D) (ci := 10) (v := .int (i 23)) (C := RX10) (T := TX10) (N := 5) hx hb hT iX10 hown hK hP 65 rfl rfl 0 (by decide) (hT _ t_402) (fun _ h9 => h9) rfl dX10_add_16 ?_
    refine lv_iload_n hx hb dX10_add_19 rfl (lv_at hl 1 rfl) ?_
    refine va_iast hx hb hK hP hD hS 66 0 rfl rfl (vp_inI (by omega) (by omega)) dX10_add_20 (fun H locs hP hD hS => ?_)
    rw [yS66] at hP hD
    have hRr : yRr (va_up r 66 (upd (r 66) ((i 23).toNatClampNeg) p0)) := Yr_upd hRr 66 ((i 23).toNatClampNeg) p0 ⟨by show (0 : Int) ≤ p0.toInt; omega, by show p0.toInt ≤ (9 : Int); omega⟩
    have hEr : mEr [66, 67, 68, 69] _ (va_up r 66 (upd (r 66) ((i 23).toNatClampNeg) p0)) := Er_up hEr 66 _ (by decide)
    refine lv_aload_n hx hb dX10_add_21 rfl (lv_at hl 0 rfl) ?_
    refine va_get (D := D) (ci := 10) (v := .ref (a 67)) (C := RX10) (T := TX10) (N := 5) hx hb hT iX10 hown hK hP 65 rfl rfl 2 (by decide) (hT _ t_404) (fun _ h9 => h9) rfl dX10_add_22 ?_
    refine lv_aload_n hx hb dX10_add_25 rfl (lv_at hl 0 rfl) ?_
    refine va_get (D := D) (ci := 10) (v := .int (i 23)) (C := RX10) (T := TX10) (N := 5) hx hb hT iX10 hown hK hP 65 rfl rfl 0 (by decide) (hT _ t_402) (fun _ h9 => h9) rfl dX10_add_26 ?_
    refine lv_iload_n hx hb dX10_add_29 rfl (lv_at hl 2 rfl) ?_
    refine va_iast hx hb hK hP hD hS 67 0 rfl rfl (vp_inI (by omega) (by omega)) dX10_add_30 (fun H locs hP hD hS => ?_)
    rw [yS67] at hP hD
    have hRr : yRr (va_up (va_up r 66 (upd (r 66) ((i 23).toNatClampNeg) p0)) 67 (upd (r 67) ((i 23).toNatClampNeg) p1)) := Yr_upd hRr 67 ((i 23).toNatClampNeg) p1 ⟨by show (0 : Int) ≤ p1.toInt; omega, by show p1.toInt ≤ (7 : Int); omega⟩
    have hEr : mEr [66, 67, 68, 69] _ (va_up (va_up r 66 (upd (r 66) ((i 23).toNatClampNeg) p0)) 67 (upd (r 67) ((i 23).toNatClampNeg) p1)) := Er_up hEr 67 _ (by decide)
    refine lv_aload_n hx hb dX10_add_31 rfl (lv_at hl 0 rfl) ?_
    refine va_get (D := D) (ci := 10) (v := .ref (a 68)) (C := RX10) (T := TX10) (N := 5) hx hb hT iX10 hown hK hP 65 rfl rfl 3 (by decide) (hT _ t_405) (fun _ h9 => h9) rfl dX10_add_32 ?_
    refine lv_aload_n hx hb dX10_add_35 rfl (lv_at hl 0 rfl) ?_
    refine va_get (D := D) (ci := 10) (v := .int (i 23)) (C := RX10) (T := TX10) (N := 5) hx hb hT iX10 hown hK hP 65 rfl rfl 0 (by decide) (hT _ t_402) (fun _ h9 => h9) rfl dX10_add_36 ?_
    refine lv_iload_n hx hb dX10_add_39 rfl (lv_at hl 3 rfl) ?_
    refine va_iast hx hb hK hP hD hS 68 0 rfl rfl (vp_inI (by omega) (by omega)) dX10_add_40 (fun H locs hP hD hS => ?_)
    rw [yS68] at hP hD
    have hRr : yRr (va_up (va_up (va_up r 66 (upd (r 66) ((i 23).toNatClampNeg) p0)) 67 (upd (r 67) ((i 23).toNatClampNeg) p1)) 68 (upd (r 68) ((i 23).toNatClampNeg) p2)) := Yr_upd hRr 68 ((i 23).toNatClampNeg) p2 ⟨by show (0 : Int) ≤ p2.toInt; omega, by show p2.toInt ≤ (9 : Int); omega⟩
    have hEr : mEr [66, 67, 68, 69] _ (va_up (va_up (va_up r 66 (upd (r 66) ((i 23).toNatClampNeg) p0)) 67 (upd (r 67) ((i 23).toNatClampNeg) p1)) 68 (upd (r 68) ((i 23).toNatClampNeg) p2)) := Er_up hEr 68 _ (by decide)
    refine lv_aload_n hx hb dX10_add_41 rfl (lv_at hl 0 rfl) ?_
    refine va_get (D := D) (ci := 10) (v := .ref (a 69)) (C := RX10) (T := TX10) (N := 5) hx hb hT iX10 hown hK hP 65 rfl rfl 4 (by decide) (hT _ t_406) (fun _ h9 => h9) rfl dX10_add_42 ?_
    refine lv_aload_n hx hb dX10_add_45 rfl (lv_at hl 0 rfl) ?_
    refine va_get (D := D) (ci := 10) (v := .int (i 23)) (C := RX10) (T := TX10) (N := 5) hx hb hT iX10 hown hK hP 65 rfl rfl 0 (by decide) (hT _ t_402) (fun _ h9 => h9) rfl dX10_add_46 ?_
    refine lv_iload hx hb dX10_add_49 (lv_at hl 4 rfl) ?_
    refine va_iast hx hb hK hP hD hS 69 0 rfl rfl (vp_inI (by omega) (by omega)) dX10_add_51 (fun H locs hP hD hS => ?_)
    rw [yS69] at hP hD
    have hRr : yRr (va_up (va_up (va_up (va_up r 66 (upd (r 66) ((i 23).toNatClampNeg) p0)) 67 (upd (r 67) ((i 23).toNatClampNeg) p1)) 68 (upd (r 68) ((i 23).toNatClampNeg) p2)) 69 (upd (r 69) ((i 23).toNatClampNeg) p3)) := Yr_upd hRr 69 ((i 23).toNatClampNeg) p3 ⟨by show (0 : Int) ≤ p3.toInt; omega, by show p3.toInt ≤ (360 : Int); omega⟩
    have hEr : mEr [66, 67, 68, 69] _ (va_up (va_up (va_up (va_up r 66 (upd (r 66) ((i 23).toNatClampNeg) p0)) 67 (upd (r 67) ((i 23).toNatClampNeg) p1)) 68 (upd (r 68) ((i 23).toNatClampNeg) p2)) 69 (upd (r 69) ((i 23).toNatClampNeg) p3)) := Er_up hEr 69 _ (by decide)
    refine lv_aload_n hx hb dX10_add_52 rfl (lv_at hl 0 rfl) ?_
    refine lv_dup hx hb dX10_add_53 rfl ?_
    refine va_get (D := D) (ci := 10) (v := .int (i 23)) (C := RX10) (T := TX10) (N := 5) hx hb hT iX10 hown hK hP 65 rfl rfl 0 (by decide) (hT _ t_402) (fun _ h9 => h9) rfl dX10_add_54 ?_
    refine lv_iconst (v := 1) hx hb dX10_add_57 (by decide) ?_
    refine lv_iadd hx hb dX10_add_58 ?_
    refine lv_topi (fun v_3 ev_3 => ?_)
    have hv_3 : v_3.toInt = (i 23).toInt + 1 := by rw [ev_3]; have := b_rg (i 23); exact i_add (a := (i 23).toInt) (b := 1) rfl rfl (by omega) (by omega)
    refine va_put (D := D) (ci := 10) (v := .int v_3) (ty := .int) (C := RX10) (T := TX10) (N := 5) hx hb hT iX10 tyX10 tyX10_ok nmX10 hown hK hP hD hS 65 rfl rfl 0 (by decide) (hT _ t_402) (fun _ h9 => h9) rfl (by decide +kernel) rfl rfl (Nat.le_of_ble_eq_true rfl) dX10_add_59 (fun H locs hP hD hS => ?_)
    rw [yP23] at hP hD
    have hRi := Yi_upd hRi 23 v_3 ⟨by show (0 : Int) ≤ v_3.toInt; omega, by show v_3.toInt ≤ (20 : Int); omega⟩
    have hEi := Ei_upd hEi 23 v_3 (by decide)
    refine lv_aload_n hx hb dX10_add_62 rfl (lv_at hl 0 rfl) ?_
    refine va_get (D := D) (ci := 10) (v := .int v_3) (C := RX10) (T := TX10) (N := 5) hx hb hT iX10 hown hK hP 65 rfl rfl 0 (by decide) (hT _ t_402) (fun _ h9 => h9) rfl dX10_add_63 ?_
    refine lv_iconst (v := 1) hx hb dX10_add_66 (by decide) ?_
    refine lv_isub hx hb dX10_add_67 ?_
    refine lv_topi (fun v_4 ev_4 => ?_)
    have hv_4 : v_4.toInt = v_3.toInt - 1 := by rw [ev_4]; have := b_rg v_3; exact i_sub (a := v_3.toInt) (b := 1) rfl rfl (by omega) (by omega)
    subst hQ
    exact W.iret (v := v_4) hx hb hr (fun t ht hW => ⟨⟨_, (upd i 23 v_3, va_up (va_up (va_up (va_up r 66 (upd (r 66) ((i 23).toNatClampNeg) p0)) 67 (upd (r 67) ((i 23).toNatClampNeg) p1)) 68 (upd (r 68) ((i 23).toNatClampNeg) p2)) 69 (upd (r 69) ((i 23).toNatClampNeg) p3)), rfl, ⟨hRi, hRr, hEi, hEr, ⟨fun _ => ⟨by omega, by show v_3.toInt = _; omega, rfl, rfl, rfl, rfl⟩, fun h9 => absurd (by omega) h9⟩⟩, by rw [ht]; exact hP, va_K.moved hW.alike hK, hD⟩, hS.F ht⟩) hS.2.2 dX10_add_68
  · have c_2 : 20 ≤ (i 23).toInt := b_nlt c_2
    refine lv_iconst (v := (-1)) hx hb dX10_add_9 (by decide) ?_
    subst hQ
    exact W.iret (v := (-1)) hx hb hr (fun t ht hW => ⟨⟨_, (i, r), rfl, ⟨hRi, hRr, hEi, hEr, ⟨fun h9 => absurd h9 (by omega), fun _ => ⟨rfl, rfl, Er_rf⟩⟩⟩, by rw [ht]; exact hP, va_K.moved hW.alike hK, hD⟩, hS.F ht⟩) hS.2.2 dX10_add_10
set_option maxHeartbeats 4000000 in
set_option maxRecDepth 100000 in
theorem c_X10_add_r709 (l : Launch) (D : va_G) (cy : Nat → ClassId) (a : Nat → Nat) (i : Nat → Int32) (r : Nat → Nat → Int32) (q : Nat → Option Nat) (tl : va_W) (p0 p1 p2 p3 : Int32) (sz : Nat) (hRi : yRi i) (hRr : yRr r) (q0 : 0 ≤ p0.toInt ∧ p0.toInt ≤ 9) (q1 : 0 ≤ p1.toInt ∧ p1.toInt ≤ 7) (q2 : 1 ≤ p2.toInt ∧ p2.toInt ≤ 9) (q3 : 0 ≤ p3.toInt ∧ p3.toInt ≤ 360) : Met l yX10_add (Cond.code yX10_add cX10_add 5 (some .int) :: gT) { frames := 1, cells := 0, slots := 0, locals := 24 } (va_Pc [.ref (a 70), .int p0, .int p1, .int p2, .int p3] (rQ D cy (xW cy a i r q (a 20) (a 12) ++ (hW cy a i r ++ tl)) sz)) (va_Qi (fun (z : Int32) (u : (Nat → Int32) × (Nat → Nat → Int32)) => yRi u.1 ∧ yRr u.2 ∧ mEi [24] i u.1 ∧ mEr [71, 72, 73, 74] r u.2 ∧ ((((i 24).toInt ≤ 19) → z.toInt = (i 24).toInt ∧ (u.1 24).toInt = (i 24).toInt + 1 ∧ u.2 71 = upd (r 71) (i 24).toNatClampNeg p0 ∧ u.2 72 = upd (r 72) (i 24).toNatClampNeg p1 ∧ u.2 73 = upd (r 73) (i 24).toNatClampNeg p2 ∧ u.2 74 = upd (r 74) (i 24).toNatClampNeg p3) ∧ (¬ ((i 24).toInt ≤ 19) → z = -1 ∧ u.1 24 = i 24 ∧ mEr [] r u.2))) (fun (u : (Nat → Int32) × (Nat → Nat → Int32)) t => va_P D vwCl (xW cy a u.1 u.2 q (a 20) (a 12) ++ (hW cy a u.1 u.2 ++ tl)) t.heap ∧ va_K D vwCl (vT cy) t ∧ va_D (va_A (xW cy a i r q (a 20) (a 12) ++ (hW cy a i r ++ tl)) sz) (xW cy a u.1 u.2 q (a 20) (a 12) ++ (hW cy a u.1 u.2 ++ tl))) (va_A (xW cy a i r q (a 20) (a 12) ++ (hW cy a i r ++ tl)) sz)) 0 0 (va_A (xW cy a i r q (a 20) (a 12) ++ (hW cy a i r ++ tl)) sz) := by
  refine Met.ofQ (cc := cX10_add) (maxL := 5) (ret := (some .int)) (by decide) rfl ?_
  intro p e s m args below meth c s₁ B hml hv Q hQ
  obtain ⟨rfl, hsz, hP, hK, hD0⟩ := hv
  have hx := B.exec
  have hb := B.bytes
  have hr := B.returns
  have hlocks := B.notSynchronized
  have hT : ∀ w ∈ gT, w.before _ s = true := fun w h => atoms_spec (ws := (Cond.code yX10_add cX10_add 5 (some .int) :: gT)) B.pre w (List.mem_cons_of_mem _ h)
  have hown : s.vm.findClass RX10 = some m.cls := findClass_of_methodNamed B.named
  subst hsz
  have hD := hD0.self (sz := s.heap.size)
  generalize hAe : va_A (xW cy a i r q (a 20) (a 12) ++ (hW cy a i r ++ tl)) s.heap.size = A at hD hQ
  have hA : ∀ q : Nat, s.heap.size ≤ q → A q := fun q h => by rw [← hAe]; exact Or.inr h
  have hS : va_S A s.heap s.heap [] := va_S.rf
  have hl := lv_entry ([.ref (a 70), .int p0, .int p1, .int p2, .int p3]) (n := 5) (Nat.le_of_ble_eq_true rfl)
  rw [lg_entry_eq]
  generalize (lg_sl ([.ref (a 70), .int p0, .int p1, .int p2, .int p3]) ++ List.replicate (5 - (lg_sl ([.ref (a 70), .int p0, .int p1, .int p2, .int p3])).length) Slot.unset).toArray = ls at hl ⊢
  have hl : lv_has ls 5 [(0, .ref (a 70)), (1, .int p0), (2, .int p1), (3, .int p2), (4, .int p3)] := hl
  have hEi : mEi [24] i i := Ei_rf
  have hEr : mEr [71, 72, 73, 74] r r := Er_rf
  refine lv_aload_n hx hb dX10_add_0 rfl (lv_at hl 0 rfl) ?_
  refine va_get (D := D) (ci := 10) (v := .int (i 24)) (C := RX10) (T := TX10) (N := 5) hx hb hT iX10 hown hK hP 70 rfl rfl 0 (by decide) (hT _ t_402) (fun _ h9 => h9) rfl dX10_add_1 ?_
  have hg_1 : 0 ≤ (i 24).toInt ∧ (i 24).toInt ≤ 20 := hRi 24
  refine lv_bipush (v := 20) hx hb dX10_add_4 (by decide) ?_
  refine lv_icmp_lt (tgt := 11) hx hb dX10_add_6 (by decide) (fun c_2 => ?_) (fun c_2 => ?_)
  · have c_2 : (i 24).toInt < 20 := b_lt c_2
    refine lv_aload_n hx hb dX10_add_11 rfl (lv_at hl 0 rfl) ?_
    refine va_get (D := D) (ci := 10) (v := .ref (a 71)) (C := RX10) (T := TX10) (N := 5) hx hb hT iX10 hown hK hP 70 rfl rfl 1 (by decide) (hT _ t_403) (fun _ h9 => h9) rfl dX10_add_12 ?_
    refine lv_aload_n hx hb dX10_add_15 rfl (lv_at hl 0 rfl) ?_
    refine va_get (D := D) (ci := 10) (v := .int (i 24)) (C := RX10) (T := TX10) (N := 5) hx hb hT iX10 hown hK hP 70 rfl rfl 0 (by decide) (hT _ t_402) (fun _ h9 => h9) rfl dX10_add_16 ?_
    refine lv_iload_n hx hb dX10_add_19 rfl (lv_at hl 1 rfl) ?_
    refine va_iast hx hb hK hP hD hS 71 0 rfl rfl (vp_inI (by omega) (by omega)) dX10_add_20 (fun H locs hP hD hS => ?_)
    rw [yS71] at hP hD
    have hRr : yRr (va_up r 71 (upd (r 71) ((i 24).toNatClampNeg) p0)) := Yr_upd hRr 71 ((i 24).toNatClampNeg) p0 ⟨by show (0 : Int) ≤ p0.toInt; omega, by show p0.toInt ≤ (9 : Int); omega⟩
    have hEr : mEr [71, 72, 73, 74] _ (va_up r 71 (upd (r 71) ((i 24).toNatClampNeg) p0)) := Er_up hEr 71 _ (by decide)
    refine lv_aload_n hx hb dX10_add_21 rfl (lv_at hl 0 rfl) ?_
    refine va_get (D := D) (ci := 10) (v := .ref (a 72)) (C := RX10) (T := TX10) (N := 5) hx hb hT iX10 hown hK hP 70 rfl rfl 2 (by decide) (hT _ t_404) (fun _ h9 => h9) rfl dX10_add_22 ?_
    refine lv_aload_n hx hb dX10_add_25 rfl (lv_at hl 0 rfl) ?_
    refine va_get (D := D) (ci := 10) (v := .int (i 24)) (C := RX10) (T := TX10) (N := 5) hx hb hT iX10 hown hK hP 70 rfl rfl 0 (by decide) (hT _ t_402) (fun _ h9 => h9) rfl dX10_add_26 ?_
    refine lv_iload_n hx hb dX10_add_29 rfl (lv_at hl 2 rfl) ?_
    refine va_iast hx hb hK hP hD hS 72 0 rfl rfl (vp_inI (by omega) (by omega)) dX10_add_30 (fun H locs hP hD hS => ?_)
    rw [yS72] at hP hD
    have hRr : yRr (va_up (va_up r 71 (upd (r 71) ((i 24).toNatClampNeg) p0)) 72 (upd (r 72) ((i 24).toNatClampNeg) p1)) := Yr_upd hRr 72 ((i 24).toNatClampNeg) p1 ⟨by show (0 : Int) ≤ p1.toInt; omega, by show p1.toInt ≤ (7 : Int); omega⟩
    have hEr : mEr [71, 72, 73, 74] _ (va_up (va_up r 71 (upd (r 71) ((i 24).toNatClampNeg) p0)) 72 (upd (r 72) ((i 24).toNatClampNeg) p1)) := Er_up hEr 72 _ (by decide)
    refine lv_aload_n hx hb dX10_add_31 rfl (lv_at hl 0 rfl) ?_
    refine va_get (D := D) (ci := 10) (v := .ref (a 73)) (C := RX10) (T := TX10) (N := 5) hx hb hT iX10 hown hK hP 70 rfl rfl 3 (by decide) (hT _ t_405) (fun _ h9 => h9) rfl dX10_add_32 ?_
    refine lv_aload_n hx hb dX10_add_35 rfl (lv_at hl 0 rfl) ?_
    refine va_get (D := D) (ci := 10) (v := .int (i 24)) (C := RX10) (T := TX10) (N := 5) hx hb hT iX10 hown hK hP 70 rfl rfl 0 (by decide) (hT _ t_402) (fun _ h9 => h9) rfl dX10_add_36 ?_
    refine lv_iload_n hx hb dX10_add_39 rfl (lv_at hl 3 rfl) ?_
    refine va_iast hx hb hK hP hD hS 73 0 rfl rfl (vp_inI (by omega) (by omega)) dX10_add_40 (fun H locs hP hD hS => ?_)
    rw [yS73] at hP hD
    have hRr : yRr (va_up (va_up (va_up r 71 (upd (r 71) ((i 24).toNatClampNeg) p0)) 72 (upd (r 72) ((i 24).toNatClampNeg) p1)) 73 (upd (r 73) ((i 24).toNatClampNeg) p2)) := Yr_upd hRr 73 ((i 24).toNatClampNeg) p2 ⟨by show (0 : Int) ≤ p2.toInt; omega, by show p2.toInt ≤ (9 : Int); omega⟩
    have hEr : mEr [71, 72, 73, 74] _ (va_up (va_up (va_up r 71 (upd (r 71) ((i 24).toNatClampNeg) p0)) 72 (upd (r 72) ((i 24).toNatClampNeg) p1)) 73 (upd (r 73) ((i 24).toNatClampNeg) p2)) := Er_up hEr 73 _ (by decide)
    refine lv_aload_n hx hb dX10_add_41 rfl (lv_at hl 0 rfl) ?_
    refine va_get (D := D) (ci := 10) (v := .ref (a 74)) (C := RX10) (T := TX10) (N := 5) hx hb hT iX10 hown hK hP 70 rfl rfl 4 (by decide) (hT _ t_406) (fun _ h9 => h9) rfl dX10_add_42 ?_
    refine lv_aload_n hx hb dX10_add_45 rfl (lv_at hl 0 rfl) ?_
    refine va_get (D := D) (ci := 10) (v := .int (i 24)) (C := RX10) (T := TX10) (N := 5) hx hb hT iX10 hown hK hP 70 rfl rfl 0 (by decide) (hT _ t_402) (fun _ h9 => h9) rfl dX10_add_46 ?_
    refine lv_iload hx hb dX10_add_49 (lv_at hl 4 rfl) ?_
    refine va_iast hx hb hK hP hD hS 74 0 rfl rfl (vp_inI (by omega) (by omega)) dX10_add_51 (fun H locs hP hD hS => ?_)
    rw [yS74] at hP hD
    have hRr : yRr (va_up (va_up (va_up (va_up r 71 (upd (r 71) ((i 24).toNatClampNeg) p0)) 72 (upd (r 72) ((i 24).toNatClampNeg) p1)) 73 (upd (r 73) ((i 24).toNatClampNeg) p2)) 74 (upd (r 74) ((i 24).toNatClampNeg) p3)) := Yr_upd hRr 74 ((i 24).toNatClampNeg) p3 ⟨by show (0 : Int) ≤ p3.toInt; omega, by show p3.toInt ≤ (360 : Int); omega⟩
    have hEr : mEr [71, 72, 73, 74] _ (va_up (va_up (va_up (va_up r 71 (upd (r 71) ((i 24).toNatClampNeg) p0)) 72 (upd (r 72) ((i 24).toNatClampNeg) p1)) 73 (upd (r 73) ((i 24).toNatClampNeg) p2)) 74 (upd (r 74) ((i 24).toNatClampNeg) p3)) := Er_up hEr 74 _ (by decide)
    refine lv_aload_n hx hb dX10_add_52 rfl (lv_at hl 0 rfl) ?_
    refine lv_dup hx hb dX10_add_53 rfl ?_
    refine va_get (D := D) (ci := 10) (v := .int (i 24)) (C := RX10) (T := TX10) (N := 5) hx hb hT iX10 hown hK hP 70 rfl rfl 0 (by decide) (hT _ t_402) (fun _ h9 => h9) rfl dX10_add_54 ?_
    refine lv_iconst (v := 1) hx hb dX10_add_57 (by decide) ?_
    refine lv_iadd hx hb dX10_add_58 ?_
    refine lv_topi (fun v_3 ev_3 => ?_)
    have hv_3 : v_3.toInt = (i 24).toInt + 1 := by rw [ev_3]; have := b_rg (i 24); exact i_add (a := (i 24).toInt) (b := 1) rfl rfl (by omega) (by omega)
    refine va_put (D := D) (ci := 10) (v := .int v_3) (ty := .int) (C := RX10) (T := TX10) (N := 5) hx hb hT iX10 tyX10 tyX10_ok nmX10 hown hK hP hD hS 70 rfl rfl 0 (by decide) (hT _ t_402) (fun _ h9 => h9) rfl (by decide +kernel) rfl rfl (Nat.le_of_ble_eq_true rfl) dX10_add_59 (fun H locs hP hD hS => ?_)
    rw [yP24] at hP hD
    have hRi := Yi_upd hRi 24 v_3 ⟨by show (0 : Int) ≤ v_3.toInt; omega, by show v_3.toInt ≤ (20 : Int); omega⟩
    have hEi := Ei_upd hEi 24 v_3 (by decide)
    refine lv_aload_n hx hb dX10_add_62 rfl (lv_at hl 0 rfl) ?_
    refine va_get (D := D) (ci := 10) (v := .int v_3) (C := RX10) (T := TX10) (N := 5) hx hb hT iX10 hown hK hP 70 rfl rfl 0 (by decide) (hT _ t_402) (fun _ h9 => h9) rfl dX10_add_63 ?_
    refine lv_iconst (v := 1) hx hb dX10_add_66 (by decide) ?_
    refine lv_isub hx hb dX10_add_67 ?_
    refine lv_topi (fun v_4 ev_4 => ?_)
    have hv_4 : v_4.toInt = v_3.toInt - 1 := by rw [ev_4]; have := b_rg v_3; exact i_sub (a := v_3.toInt) (b := 1) rfl rfl (by omega) (by omega)
    subst hQ
    exact W.iret (v := v_4) hx hb hr (fun t ht hW => ⟨⟨_, (upd i 24 v_3, va_up (va_up (va_up (va_up r 71 (upd (r 71) ((i 24).toNatClampNeg) p0)) 72 (upd (r 72) ((i 24).toNatClampNeg) p1)) 73 (upd (r 73) ((i 24).toNatClampNeg) p2)) 74 (upd (r 74) ((i 24).toNatClampNeg) p3)), rfl, ⟨hRi, hRr, hEi, hEr, ⟨fun _ => ⟨by omega, by show v_3.toInt = _; omega, rfl, rfl, rfl, rfl⟩, fun h9 => absurd (by omega) h9⟩⟩, by rw [ht]; exact hP, va_K.moved hW.alike hK, hD⟩, hS.F ht⟩) hS.2.2 dX10_add_68
  · have c_2 : 20 ≤ (i 24).toInt := b_nlt c_2
    refine lv_iconst (v := (-1)) hx hb dX10_add_9 (by decide) ?_
    subst hQ
    exact W.iret (v := (-1)) hx hb hr (fun t ht hW => ⟨⟨_, (i, r), rfl, ⟨hRi, hRr, hEi, hEr, ⟨fun h9 => absurd h9 (by omega), fun _ => ⟨rfl, rfl, Er_rf⟩⟩⟩, by rw [ht]; exact hP, va_K.moved hW.alike hK, hD⟩, hS.F ht⟩) hS.2.2 dX10_add_10
def ABS (x : Int32) : Int32 := if 0 ≤ x then x else 0 - x
