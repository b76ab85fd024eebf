theorem shF_e {f g : Nat → Int32} {m n : Int32} {p q : Int} (e : m = n) (ef : ∀ t, t < n.toInt.toNat → f t = g t) (ep : p = q) (t : Nat) : shF (shP f m.toInt.toNat) m.toInt.toNat p t = shF (shP g n.toInt.toNat) n.toInt.toNat q t := by
  subst e ep
  rw [shP_co ef]
def RMO (gi : Nat → Nat → Int32) (nh : Nat) : Prop := ∀ h, h < nh → (gi h 20).toInt ≤ (gi h 21).toInt
set_option maxHeartbeats 4000000 in
set_option maxRecDepth 100000 in
theorem c_X12_judged8 (l : Launch) (D : va_G) (cy : Nat → ClassId) (a : Nat → Nat) (i : Nat → Int32) (r : Nat → Nat → Int32) (rl : Nat → Int64) (p0 p1 p2 : Int32) (sz : Nat) (hRi : mRi i) (hRr : mRr r) (hE : mE i r) (hs9 : ∀ c : Nat, (c : Int) < (i 51).toInt → gjSt (gjH (r 14) ((r 40 c).toNatClampNeg)) (r 10 ((r 40 c).toNatClampNeg)).toNatClampNeg ∧ gjSt (gjH (r 18) ((r 40 c).toNatClampNeg)) (r 11 ((r 40 c).toNatClampNeg)).toNatClampNeg) (hmo : ∀ c : Nat, (c : Int) < (i 51).toInt → (r 6 (r 40 c).toNatClampNeg).toInt ≤ (r 7 (r 40 c).toNatClampNeg).toInt) : Met l yX12_judged (Cond.code yX12_judged cX12_judged 4 (some .int) :: gT) { frames := 10, cells := 0, slots := 0, locals := 238 } (va_Pc [.ref (a 0), .int p0, .int p1, .int p2] (rQ D cy (mW cy a i r rl) sz)) (va_Qi (fun (z : Int32) (u : (Nat → Int32) × (Nat → Nat → Int32) × (Nat → Int64)) => mRi u.1 ∧ mRr u.2.1 ∧ mEi [23, 24, 25, 26, 27, 28, 29, 30, 60] i u.1 ∧ mEr [32, 33, 34, 35, 36, 37, 38, 39, 49] r u.2.1 ∧ ((((0 ≤ p0.toInt ∧ p0.toInt < (i 0).toInt) ∧ (0 ≤ p1.toInt ∧ p1.toInt ≤ 9999) ∧ ((0 ≤ p2.toInt ∧ p2.toInt ≤ 3) ∨ (10 ≤ p2.toInt ∧ p2.toInt ≤ 9 + (r 4 p0.toNatClampNeg).toInt))) → ((p2.toInt = 2 → z = mDn r (mD i r) p0.toNatClampNeg) ∧ (p2.toInt ≠ 2 → ∃ t9 : Int32, mBX (mPh r p0) i r p1 (i 51).toNatClampNeg t9 ∧ (p2.toInt = 0 → z = ownG (t9 + sumB (mOw r p0.toNatClampNeg) 3) (r 5 p0.toNatClampNeg)) ∧ (p2.toInt = 1 → z = r 5 p0.toNatClampNeg - ownG (t9 + sumB (mOw r p0.toNatClampNeg) 3) (r 5 p0.toNatClampNeg)) ∧ (p2.toInt = 3 → z = t9) ∧ (10 ≤ p2.toInt → z.toInt = shF (shP (fun t => r 8 (4 * p0.toNatClampNeg + t)) (r 4 p0.toNatClampNeg).toInt.toNat) (r 4 p0.toNatClampNeg).toInt.toNat (bckI (t9 + sumB (mOw r p0.toNatClampNeg) 3) (r 5 p0.toNatClampNeg) (mDn r (mD i r) p0.toNatClampNeg)).toInt (p2.toInt - 10).toNat)))) ∧ (¬ ((0 ≤ p0.toInt ∧ p0.toInt < (i 0).toInt) ∧ (0 ≤ p1.toInt ∧ p1.toInt ≤ 9999) ∧ ((0 ≤ p2.toInt ∧ p2.toInt ≤ 3) ∨ (10 ≤ p2.toInt ∧ p2.toInt ≤ 9 + (r 4 p0.toNatClampNeg).toInt))) → z = -1))) (fun (u : (Nat → Int32) × (Nat → Nat → Int32) × (Nat → Int64)) t => va_P D vwCl (mW cy a u.1 u.2.1 u.2.2) t.heap ∧ va_K D vwCl (vT cy) t ∧ va_D (va_A (mW cy a i r rl) sz) (mW cy a u.1 u.2.1 u.2.2)) (va_A (mW cy a i r rl) sz)) 0 0 (va_A (mW cy a i r rl) sz) := by
  refine Met.ofQ (cc := cX12_judged) (maxL := 4) (ret := (some .int)) (by decide) rfl ?_
  intro p e s m args below meth c s₁ B hml hv Q hQ
  obtain ⟨rfl, hsz, hP, hK, hD0⟩ := hv
  have hx := B.exec
  have hb := B.bytes
  have hr := B.returns
  have hlocks := B.notSynchronized
  have hT : ∀ w ∈ gT, w.before _ s = true := fun w h => atoms_spec (ws := (Cond.code yX12_judged cX12_judged 4 (some .int) :: gT)) B.pre w (List.mem_cons_of_mem _ h)
  have hown : s.vm.findClass RX12 = some m.cls := findClass_of_methodNamed B.named
  subst hsz
  have hD := hD0.self (sz := s.heap.size)
  generalize hAe : va_A (mW cy a i r rl) s.heap.size = A at hD hQ
  have hA : ∀ q : Nat, s.heap.size ≤ q → A q := fun q h => by rw [← hAe]; exact Or.inr h
  have hS : va_S A s.heap s.heap [] := va_S.rf
  have hl := lv_entry ([.ref (a 0), .int p0, .int p1, .int p2]) (n := 4) (Nat.le_of_ble_eq_true rfl)
  rw [lg_entry_eq]
  generalize (lg_sl ([.ref (a 0), .int p0, .int p1, .int p2]) ++ List.replicate (4 - (lg_sl ([.ref (a 0), .int p0, .int p1, .int p2])).length) Slot.unset).toArray = ls at hl ⊢
  have hl : lv_has ls 4 [(0, .ref (a 0)), (1, .int p0), (2, .int p1), (3, .int p2)] := hl
  have hEi : mEi [23, 24, 25, 26, 27, 28, 29, 30, 60] i i := Ei_rf
  have hEr : mEr [32, 33, 34, 35, 36, 37, 38, 39, 49] r r := Er_rf
  have hRi0 : mRi i := hRi
  have hRr0 : mRr r := hRr
  refine lv_aload_n hx hb dX12_judged_0 rfl (lv_at hl 0 rfl) ?_
  refine lv_iload_n hx hb dX12_judged_1 rfl (lv_at hl 1 rfl) ?_
  refine vp_callSi (W.runV (As := [.int p0]) (rest := []) ⟨hx, hb, hml, hown, hT⟩ (c_X12_isHome l D cy a i r rl p0 hRi hRr) (cwV 1 hT (gV t_12 t_13 t_14 t_15 t_6) rfl rfl rfl (by decide +kernel) ⟨Nat.le_of_ble_eq_true rfl, Nat.le_of_ble_eq_true rfl⟩) (rP_v hP hK (va_recv hK hP (ci := 12) (q0 := 0) rfl rfl)) rfl rfl hl.1 rfl (lv_room (Nat.le_of_ble_eq_true rfl)) dX12_judged_2 ⟨Nat.le_of_ble_eq_true rfl, Nat.le_of_ble_eq_true rfl⟩) (fun r_1 hr_1 => ?_)
  have hg_2 : 0 ≤ (i 0).toInt ∧ (i 0).toInt ≤ 6 := hRi 0
  have hr_1 : BR r_1 (0 ≤ p0.toInt ∧ p0.toInt < (i 0).toInt) 1 0 := hr_1
  rcases hr_1 with ⟨rfl, h_3⟩ | ⟨rfl, h_3⟩
  · skip
    refine lv_if_eq (tgt := 42) hx hb dX12_judged_5 (by decide) (fun c_4 => absurd c_4 (by decide)) (fun c_4 => ?_)
    refine lv_iload_n hx hb dX12_judged_8 rfl (lv_at hl 2 rfl) ?_
    refine vp_callSi (W.runS (As := [.int p1]) (rest := []) ⟨hx, hb, hml, hown, hT⟩ (c_X12_isDay l p1) (va_cwS 1 hT (gS t_157 t_158 t_159 t_6) rfl rfl rfl (by decide +kernel) ⟨Nat.le_of_ble_eq_true rfl, Nat.le_of_ble_eq_true rfl⟩) preT rfl rfl hl.1 rfl (lv_room (Nat.le_of_ble_eq_true rfl)) dX12_judged_9 ⟨Nat.le_of_ble_eq_true rfl, Nat.le_of_ble_eq_true rfl⟩) (fun r_5 hr_5 => ?_)
    have hr_5 : BR r_5 (0 ≤ p1.toInt ∧ p1.toInt ≤ 9999) 1 0 := hr_5
    rcases hr_5 with ⟨rfl, h_6⟩ | ⟨rfl, h_6⟩
    · skip
      refine lv_if_eq (tgt := 42) hx hb dX12_judged_12 (by decide) (fun c_7 => absurd c_7 (by decide)) (fun c_7 => ?_)
      refine lv_iload_n hx hb dX12_judged_15 rfl (lv_at hl 3 rfl) ?_
      refine lv_iconst (v := 0) hx hb dX12_judged_16 (by decide) ?_
      refine lv_iconst (v := 3) hx hb dX12_judged_17 (by decide) ?_
      refine vp_callSi (W.runS (As := [.int p2, .int 0, .int 3]) (rest := []) ⟨hx, hb, hml, hown, hT⟩ (c_X12_in l p2 0 3) (va_cwS 3 hT (gS t_113 t_114 t_115 t_6) rfl rfl rfl (by decide +kernel) ⟨Nat.le_of_ble_eq_true rfl, Nat.le_of_ble_eq_true rfl⟩) preT rfl rfl hl.1 rfl (lv_room (Nat.le_of_ble_eq_true rfl)) dX12_judged_18 ⟨Nat.le_of_ble_eq_true rfl, Nat.le_of_ble_eq_true rfl⟩) (fun r_8 hr_8 => ?_)
      have hr_8 : BR r_8 (0 ≤ p2.toInt ∧ p2.toInt ≤ 3) 1 0 := hr_8
      rcases hr_8 with ⟨rfl, h_9⟩ | ⟨rfl, h_9⟩
      · skip
        refine lv_if_ne (tgt := 44) hx hb dX12_judged_21 (by decide) (fun c_10 => ?_) (fun c_10 => absurd c_10 (by decide))
        refine lv_iload_n hx hb dX12_judged_44 rfl (lv_at hl 3 rfl) ?_
        rcases (show (p2.toInt < 0 ∨ 3 < p2.toInt) ∨ p2.toInt = 0 ∨ p2.toInt = 1 ∨ p2.toInt = 2 ∨ p2.toInt = 3 by omega) with h_11 | h_11 | h_11 | h_11 | h_11
        · refine lv_tableOut (tgt := 103) hx hb dX12_judged_45 h_11 (by decide) ?_
          exfalso; omega
        · refine lv_tableIn (off := 31) (tgt := 76) hx hb dX12_judged_45 (by omega) (by omega) (by rw [h_11]; rfl) (by decide) ?_
          refine lv_aload_n hx hb dX12_judged_76 rfl (lv_at hl 0 rfl) ?_
          refine lv_iload_n hx hb dX12_judged_77 rfl (lv_at hl 1 rfl) ?_
          refine lv_iload_n hx hb dX12_judged_78 rfl (lv_at hl 2 rfl) ?_
          have hF_12 := rF hD hS hA
          refine va_calli (va_runV (As := [.int p0, .int p1]) (rest := []) ⟨hx, hb, hml, hown, hT⟩ (c_X12_ownerGets9 l D cy a i r rl p0 p1 _ hRi hRr (mE_same hEi hEr (by decide) (by decide) hE) (by omega) hs9) (cwV 2 hT (gV t_171 t_172 t_173 t_174 t_6) rfl rfl rfl (by decide +kernel) ⟨Nat.le_of_ble_eq_true rfl, Nat.le_of_ble_eq_true rfl⟩) (rQ_v hP hK hD (va_recv hK hP (ci := 12) (q0 := 0) rfl rfl)) rfl rfl hl.1 rfl (lv_room (Nat.le_of_ble_eq_true rfl)) dX12_judged_79 ⟨Nat.le_of_ble_eq_true rfl, Nat.le_of_ble_eq_true rfl⟩) hS (fun q _ h => hF_12 q h) hF_12 (fun r_13 u_14 t H1 locs ht hvm hr_13 hB hz1 hk1 hS => ?_)
          obtain ⟨i14, r14⟩ := u_14
          obtain ⟨hP, hK1, hD1⟩ := hB
          rw [ht] at hP
          have hD := hD1.weaken (fun k q _ h => hF_12 q.1 h)
          have hP : va_P D vwCl (mW cy a i14 r14 rl) H1 := hP
          have hD : va_D A (mW cy a i14 r14 rl) := hD
          obtain ⟨hRi, hRr, hE1, hE2, hr_13⟩ := hr_13
          have hRi : mRi i14 := hRi
          have hRr : mRr r14 := hRr
          have hEi : mEi [23, 24, 25, 26, 27, 28, 29, 30, 60] _ i14 := Ei_tr hEi hE1 (by decide)
          have hEr : mEr [32, 33, 34, 35, 36, 37, 38, 39, 49] _ r14 := Er_tr hEr hE2 (by decide)
          have hqr_13 : (∃ t9 : Int32, mBX (mPh r p0) i r p1 (i 51).toNatClampNeg t9 ∧ r_13 = ownG (t9 + sumB (mOw r p0.toNatClampNeg) 3) (r 5 p0.toNatClampNeg)) := hr_13
          subst hQ
          obtain ⟨t9, hb9, ho9⟩ := hqr_13
          exact W.iret (v := r_13) hx hb hr (fun t ht hW => ⟨⟨_, (i14, r14, rl), rfl, ⟨hRi, hRr, hEi, hEr, ⟨fun _ => ⟨fun h9 => absurd h9 (by omega), fun _ => ⟨t9, hb9, fun _ => ho9, fun h9 => absurd h9 (by omega), fun h9 => absurd h9 (by omega), fun h9 => absurd h9 (by omega)⟩⟩, fun h9 => absurd (by omega) h9⟩⟩, by rw [ht]; exact hP, va_K.moved hW.alike hK, hD⟩, hS.F ht⟩) hS.2.2 dX12_judged_82
        · refine lv_tableIn (off := 38) (tgt := 83) hx hb dX12_judged_45 (by omega) (by omega) (by rw [h_11]; rfl) (by decide) ?_
          refine lv_aload_n hx hb dX12_judged_83 rfl (lv_at hl 0 rfl) ?_
          refine lv_iload_n hx hb dX12_judged_84 rfl (lv_at hl 1 rfl) ?_
          refine lv_iload_n hx hb dX12_judged_85 rfl (lv_at hl 2 rfl) ?_
          have hF_15 := rF hD hS hA
          refine va_calli (va_runV (As := [.int p0, .int p1]) (rest := []) ⟨hx, hb, hml, hown, hT⟩ (c_X12_backOf9 l D cy a i r rl p0 p1 _ hRi hRr (mE_same hEi hEr (by decide) (by decide) hE) (by omega) hs9) (cwV 2 hT (gV t_826 t_827 t_828 t_829 t_6) rfl rfl rfl (by decide +kernel) ⟨Nat.le_of_ble_eq_true rfl, Nat.le_of_ble_eq_true rfl⟩) (rQ_v hP hK hD (va_recv hK hP (ci := 12) (q0 := 0) rfl rfl)) rfl rfl hl.1 rfl (lv_room (Nat.le_of_ble_eq_true rfl)) dX12_judged_86 ⟨Nat.le_of_ble_eq_true rfl, Nat.le_of_ble_eq_true rfl⟩) hS (fun q _ h => hF_15 q h) hF_15 (fun r_16 u_17 t H1 locs ht hvm hr_16 hB hz1 hk1 hS => ?_)
          obtain ⟨i17, r17⟩ := u_17
          obtain ⟨hP, hK1, hD1⟩ := hB
          rw [ht] at hP
          have hD := hD1.weaken (fun k q _ h => hF_15 q.1 h)
          have hP : va_P D vwCl (mW cy a i17 r17 rl) H1 := hP
          have hD : va_D A (mW cy a i17 r17 rl) := hD
          obtain ⟨hRi, hRr, hE1, hE2, hr_16⟩ := hr_16
          have hRi : mRi i17 := hRi
          have hRr : mRr r17 := hRr
          have hEi : mEi [23, 24, 25, 26, 27, 28, 29, 30, 60] _ i17 := Ei_tr hEi hE1 (by decide)
          have hEr : mEr [32, 33, 34, 35, 36, 37, 38, 39, 49] _ r17 := Er_tr hEr hE2 (by decide)
          have hqr_16 : (∃ t9 : Int32, mBX (mPh r p0) i r p1 (i 51).toNatClampNeg t9 ∧ r_16 = r 5 p0.toNatClampNeg - ownG (t9 + sumB (mOw r p0.toNatClampNeg) 3) (r 5 p0.toNatClampNeg)) := hr_16
          subst hQ
          obtain ⟨t9, hb9, ho9⟩ := hqr_16
          exact W.iret (v := r_16) hx hb hr (fun t ht hW => ⟨⟨_, (i17, r17, rl), rfl, ⟨hRi, hRr, hEi, hEr, ⟨fun _ => ⟨fun h9 => absurd h9 (by omega), fun _ => ⟨t9, hb9, fun h9 => absurd h9 (by omega), fun _ => ho9, fun h9 => absurd h9 (by omega), fun h9 => absurd h9 (by omega)⟩⟩, fun h9 => absurd (by omega) h9⟩⟩, by rw [ht]; exact hP, va_K.moved hW.alike hK, hD⟩, hS.F ht⟩) hS.2.2 dX12_judged_89
        · refine lv_tableIn (off := 45) (tgt := 90) hx hb dX12_judged_45 (by omega) (by omega) (by rw [h_11]; rfl) (by decide) ?_
          refine lv_aload_n hx hb dX12_judged_90 rfl (lv_at hl 0 rfl) ?_
          refine lv_iload_n hx hb dX12_judged_91 rfl (lv_at hl 1 rfl) ?_
          have hF_18 := rF hD hS hA
          refine va_calli (va_runV (As := [.int p0]) (rest := []) ⟨hx, hb, hml, hown, hT⟩ (c_X12_penaltyOf9 l D cy a i r rl p0 _ hRi hRr (mE_same hEi hEr (by decide) (by decide) hE) (by omega)) (cwV 1 hT (gV t_830 t_831 t_832 t_833 t_6) rfl rfl rfl (by decide +kernel) ⟨Nat.le_of_ble_eq_true rfl, Nat.le_of_ble_eq_true rfl⟩) (rQ_v hP hK hD (va_recv hK hP (ci := 12) (q0 := 0) rfl rfl)) rfl rfl hl.1 rfl (lv_room (Nat.le_of_ble_eq_true rfl)) dX12_judged_92 ⟨Nat.le_of_ble_eq_true rfl, Nat.le_of_ble_eq_true rfl⟩) hS (fun q _ h => hF_18 q h) hF_18 (fun r_19 u_20 t H1 locs ht hvm hr_19 hB hz1 hk1 hS => ?_)
          obtain ⟨r20, rfl⟩ : ∃ z, z = u_20 := ⟨_, rfl⟩
          obtain ⟨hP, hK1, hD1⟩ := hB
          rw [ht] at hP
          have hD := hD1.weaken (fun k q _ h => hF_18 q.1 h)
          have hP : va_P D vwCl (mW cy a i r20 rl) H1 := hP
          have hD : va_D A (mW cy a i r20 rl) := hD
          obtain ⟨hRr, hE2, hr_19⟩ := hr_19
          have hRr : mRr r20 := hRr
          have hEr : mEr [32, 33, 34, 35, 36, 37, 38, 39, 49] _ r20 := Er_tr hEr hE2 (by decide)
          have hqr_19 : r_19 = mDn r (mD i r) p0.toNatClampNeg := hr_19
          subst hQ
          exact W.iret (v := r_19) hx hb hr (fun t ht hW => ⟨⟨_, (i, r20, rl), rfl, ⟨hRi, hRr, hEi, hEr, ⟨fun _ => ⟨fun _ => hqr_19, fun h9 => absurd (by omega) h9⟩, fun h9 => absurd (by omega) h9⟩⟩, by rw [ht]; exact hP, va_K.moved hW.alike hK, hD⟩, hS.F ht⟩) hS.2.2 dX12_judged_95
        · refine lv_tableIn (off := 51) (tgt := 96) hx hb dX12_judged_45 (by omega) (by omega) (by rw [h_11]; rfl) (by decide) ?_
          refine lv_aload_n hx hb dX12_judged_96 rfl (lv_at hl 0 rfl) ?_
          refine lv_iload_n hx hb dX12_judged_97 rfl (lv_at hl 1 rfl) ?_
          refine lv_iload_n hx hb dX12_judged_98 rfl (lv_at hl 2 rfl) ?_
          have hF_21 := rF hD hS hA
          refine va_calli (va_runV (As := [.int p0, .int p1]) (rest := []) ⟨hx, hb, hml, hown, hT⟩ (c_X12_awardsAll9 l D cy a i r rl p0 p1 _ hRi hRr (mE_same hEi hEr (by decide) (by decide) hE) hs9) (cwV 2 hT (gV t_164 t_165 t_166 t_167 t_6) rfl rfl rfl (by decide +kernel) ⟨Nat.le_of_ble_eq_true rfl, Nat.le_of_ble_eq_true rfl⟩) (rQ_v hP hK hD (va_recv hK hP (ci := 12) (q0 := 0) rfl rfl)) rfl rfl hl.1 rfl (lv_room (Nat.le_of_ble_eq_true rfl)) dX12_judged_99 ⟨Nat.le_of_ble_eq_true rfl, Nat.le_of_ble_eq_true rfl⟩) hS (fun q _ h => hF_21 q h) hF_21 (fun r_22 u_23 t H1 locs ht hvm hr_22 hB hz1 hk1 hS => ?_)
          obtain ⟨i23, r23⟩ := u_23
          obtain ⟨hP, hK1, hD1⟩ := hB
          rw [ht] at hP
          have hD := hD1.weaken (fun k q _ h => hF_21 q.1 h)
          have hP : va_P D vwCl (mW cy a i23 r23 rl) H1 := hP
          have hD : va_D A (mW cy a i23 r23 rl) := hD
          obtain ⟨hRi, hRr, hE1, hE2, hr_22⟩ := hr_22
          have hRi : mRi i23 := hRi
          have hRr : mRr r23 := hRr
          have hEi : mEi [23, 24, 25, 26, 27, 28, 29, 30, 60] _ i23 := Ei_tr hEi hE1 (by decide)
          have hEr : mEr [32, 33, 34, 35, 36, 37, 38, 39, 49] _ r23 := Er_tr hEr hE2 (by decide)
          have hqr_22 : mBX (mPh r p0) i r p1 (i 51).toNatClampNeg r_22 := hr_22
          subst hQ
          exact W.iret (v := r_22) hx hb hr (fun t ht hW => ⟨⟨_, (i23, r23, rl), rfl, ⟨hRi, hRr, hEi, hEr, ⟨fun _ => ⟨fun h9 => absurd h9 (by omega), fun _ => ⟨r_22, hqr_22, fun h9 => absurd h9 (by omega), fun h9 => absurd h9 (by omega), fun _ => rfl, fun h9 => absurd h9 (by omega)⟩⟩, fun h9 => absurd (by omega) h9⟩⟩, by rw [ht]; exact hP, va_K.moved hW.alike hK, hD⟩, hS.F ht⟩) hS.2.2 dX12_judged_102
      · skip
        refine lv_if_ne (tgt := 44) hx hb dX12_judged_21 (by decide) (fun c_24 => absurd (by decide) c_24) (fun c_24 => ?_)
        refine lv_iload_n hx hb dX12_judged_24 rfl (lv_at hl 3 rfl) ?_
        refine lv_bipush (v := 10) hx hb dX12_judged_25 (by decide) ?_
        refine lv_bipush (v := 9) hx hb dX12_judged_27 (by decide) ?_
        refine lv_aload_n hx hb dX12_judged_29 rfl (lv_at hl 0 rfl) ?_
        refine va_get (D := D) (ci := 12) (v := .ref (a 4)) (C := RX12) (T := TX12) (N := 91) hx hb hT iX12 hown hK hP 0 rfl rfl 5 (by decide) (hT _ t_66) (fun _ h9 => h9) rfl dX12_judged_30 ?_
        refine lv_iload_n hx hb dX12_judged_33 rfl (lv_at hl 1 rfl) ?_
        refine va_iald hx hb hK hP 4 0 rfl rfl (vp_inI (by omega) (by omega)) dX12_judged_34 ?_
        refine lv_topi (fun v_25 ev_25 => ?_)
        have hgv_25 : 0 ≤ v_25.toInt ∧ v_25.toInt ≤ 4 := by rw [ev_25]; exact hRr 4 _
        have hwv_25 : v_25.toInt = (r 4 (p0.toNatClampNeg)).toInt := congrArg Int32.toInt ev_25
        have hten : v_25.toInt = (r 4 p0.toNatClampNeg).toInt := hwv_25
        refine lv_iadd hx hb dX12_judged_35 ?_
        refine lv_topi (fun v_26 ev_26 => ?_)
        have hv_26 : v_26.toInt = 9 + v_25.toInt := by rw [ev_26]; have := b_rg v_25; exact i_add (a := 9) (b := v_25.toInt) rfl rfl (by omega) (by omega)
        refine vp_callSi (W.runS (As := [.int p2, .int 10, .int v_26]) (rest := []) ⟨hx, hb, hml, hown, hT⟩ (c_X12_in l p2 10 v_26) (va_cwS 3 hT (gS t_113 t_114 t_115 t_6) rfl rfl rfl (by decide +kernel) ⟨Nat.le_of_ble_eq_true rfl, Nat.le_of_ble_eq_true rfl⟩) preT rfl rfl hl.1 rfl (lv_room (Nat.le_of_ble_eq_true rfl)) dX12_judged_36 ⟨Nat.le_of_ble_eq_true rfl, Nat.le_of_ble_eq_true rfl⟩) (fun r_27 hr_27 => ?_)
        have hr_27 : BR r_27 (10 ≤ p2.toInt ∧ p2.toInt ≤ v_26.toInt) 1 0 := hr_27
        rcases hr_27 with ⟨rfl, h_28⟩ | ⟨rfl, h_28⟩
        · skip
          refine lv_if_ne (tgt := 44) hx hb dX12_judged_39 (by decide) (fun c_29 => ?_) (fun c_29 => absurd c_29 (by decide))
          refine lv_iload_n hx hb dX12_judged_44 rfl (lv_at hl 3 rfl) ?_
          rcases (show (p2.toInt < 0 ∨ 3 < p2.toInt) ∨ p2.toInt = 0 ∨ p2.toInt = 1 ∨ p2.toInt = 2 ∨ p2.toInt = 3 by omega) with h_30 | h_30 | h_30 | h_30 | h_30
          · refine lv_tableOut (tgt := 103) hx hb dX12_judged_45 h_30 (by decide) ?_
            refine lv_aload_n hx hb dX12_judged_103 rfl (lv_at hl 0 rfl) ?_
            refine lv_iload_n hx hb dX12_judged_104 rfl (lv_at hl 1 rfl) ?_
            refine lv_aload_n hx hb dX12_judged_105 rfl (lv_at hl 0 rfl) ?_
            refine lv_iload_n hx hb dX12_judged_106 rfl (lv_at hl 1 rfl) ?_
            refine lv_iload_n hx hb dX12_judged_107 rfl (lv_at hl 2 rfl) ?_
            have hF_31 := rF hD hS hA
            refine va_calli (va_runV (As := [.int p0, .int p1]) (rest := [.int p0, .ref (a 0)]) ⟨hx, hb, hml, hown, hT⟩ (c_X12_backOf9 l D cy a i r rl p0 p1 _ hRi hRr (mE_same hEi hEr (by decide) (by decide) hE) (by omega) hs9) (cwV 2 hT (gV t_826 t_827 t_828 t_829 t_6) rfl rfl rfl (by decide +kernel) ⟨Nat.le_of_ble_eq_true rfl, Nat.le_of_ble_eq_true rfl⟩) (rQ_v hP hK hD (va_recv hK hP (ci := 12) (q0 := 0) rfl rfl)) rfl rfl hl.1 rfl (lv_room (Nat.le_of_ble_eq_true rfl)) dX12_judged_108 ⟨Nat.le_of_ble_eq_true rfl, Nat.le_of_ble_eq_true rfl⟩) hS (fun q _ h => hF_31 q h) hF_31 (fun r_32 u_33 t H1 locs ht hvm hr_32 hB hz1 hk1 hS => ?_)
            obtain ⟨i33, r33⟩ := u_33
            obtain ⟨hP, hK1, hD1⟩ := hB
            rw [ht] at hP
            have hD := hD1.weaken (fun k q _ h => hF_31 q.1 h)
            have hP : va_P D vwCl (mW cy a i33 r33 rl) H1 := hP
            have hD : va_D A (mW cy a i33 r33 rl) := hD
            obtain ⟨hRi, hRr, hE1, hE2, hr_32⟩ := hr_32
            have hRi : mRi i33 := hRi
            have hRr : mRr r33 := hRr
            have hEi : mEi [23, 24, 25, 26, 27, 28, 29, 30, 60] _ i33 := Ei_tr hEi hE1 (by decide)
            have hEr : mEr [32, 33, 34, 35, 36, 37, 38, 39, 49] _ r33 := Er_tr hEr hE2 (by decide)
            have hqr_32 : (∃ t9 : Int32, mBX (mPh r p0) i r p1 (i 51).toNatClampNeg t9 ∧ r_32 = r 5 p0.toNatClampNeg - ownG (t9 + sumB (mOw r p0.toNatClampNeg) 3) (r 5 p0.toNatClampNeg)) := hr_32
            have hbk9 := hqr_32
            obtain ⟨t9, hbx, hbo⟩ := hbk9
            obtain ⟨v_34, ev_34⟩ : ∃ y : Int64, r_32.toInt64 = y := ⟨_, rfl⟩
            refine lv_i2l (v := v_34) hx hb dX12_judged_111 ev_34 ?_
            have hlv_34 : v_34.toInt = r_32.toInt := by rw [← ev_34]; exact Int32.toInt_toInt64 _
            have hErQ := hEr
            have hEiQ := hEi
            refine lv_aload_n hx hb dX12_judged_112 rfl (lv_at hl 0 rfl) ?_
            refine lv_iload_n hx hb dX12_judged_113 rfl (lv_at hl 1 rfl) ?_
            have hF_35 := rF hD hS hA
            refine va_calli (va_runV (As := [.int p0]) (rest := [.long v_34, .int p0, .ref (a 0)]) ⟨hx, hb, hml, hown, hT⟩ (c_X12_penaltyOf9 l D cy a i33 r33 rl p0 _ hRi hRr (mE_same hEi hEr (by decide) (by decide) hE) (by omega)) (cwV 1 hT (gV t_830 t_831 t_832 t_833 t_6) rfl rfl rfl (by decide +kernel) ⟨Nat.le_of_ble_eq_true rfl, Nat.le_of_ble_eq_true rfl⟩) (rQ_v hP hK hD (va_recv hK hP (ci := 12) (q0 := 0) rfl rfl)) rfl rfl hl.1 rfl (lv_room (Nat.le_of_ble_eq_true rfl)) dX12_judged_114 ⟨Nat.le_of_ble_eq_true rfl, Nat.le_of_ble_eq_true rfl⟩) hS (fun q _ h => hF_35 q h) hF_35 (fun r_36 u_37 t H1 locs ht hvm hr_36 hB hz1 hk1 hS => ?_)
            obtain ⟨r37, rfl⟩ : ∃ z, z = u_37 := ⟨_, rfl⟩
            obtain ⟨hP, hK1, hD1⟩ := hB
            rw [ht] at hP
            have hD := hD1.weaken (fun k q _ h => hF_35 q.1 h)
            have hP : va_P D vwCl (mW cy a i33 r37 rl) H1 := hP
            have hD : va_D A (mW cy a i33 r37 rl) := hD
            obtain ⟨hRr, hE2, hr_36⟩ := hr_36
            have hRr : mRr r37 := hRr
            have hEr : mEr [32, 33, 34, 35, 36, 37, 38, 39, 49] _ r37 := Er_tr hEr hE2 (by decide)
            have hqr_36 : r_36 = mDn r33 (mD i33 r33) p0.toNatClampNeg := hr_36
            have hpe9 : r_36 = mDn r (mD i r) p0.toNatClampNeg := by have h9 := hqr_36; rw [show mD i33 r33 = mD i r from mD_E (hEiQ 31 (by decide)) hErQ (by decide), mDn_E hErQ (by decide)] at h9; exact h9
            obtain ⟨v_38, ev_38⟩ : ∃ y : Int64, r_36.toInt64 = y := ⟨_, rfl⟩
            refine lv_i2l (v := v_38) hx hb dX12_judged_117 ev_38 ?_
            have hlv_38 : v_38.toInt = r_36.toInt := by rw [← ev_38]; exact Int32.toInt_toInt64 _
            refine lv_ladd hx hb dX12_judged_118 ?_
            refine lv_topl (fun v_39 ev_39 => ?_)
            have hc51 : (i 51).toNatClampNeg = (i 51).toInt.toNat := rfl
            have hg51 : 0 ≤ (i 51).toInt ∧ (i 51).toInt ≤ 30 := hRi0 51
            have ht9 := mBX_b hbx (by omega) hRr0 (fun c9 hc9 => by have hm9 := hE.2.2.1 c9 (by omega); have h40 : 0 ≤ (r 40 c9).toInt := (hRr0 40 _).1; have h41 : 0 ≤ (r 41 c9).toInt := (hRr0 41 _).1; exact hE.2.1 _ _ (by have h8 := hm9.1; have h7 : (i 0).toInt ≤ 6 := (hRi0 0).2; show (r 40 c9).toInt.toNat < 6; omega) (by have h8 := hm9.2; show (((r 41 c9).toInt.toNat : Nat) : Int) < _; omega)) (fun c9 hc9 => hmo c9 (by omega))
            have hbr := bckI_r (n := t9 + sumB (mOw r p0.toNatClampNeg) 3) (dep := r 5 p0.toNatClampNeg) (pen := mDn r (mD i r) p0.toNatClampNeg) (hRr0 5 _) (all_n ht9 (mOw_r hRr0)) (mDn_r hRr0)
            have hqi : v_39.toInt = (bckI (t9 + sumB (mOw r p0.toNatClampNeg) 3) (r 5 p0.toNatClampNeg) (mDn r (mD i r) p0.toNatClampNeg)).toInt := by rw [hbr.2.2, ← hbo, ← hpe9, ev_39]; exact l_add hlv_34 hlv_38 (by have h9 := b_rg r_32; have h8 := b_rg r_36; omega) (by have h9 := b_rg r_32; have h8 := b_rg r_36; omega)
            have hqr : 0 ≤ v_39.toInt ∧ v_39.toInt ≤ 9999990 := by omega
            have hErS := hEr
            have hF_40 := rF hD hS hA
            refine va_callv (va_runV (As := [.int p0, .long v_39]) (rest := []) ⟨hx, hb, hml, hown, hT⟩ (c_X12_sharesOut9 l D cy a i33 r37 rl p0 v_39 _ hRi hRr (mE_same hEi hEr (by decide) (by decide) hE) (by rw [hEi 0 (by decide)]; omega) hqr) (cwV 2 hT (gV t_834 t_835 t_836 t_837 t_6) rfl rfl rfl (by decide +kernel) ⟨Nat.le_of_ble_eq_true rfl, Nat.le_of_ble_eq_true rfl⟩) (rQ_v hP hK hD (va_recv hK hP (ci := 12) (q0 := 0) rfl rfl)) rfl rfl hl.1 rfl (lv_room (Nat.le_of_ble_eq_true rfl)) dX12_judged_119 ⟨Nat.le_of_ble_eq_true rfl, Nat.le_of_ble_eq_true rfl⟩) hS (fun q _ h => hF_40 q h) hF_40 (fun u_42 t H1 locs ht hvm hr_41 hB hz1 hk1 hS => ?_)
            obtain ⟨i42, r42, l42⟩ := u_42
            obtain ⟨hP, hK1, hD1⟩ := hB
            rw [ht] at hP
            have hD := hD1.weaken (fun k q _ h => hF_40 q.1 h)
            have hP : va_P D vwCl (mW cy a i42 r42 l42) H1 := hP
            have hD : va_D A (mW cy a i42 r42 l42) := hD
            obtain ⟨hRi, hRr, hE1, hE2, hr_41⟩ := hr_41
            have hRi : mRi i42 := hRi
            have hRr : mRr r42 := hRr
            have hEi : mEi [23, 24, 25, 26, 27, 28, 29, 30, 60] _ i42 := Ei_tr hEi hE1 (by decide)
            have hEr : mEr [32, 33, 34, 35, 36, 37, 38, 39, 49] _ r42 := Er_tr hEr hE2 (by decide)
            have hqr_41 : shZ (fun t => r37 8 (4 * p0.toNatClampNeg + t)) (r37 4 p0.toNatClampNeg) v_39.toInt (r42 49) := hr_41
            have hsz : ∀ u9, u9 < (r 4 p0.toNatClampNeg).toInt.toNat → (r42 49 u9).toInt = shF (shP (fun t => r 8 (4 * p0.toNatClampNeg + t)) (r 4 p0.toNatClampNeg).toInt.toNat) (r 4 p0.toNatClampNeg).toInt.toNat (bckI (t9 + sumB (mOw r p0.toNatClampNeg) 3) (r 5 p0.toNatClampNeg) (mDn r (mD i r) p0.toNatClampNeg)).toInt u9 := by
              have h9 := hqr_41
              unfold shZ at h9
              rw [hErS 4 (by decide), hErS 8 (by decide), hqi] at h9
              exact h9
            refine lv_aload_n hx hb dX12_judged_122 rfl (lv_at hl 0 rfl) ?_
            refine va_get (D := D) (ci := 12) (v := .ref (a 49)) (C := RX12) (T := TX12) (N := 91) hx hb hT iX12 hown hK hP 0 rfl rfl 62 (by decide) (hT _ t_796) (fun _ h9 => h9) rfl dX12_judged_123 ?_
            refine lv_iload_n hx hb dX12_judged_126 rfl (lv_at hl 3 rfl) ?_
            refine lv_bipush (v := 10) hx hb dX12_judged_127 (by decide) ?_
            refine lv_isub hx hb dX12_judged_129 ?_
            refine lv_topi (fun v_43 ev_43 => ?_)
            have hv_43 : v_43.toInt = p2.toInt - 10 := by rw [ev_43]; have := b_rg p2; exact i_sub (a := p2.toInt) (b := 10) rfl rfl (by omega) (by omega)
            refine va_iald hx hb hK hP 49 0 rfl rfl (vp_inI (by omega) (by omega)) dX12_judged_130 ?_
            refine lv_topi (fun v_44 ev_44 => ?_)
            subst hQ
            have hzz : v_44.toInt = shF (shP (fun t => r 8 (4 * p0.toNatClampNeg + t)) (r 4 p0.toNatClampNeg).toInt.toNat) (r 4 p0.toNatClampNeg).toInt.toNat (bckI (t9 + sumB (mOw r p0.toNatClampNeg) 3) (r 5 p0.toNatClampNeg) (mDn r (mD i r) p0.toNatClampNeg)).toInt (p2.toInt - 10).toNat := by
              have h9 := hsz (p2.toInt - 10).toNat (by omega)
              rw [← h9, ev_44]; exact congrArg (fun t => (r42 49 t).toInt) (show v_43.toInt.toNat = _ by omega)
            exact W.iret (v := v_44) hx hb hr (fun t ht hW => ⟨⟨_, (i42, r42, l42), rfl, ⟨hRi, hRr, hEi, hEr, ⟨fun _ => ⟨fun h9 => absurd h9 (by omega), fun _ => ⟨t9, hbx, fun h9 => absurd h9 (by omega), fun h9 => absurd h9 (by omega), fun h9 => absurd h9 (by omega), fun _ => hzz⟩⟩, fun h9 => absurd (by omega) h9⟩⟩, by rw [ht]; exact hP, va_K.moved hW.alike hK, hD⟩, hS.F ht⟩) hS.2.2 dX12_judged_131
          · exact absurd h_30 (by omega)
          · exact absurd h_30 (by omega)
          · exact absurd h_30 (by omega)
          · exact absurd h_30 (by omega)
        · skip
          refine lv_if_ne (tgt := 44) hx hb dX12_judged_39 (by decide) (fun c_45 => absurd (by decide) c_45) (fun c_45 => ?_)
          refine lv_iconst (v := (-1)) hx hb dX12_judged_42 (by decide) ?_
          subst hQ
          exact W.iret (v := (-1)) hx hb hr (fun t ht hW => ⟨⟨_, (i, r, rl), rfl, ⟨hRi, hRr, hEi, hEr, ⟨fun h9 => absurd h9 (by omega), fun _ => rfl⟩⟩, by rw [ht]; exact hP, va_K.moved hW.alike hK, hD⟩, hS.F ht⟩) hS.2.2 dX12_judged_43
    · skip
      refine lv_if_eq (tgt := 42) hx hb dX12_judged_12 (by decide) (fun c_46 => ?_) (fun c_46 => absurd (by decide) c_46)
      refine lv_iconst (v := (-1)) hx hb dX12_judged_42 (by decide) ?_
      subst hQ
      exact W.iret (v := (-1)) hx hb hr (fun t ht hW => ⟨⟨_, (i, r, rl), rfl, ⟨hRi, hRr, hEi, hEr, ⟨fun h9 => absurd h9 (by omega), fun _ => rfl⟩⟩, by rw [ht]; exact hP, va_K.moved hW.alike hK, hD⟩, hS.F ht⟩) hS.2.2 dX12_judged_43
  · skip
    refine lv_if_eq (tgt := 42) hx hb dX12_judged_5 (by decide) (fun c_47 => ?_) (fun c_47 => absurd (by decide) c_47)
    refine lv_iconst (v := (-1)) hx hb dX12_judged_42 (by decide) ?_
    subst hQ
    exact W.iret (v := (-1)) hx hb hr (fun t ht hW => ⟨⟨_, (i, r, rl), rfl, ⟨hRi, hRr, hEi, hEr, ⟨fun h9 => absurd h9 (by omega), fun _ => rfl⟩⟩, by rw [ht]; exact hP, va_K.moved hW.alike hK, hD⟩, hS.F ht⟩) hS.2.2 dX12_judged_43
set_option maxHeartbeats 4000000 in
set_option maxRecDepth 100000 in
theorem c_X11_judged_y9 (l : Launch) (D : va_G) (cy : Nat → ClassId) (a : Nat → Nat) (i : Nat → Int32) (r : Nat → Nat → Int32) (q : Nat → Option Nat) (tl : va_W) (p0 p1 p2 : Int32) (sz : Nat) (hRi : yRi i) (hRr : yRr r) (hh : 0 ≤ p0.toInt ∧ p0.toInt < (i 0).toInt) (hq : q p0.toNatClampNeg = some (a 61)) (d9 : lwT) (hL9 : xLw d9 i r) (hG9 : gLw d9) (hgd : ∀ c : Nat, (c : Int) < (i 10).toInt → (r 30 c).toInt = p0.toInt → 1 ≤ (r 68 (r 31 c).toNatClampNeg).toInt ∧ 0 < (r 2 (r 67 (r 31 c).toNatClampNeg).toNatClampNeg).toInt) (hsb : 0 ≤ (sumB (xJV d9 i r p0 p1) (i 10).toNatClampNeg).toInt ∧ (sumB (xJV d9 i r p0 p1) (i 10).toNatClampNeg).toInt ≤ 30000000) : Met l yX11_judged (Cond.code yX11_judged cX11_judged 5 (some .int) :: gT) { frames := 7, cells := 0, slots := 0, locals := 175 } (va_Pc [.ref (a 0), .int p0, .int p1, .int p2] (rM D cy (xW cy a i r q (a 20) (a 12) ++ (hW cy a i r ++ tl)) sz)) (va_Qi (fun (z : Int32) (u : Nat → Nat → Int32) => yRr u ∧ mEr [27, 28, 52, 53] r u ∧ ((((0 ≤ p1.toInt ∧ p1.toInt ≤ 9999) ∧ ((0 ≤ p2.toInt ∧ p2.toInt ≤ 3) ∨ (10 ≤ p2.toInt ∧ p2.toInt ≤ 9 + (i 18).toInt))) → ((p2.toInt = 2 → z = xDn i d9) ∧ (p2.toInt = 0 → z = ownG (sumB (xJV d9 i r p0 p1) (i 10).toNatClampNeg + sumB (r 63) 3) (i 19)) ∧ (p2.toInt = 1 → z = i 19 - ownG (sumB (xJV d9 i r p0 p1) (i 10).toNatClampNeg + sumB (r 63) 3) (i 19)) ∧ (p2.toInt = 3 → z = sumB (xJV d9 i r p0 p1) (i 10).toNatClampNeg) ∧ (10 ≤ p2.toInt → z.toInt = shF (shP (r 62) (i 18).toInt.toNat) (i 18).toInt.toNat (bckI (sumB (xJV d9 i r p0 p1) (i 10).toNatClampNeg + sumB (r 63) 3) (i 19) (xDn i d9)).toInt (p2.toInt - 10).toNat))) ∧ (¬ ((0 ≤ p1.toInt ∧ p1.toInt ≤ 9999) ∧ ((0 ≤ p2.toInt ∧ p2.toInt ≤ 3) ∨ (10 ≤ p2.toInt ∧ p2.toInt ≤ 9 + (i 18).toInt))) → z = -1))) (fun (u : Nat → Nat → Int32) t => va_P D vwCl (xW cy a i u q (a 20) (a 12) ++ (hW cy a i u ++ tl)) t.heap ∧ va_K D vwCl (vT cy) t ∧ va_D (va_A (xW cy a i r q (a 20) (a 12) ++ (hW cy a i r ++ tl)) sz) (xW cy a i u q (a 20) (a 12) ++ (hW cy a i u ++ tl))) (va_A (xW cy a i r q (a 20) (a 12) ++ (hW cy a i r ++ tl)) sz)) 0 0 (va_A (xW cy a i r q (a 20) (a 12) ++ (hW cy a i r ++ tl)) sz) := by
  refine Met.ofQ (cc := cX11_judged) (maxL := 5) (ret := (some .int)) (by decide) rfl ?_
  intro p e s m args below meth c s₁ B hml hv Q hQ
  obtain ⟨rfl, hnw, hsz, hP, hK, hD0⟩ := hv
  have hx := B.exec
  have hb := B.bytes
  have hr := B.returns
  have hlocks := B.notSynchronized
  have hT : ∀ w ∈ gT, w.before _ s = true := fun w h => atoms_spec (ws := (Cond.code yX11_judged cX11_judged 5 (some .int) :: gT)) B.pre w (List.mem_cons_of_mem _ h)
  have hown : s.vm.findClass RX11 = some m.cls := findClass_of_methodNamed B.named
  subst hsz
  have hD := hD0.self (sz := s.heap.size)
  generalize hAe : va_A (xW cy a i r q (a 20) (a 12) ++ (hW cy a i r ++ tl)) s.heap.size = A at hD hQ
  have hA : ∀ q : Nat, s.heap.size ≤ q → A q := fun q h => by rw [← hAe]; exact Or.inr h
  have hS : va_S A s.heap s.heap [] := va_S.rf
  have hl := lv_entry ([.ref (a 0), .int p0, .int p1, .int p2]) (n := 5) (Nat.le_of_ble_eq_true rfl)
  rw [lg_entry_eq]
  generalize (lg_sl ([.ref (a 0), .int p0, .int p1, .int p2]) ++ List.replicate (5 - (lg_sl ([.ref (a 0), .int p0, .int p1, .int p2])).length) Slot.unset).toArray = ls at hl ⊢
  have hl : lv_has ls 5 [(0, .ref (a 0)), (1, .int p0), (2, .int p1), (3, .int p2)] := hl
  have hEi : mEi [] i i := Ei_rf
  have hEr : mEr [27, 28, 52, 53] r r := Er_rf
  have hg0 : 0 ≤ (i 0).toInt ∧ (i 0).toInt ≤ 6 := hRi 0
  have hRi0 : yRi i := hRi
  have hRr0 : yRr r := hRr
  have hg18 : 1 ≤ (i 18).toInt ∧ (i 18).toInt ≤ 4 := hRi 18
  refine lv_aload_n hx hb dX11_judged_0 rfl (lv_at hl 0 rfl) ?_
  refine lv_iload_n hx hb dX11_judged_1 rfl (lv_at hl 1 rfl) ?_
  refine va_csq (W.runV (As := [.int p0]) (rest := []) ⟨hx, hb, hml, hown, hT⟩ (c_X11_homeAt l D cy a i r q (hW cy a i r ++ tl) p0 hRi hRr) (cwV 1 hT (gV t_443 t_444 t_445 t_446 t_2) rfl rfl rfl (by decide +kernel) ⟨Nat.le_of_ble_eq_true rfl, Nat.le_of_ble_eq_true rfl⟩) (rP_v hP hK (va_recv hK hP (ci := 11) (q0 := 0) rfl rfl)) rfl rfl hl.1 rfl (lv_room (Nat.le_of_ble_eq_true rfl)) dX11_judged_2 ⟨Nat.le_of_ble_eq_true rfl, Nat.le_of_ble_eq_true rfl⟩) (fun r_1 hr_1 => ?_)
  obtain rfl : r_1 = some (a 61) := (hr_1.1 hh).trans hq
  refine W.eq (g2 := F0 m 5 ls [.ref (a 61)]) rfl ?_
  refine lv_astore (lv' := [(4, .ref (a 61)), (0, .ref (a 0)), (1, .int p0), (2, .int p1), (3, .int p2)]) hx hb dX11_judged_5 hl (by decide) rfl (fun ls hl => ?_)
  refine lv_aload hx hb dX11_judged_7 (lv_at hl 0 rfl) ?_
  refine lv_ifnull hx hb dX11_judged_9 ?_
  refine lv_iload_n hx hb dX11_judged_12 rfl (lv_at hl 3 rfl) ?_
  refine vp_callSi (W.runS (As := [.int p1]) (rest := []) ⟨hx, hb, hml, hown, hT⟩ (c_X11_isDay l p1) (va_cwS 1 hT (gS t_279 t_280 t_281 t_2) rfl rfl rfl (by decide +kernel) ⟨Nat.le_of_ble_eq_true rfl, Nat.le_of_ble_eq_true rfl⟩) preT rfl rfl hl.1 rfl (lv_room (Nat.le_of_ble_eq_true rfl)) dX11_judged_13 ⟨Nat.le_of_ble_eq_true rfl, Nat.le_of_ble_eq_true rfl⟩) (fun r_2 hr_2 => ?_)
  have hr_2 : BR r_2 (0 ≤ p1.toInt ∧ p1.toInt ≤ 9999) 1 0 := hr_2
  rcases hr_2 with ⟨rfl, h_3⟩ | ⟨rfl, h_3⟩
  · skip
    refine lv_if_ne (tgt := 21) hx hb dX11_judged_16 (by decide) (fun c_4 => ?_) (fun c_4 => absurd c_4 (by decide))
    refine lv_iload_n hx hb dX11_judged_21 rfl (lv_at hl 4 rfl) ?_
    refine lv_bipush (v := 10) hx hb dX11_judged_22 (by decide) ?_
    refine lv_icmp_lt (tgt := 73) hx hb dX11_judged_24 (by decide) (fun c_5 => ?_) (fun c_5 => ?_)
    · have c_5 : p2.toInt < 10 := b_lt c_5
      refine lv_iload_n hx hb dX11_judged_73 rfl (lv_at hl 4 rfl) ?_
      rcases (show (p2.toInt < 0 ∨ 3 < p2.toInt) ∨ p2.toInt = 0 ∨ p2.toInt = 1 ∨ p2.toInt = 2 ∨ p2.toInt = 3 by omega) with h_6 | h_6 | h_6 | h_6 | h_6
      · refine lv_tableOut (tgt := 150) hx hb dX11_judged_74 h_6 (by decide) ?_
        refine lv_iconst (v := (-1)) hx hb dX11_judged_150 (by decide) ?_
        subst hQ
        exact W.iret (v := (-1)) hx hb hr (fun t ht hW => ⟨⟨_, r, rfl, ⟨hRr, hEr, ⟨fun h9 => absurd h9 (by omega), fun _ => rfl⟩⟩, by rw [ht]; exact hP, va_K.moved hW.alike hK, hD⟩, hS.F ht⟩) hS.2.2 dX11_judged_151
      · refine lv_tableIn (off := 30) (tgt := 104) hx hb dX11_judged_74 (by omega) (by omega) (by rw [h_6]; rfl) (by decide) ?_
        refine lv_aload_n hx hb dX11_judged_104 rfl (lv_at hl 1 rfl) ?_
        refine lv_aload hx hb dX11_judged_105 (lv_at hl 0 rfl) ?_
        refine lv_aload_n hx hb dX11_judged_107 rfl (lv_at hl 1 rfl) ?_
        refine lv_iload_n hx hb dX11_judged_108 rfl (lv_at hl 2 rfl) ?_
        refine lv_iload_n hx hb dX11_judged_109 rfl (lv_at hl 3 rfl) ?_
        have hF_7 := rF hD hS hA
        refine va_calli (va_runV (As := [.int p0, .int p1]) (rest := [.ref (a 61), .ref (a 0)]) ⟨hx, hb, hml, hown, hT⟩ (c_X11_awards9 l D cy a i r q tl p0 p1 _ hRi hRr hh hq (by omega) d9 (xLw_co hL9 rfl (hEr 21 (by decide)) (hEr 22 (by decide)) (hEr 23 (by decide)) (hEr 24 (by decide)) (hEr 25 (by decide)) (hEr 26 (by decide))) hG9 hgd) (cwV 2 hT (gV t_591 t_592 t_593 t_594 t_2) rfl rfl rfl (by decide +kernel) ⟨Nat.le_of_ble_eq_true rfl, Nat.le_of_ble_eq_true rfl⟩) (rM_v hnw hP hK hD (va_recv hK hP (ci := 11) (q0 := 0) rfl rfl)) rfl rfl hl.1 rfl (lv_room (Nat.le_of_ble_eq_true rfl)) dX11_judged_110 ⟨Nat.le_of_ble_eq_true rfl, Nat.le_of_ble_eq_true rfl⟩) hS (fun q _ h => hF_7 q h) hF_7 (fun r_8 u_9 t H1 locs ht hvm hr_8 hB hz1 hk1 hS => ?_)
        obtain ⟨r9, rfl⟩ : ∃ z, z = u_9 := ⟨_, rfl⟩
        obtain ⟨hP, hK1, hD1⟩ := hB
        rw [ht] at hP
        have hD := hD1.weaken (fun k q _ h => hF_7 q.1 h)
        obtain ⟨hRr, hE2, hr_8⟩ := hr_8
        have hRr : yRr r9 := hRr
        have hE2 : mEr [27, 28] r r9 := hE2
        have hP : va_P D vwCl (xW cy a i r9 q (a 20) (a 12) ++ (hW cy a i r9 ++ tl)) H1 := hP
        have hD : va_D A (xW cy a i r9 q (a 20) (a 12) ++ (hW cy a i r9 ++ tl)) := hD
        have hEr : mEr [27, 28, 52, 53] _ r9 := Er_tr hEr hE2 (by decide)
        have hqr_8 : r_8 = sumB (xJV d9 i r p0 p1) (i 10).toNatClampNeg := hr_8
        have hsa : r_8 = sumB (xJV d9 i r p0 p1) (i 10).toNatClampNeg := hqr_8
        have hErA := hEr
        refine vp_callSi (W.runV (As := [.ref (a 61), .int r_8]) (rest := []) ⟨hx, hb, hml, hown, hT⟩ (c_X11_toOwner9 l D cy a i r9 q tl r_8 hRi hRr) (cwV 2 hT (gV t_570 t_571 t_572 t_573 t_2) rfl rfl rfl (by decide +kernel) ⟨Nat.le_of_ble_eq_true rfl, Nat.le_of_ble_eq_true rfl⟩) (rP_v hP hK (va_recv hK hP (ci := 11) (q0 := 0) rfl rfl)) rfl rfl hl.1 rfl (lv_room (Nat.le_of_ble_eq_true rfl)) dX11_judged_113 ⟨Nat.le_of_ble_eq_true rfl, Nat.le_of_ble_eq_true rfl⟩) (fun r_10 hr_10 => ?_)
        have hqr_10 : r_10 = ownG (r_8 + sumB (r9 63) 3) (i 19) := hr_10
        subst hQ
        have ho9 : r_10 = ownG (sumB (xJV d9 i r p0 p1) (i 10).toNatClampNeg + sumB (r 63) 3) (i 19) := by have h9 := hqr_10; rw [hsa, show r9 63 = r 63 from hErA 63 (by decide)] at h9; exact h9
        exact W.iret (v := r_10) hx hb hr (fun t ht hW => ⟨⟨_, r9, rfl, ⟨hRr, hEr, ⟨fun _ => ⟨fun h9 => absurd h9 (by omega), fun _ => ho9, fun h9 => absurd h9 (by omega), fun h9 => absurd h9 (by omega), fun h9 => absurd h9 (by omega)⟩, fun h9 => absurd (by omega) h9⟩⟩, by rw [ht]; exact hP, va_K.moved hW.alike hK, hD⟩, hS.F ht⟩) hS.2.2 dX11_judged_116
      · refine lv_tableIn (off := 43) (tgt := 117) hx hb dX11_judged_74 (by omega) (by omega) (by rw [h_6]; rfl) (by decide) ?_
        refine lv_aload hx hb dX11_judged_117 (lv_at hl 0 rfl) ?_
        refine va_get (D := D) (ci := 3) (v := .int (i 19)) (C := RX3) (T := TX3) (N := 12) hx hb hT iX3 hown hK hP 61 rfl rfl 2 (by decide) (hT _ t_563) (fun _ h9 => h9) rfl dX11_judged_119 ?_
        have hg_11 : 0 ≤ (i 19).toInt ∧ (i 19).toInt ≤ 999999 := hRi 19
        refine lv_aload_n hx hb dX11_judged_122 rfl (lv_at hl 1 rfl) ?_
        refine lv_aload hx hb dX11_judged_123 (lv_at hl 0 rfl) ?_
        refine lv_aload_n hx hb dX11_judged_125 rfl (lv_at hl 1 rfl) ?_
        refine lv_iload_n hx hb dX11_judged_126 rfl (lv_at hl 2 rfl) ?_
        refine lv_iload_n hx hb dX11_judged_127 rfl (lv_at hl 3 rfl) ?_
        have hF_12 := rF hD hS hA
        refine va_calli (va_runV (As := [.int p0, .int p1]) (rest := [.ref (a 61), .ref (a 0), .int (i 19)]) ⟨hx, hb, hml, hown, hT⟩ (c_X11_awards9 l D cy a i r q tl p0 p1 _ hRi hRr hh hq (by omega) d9 (xLw_co hL9 rfl (hEr 21 (by decide)) (hEr 22 (by decide)) (hEr 23 (by decide)) (hEr 24 (by decide)) (hEr 25 (by decide)) (hEr 26 (by decide))) hG9 hgd) (cwV 2 hT (gV t_591 t_592 t_593 t_594 t_2) rfl rfl rfl (by decide +kernel) ⟨Nat.le_of_ble_eq_true rfl, Nat.le_of_ble_eq_true rfl⟩) (rM_v hnw hP hK hD (va_recv hK hP (ci := 11) (q0 := 0) rfl rfl)) rfl rfl hl.1 rfl (lv_room (Nat.le_of_ble_eq_true rfl)) dX11_judged_128 ⟨Nat.le_of_ble_eq_true rfl, Nat.le_of_ble_eq_true rfl⟩) hS (fun q _ h => hF_12 q h) hF_12 (fun r_13 u_14 t H1 locs ht hvm hr_13 hB hz1 hk1 hS => ?_)
        obtain ⟨r14, rfl⟩ : ∃ z, z = u_14 := ⟨_, rfl⟩
        obtain ⟨hP, hK1, hD1⟩ := hB
        rw [ht] at hP
        have hD := hD1.weaken (fun k q _ h => hF_12 q.1 h)
        obtain ⟨hRr, hE2, hr_13⟩ := hr_13
        have hRr : yRr r14 := hRr
        have hE2 : mEr [27, 28] r r14 := hE2
        have hP : va_P D vwCl (xW cy a i r14 q (a 20) (a 12) ++ (hW cy a i r14 ++ tl)) H1 := hP
        have hD : va_D A (xW cy a i r14 q (a 20) (a 12) ++ (hW cy a i r14 ++ tl)) := hD
        have hEr : mEr [27, 28, 52, 53] _ r14 := Er_tr hEr hE2 (by decide)
        have hqr_13 : r_13 = sumB (xJV d9 i r p0 p1) (i 10).toNatClampNeg := hr_13
        have hsa : r_13 = sumB (xJV d9 i r p0 p1) (i 10).toNatClampNeg := hqr_13
        have hErA := hEr
        refine vp_callSi (W.runV (As := [.ref (a 61), .int r_13]) (rest := [.int (i 19)]) ⟨hx, hb, hml, hown, hT⟩ (c_X11_toOwner9 l D cy a i r14 q tl r_13 hRi hRr) (cwV 2 hT (gV t_570 t_571 t_572 t_573 t_2) rfl rfl rfl (by decide +kernel) ⟨Nat.le_of_ble_eq_true rfl, Nat.le_of_ble_eq_true rfl⟩) (rP_v hP hK (va_recv hK hP (ci := 11) (q0 := 0) rfl rfl)) rfl rfl hl.1 rfl (lv_room (Nat.le_of_ble_eq_true rfl)) dX11_judged_131 ⟨Nat.le_of_ble_eq_true rfl, Nat.le_of_ble_eq_true rfl⟩) (fun r_15 hr_15 => ?_)
        have hqr_15 : r_15 = ownG (r_13 + sumB (r14 63) 3) (i 19) := hr_15
        refine lv_isub hx hb dX11_judged_134 ?_
        refine lv_topi (fun v_16 ev_16 => ?_)
        subst hQ
        have ho9 : r_15 = ownG (sumB (xJV d9 i r p0 p1) (i 10).toNatClampNeg + sumB (r 63) 3) (i 19) := by have h9 := hqr_15; rw [hsa, show r14 63 = r 63 from hErA 63 (by decide)] at h9; exact h9
        exact W.iret (v := v_16) hx hb hr (fun t ht hW => ⟨⟨_, r14, rfl, ⟨hRr, hEr, ⟨fun _ => ⟨fun h9 => absurd h9 (by omega), fun h9 => absurd h9 (by omega), fun _ => (by rw [ev_16, ho9]), fun h9 => absurd h9 (by omega), fun h9 => absurd h9 (by omega)⟩, fun h9 => absurd (by omega) h9⟩⟩, by rw [ht]; exact hP, va_K.moved hW.alike hK, hD⟩, hS.F ht⟩) hS.2.2 dX11_judged_135
      · refine lv_tableIn (off := 62) (tgt := 136) hx hb dX11_judged_74 (by omega) (by omega) (by rw [h_6]; rfl) (by decide) ?_
        refine lv_aload_n hx hb dX11_judged_136 rfl (lv_at hl 1 rfl) ?_
        refine lv_aload hx hb dX11_judged_137 (lv_at hl 0 rfl) ?_
        have hF_17 := rF hD hS hA
        refine va_calli (va_runV (As := [.ref (a 61)]) (rest := []) ⟨hx, hb, hml, hown, hT⟩ (c_X11_penalty9 l D cy a i r q tl _ hRi hRr d9 (xLw_co hL9 rfl (hEr 21 (by decide)) (hEr 22 (by decide)) (hEr 23 (by decide)) (hEr 24 (by decide)) (hEr 25 (by decide)) (hEr 26 (by decide))) hG9) (cwV 1 hT (gV t_574 t_575 t_576 t_577 t_2) rfl rfl rfl (by decide +kernel) ⟨Nat.le_of_ble_eq_true rfl, Nat.le_of_ble_eq_true rfl⟩) (rM_v hnw hP hK hD (va_recv hK hP (ci := 11) (q0 := 0) rfl rfl)) rfl rfl hl.1 rfl (lv_room (Nat.le_of_ble_eq_true rfl)) dX11_judged_139 ⟨Nat.le_of_ble_eq_true rfl, Nat.le_of_ble_eq_true rfl⟩) hS (fun q _ h => hF_17 q h) hF_17 (fun r_18 u_19 t H1 locs ht hvm hr_18 hB hz1 hk1 hS => ?_)
        obtain ⟨r19, rfl⟩ : ∃ z, z = u_19 := ⟨_, rfl⟩
        obtain ⟨hP, hK1, hD1⟩ := hB
        rw [ht] at hP
        have hD := hD1.weaken (fun k q _ h => hF_17 q.1 h)
        obtain ⟨hRr, hE2, hr_18⟩ := hr_18
        have hRr : yRr r19 := hRr
        have hE2 : mEr [27, 28] r r19 := hE2
        have hP : va_P D vwCl (xW cy a i r19 q (a 20) (a 12) ++ (hW cy a i r19 ++ tl)) H1 := hP
        have hD : va_D A (xW cy a i r19 q (a 20) (a 12) ++ (hW cy a i r19 ++ tl)) := hD
        have hEr : mEr [27, 28, 52, 53] _ r19 := Er_tr hEr hE2 (by decide)
        have hqr_18 : r_18 = xDn i d9 := hr_18
        subst hQ
        exact W.iret (v := r_18) hx hb hr (fun t ht hW => ⟨⟨_, r19, rfl, ⟨hRr, hEr, ⟨fun _ => ⟨fun _ => hqr_18, fun h9 => absurd h9 (by omega), fun h9 => absurd h9 (by omega), fun h9 => absurd h9 (by omega), fun h9 => absurd h9 (by omega)⟩, fun h9 => absurd (by omega) h9⟩⟩, by rw [ht]; exact hP, va_K.moved hW.alike hK, hD⟩, hS.F ht⟩) hS.2.2 dX11_judged_142
      · refine lv_tableIn (off := 69) (tgt := 143) hx hb dX11_judged_74 (by omega) (by omega) (by rw [h_6]; rfl) (by decide) ?_
        refine lv_aload_n hx hb dX11_judged_143 rfl (lv_at hl 1 rfl) ?_
        refine lv_iload_n hx hb dX11_judged_144 rfl (lv_at hl 2 rfl) ?_
        refine lv_iload_n hx hb dX11_judged_145 rfl (lv_at hl 3 rfl) ?_
        have hF_20 := rF hD hS hA
        refine va_calli (va_runV (As := [.int p0, .int p1]) (rest := []) ⟨hx, hb, hml, hown, hT⟩ (c_X11_awards9 l D cy a i r q tl p0 p1 _ hRi hRr hh hq (by omega) d9 (xLw_co hL9 rfl (hEr 21 (by decide)) (hEr 22 (by decide)) (hEr 23 (by decide)) (hEr 24 (by decide)) (hEr 25 (by decide)) (hEr 26 (by decide))) hG9 hgd) (cwV 2 hT (gV t_591 t_592 t_593 t_594 t_2) rfl rfl rfl (by decide +kernel) ⟨Nat.le_of_ble_eq_true rfl, Nat.le_of_ble_eq_true rfl⟩) (rM_v hnw hP hK hD (va_recv hK hP (ci := 11) (q0 := 0) rfl rfl)) rfl rfl hl.1 rfl (lv_room (Nat.le_of_ble_eq_true rfl)) dX11_judged_146 ⟨Nat.le_of_ble_eq_true rfl, Nat.le_of_ble_eq_true rfl⟩) hS (fun q _ h => hF_20 q h) hF_20 (fun r_21 u_22 t H1 locs ht hvm hr_21 hB hz1 hk1 hS => ?_)
        obtain ⟨r22, rfl⟩ : ∃ z, z = u_22 := ⟨_, rfl⟩
        obtain ⟨hP, hK1, hD1⟩ := hB
        rw [ht] at hP
        have hD := hD1.weaken (fun k q _ h => hF_20 q.1 h)
        obtain ⟨hRr, hE2, hr_21⟩ := hr_21
        have hRr : yRr r22 := hRr
        have hE2 : mEr [27, 28] r r22 := hE2
        have hP : va_P D vwCl (xW cy a i r22 q (a 20) (a 12) ++ (hW cy a i r22 ++ tl)) H1 := hP
        have hD : va_D A (xW cy a i r22 q (a 20) (a 12) ++ (hW cy a i r22 ++ tl)) := hD
        have hEr : mEr [27, 28, 52, 53] _ r22 := Er_tr hEr hE2 (by decide)
        have hqr_21 : r_21 = sumB (xJV d9 i r p0 p1) (i 10).toNatClampNeg := hr_21
        have hsa : r_21 = sumB (xJV d9 i r p0 p1) (i 10).toNatClampNeg := hqr_21
        have hErA := hEr
        subst hQ
        exact W.iret (v := r_21) hx hb hr (fun t ht hW => ⟨⟨_, r22, rfl, ⟨hRr, hEr, ⟨fun _ => ⟨fun h9 => absurd h9 (by omega), fun h9 => absurd h9 (by omega), fun h9 => absurd h9 (by omega), fun _ => hsa, fun h9 => absurd h9 (by omega)⟩, fun h9 => absurd (by omega) h9⟩⟩, by rw [ht]; exact hP, va_K.moved hW.alike hK, hD⟩, hS.F ht⟩) hS.2.2 dX11_judged_149
    · have c_5 : 10 ≤ p2.toInt := b_nlt c_5
      refine lv_iload_n hx hb dX11_judged_27 rfl (lv_at hl 4 rfl) ?_
      refine lv_bipush (v := 10) hx hb dX11_judged_28 (by decide) ?_
      refine lv_isub hx hb dX11_judged_30 ?_
      refine lv_topi (fun v_23 ev_23 => ?_)
      have hv_23 : v_23.toInt = p2.toInt - 10 := by rw [ev_23]; have := b_rg p2; exact i_sub (a := p2.toInt) (b := 10) rfl rfl (by omega) (by omega)
      refine lv_aload hx hb dX11_judged_31 (lv_at hl 0 rfl) ?_
      refine va_get (D := D) (ci := 3) (v := .int (i 18)) (C := RX3) (T := TX3) (N := 12) hx hb hT iX3 hown hK hP 61 rfl rfl 1 (by decide) (hT _ t_447) (fun _ h9 => h9) rfl dX11_judged_33 ?_
      have hg_24 : 1 ≤ (i 18).toInt ∧ (i 18).toInt ≤ 4 := hRi 18
      refine lv_icmp_ge (tgt := 73) hx hb dX11_judged_36 (by decide) (fun c_25 => ?_) (fun c_25 => ?_)
      · have c_25 : (i 18).toInt ≤ v_23.toInt := b_le c_25
        refine lv_iload_n hx hb dX11_judged_73 rfl (lv_at hl 4 rfl) ?_
        rcases (show (p2.toInt < 0 ∨ 3 < p2.toInt) ∨ p2.toInt = 0 ∨ p2.toInt = 1 ∨ p2.toInt = 2 ∨ p2.toInt = 3 by omega) with h_26 | h_26 | h_26 | h_26 | h_26
        · refine lv_tableOut (tgt := 150) hx hb dX11_judged_74 h_26 (by decide) ?_
          refine lv_iconst (v := (-1)) hx hb dX11_judged_150 (by decide) ?_
          subst hQ
          exact W.iret (v := (-1)) hx hb hr (fun t ht hW => ⟨⟨_, r, rfl, ⟨hRr, hEr, ⟨fun h9 => absurd h9 (by omega), fun _ => rfl⟩⟩, by rw [ht]; exact hP, va_K.moved hW.alike hK, hD⟩, hS.F ht⟩) hS.2.2 dX11_judged_151
        · exact absurd h_26 (by omega)
        · exact absurd h_26 (by omega)
        · exact absurd h_26 (by omega)
        · exact absurd h_26 (by omega)
      · have c_25 : v_23.toInt < (i 18).toInt := b_nle c_25
        refine lv_aload_n hx hb dX11_judged_39 rfl (lv_at hl 1 rfl) ?_
        refine va_get (D := D) (ci := 11) (v := .ref (a 51)) (C := RX11) (T := TX11) (N := 14) hx hb hT iX11 hown hK hP 0 rfl rfl 11 (by decide) (hT _ t_595) (fun _ h9 => h9) rfl dX11_judged_40 ?_
        refine lv_aload_n hx hb dX11_judged_43 rfl (lv_at hl 1 rfl) ?_
        refine lv_aload hx hb dX11_judged_44 (lv_at hl 0 rfl) ?_
        refine lv_aload_n hx hb dX11_judged_46 rfl (lv_at hl 1 rfl) ?_
        refine lv_iload_n hx hb dX11_judged_47 rfl (lv_at hl 2 rfl) ?_
        refine lv_iload_n hx hb dX11_judged_48 rfl (lv_at hl 3 rfl) ?_
        have hF_27 := rF hD hS hA
        refine va_calli (va_runV (As := [.int p0, .int p1]) (rest := [.ref (a 61), .ref (a 0), .ref (a 51)]) ⟨hx, hb, hml, hown, hT⟩ (c_X11_awards9 l D cy a i r q tl p0 p1 _ hRi hRr hh hq (by omega) d9 (xLw_co hL9 rfl (hEr 21 (by decide)) (hEr 22 (by decide)) (hEr 23 (by decide)) (hEr 24 (by decide)) (hEr 25 (by decide)) (hEr 26 (by decide))) hG9 hgd) (cwV 2 hT (gV t_591 t_592 t_593 t_594 t_2) rfl rfl rfl (by decide +kernel) ⟨Nat.le_of_ble_eq_true rfl, Nat.le_of_ble_eq_true rfl⟩) (rM_v hnw hP hK hD (va_recv hK hP (ci := 11) (q0 := 0) rfl rfl)) rfl rfl hl.1 rfl (lv_room (Nat.le_of_ble_eq_true rfl)) dX11_judged_49 ⟨Nat.le_of_ble_eq_true rfl, Nat.le_of_ble_eq_true rfl⟩) hS (fun q _ h => hF_27 q h) hF_27 (fun r_28 u_29 t H1 locs ht hvm hr_28 hB hz1 hk1 hS => ?_)
        obtain ⟨r29, rfl⟩ : ∃ z, z = u_29 := ⟨_, rfl⟩
        obtain ⟨hP, hK1, hD1⟩ := hB
        rw [ht] at hP
        have hD := hD1.weaken (fun k q _ h => hF_27 q.1 h)
        obtain ⟨hRr, hE2, hr_28⟩ := hr_28
        have hRr : yRr r29 := hRr
        have hE2 : mEr [27, 28] r r29 := hE2
        have hP : va_P D vwCl (xW cy a i r29 q (a 20) (a 12) ++ (hW cy a i r29 ++ tl)) H1 := hP
        have hD : va_D A (xW cy a i r29 q (a 20) (a 12) ++ (hW cy a i r29 ++ tl)) := hD
        have hEr : mEr [27, 28, 52, 53] _ r29 := Er_tr hEr hE2 (by decide)
        have hqr_28 : r_28 = sumB (xJV d9 i r p0 p1) (i 10).toNatClampNeg := hr_28
        have hsa : r_28 = sumB (xJV d9 i r p0 p1) (i 10).toNatClampNeg := hqr_28
        have hErA := hEr
        have hF_30 := rF hD hS hA
        refine va_calli (va_runV (As := [.ref (a 61), .int r_28]) (rest := [.ref (a 51)]) ⟨hx, hb, hml, hown, hT⟩ (c_X11_paidBack9 l D cy a i r29 q tl r_28 _ hRi hRr d9 (xLw_co hL9 rfl (hEr 21 (by decide)) (hEr 22 (by decide)) (hEr 23 (by decide)) (hEr 24 (by decide)) (hEr 25 (by decide)) (hEr 26 (by decide))) hG9) (cwV 2 hT (gV t_596 t_597 t_598 t_599 t_2) rfl rfl rfl (by decide +kernel) ⟨Nat.le_of_ble_eq_true rfl, Nat.le_of_ble_eq_true rfl⟩) (rM_v hnw hP hK hD (va_recv hK hP (ci := 11) (q0 := 0) rfl rfl)) rfl rfl hl.1 rfl (lv_room (Nat.le_of_ble_eq_true rfl)) dX11_judged_52 ⟨Nat.le_of_ble_eq_true rfl, Nat.le_of_ble_eq_true rfl⟩) hS (fun q _ h => hF_30 q h) hF_30 (fun r_31 u_32 t H1 locs ht hvm hr_31 hB hz1 hk1 hS => ?_)
        obtain ⟨r32, rfl⟩ : ∃ z, z = u_32 := ⟨_, rfl⟩
        obtain ⟨hP, hK1, hD1⟩ := hB
        rw [ht] at hP
        have hD := hD1.weaken (fun k q _ h => hF_30 q.1 h)
        obtain ⟨hRr, hE2, hr_31⟩ := hr_31
        have hRr : yRr r32 := hRr
        have hE2 : mEr [27, 28] r29 r32 := hE2
        have hP : va_P D vwCl (xW cy a i r32 q (a 20) (a 12) ++ (hW cy a i r32 ++ tl)) H1 := hP
        have hD : va_D A (xW cy a i r32 q (a 20) (a 12) ++ (hW cy a i r32 ++ tl)) := hD
        have hEr : mEr [27, 28, 52, 53] _ r32 := Er_tr hEr hE2 (by decide)
        have hqr_31 : r_31 = bckI (r_28 + sumB (r29 63) 3) (i 19) (xDn i d9) := hr_31
        have hpb : r_31 = bckI (sumB (xJV d9 i r p0 p1) (i 10).toNatClampNeg + sumB (r 63) 3) (i 19) (xDn i d9) := by have h9 := hqr_31; rw [hsa, show r29 63 = r 63 from hErA 63 (by decide)] at h9; exact h9
        have hbr := bckI_r (n := sumB (xJV d9 i r p0 p1) (i 10).toNatClampNeg + sumB (r 63) 3) (dep := i 19) (pen := xDn i d9) (hRi0 19) (all_n hsb (xOw_r hRr0)) (xDn_r hRi0)
        have hpr : 0 ≤ r_31.toInt ∧ r_31.toInt ≤ 9999990 := by rw [hpb]; exact ⟨hbr.1, hbr.2.1⟩
        have hErS := hEr
        refine lv_aload hx hb dX11_judged_55 (lv_at hl 0 rfl) ?_
        have hF_33 := rF hD hS hA
        refine va_callv (va_runV (As := [.int r_31, .ref (a 61)]) (rest := []) ⟨hx, hb, hml, hown, hT⟩ (c_X0_divide9 l D cy a i r32 q tl r_31 _ hRi hRr hpr) (cwV 2 hT (gV t_600 t_601 t_602 t_603 t_586) rfl rfl rfl (by decide +kernel) ⟨Nat.le_of_ble_eq_true rfl, Nat.le_of_ble_eq_true rfl⟩) (rQ_v hP hK hD (va_recv hK hP (ci := 0) (q0 := 51) rfl rfl)) rfl rfl hl.1 rfl (lv_room (Nat.le_of_ble_eq_true rfl)) dX11_judged_57 ⟨Nat.le_of_ble_eq_true rfl, Nat.le_of_ble_eq_true rfl⟩) hS (fun q _ h => hF_33 q h) hF_33 (fun u_35 t H1 locs ht hvm hr_34 hB hz1 hk1 hS => ?_)
        obtain ⟨r35, rfl⟩ : ∃ z, z = u_35 := ⟨_, rfl⟩
        obtain ⟨hP, hK1, hD1⟩ := hB
        rw [ht] at hP
        have hD := hD1.weaken (fun k q _ h => hF_33 q.1 h)
        obtain ⟨hRr, hE2, hr_34⟩ := hr_34
        have hRr : yRr r35 := hRr
        have hE2 : mEr [52, 53] r32 r35 := hE2
        have hP : va_P D vwCl (xW cy a i r35 q (a 20) (a 12) ++ (hW cy a i r35 ++ tl)) H1 := hP
        have hD : va_D A (xW cy a i r35 q (a 20) (a 12) ++ (hW cy a i r35 ++ tl)) := hD
        have hEr : mEr [27, 28, 52, 53] _ r35 := Er_tr hEr hE2 (by decide)
        have hqr_34 : shZ (r32 62) (i 18) r_31.toInt (r35 52) := hr_34
        have hsz : ∀ t9, t9 < (i 18).toInt.toNat → (r35 52 t9).toInt = shF (shP (r 62) (i 18).toInt.toNat) (i 18).toInt.toNat (bckI (sumB (xJV d9 i r p0 p1) (i 10).toNatClampNeg + sumB (r 63) 3) (i 19) (xDn i d9)).toInt t9 := by
          have h9 := hqr_34
          unfold shZ at h9
          rw [hErS 62 (by decide), hpb] at h9
          exact h9
        refine lv_aload_n hx hb dX11_judged_60 rfl (lv_at hl 1 rfl) ?_
        refine va_get (D := D) (ci := 11) (v := .ref (a 51)) (C := RX11) (T := TX11) (N := 14) hx hb hT iX11 hown hK hP 0 rfl rfl 11 (by decide) (hT _ t_595) (fun _ h9 => h9) rfl dX11_judged_61 ?_
        refine va_get (D := D) (ci := 0) (v := .ref (a 52)) (C := RX0) (T := TX0) (N := 2) hx hb hT iX0 hown hK hP 51 rfl rfl 0 (by decide) (hT _ t_604) (fun _ h9 => h9) rfl dX11_judged_64 ?_
        refine lv_iload_n hx hb dX11_judged_67 rfl (lv_at hl 4 rfl) ?_
        refine lv_bipush (v := 10) hx hb dX11_judged_68 (by decide) ?_
        refine lv_isub hx hb dX11_judged_70 ?_
        refine lv_topi (fun v_36 ev_36 => ?_)
        have hv_36 : v_36.toInt = p2.toInt - 10 := by rw [ev_36]; have := b_rg p2; exact i_sub (a := p2.toInt) (b := 10) rfl rfl (by omega) (by omega)
        refine va_iald hx hb hK hP 52 0 rfl rfl (vp_inI (by omega) (by omega)) dX11_judged_71 ?_
        refine lv_topi (fun v_37 ev_37 => ?_)
        subst hQ
        have hzz : v_37.toInt = shF (shP (r 62) (i 18).toInt.toNat) (i 18).toInt.toNat (bckI (sumB (xJV d9 i r p0 p1) (i 10).toNatClampNeg + sumB (r 63) 3) (i 19) (xDn i d9)).toInt (p2.toInt - 10).toNat := by
          have h9 := hsz (p2.toInt - 10).toNat (by omega)
          rw [← h9, ev_37]; exact congrArg (fun t => (r35 52 t).toInt) (show v_36.toInt.toNat = _ by omega)
        exact W.iret (v := v_37) hx hb hr (fun t ht hW => ⟨⟨_, r35, rfl, ⟨hRr, hEr, ⟨fun _ => ⟨fun h9 => absurd h9 (by omega), fun h9 => absurd h9 (by omega), fun h9 => absurd h9 (by omega), fun h9 => absurd h9 (by omega), fun _ => hzz⟩, fun h9 => absurd (by omega) h9⟩⟩, by rw [ht]; exact hP, va_K.moved hW.alike hK, hD⟩, hS.F ht⟩) hS.2.2 dX11_judged_72
  · skip
    refine lv_if_ne (tgt := 21) hx hb dX11_judged_16 (by decide) (fun c_38 => absurd (by decide) c_38) (fun c_38 => ?_)
    refine lv_iconst (v := (-1)) hx hb dX11_judged_19 (by decide) ?_
    subst hQ
    exact W.iret (v := (-1)) hx hb hr (fun t ht hW => ⟨⟨_, r, rfl, ⟨hRr, hEr, ⟨fun h9 => absurd h9 (by omega), fun _ => rfl⟩⟩, by rw [ht]; exact hP, va_K.moved hW.alike hK, hD⟩, hS.F ht⟩) hS.2.2 dX11_judged_20
