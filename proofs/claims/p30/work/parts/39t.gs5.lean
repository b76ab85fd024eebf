theorem mTh_E {T : List Nat} {r R : Nat → Nat → Int32} {J : Nat → Int32} {g k : Nat} {c e : Int32} (h : mEr T r R) (hT : ∀ p ∈ ([3, 4, 6, 7, 12, 13, 14, 15, 18] : List Nat), p ∉ T) : mTh R J g k c e = mTh r J g k c e := by
  unfold mTh
  rw [h 3 (hT _ (by decide)), h 4 (hT _ (by decide)), h 6 (hT _ (by decide)), h 7 (hT _ (by decide)), h 12 (hT _ (by decide)), h 13 (hT _ (by decide)), h 14 (hT _ (by decide)), h 15 (hT _ (by decide)), h 18 (hT _ (by decide))]
theorem mWo_E {T : List Nat} {r R : Nat → Nat → Int32} {g k : Nat} (h : mEr T r R) (hT : ∀ p ∈ ([1, 2, 3, 6, 7, 13, 15] : List Nat), p ∉ T) : mWo R g k = mWo r g k := by
  unfold mWo
  rw [h 1 (hT _ (by decide)), h 2 (hT _ (by decide)), h 3 (hT _ (by decide)), h 6 (hT _ (by decide)), h 7 (hT _ (by decide)), h 13 (hT _ (by decide)), h 15 (hT _ (by decide))]
theorem mWe_E {T : List Nat} {d : lwT} {r R : Nat → Nat → Int32} {J : Nat → Int32} {g k : Nat} (h : mEr T r R) (hT : ∀ p ∈ ([3, 4, 6, 7, 12, 13, 14, 15, 18] : List Nat), p ∉ T) : mWe d R J g k = mWe d r J g k := by
  unfold mWe; rw [mTh_E h hT]
theorem mLs_E {T : List Nat} {d : lwT} {r R : Nat → Nat → Int32} {J : Nat → Int32} {g k : Nat} (h : mEr T r R) (hT : ∀ p ∈ ([1, 2, 3, 4, 6, 7, 12, 13, 14, 15, 18] : List Nat), p ∉ T) : mLs d R J g k = mLs d r J g k := by
  have h1 := mWe_E (d := d) (J := J) (g := g) (k := k) h (fun p hp => hT p (by revert p; decide))
  have h2 := mWo_E (g := g) (k := k) h (fun p hp => hT p (by revert p; decide))
  unfold mLs
  rw [h1, h2, h 14 (hT _ (by decide)), h 18 (hT _ (by decide))]
theorem ds3z {f : Nat → Int32} {a b c : Int32} (h : ∀ k, k < 10 → f k = 0) : upd (upd (upd f 5 a) 6 b) 7 c 5 = a ∧ upd (upd (upd f 5 a) 6 b) 7 c 6 = b ∧ upd (upd (upd f 5 a) 6 b) 7 c 7 = c ∧ upd (upd (upd f 5 a) 6 b) 7 c 8 = 0 ∧ upd (upd (upd f 5 a) 6 b) 7 c 9 = 0 := ⟨rfl, rfl, rfl, h 8 (by decide), h 9 (by decide)⟩
theorem ds5b {f : Nat → Int32} {a b c d e : Int32} : ∀ k, 5 ≤ k → upd (upd (upd (upd (upd f 0 a) 1 b) 2 c) 3 d) 4 e k = f k := fun k hk => by rw [pk_un (by omega), pk_un (by omega), pk_un (by omega), pk_un (by omega), pk_un (by omega)]
theorem faL_8 {f g : Nat → Int32} {x0 x1 x2 x3 x4 x5 x6 x7 c e : Int32} (h : ∀ k, k < 10 → f k = faL [x0, x1, x2, x3, x4, x5, x6, x7, 0, 0] k) (hg : g = upd (upd f 8 c) 9 e) : ∀ k, k < 10 → g k = faL [x0, x1, x2, x3, x4, x5, x6, x7, c, e] k := by
  subst hg
  have n : ∀ k, k < 8 → upd (upd f 8 c) 9 e k = f k := fun k hk => by rw [pk_un (by omega), pk_un (by omega)]
  exact fa10 ((n 0 (by decide)).trans (h 0 (by decide))) ((n 1 (by decide)).trans (h 1 (by decide))) ((n 2 (by decide)).trans (h 2 (by decide))) ((n 3 (by decide)).trans (h 3 (by decide))) ((n 4 (by decide)).trans (h 4 (by decide))) ((n 5 (by decide)).trans (h 5 (by decide))) ((n 6 (by decide)).trans (h 6 (by decide))) ((n 7 (by decide)).trans (h 7 (by decide))) rfl rfl
set_option maxHeartbeats 4000000 in
set_option maxRecDepth 100000 in
theorem c_X12_agedOf9 (l : Launch) (D : va_G) (cy : Nat → ClassId) (a : Nat → Nat) (i : Nat → Int32) (r : Nat → Nat → Int32) (rl : Nat → Int64) (p0 p1 : Int32) (hRi : mRi i) (hRr : mRr r) (q0 : 0 ≤ p0.toInt ∧ p0.toInt ≤ 5) (q1 : 0 ≤ p1.toInt ∧ p1.toInt ≤ 19) : Met l yX12_agedOf (Cond.code yX12_agedOf cX12_agedOf 3 (some .int) :: gT) { frames := 2, cells := 0, slots := 0, locals := 45 } (va_Pc [.ref (a 0), .int p0, .int p1] (rP D cy (mW cy a i r rl))) (vp_Si (fun z => z = r 15 (20 * p0.toNatClampNeg + p1.toNatClampNeg) + (r 7 p0.toNatClampNeg - r 6 p0.toNatClampNeg))) 0 0 (fun _ => False) := by
  refine Met.ofQ (cc := cX12_agedOf) (maxL := 3) (ret := (some .int)) (by decide) rfl ?_
  intro p e s m args below meth c s₁ B hml hv Q hQ
  obtain ⟨rfl, hP, hK⟩ := hv
  have hx := B.exec
  have hb := B.bytes
  have hr := B.returns
  have hlocks := B.notSynchronized
  have hT : ∀ w ∈ gT, w.before _ s = true := fun w h => atoms_spec (ws := (Cond.code yX12_agedOf cX12_agedOf 3 (some .int) :: gT)) B.pre w (List.mem_cons_of_mem _ h)
  have hown : s.vm.findClass RX12 = some m.cls := findClass_of_methodNamed B.named
  have hl := lv_entry ([.ref (a 0), .int p0, .int p1]) (n := 3) (Nat.le_of_ble_eq_true rfl)
  rw [lg_entry_eq]
  generalize (lg_sl ([.ref (a 0), .int p0, .int p1]) ++ List.replicate (3 - (lg_sl ([.ref (a 0), .int p0, .int p1])).length) Slot.unset).toArray = ls at hl ⊢
  have hl : lv_has ls 3 [(0, .ref (a 0)), (1, .int p0), (2, .int p1)] := hl
  have hEi : mEi [23, 24, 25, 26, 27, 28, 29, 30, 60] i i := Ei_rf
  have hEr : mEr [21, 22, 23, 24, 25, 26, 32, 33, 34, 35, 36, 37, 38, 39, 48, 49, 57, 61, 62] r r := Er_rf
  have hI20 : (20 * p0.toInt + p1.toInt).toNat = (20 * p0.toNatClampNeg + p1.toNatClampNeg) := by show _ = 20 * p0.toInt.toNat + p1.toInt.toNat; omega
  refine lv_aload_n hx hb dX12_agedOf_0 rfl (lv_at hl 0 rfl) ?_
  refine va_get (D := D) (ci := 12) (v := .ref (a 15)) (C := RX12) (T := TX12) (N := 91) hx hb hT iX12 hown hK hP 0 rfl rfl 16 (by decide) (hT _ t_19) (fun _ h9 => h9) rfl dX12_agedOf_1 ?_
  refine lv_bipush (v := 20) hx hb dX12_agedOf_4 (by decide) ?_
  refine lv_iload_n hx hb dX12_agedOf_6 rfl (lv_at hl 1 rfl) ?_
  refine lv_imul hx hb dX12_agedOf_7 ?_
  refine lv_topi (fun v_1 ev_1 => ?_)
  have hv_1 : v_1.toInt = 20 * p0.toInt := by rw [ev_1]; have := b_rg p0; exact i_mul (a := 20) (b := p0.toInt) rfl rfl (by omega) (by omega)
  refine lv_iload_n hx hb dX12_agedOf_8 rfl (lv_at hl 2 rfl) ?_
  refine lv_iadd hx hb dX12_agedOf_9 ?_
  refine lv_topi (fun v_2 ev_2 => ?_)
  have hv_2 : v_2.toInt = v_1.toInt + p1.toInt := by rw [ev_2]; have := b_rg v_1; have := b_rg p1; exact i_add (a := v_1.toInt) (b := p1.toInt) rfl rfl (by omega) (by omega)
  refine va_iald hx hb hK hP 15 0 rfl rfl (vp_inI (by omega) (by omega)) dX12_agedOf_10 ?_
  refine lv_topi (fun v_3 ev_3 => ?_)
  have hgv_3 : 0 ≤ v_3.toInt ∧ v_3.toInt ≤ 360 := by rw [ev_3]; exact hRr 15 _
  have hwv_3 : v_3 = r 15 (((20 * p0.toInt) + p1.toInt)).toNat := by rw [ev_3]; exact congrArg (r 15) (by show v_2.toInt.toNat = _; omega)
  refine lv_aload_n hx hb dX12_agedOf_11 rfl (lv_at hl 0 rfl) ?_
  refine lv_iload_n hx hb dX12_agedOf_12 rfl (lv_at hl 1 rfl) ?_
  refine vp_callSi (W.runV (As := [.int p0]) (rest := [.int v_3]) ⟨hx, hb, hml, hown, hT⟩ (c_X12_monthsOf9 l D cy a i r rl p0 hRi hRr (by omega)) (cwV 1 hT (gV t_20 t_21 t_22 t_23 t_6) rfl rfl rfl (by decide +kernel) ⟨Nat.le_of_ble_eq_true rfl, Nat.le_of_ble_eq_true rfl⟩) (rP_v hP hK (va_recv hK hP (ci := 12) (q0 := 0) rfl rfl)) rfl rfl hl.1 rfl (lv_room (Nat.le_of_ble_eq_true rfl)) dX12_agedOf_13 ⟨Nat.le_of_ble_eq_true rfl, Nat.le_of_ble_eq_true rfl⟩) (fun r_4 hr_4 => ?_)
  have hqr_4 : r_4.toInt = ((r 7 p0.toNatClampNeg).toInt - (r 6 p0.toNatClampNeg).toInt) := hr_4.1
  have hr_4 : -999 ≤ r_4.toInt ∧ r_4.toInt ≤ 999 := hr_4.2
  have hmr_4 : r_4 = (r 7 p0.toNatClampNeg - r 6 p0.toNatClampNeg) := mon_eq hqr_4 (hRr 7 _) (hRr 6 _)
  refine lv_iadd hx hb dX12_agedOf_16 ?_
  refine lv_topi (fun v_5 ev_5 => ?_)
  have hv_5 : v_5.toInt = v_3.toInt + r_4.toInt := by rw [ev_5]; have := b_rg v_3; have := b_rg r_4; exact i_add (a := v_3.toInt) (b := r_4.toInt) rfl rfl (by omega) (by omega)
  subst hQ
  exact W.iret (v := v_5) hx hb hr (fun t ht hW => ⟨_, rfl, (by rw [ev_5, hmr_4, hwv_3, hI20]), ht⟩) (fun q hq => absurd hq List.not_mem_nil) dX12_agedOf_17
set_option maxHeartbeats 4000000 in
set_option maxRecDepth 100000 in
theorem c_X12_feelsHome9 (l : Launch) (D : va_G) (cy : Nat → ClassId) (a : Nat → Nat) (i : Nat → Int32) (r : Nat → Nat → Int32) (rl : Nat → Int64) (p0 : Int32) (sz : Nat) (hRi : mRi i) (hRr : mRr r) (q0 : 0 ≤ p0.toInt ∧ p0.toInt ≤ 5) : Met l yX12_feelsHome (Cond.code yX12_feelsHome cX12_feelsHome 3 none :: gT) { frames := 2, cells := 0, slots := 0, locals := 45 } (va_Pc [.ref (a 0), .int p0] (rQ D cy (mW cy a i r rl) sz)) (va_Qv (fun u : Nat → Nat → Int32 => mRr u ∧ mEr [33] r u ∧ (u 33 5 = (r 7 p0.toNatClampNeg - r 6 p0.toNatClampNeg) ∧ u 33 6 = r 4 p0.toNatClampNeg ∧ u 33 7 = r 3 p0.toNatClampNeg ∧ u 33 8 = 0 ∧ u 33 9 = 0 ∧ ∀ k9, k9 < 5 → u 33 k9 = 0)) (fun (u : Nat → Nat → Int32) t => va_P D vwCl (mW cy a i u rl) t.heap ∧ va_K D vwCl (vT cy) t ∧ va_D (va_A (mW cy a i r rl) sz) (mW cy a i u rl)) (va_A (mW cy a i r rl) sz)) 0 0 (va_A (mW cy a i r rl) sz) := by
  refine Met.ofQ (cc := cX12_feelsHome) (maxL := 3) (ret := none) (by decide) rfl ?_
  intro p e s m args below meth c s₁ B hml hv Q hQ
  obtain ⟨rfl, hsz, hP, hK, hD0⟩ := hv
  have hx := B.exec
  have hb := B.bytes
  have hr := B.returns
  have hlocks := B.notSynchronized
  have hT : ∀ w ∈ gT, w.before _ s = true := fun w h => atoms_spec (ws := (Cond.code yX12_feelsHome cX12_feelsHome 3 none :: gT)) B.pre w (List.mem_cons_of_mem _ h)
  have hown : s.vm.findClass RX12 = some m.cls := findClass_of_methodNamed B.named
  subst hsz
  have hD := hD0.self (sz := s.heap.size)
  generalize hAe : va_A (mW cy a i r rl) s.heap.size = A at hD hQ
  have hA : ∀ q : Nat, s.heap.size ≤ q → A q := fun q h => by rw [← hAe]; exact Or.inr h
  have hS : va_S A s.heap s.heap [] := va_S.rf
  have hl := lv_entry ([.ref (a 0), .int p0]) (n := 3) (Nat.le_of_ble_eq_true rfl)
  rw [lg_entry_eq]
  generalize (lg_sl ([.ref (a 0), .int p0]) ++ List.replicate (3 - (lg_sl ([.ref (a 0), .int p0])).length) Slot.unset).toArray = ls at hl ⊢
  have hl : lv_has ls 3 [(0, .ref (a 0)), (1, .int p0)] := hl
  have hEi : mEi [23, 24, 25, 26, 27, 28, 29, 30, 60] i i := Ei_rf
  have hEr : mEr [33] r r := Er_rf
  have hRr0 : mRr r := hRr
  refine lv_iconst (v := 0) hx hb dX12_feelsHome_0 (by decide) ?_
  refine lv_istore_n (lv' := [(2, .int 0), (0, .ref (a 0)), (1, .int p0)]) hx hb dX12_feelsHome_1 rfl hl (by decide) rfl (fun ls hl => ?_)
  have loop_1 : ∀ (n : Nat) (x1_2 : Int32) (r1 : Nat → Nat → Int32) (H : Heap) (locs : List Loc) (ls : Array Slot), (10 - x1_2.toInt).toNat < n → (0 ≤ x1_2.toInt ∧ x1_2.toInt ≤ 10) → mRr r1 → mEr [33] r r1 → (∀ k9, k9 < x1_2.toInt.toNat → r1 33 k9 = 0) → va_P D vwCl (mW cy a i r1 rl) H → va_D A (mW cy a i r1 rl) → va_S A s.heap H locs → lv_has ls 3 [(2, .int x1_2), (0, .ref (a 0)), (1, .int p0)] → W p l e ({ frames := 2, cells := 0, slots := 0, locals := 45 } : Room) s m ([.ref (a 0), .int p0] : List Value).toArray below meth c H locs 0 0 Q (F0 m 2 ls []) := by
    intro n
    induction n with
    | zero =>
      intro x1_2 r1 H locs ls hm1 hf1_0 hRr hEr hx1 hP hD hS hl
      exact absurd hm1 (by omega)
    | succ n ih1 =>
      intro x1_2 r1 H locs ls hm1 hf1_0 hRr hEr hx1 hP hD hS hl
      refine lv_iload_n hx hb dX12_feelsHome_2 rfl (lv_at hl 0 rfl) ?_
      refine lv_bipush (v := 10) hx hb dX12_feelsHome_3 (by decide) ?_
      refine lv_icmp_ge (tgt := 21) hx hb dX12_feelsHome_5 (by decide) (fun c_2 => ?_) (fun c_2 => ?_)
      · have c_2 : 10 ≤ x1_2.toInt := b_le c_2
        refine lv_aload_n hx hb dX12_feelsHome_21 rfl (lv_at hl 1 rfl) ?_
        refine va_get (D := D) (ci := 12) (v := .ref (a 33)) (C := RX12) (T := TX12) (N := 91) hx hb hT iX12 hown hK hP 0 rfl rfl 44 (by decide) (hT _ t_65) (fun _ h9 => h9) rfl dX12_feelsHome_22 ?_
        refine lv_iconst (v := 5) hx hb dX12_feelsHome_25 (by decide) ?_
        refine lv_aload_n hx hb dX12_feelsHome_26 rfl (lv_at hl 1 rfl) ?_
        refine lv_iload_n hx hb dX12_feelsHome_27 rfl (lv_at hl 2 rfl) ?_
        refine vp_callSi (W.runV (As := [.int p0]) (rest := [.int 5, .ref (a 33)]) ⟨hx, hb, hml, hown, hT⟩ (c_X12_monthsOf9 l D cy a i r1 rl p0 hRi hRr (by omega)) (cwV 1 hT (gV t_20 t_21 t_22 t_23 t_6) rfl rfl rfl (by decide +kernel) ⟨Nat.le_of_ble_eq_true rfl, Nat.le_of_ble_eq_true rfl⟩) (rP_v hP hK (va_recv hK hP (ci := 12) (q0 := 0) rfl rfl)) rfl rfl hl.1 rfl (lv_room (Nat.le_of_ble_eq_true rfl)) dX12_feelsHome_28 ⟨Nat.le_of_ble_eq_true rfl, Nat.le_of_ble_eq_true rfl⟩) (fun r_3 hr_3 => ?_)
        have hqr_3 : r_3.toInt = ((r1 7 p0.toNatClampNeg).toInt - (r1 6 p0.toNatClampNeg).toInt) := hr_3.1
        have hr_3 : -999 ≤ r_3.toInt ∧ r_3.toInt ≤ 999 := hr_3.2
        have hmr_3 : r_3 = (r 7 p0.toNatClampNeg - r 6 p0.toNatClampNeg) := mon_eq (by have h9 := hqr_3; rw [hEr 7 (by decide), hEr 6 (by decide)] at h9; exact h9) (hRr0 7 _) (hRr0 6 _)
        refine va_iast hx hb hK hP hD hS 33 0 rfl rfl (vp_inI (by decide) (by decide)) dX12_feelsHome_31 (fun H locs hP hD hS => ?_)
        rw [mS33] at hP hD
        have hRr : mRr (va_up r1 33 (upd (r1 33) ((5 : Int32).toNatClampNeg) r_3)) := Rr_upd hRr 33 ((5 : Int32).toNatClampNeg) r_3 (b_rg _)
        have hEr : mEr [33] _ (va_up r1 33 (upd (r1 33) ((5 : Int32).toNatClampNeg) r_3)) := Er_up hEr 33 _ (by decide)
        refine lv_aload_n hx hb dX12_feelsHome_32 rfl (lv_at hl 1 rfl) ?_
        refine va_get (D := D) (ci := 12) (v := .ref (a 33)) (C := RX12) (T := TX12) (N := 91) hx hb hT iX12 hown hK hP 0 rfl rfl 44 (by decide) (hT _ t_65) (fun _ h9 => h9) rfl dX12_feelsHome_33 ?_
        refine lv_bipush (v := 6) hx hb dX12_feelsHome_36 (by decide) ?_
        refine lv_aload_n hx hb dX12_feelsHome_38 rfl (lv_at hl 1 rfl) ?_
        refine va_get (D := D) (ci := 12) (v := .ref (a 4)) (C := RX12) (T := TX12) (N := 91) hx hb hT iX12 hown hK hP 0 rfl rfl 5 (by decide) (hT _ t_66) (fun _ h9 => h9) rfl dX12_feelsHome_39 ?_
        refine lv_iload_n hx hb dX12_feelsHome_42 rfl (lv_at hl 2 rfl) ?_
        refine va_iald hx hb hK hP 4 0 rfl rfl (vp_inI (by omega) (by omega)) dX12_feelsHome_43 ?_
        refine lv_topi (fun v_4 ev_4 => ?_)
        have hgv_4 : 0 ≤ v_4.toInt ∧ v_4.toInt ≤ 4 := by rw [ev_4]; exact hRr 4 _
        have hsv_4 : v_4 = r 4 p0.toNatClampNeg := ev_4.trans (congrFun (hEr 4 (by decide)) _)
        refine va_iast hx hb hK hP hD hS 33 0 rfl rfl (vp_inI (by decide) (by decide)) dX12_feelsHome_44 (fun H locs hP hD hS => ?_)
        rw [mS33] at hP hD
        have hRr : mRr (va_up (va_up r1 33 (upd (r1 33) ((5 : Int32).toNatClampNeg) r_3)) 33 (upd (upd (r1 33) ((5 : Int32).toNatClampNeg) r_3) ((6 : Int32).toNatClampNeg) v_4)) := Rr_upd hRr 33 ((6 : Int32).toNatClampNeg) v_4 (b_rg _)
        have hEr : mEr [33] _ (va_up (va_up r1 33 (upd (r1 33) ((5 : Int32).toNatClampNeg) r_3)) 33 (upd (upd (r1 33) ((5 : Int32).toNatClampNeg) r_3) ((6 : Int32).toNatClampNeg) v_4)) := Er_up hEr 33 _ (by decide)
        refine lv_aload_n hx hb dX12_feelsHome_45 rfl (lv_at hl 1 rfl) ?_
        refine va_get (D := D) (ci := 12) (v := .ref (a 33)) (C := RX12) (T := TX12) (N := 91) hx hb hT iX12 hown hK hP 0 rfl rfl 44 (by decide) (hT _ t_65) (fun _ h9 => h9) rfl dX12_feelsHome_46 ?_
        refine lv_bipush (v := 7) hx hb dX12_feelsHome_49 (by decide) ?_
        refine lv_aload_n hx hb dX12_feelsHome_51 rfl (lv_at hl 1 rfl) ?_
        refine va_get (D := D) (ci := 12) (v := .ref (a 3)) (C := RX12) (T := TX12) (N := 91) hx hb hT iX12 hown hK hP 0 rfl rfl 4 (by decide) (hT _ t_27) (fun _ h9 => h9) rfl dX12_feelsHome_52 ?_
        refine lv_iload_n hx hb dX12_feelsHome_55 rfl (lv_at hl 2 rfl) ?_
        refine va_iald hx hb hK hP 3 0 rfl rfl (vp_inI (by omega) (by omega)) dX12_feelsHome_56 ?_
        refine lv_topi (fun v_5 ev_5 => ?_)
        have hgv_5 : 0 ≤ v_5.toInt ∧ v_5.toInt ≤ 3 := by rw [ev_5]; exact hRr 3 _
        have hsv_5 : v_5 = r 3 p0.toNatClampNeg := ev_5.trans (congrFun (hEr 3 (by decide)) _)
        refine va_iast hx hb hK hP hD hS 33 0 rfl rfl (vp_inI (by decide) (by decide)) dX12_feelsHome_57 (fun H locs hP hD hS => ?_)
        rw [mS33] at hP hD
        have hRr : mRr (va_up (va_up (va_up r1 33 (upd (r1 33) ((5 : Int32).toNatClampNeg) r_3)) 33 (upd (upd (r1 33) ((5 : Int32).toNatClampNeg) r_3) ((6 : Int32).toNatClampNeg) v_4)) 33 (upd (upd (upd (r1 33) ((5 : Int32).toNatClampNeg) r_3) ((6 : Int32).toNatClampNeg) v_4) ((7 : Int32).toNatClampNeg) v_5)) := Rr_upd hRr 33 ((7 : Int32).toNatClampNeg) v_5 (b_rg _)
        have hEr : mEr [33] _ (va_up (va_up (va_up r1 33 (upd (r1 33) ((5 : Int32).toNatClampNeg) r_3)) 33 (upd (upd (r1 33) ((5 : Int32).toNatClampNeg) r_3) ((6 : Int32).toNatClampNeg) v_4)) 33 (upd (upd (upd (r1 33) ((5 : Int32).toNatClampNeg) r_3) ((6 : Int32).toNatClampNeg) v_4) ((7 : Int32).toNatClampNeg) v_5)) := Er_up hEr 33 _ (by decide)
        subst hQ
        have hz9 : ∀ k9, k9 < 10 → r1 33 k9 = 0 := fun k9 h9 => hx1 k9 (by omega)
        have h3 := ds3z (f := r1 33) (a := r_3) (b := v_4) (c := v_5) hz9
        have h4 := ds3 (f := r1 33) (a := r_3) (b := v_4) (c := v_5)
        exact W.vret hx hb hr (fun t ht hW => ⟨⟨(va_up (va_up (va_up r1 33 (upd (r1 33) ((5 : Int32).toNatClampNeg) r_3)) 33 (upd (upd (r1 33) ((5 : Int32).toNatClampNeg) r_3) ((6 : Int32).toNatClampNeg) v_4)) 33 (upd (upd (upd (r1 33) ((5 : Int32).toNatClampNeg) r_3) ((6 : Int32).toNatClampNeg) v_4) ((7 : Int32).toNatClampNeg) v_5)), rfl, ⟨hRr, hEr, ⟨h3.1.trans hmr_3, h3.2.1.trans hsv_4, h3.2.2.1.trans hsv_5, h3.2.2.2.1, h3.2.2.2.2, fun k9 h9 => (h4.2.2.2 k9 h9).trans (hz9 k9 (by omega))⟩⟩, by rw [ht]; exact hP, va_K.moved hW.alike hK, hD⟩, hS.F ht⟩) hS.2.2 dX12_feelsHome_58
      · have c_2 : x1_2.toInt < 10 := b_nle c_2
        refine lv_aload_n hx hb dX12_feelsHome_8 rfl (lv_at hl 1 rfl) ?_
        refine va_get (D := D) (ci := 12) (v := .ref (a 33)) (C := RX12) (T := TX12) (N := 91) hx hb hT iX12 hown hK hP 0 rfl rfl 44 (by decide) (hT _ t_65) (fun _ h9 => h9) rfl dX12_feelsHome_9 ?_
        refine lv_iload_n hx hb dX12_feelsHome_12 rfl (lv_at hl 0 rfl) ?_
        refine lv_iconst (v := 0) hx hb dX12_feelsHome_13 (by decide) ?_
        refine va_iast hx hb hK hP hD hS 33 0 rfl rfl (vp_inI (by omega) (by omega)) dX12_feelsHome_14 (fun H locs hP hD hS => ?_)
        rw [mS33] at hP hD
        have hRr : mRr (va_up r1 33 (upd (r1 33) x1_2.toNatClampNeg 0)) := Rr_upd hRr 33 (x1_2.toNatClampNeg) 0 (b_rg _)
        have hEr : mEr [33] _ (va_up r1 33 (upd (r1 33) x1_2.toNatClampNeg 0)) := Er_up hEr 33 _ (by decide)
        obtain ⟨x_6, ex_6⟩ : ∃ y : Int32, y = x1_2 + 1 := ⟨_, rfl⟩
        refine lv_iinc (v := x_6) (lv' := [(2, .int x_6), (0, .ref (a 0)), (1, .int p0)]) hx hb dX12_feelsHome_15 hl (k := 0) rfl (by rw [ex_6]; rfl) (by decide) rfl (fun ls hl => ?_)
        have hx_6 : x_6.toInt = x1_2.toInt + 1 := by rw [ex_6]; have := b_rg x1_2; exact i_add (a := x1_2.toInt) (b := 1) rfl rfl (by omega) (by omega)
        refine lv_goto (tgt := 2) hx hb dX12_feelsHome_18 (by decide) ?_
        exact ih1 x_6 (va_up r1 33 (upd (r1 33) x1_2.toNatClampNeg 0)) _ _ _ (by first | omega | (simp only [Int.toNat]; omega)) (by first | omega | decide) hRr hEr (fun k9 h9 => by show upd (r1 33) x1_2.toInt.toNat 0 k9 = 0; unfold upd; by_cases e9 : k9 = x1_2.toInt.toNat; (· rw [if_pos e9]); (· rw [if_neg e9]; exact hx1 k9 (by omega))) hP hD hS (lv_sub hl [0, 1, 2] rfl)
  exact loop_1 _ 0 r _ _ _ (Nat.lt_succ_self _) (by first | omega | decide) hRr hEr (fun k9 h9 => absurd (show k9 < 0 from h9) (Nat.not_lt_zero k9)) hP hD hS hl
set_option maxHeartbeats 4000000 in
set_option maxRecDepth 100000 in
theorem c_X12_feelsThing9 (l : Launch) (D : va_G) (cy : Nat → ClassId) (a : Nat → Nat) (i : Nat → Int32) (r : Nat → Nat → Int32) (rl : Nat → Int64) (p0 p1 : Int32) (sz : Nat) (hRi : mRi i) (hRr : mRr r) (q0 : 0 ≤ p0.toInt ∧ p0.toInt ≤ 5) (q1 : 0 ≤ p1.toInt ∧ p1.toInt ≤ 19) (qj : jOK r p1.toNatClampNeg) : Met l yX12_feelsThing (Cond.code yX12_feelsThing cX12_feelsThing 3 none :: gT) { frames := 3, cells := 0, slots := 0, locals := 67 } (va_Pc [.ref (a 0), .int p0, .int p1] (rQ D cy (mW cy a i r rl) sz)) (va_Qv (fun u : Nat → Nat → Int32 => mRr u ∧ mEr [33] r u ∧ (∀ k9, k9 < 10 → u 33 k9 = faL (mTh r (r 34) p0.toNatClampNeg p1.toNatClampNeg 0 0) k9)) (fun (u : Nat → Nat → Int32) t => va_P D vwCl (mW cy a i u rl) t.heap ∧ va_K D vwCl (vT cy) t ∧ va_D (va_A (mW cy a i r rl) sz) (mW cy a i u rl)) (va_A (mW cy a i r rl) sz)) 0 0 (va_A (mW cy a i r rl) sz) := by
  refine Met.ofQ (cc := cX12_feelsThing) (maxL := 3) (ret := none) (by decide) rfl ?_
  intro p e s m args below meth c s₁ B hml hv Q hQ
  obtain ⟨rfl, hsz, hP, hK, hD0⟩ := hv
  have hx := B.exec
  have hb := B.bytes
  have hr := B.returns
  have hlocks := B.notSynchronized
  have hT : ∀ w ∈ gT, w.before _ s = true := fun w h => atoms_spec (ws := (Cond.code yX12_feelsThing cX12_feelsThing 3 none :: gT)) B.pre w (List.mem_cons_of_mem _ h)
  have hown : s.vm.findClass RX12 = some m.cls := findClass_of_methodNamed B.named
  subst hsz
  have hD := hD0.self (sz := s.heap.size)
  generalize hAe : va_A (mW cy a i r rl) s.heap.size = A at hD hQ
  have hA : ∀ q : Nat, s.heap.size ≤ q → A q := fun q h => by rw [← hAe]; exact Or.inr h
  have hS : va_S A s.heap s.heap [] := va_S.rf
  have hl := lv_entry ([.ref (a 0), .int p0, .int p1]) (n := 3) (Nat.le_of_ble_eq_true rfl)
  rw [lg_entry_eq]
  generalize (lg_sl ([.ref (a 0), .int p0, .int p1]) ++ List.replicate (3 - (lg_sl ([.ref (a 0), .int p0, .int p1])).length) Slot.unset).toArray = ls at hl ⊢
  have hl : lv_has ls 3 [(0, .ref (a 0)), (1, .int p0), (2, .int p1)] := hl
  have hEi : mEi [23, 24, 25, 26, 27, 28, 29, 30, 60] i i := Ei_rf
  have hEr : mEr [33] r r := Er_rf
  have hJ : r 34 = r 34 := rfl
  have hI20 : (20 * p0.toInt + p1.toInt).toNat = (20 * p0.toNatClampNeg + p1.toNatClampNeg) := by show _ = 20 * p0.toInt.toNat + p1.toInt.toNat; omega
  refine lv_aload_n hx hb dX12_feelsThing_0 rfl (lv_at hl 0 rfl) ?_
  refine lv_iload_n hx hb dX12_feelsThing_1 rfl (lv_at hl 1 rfl) ?_
  have hF_1 := rF hD hS hA
  refine va_callv (va_runV (As := [.int p0]) (rest := []) ⟨hx, hb, hml, hown, hT⟩ (c_X12_feelsHome9 l D cy a i r rl p0 _ hRi hRr (by omega)) (cwV 1 hT (gV t_67 t_68 t_69 t_70 t_6) rfl rfl rfl (by decide +kernel) ⟨Nat.le_of_ble_eq_true rfl, Nat.le_of_ble_eq_true rfl⟩) (rQ_v hP hK hD (va_recv hK hP (ci := 12) (q0 := 0) rfl rfl)) rfl rfl hl.1 rfl (lv_room (Nat.le_of_ble_eq_true rfl)) dX12_feelsThing_2 ⟨Nat.le_of_ble_eq_true rfl, Nat.le_of_ble_eq_true rfl⟩) hS (fun q _ h => hF_1 q h) hF_1 (fun u_3 t H1 locs ht hvm hr_2 hB hz1 hk1 hS => ?_)
  obtain ⟨r3, rfl⟩ : ∃ z, z = u_3 := ⟨_, rfl⟩
  obtain ⟨hP, hK1, hD1⟩ := hB
  rw [ht] at hP
  have hD := hD1.weaken (fun k q _ h => hF_1 q.1 h)
  have hP : va_P D vwCl (mW cy a i r3 rl) H1 := hP
  have hD : va_D A (mW cy a i r3 rl) := hD
  obtain ⟨hRr, hE2, hr_2⟩ := hr_2
  have hRr : mRr r3 := hRr
  have hEr : mEr [33] _ r3 := Er_tr hEr hE2 (by decide)
  have hqr_2 : r3 33 5 = (r 7 p0.toNatClampNeg - r 6 p0.toNatClampNeg) ∧ r3 33 6 = r 4 p0.toNatClampNeg ∧ r3 33 7 = r 3 p0.toNatClampNeg ∧ r3 33 8 = 0 ∧ r3 33 9 = 0 ∧ ∀ k9, k9 < 5 → r3 33 k9 = 0 := hr_2
  have hJ : r3 34 = r 34 := (hE2 34 (by decide)).trans hJ
  have hfh := hqr_2
  refine lv_aload_n hx hb dX12_feelsThing_5 rfl (lv_at hl 0 rfl) ?_
  refine va_get (D := D) (ci := 12) (v := .ref (a 33)) (C := RX12) (T := TX12) (N := 91) hx hb hT iX12 hown hK hP 0 rfl rfl 44 (by decide) (hT _ t_65) (fun _ h9 => h9) rfl dX12_feelsThing_6 ?_
  refine lv_iconst (v := 0) hx hb dX12_feelsThing_9 (by decide) ?_
  refine lv_aload_n hx hb dX12_feelsThing_10 rfl (lv_at hl 0 rfl) ?_
  refine va_get (D := D) (ci := 12) (v := .ref (a 13)) (C := RX12) (T := TX12) (N := 91) hx hb hT iX12 hown hK hP 0 rfl rfl 14 (by decide) (hT _ t_24) (fun _ h9 => h9) rfl dX12_feelsThing_11 ?_
  refine lv_bipush (v := 20) hx hb dX12_feelsThing_14 (by decide) ?_
  refine lv_iload_n hx hb dX12_feelsThing_16 rfl (lv_at hl 1 rfl) ?_
  refine lv_imul hx hb dX12_feelsThing_17 ?_
  refine lv_topi (fun v_4 ev_4 => ?_)
  have hv_4 : v_4.toInt = 20 * p0.toInt := by rw [ev_4]; have := b_rg p0; exact i_mul (a := 20) (b := p0.toInt) rfl rfl (by omega) (by omega)
  refine lv_iload_n hx hb dX12_feelsThing_18 rfl (lv_at hl 2 rfl) ?_
  refine lv_iadd hx hb dX12_feelsThing_19 ?_
  refine lv_topi (fun v_5 ev_5 => ?_)
  have hv_5 : v_5.toInt = v_4.toInt + p1.toInt := by rw [ev_5]; have := b_rg v_4; have := b_rg p1; exact i_add (a := v_4.toInt) (b := p1.toInt) rfl rfl (by omega) (by omega)
  refine va_iald hx hb hK hP 13 0 rfl rfl (vp_inI (by omega) (by omega)) dX12_feelsThing_20 ?_
  refine lv_topi (fun v_6 ev_6 => ?_)
  have hgv_6 : 0 ≤ v_6.toInt ∧ v_6.toInt ≤ 7 := by rw [ev_6]; exact hRr 13 _
  have hwv_6 : v_6 = r3 13 (((20 * p0.toInt) + p1.toInt)).toNat := by rw [ev_6]; exact congrArg (r3 13) (by show v_5.toInt.toNat = _; omega)
  have hsv_6 : v_6 = r 13 (20 * p0.toNatClampNeg + p1.toNatClampNeg) := by rw [hwv_6, hI20]; exact congrFun (hEr 13 (by decide)) _
  refine va_iast hx hb hK hP hD hS 33 0 rfl rfl (vp_inI (by decide) (by decide)) dX12_feelsThing_21 (fun H locs hP hD hS => ?_)
  rw [mS33] at hP hD
  have hRr : mRr (va_up r3 33 (upd (r3 33) ((0 : Int32).toNatClampNeg) v_6)) := Rr_upd hRr 33 ((0 : Int32).toNatClampNeg) v_6 (b_rg _)
  have hEr : mEr [33] _ (va_up r3 33 (upd (r3 33) ((0 : Int32).toNatClampNeg) v_6)) := Er_up hEr 33 _ (by decide)
  refine lv_aload_n hx hb dX12_feelsThing_22 rfl (lv_at hl 0 rfl) ?_
  refine va_get (D := D) (ci := 12) (v := .ref (a 33)) (C := RX12) (T := TX12) (N := 91) hx hb hT iX12 hown hK hP 0 rfl rfl 44 (by decide) (hT _ t_65) (fun _ h9 => h9) rfl dX12_feelsThing_23 ?_
  refine lv_iconst (v := 1) hx hb dX12_feelsThing_26 (by decide) ?_
  refine lv_aload_n hx hb dX12_feelsThing_27 rfl (lv_at hl 0 rfl) ?_
  refine va_get (D := D) (ci := 12) (v := .ref (a 12)) (C := RX12) (T := TX12) (N := 91) hx hb hT iX12 hown hK hP 0 rfl rfl 13 (by decide) (hT _ t_30) (fun _ h9 => h9) rfl dX12_feelsThing_28 ?_
  refine lv_bipush (v := 20) hx hb dX12_feelsThing_31 (by decide) ?_
  refine lv_iload_n hx hb dX12_feelsThing_33 rfl (lv_at hl 1 rfl) ?_
  refine lv_imul hx hb dX12_feelsThing_34 ?_
  refine lv_topi (fun v_7 ev_7 => ?_)
  have hv_7 : v_7.toInt = 20 * p0.toInt := by rw [ev_7]; have := b_rg p0; exact i_mul (a := 20) (b := p0.toInt) rfl rfl (by omega) (by omega)
  refine lv_iload_n hx hb dX12_feelsThing_35 rfl (lv_at hl 2 rfl) ?_
  refine lv_iadd hx hb dX12_feelsThing_36 ?_
  refine lv_topi (fun v_8 ev_8 => ?_)
  have hv_8 : v_8.toInt = v_7.toInt + p1.toInt := by rw [ev_8]; have := b_rg v_7; have := b_rg p1; exact i_add (a := v_7.toInt) (b := p1.toInt) rfl rfl (by omega) (by omega)
  refine va_iald hx hb hK hP 12 0 rfl rfl (vp_inI (by omega) (by omega)) dX12_feelsThing_37 ?_
  refine lv_topi (fun v_9 ev_9 => ?_)
  have hgv_9 : 0 ≤ v_9.toInt ∧ v_9.toInt ≤ 9 := by rw [ev_9]; exact hRr 12 _
  have hwv_9 : v_9 = r3 12 (((20 * p0.toInt) + p1.toInt)).toNat := by rw [ev_9]; exact congrArg (r3 12) (by show v_8.toInt.toNat = _; omega)
  have hsv_9 : v_9 = r 12 (20 * p0.toNatClampNeg + p1.toNatClampNeg) := by rw [hwv_9, hI20]; exact congrFun (hEr 12 (by decide)) _
  refine va_iast hx hb hK hP hD hS 33 0 rfl rfl (vp_inI (by decide) (by decide)) dX12_feelsThing_38 (fun H locs hP hD hS => ?_)
  rw [mS33] at hP hD
  have hRr : mRr (va_up (va_up r3 33 (upd (r3 33) ((0 : Int32).toNatClampNeg) v_6)) 33 (upd (upd (r3 33) ((0 : Int32).toNatClampNeg) v_6) ((1 : Int32).toNatClampNeg) v_9)) := Rr_upd hRr 33 ((1 : Int32).toNatClampNeg) v_9 (b_rg _)
  have hEr : mEr [33] _ (va_up (va_up r3 33 (upd (r3 33) ((0 : Int32).toNatClampNeg) v_6)) 33 (upd (upd (r3 33) ((0 : Int32).toNatClampNeg) v_6) ((1 : Int32).toNatClampNeg) v_9)) := Er_up hEr 33 _ (by decide)
  refine lv_aload_n hx hb dX12_feelsThing_39 rfl (lv_at hl 0 rfl) ?_
  refine va_get (D := D) (ci := 12) (v := .ref (a 33)) (C := RX12) (T := TX12) (N := 91) hx hb hT iX12 hown hK hP 0 rfl rfl 44 (by decide) (hT _ t_65) (fun _ h9 => h9) rfl dX12_feelsThing_40 ?_
  refine lv_iconst (v := 2) hx hb dX12_feelsThing_43 (by decide) ?_
  refine lv_aload_n hx hb dX12_feelsThing_44 rfl (lv_at hl 0 rfl) ?_
  refine va_get (D := D) (ci := 12) (v := .ref (a 14)) (C := RX12) (T := TX12) (N := 91) hx hb hT iX12 hown hK hP 0 rfl rfl 15 (by decide) (hT _ t_38) (fun _ h9 => h9) rfl dX12_feelsThing_45 ?_
  refine lv_bipush (v := 20) hx hb dX12_feelsThing_48 (by decide) ?_
  refine lv_iload_n hx hb dX12_feelsThing_50 rfl (lv_at hl 1 rfl) ?_
  refine lv_imul hx hb dX12_feelsThing_51 ?_
  refine lv_topi (fun v_10 ev_10 => ?_)
  have hv_10 : v_10.toInt = 20 * p0.toInt := by rw [ev_10]; have := b_rg p0; exact i_mul (a := 20) (b := p0.toInt) rfl rfl (by omega) (by omega)
  refine lv_iload_n hx hb dX12_feelsThing_52 rfl (lv_at hl 2 rfl) ?_
  refine lv_iadd hx hb dX12_feelsThing_53 ?_
  refine lv_topi (fun v_11 ev_11 => ?_)
  have hv_11 : v_11.toInt = v_10.toInt + p1.toInt := by rw [ev_11]; have := b_rg v_10; have := b_rg p1; exact i_add (a := v_10.toInt) (b := p1.toInt) rfl rfl (by omega) (by omega)
  refine va_iald hx hb hK hP 14 0 rfl rfl (vp_inI (by omega) (by omega)) dX12_feelsThing_54 ?_
  refine lv_topi (fun v_12 ev_12 => ?_)
  have hgv_12 : 0 ≤ v_12.toInt ∧ v_12.toInt ≤ 9 := by rw [ev_12]; exact hRr 14 _
  have hwv_12 : v_12 = r3 14 (((20 * p0.toInt) + p1.toInt)).toNat := by rw [ev_12]; exact congrArg (r3 14) (by show v_11.toInt.toNat = _; omega)
  have hsv_12 : v_12 = r 14 (20 * p0.toNatClampNeg + p1.toNatClampNeg) := by rw [hwv_12, hI20]; exact congrFun (hEr 14 (by decide)) _
  refine va_iast hx hb hK hP hD hS 33 0 rfl rfl (vp_inI (by decide) (by decide)) dX12_feelsThing_55 (fun H locs hP hD hS => ?_)
  rw [mS33] at hP hD
  have hRr : mRr (va_up (va_up (va_up r3 33 (upd (r3 33) ((0 : Int32).toNatClampNeg) v_6)) 33 (upd (upd (r3 33) ((0 : Int32).toNatClampNeg) v_6) ((1 : Int32).toNatClampNeg) v_9)) 33 (upd (upd (upd (r3 33) ((0 : Int32).toNatClampNeg) v_6) ((1 : Int32).toNatClampNeg) v_9) ((2 : Int32).toNatClampNeg) v_12)) := Rr_upd hRr 33 ((2 : Int32).toNatClampNeg) v_12 (b_rg _)
  have hEr : mEr [33] _ (va_up (va_up (va_up r3 33 (upd (r3 33) ((0 : Int32).toNatClampNeg) v_6)) 33 (upd (upd (r3 33) ((0 : Int32).toNatClampNeg) v_6) ((1 : Int32).toNatClampNeg) v_9)) 33 (upd (upd (upd (r3 33) ((0 : Int32).toNatClampNeg) v_6) ((1 : Int32).toNatClampNeg) v_9) ((2 : Int32).toNatClampNeg) v_12)) := Er_up hEr 33 _ (by decide)
  refine lv_aload_n hx hb dX12_feelsThing_56 rfl (lv_at hl 0 rfl) ?_
  refine va_get (D := D) (ci := 12) (v := .ref (a 33)) (C := RX12) (T := TX12) (N := 91) hx hb hT iX12 hown hK hP 0 rfl rfl 44 (by decide) (hT _ t_65) (fun _ h9 => h9) rfl dX12_feelsThing_57 ?_
  refine lv_iconst (v := 3) hx hb dX12_feelsThing_60 (by decide) ?_
  refine lv_aload_n hx hb dX12_feelsThing_61 rfl (lv_at hl 0 rfl) ?_
  refine lv_iload_n hx hb dX12_feelsThing_62 rfl (lv_at hl 1 rfl) ?_
  refine lv_iload_n hx hb dX12_feelsThing_63 rfl (lv_at hl 2 rfl) ?_
  refine vp_callSi (W.runV (As := [.int p0, .int p1]) (rest := [.int 3, .ref (a 33)]) ⟨hx, hb, hml, hown, hT⟩ (c_X12_stateAtLast9 l D cy a i (va_up (va_up (va_up r3 33 (upd (r3 33) ((0 : Int32).toNatClampNeg) v_6)) 33 (upd (upd (r3 33) ((0 : Int32).toNatClampNeg) v_6) ((1 : Int32).toNatClampNeg) v_9)) 33 (upd (upd (upd (r3 33) ((0 : Int32).toNatClampNeg) v_6) ((1 : Int32).toNatClampNeg) v_9) ((2 : Int32).toNatClampNeg) v_12)) rl p0 p1 hRi hRr (by omega) (by omega) (jOK_ee (congrFun (hJ : (va_up (va_up (va_up r3 33 (upd (r3 33) ((0 : Int32).toNatClampNeg) v_6)) 33 (upd (upd (r3 33) ((0 : Int32).toNatClampNeg) v_6) ((1 : Int32).toNatClampNeg) v_9)) 33 (upd (upd (upd (r3 33) ((0 : Int32).toNatClampNeg) v_6) ((1 : Int32).toNatClampNeg) v_9) ((2 : Int32).toNatClampNeg) v_12)) 34 = r 34) _) qj)) (cwV 2 hT (gV t_34 t_35 t_36 t_37 t_6) rfl rfl rfl (by decide +kernel) ⟨Nat.le_of_ble_eq_true rfl, Nat.le_of_ble_eq_true rfl⟩) (rP_v hP hK (va_recv hK hP (ci := 12) (q0 := 0) rfl rfl)) rfl rfl hl.1 rfl (lv_room (Nat.le_of_ble_eq_true rfl)) dX12_feelsThing_64 ⟨Nat.le_of_ble_eq_true rfl, Nat.le_of_ble_eq_true rfl⟩) (fun r_13 hr_13 => ?_)
  have hqr_13 : r_13.toInt = lkM ((va_up (va_up (va_up r3 33 (upd (r3 33) ((0 : Int32).toNatClampNeg) v_6)) 33 (upd (upd (r3 33) ((0 : Int32).toNatClampNeg) v_6) ((1 : Int32).toNatClampNeg) v_9)) 33 (upd (upd (upd (r3 33) ((0 : Int32).toNatClampNeg) v_6) ((1 : Int32).toNatClampNeg) v_9) ((2 : Int32).toNatClampNeg) v_12)) 34) (gjH ((va_up (va_up (va_up r3 33 (upd (r3 33) ((0 : Int32).toNatClampNeg) v_6)) 33 (upd (upd (r3 33) ((0 : Int32).toNatClampNeg) v_6) ((1 : Int32).toNatClampNeg) v_9)) 33 (upd (upd (upd (r3 33) ((0 : Int32).toNatClampNeg) v_6) ((1 : Int32).toNatClampNeg) v_9) ((2 : Int32).toNatClampNeg) v_12)) 18) p0.toNatClampNeg) p1.toNatClampNeg := hr_13.1
  have hr_13 : 0 ≤ r_13.toInt ∧ r_13.toInt ≤ 9 := hr_13.2
  have hsr_13 : r_13 = nI (lkM (r 34) (gjH (r 18) p0.toNatClampNeg) p1.toNatClampNeg).toNat := by have h9 := hqr_13; rw [hEr 34 (by decide), hEr 18 (by decide)] at h9; exact nI_eqi h9 (by rw [← h9]; omega)
  refine va_iast hx hb hK hP hD hS 33 0 rfl rfl (vp_inI (by decide) (by decide)) dX12_feelsThing_67 (fun H locs hP hD hS => ?_)
  rw [mS33] at hP hD
  have hRr : mRr (va_up (va_up (va_up (va_up r3 33 (upd (r3 33) ((0 : Int32).toNatClampNeg) v_6)) 33 (upd (upd (r3 33) ((0 : Int32).toNatClampNeg) v_6) ((1 : Int32).toNatClampNeg) v_9)) 33 (upd (upd (upd (r3 33) ((0 : Int32).toNatClampNeg) v_6) ((1 : Int32).toNatClampNeg) v_9) ((2 : Int32).toNatClampNeg) v_12)) 33 (upd (upd (upd (upd (r3 33) ((0 : Int32).toNatClampNeg) v_6) ((1 : Int32).toNatClampNeg) v_9) ((2 : Int32).toNatClampNeg) v_12) ((3 : Int32).toNatClampNeg) r_13)) := Rr_upd hRr 33 ((3 : Int32).toNatClampNeg) r_13 (b_rg _)
  have hEr : mEr [33] _ (va_up (va_up (va_up (va_up r3 33 (upd (r3 33) ((0 : Int32).toNatClampNeg) v_6)) 33 (upd (upd (r3 33) ((0 : Int32).toNatClampNeg) v_6) ((1 : Int32).toNatClampNeg) v_9)) 33 (upd (upd (upd (r3 33) ((0 : Int32).toNatClampNeg) v_6) ((1 : Int32).toNatClampNeg) v_9) ((2 : Int32).toNatClampNeg) v_12)) 33 (upd (upd (upd (upd (r3 33) ((0 : Int32).toNatClampNeg) v_6) ((1 : Int32).toNatClampNeg) v_9) ((2 : Int32).toNatClampNeg) v_12) ((3 : Int32).toNatClampNeg) r_13)) := Er_up hEr 33 _ (by decide)
  refine lv_aload_n hx hb dX12_feelsThing_68 rfl (lv_at hl 0 rfl) ?_
  refine va_get (D := D) (ci := 12) (v := .ref (a 33)) (C := RX12) (T := TX12) (N := 91) hx hb hT iX12 hown hK hP 0 rfl rfl 44 (by decide) (hT _ t_65) (fun _ h9 => h9) rfl dX12_feelsThing_69 ?_
  refine lv_iconst (v := 4) hx hb dX12_feelsThing_72 (by decide) ?_
  refine lv_aload_n hx hb dX12_feelsThing_73 rfl (lv_at hl 0 rfl) ?_
  refine lv_iload_n hx hb dX12_feelsThing_74 rfl (lv_at hl 1 rfl) ?_
  refine lv_iload_n hx hb dX12_feelsThing_75 rfl (lv_at hl 2 rfl) ?_
  refine vp_callSi (W.runV (As := [.int p0, .int p1]) (rest := [.int 4, .ref (a 33)]) ⟨hx, hb, hml, hown, hT⟩ (c_X12_agedOf9 l D cy a i (va_up (va_up (va_up (va_up r3 33 (upd (r3 33) ((0 : Int32).toNatClampNeg) v_6)) 33 (upd (upd (r3 33) ((0 : Int32).toNatClampNeg) v_6) ((1 : Int32).toNatClampNeg) v_9)) 33 (upd (upd (upd (r3 33) ((0 : Int32).toNatClampNeg) v_6) ((1 : Int32).toNatClampNeg) v_9) ((2 : Int32).toNatClampNeg) v_12)) 33 (upd (upd (upd (upd (r3 33) ((0 : Int32).toNatClampNeg) v_6) ((1 : Int32).toNatClampNeg) v_9) ((2 : Int32).toNatClampNeg) v_12) ((3 : Int32).toNatClampNeg) r_13)) rl p0 p1 hRi hRr (by omega) (by omega)) (cwV 2 hT (gV t_71 t_72 t_73 t_74 t_6) rfl rfl rfl (by decide +kernel) ⟨Nat.le_of_ble_eq_true rfl, Nat.le_of_ble_eq_true rfl⟩) (rP_v hP hK (va_recv hK hP (ci := 12) (q0 := 0) rfl rfl)) rfl rfl hl.1 rfl (lv_room (Nat.le_of_ble_eq_true rfl)) dX12_feelsThing_76 ⟨Nat.le_of_ble_eq_true rfl, Nat.le_of_ble_eq_true rfl⟩) (fun r_14 hr_14 => ?_)
  have hqr_14 : r_14 = (va_up (va_up (va_up (va_up r3 33 (upd (r3 33) ((0 : Int32).toNatClampNeg) v_6)) 33 (upd (upd (r3 33) ((0 : Int32).toNatClampNeg) v_6) ((1 : Int32).toNatClampNeg) v_9)) 33 (upd (upd (upd (r3 33) ((0 : Int32).toNatClampNeg) v_6) ((1 : Int32).toNatClampNeg) v_9) ((2 : Int32).toNatClampNeg) v_12)) 33 (upd (upd (upd (upd (r3 33) ((0 : Int32).toNatClampNeg) v_6) ((1 : Int32).toNatClampNeg) v_9) ((2 : Int32).toNatClampNeg) v_12) ((3 : Int32).toNatClampNeg) r_13)) 15 (20 * p0.toNatClampNeg + p1.toNatClampNeg) + ((va_up (va_up (va_up (va_up r3 33 (upd (r3 33) ((0 : Int32).toNatClampNeg) v_6)) 33 (upd (upd (r3 33) ((0 : Int32).toNatClampNeg) v_6) ((1 : Int32).toNatClampNeg) v_9)) 33 (upd (upd (upd (r3 33) ((0 : Int32).toNatClampNeg) v_6) ((1 : Int32).toNatClampNeg) v_9) ((2 : Int32).toNatClampNeg) v_12)) 33 (upd (upd (upd (upd (r3 33) ((0 : Int32).toNatClampNeg) v_6) ((1 : Int32).toNatClampNeg) v_9) ((2 : Int32).toNatClampNeg) v_12) ((3 : Int32).toNatClampNeg) r_13)) 7 p0.toNatClampNeg - (va_up (va_up (va_up (va_up r3 33 (upd (r3 33) ((0 : Int32).toNatClampNeg) v_6)) 33 (upd (upd (r3 33) ((0 : Int32).toNatClampNeg) v_6) ((1 : Int32).toNatClampNeg) v_9)) 33 (upd (upd (upd (r3 33) ((0 : Int32).toNatClampNeg) v_6) ((1 : Int32).toNatClampNeg) v_9) ((2 : Int32).toNatClampNeg) v_12)) 33 (upd (upd (upd (upd (r3 33) ((0 : Int32).toNatClampNeg) v_6) ((1 : Int32).toNatClampNeg) v_9) ((2 : Int32).toNatClampNeg) v_12) ((3 : Int32).toNatClampNeg) r_13)) 6 p0.toNatClampNeg) := hr_14
  have hsr_14 : r_14 = r 15 (20 * p0.toNatClampNeg + p1.toNatClampNeg) + (r 7 p0.toNatClampNeg - r 6 p0.toNatClampNeg) := by have h9 := hqr_14; rw [hEr 15 (by decide), hEr 7 (by decide), hEr 6 (by decide)] at h9; exact h9
  refine va_iast hx hb hK hP hD hS 33 0 rfl rfl (vp_inI (by decide) (by decide)) dX12_feelsThing_79 (fun H locs hP hD hS => ?_)
  rw [mS33] at hP hD
  have hRr : mRr (va_up (va_up (va_up (va_up (va_up r3 33 (upd (r3 33) ((0 : Int32).toNatClampNeg) v_6)) 33 (upd (upd (r3 33) ((0 : Int32).toNatClampNeg) v_6) ((1 : Int32).toNatClampNeg) v_9)) 33 (upd (upd (upd (r3 33) ((0 : Int32).toNatClampNeg) v_6) ((1 : Int32).toNatClampNeg) v_9) ((2 : Int32).toNatClampNeg) v_12)) 33 (upd (upd (upd (upd (r3 33) ((0 : Int32).toNatClampNeg) v_6) ((1 : Int32).toNatClampNeg) v_9) ((2 : Int32).toNatClampNeg) v_12) ((3 : Int32).toNatClampNeg) r_13)) 33 (upd (upd (upd (upd (upd (r3 33) ((0 : Int32).toNatClampNeg) v_6) ((1 : Int32).toNatClampNeg) v_9) ((2 : Int32).toNatClampNeg) v_12) ((3 : Int32).toNatClampNeg) r_13) ((4 : Int32).toNatClampNeg) r_14)) := Rr_upd hRr 33 ((4 : Int32).toNatClampNeg) r_14 (b_rg _)
  have hEr : mEr [33] _ (va_up (va_up (va_up (va_up (va_up r3 33 (upd (r3 33) ((0 : Int32).toNatClampNeg) v_6)) 33 (upd (upd (r3 33) ((0 : Int32).toNatClampNeg) v_6) ((1 : Int32).toNatClampNeg) v_9)) 33 (upd (upd (upd (r3 33) ((0 : Int32).toNatClampNeg) v_6) ((1 : Int32).toNatClampNeg) v_9) ((2 : Int32).toNatClampNeg) v_12)) 33 (upd (upd (upd (upd (r3 33) ((0 : Int32).toNatClampNeg) v_6) ((1 : Int32).toNatClampNeg) v_9) ((2 : Int32).toNatClampNeg) v_12) ((3 : Int32).toNatClampNeg) r_13)) 33 (upd (upd (upd (upd (upd (r3 33) ((0 : Int32).toNatClampNeg) v_6) ((1 : Int32).toNatClampNeg) v_9) ((2 : Int32).toNatClampNeg) v_12) ((3 : Int32).toNatClampNeg) r_13) ((4 : Int32).toNatClampNeg) r_14)) := Er_up hEr 33 _ (by decide)
  subst hQ
  have h5 := ds5 (f := r3 33) (a := v_6) (b := v_9) (c := v_12) (d := r_13) (e := r_14)
  have h6 := ds5b (f := r3 33) (a := v_6) (b := v_9) (c := v_12) (d := r_13) (e := r_14)
  obtain ⟨a5, a6, a7, a8, a9, _⟩ := hfh
  exact W.vret hx hb hr (fun t ht hW => ⟨⟨(va_up (va_up (va_up (va_up (va_up r3 33 (upd (r3 33) ((0 : Int32).toNatClampNeg) v_6)) 33 (upd (upd (r3 33) ((0 : Int32).toNatClampNeg) v_6) ((1 : Int32).toNatClampNeg) v_9)) 33 (upd (upd (upd (r3 33) ((0 : Int32).toNatClampNeg) v_6) ((1 : Int32).toNatClampNeg) v_9) ((2 : Int32).toNatClampNeg) v_12)) 33 (upd (upd (upd (upd (r3 33) ((0 : Int32).toNatClampNeg) v_6) ((1 : Int32).toNatClampNeg) v_9) ((2 : Int32).toNatClampNeg) v_12) ((3 : Int32).toNatClampNeg) r_13)) 33 (upd (upd (upd (upd (upd (r3 33) ((0 : Int32).toNatClampNeg) v_6) ((1 : Int32).toNatClampNeg) v_9) ((2 : Int32).toNatClampNeg) v_12) ((3 : Int32).toNatClampNeg) r_13) ((4 : Int32).toNatClampNeg) r_14)), rfl, ⟨hRr, hEr, (fa10 (h5.1.trans hsv_6) (h5.2.1.trans hsv_9) (h5.2.2.1.trans hsv_12) (h5.2.2.2.1.trans hsr_13) (h5.2.2.2.2.trans hsr_14) ((h6 5 (by decide)).trans a5) ((h6 6 (by decide)).trans a6) ((h6 7 (by decide)).trans a7) ((h6 8 (by decide)).trans a8) ((h6 9 (by decide)).trans a9))⟩, by rw [ht]; exact hP, va_K.moved hW.alike hK, hD⟩, hS.F ht⟩) hS.2.2 dX12_feelsThing_80
set_option maxHeartbeats 4000000 in
set_option maxRecDepth 100000 in
theorem c_X12_wearOf9 (l : Launch) (D : va_G) (cy : Nat → ClassId) (a : Nat → Nat) (i : Nat → Int32) (r : Nat → Nat → Int32) (rl : Nat → Int64) (p0 p1 : Int32) (sz : Nat) (hRi : mRi i) (hRr : mRr r) (hE : mE i r) (q0 : 0 ≤ p0.toInt ∧ p0.toInt ≤ 5) (q1 : 0 ≤ p1.toInt ∧ p1.toInt ≤ 19) (qj : jOK r p1.toNatClampNeg) : Met l yX12_wearOf (Cond.code yX12_wearOf cX12_wearOf 3 (some .int) :: gT) { frames := 4, cells := 0, slots := 0, locals := 98 } (va_Pc [.ref (a 0), .int p0, .int p1] (rQ D cy (mW cy a i r rl) sz)) (va_Qi (fun (z : Int32) (u : Nat → Nat → Int32) => mRr u ∧ mEr [32, 33] r u ∧ (z = mWe (mD i r) r (r 34) p0.toNatClampNeg p1.toNatClampNeg)) (fun (u : Nat → Nat → Int32) t => va_P D vwCl (mW cy a i u rl) t.heap ∧ va_K D vwCl (vT cy) t ∧ va_D (va_A (mW cy a i r rl) sz) (mW cy a i u rl)) (va_A (mW cy a i r rl) sz)) 0 0 (va_A (mW cy a i r rl) sz) := by
  refine Met.ofQ (cc := cX12_wearOf) (maxL := 3) (ret := (some .int)) (by decide) rfl ?_
  intro p e s m args below meth c s₁ B hml hv Q hQ
  obtain ⟨rfl, hsz, hP, hK, hD0⟩ := hv
  have hx := B.exec
  have hb := B.bytes
  have hr := B.returns
  have hlocks := B.notSynchronized
  have hT : ∀ w ∈ gT, w.before _ s = true := fun w h => atoms_spec (ws := (Cond.code yX12_wearOf cX12_wearOf 3 (some .int) :: gT)) B.pre w (List.mem_cons_of_mem _ h)
  have hown : s.vm.findClass RX12 = some m.cls := findClass_of_methodNamed B.named
  subst hsz
  have hD := hD0.self (sz := s.heap.size)
  generalize hAe : va_A (mW cy a i r rl) s.heap.size = A at hD hQ
  have hA : ∀ q : Nat, s.heap.size ≤ q → A q := fun q h => by rw [← hAe]; exact Or.inr h
  have hS : va_S A s.heap s.heap [] := va_S.rf
  have hl := lv_entry ([.ref (a 0), .int p0, .int p1]) (n := 3) (Nat.le_of_ble_eq_true rfl)
  rw [lg_entry_eq]
  generalize (lg_sl ([.ref (a 0), .int p0, .int p1]) ++ List.replicate (3 - (lg_sl ([.ref (a 0), .int p0, .int p1])).length) Slot.unset).toArray = ls at hl ⊢
  have hl : lv_has ls 3 [(0, .ref (a 0)), (1, .int p0), (2, .int p1)] := hl
  have hEi : mEi [23, 24, 25, 26, 27, 28, 29, 30, 60] i i := Ei_rf
  have hEr : mEr [32, 33] r r := Er_rf
  refine lv_aload_n hx hb dX12_wearOf_0 rfl (lv_at hl 0 rfl) ?_
  refine lv_iload_n hx hb dX12_wearOf_1 rfl (lv_at hl 1 rfl) ?_
  refine lv_iload_n hx hb dX12_wearOf_2 rfl (lv_at hl 2 rfl) ?_
  have hF_1 := rF hD hS hA
  refine va_callv (va_runV (As := [.int p0, .int p1]) (rest := []) ⟨hx, hb, hml, hown, hT⟩ (c_X12_feelsThing9 l D cy a i r rl p0 p1 _ hRi hRr (by omega) (by omega) qj) (cwV 2 hT (gV t_77 t_78 t_79 t_80 t_6) rfl rfl rfl (by decide +kernel) ⟨Nat.le_of_ble_eq_true rfl, Nat.le_of_ble_eq_true rfl⟩) (rQ_v hP hK hD (va_recv hK hP (ci := 12) (q0 := 0) rfl rfl)) rfl rfl hl.1 rfl (lv_room (Nat.le_of_ble_eq_true rfl)) dX12_wearOf_3 ⟨Nat.le_of_ble_eq_true rfl, Nat.le_of_ble_eq_true rfl⟩) hS (fun q _ h => hF_1 q h) hF_1 (fun u_3 t H1 locs ht hvm hr_2 hB hz1 hk1 hS => ?_)
  obtain ⟨r3, rfl⟩ : ∃ z, z = u_3 := ⟨_, rfl⟩
  obtain ⟨hP, hK1, hD1⟩ := hB
  rw [ht] at hP
  have hD := hD1.weaken (fun k q _ h => hF_1 q.1 h)
  have hP : va_P D vwCl (mW cy a i r3 rl) H1 := hP
  have hD : va_D A (mW cy a i r3 rl) := hD
  obtain ⟨hRr, hE2, hr_2⟩ := hr_2
  have hRr : mRr r3 := hRr
  have hEr : mEr [32, 33] _ r3 := Er_tr hEr hE2 (by decide)
  have hqr_2 : ∀ k9, k9 < 10 → r3 33 k9 = faL (mTh r (r 34) p0.toNatClampNeg p1.toNatClampNeg 0 0) k9 := hr_2
  have hE3 : mEr [33] r r3 := hE2
  refine lv_aload_n hx hb dX12_wearOf_6 rfl (lv_at hl 0 rfl) ?_
  refine lv_bipush (v := 102) hx hb dX12_wearOf_7 (by decide) ?_
  refine lv_bipush (v := 9) hx hb dX12_wearOf_9 (by decide) ?_
  refine lv_iconst (v := 0) hx hb dX12_wearOf_11 (by decide) ?_
  have hF_4 := rF hD hS hA
  refine va_calli (va_runV (As := [.int 102, .int 9, .int 0]) (rest := []) ⟨hx, hb, hml, hown, hT⟩ (c_X12_byLaw9 l D cy a i r3 rl 102 9 0 _ hRi hRr (mE_same hEi hEr (by decide) (by decide) hE) (by first | omega | decide)) (cwV 3 hT (gV t_97 t_98 t_99 t_100 t_6) rfl rfl rfl (by decide +kernel) ⟨Nat.le_of_ble_eq_true rfl, Nat.le_of_ble_eq_true rfl⟩) (rQ_v hP hK hD (va_recv hK hP (ci := 12) (q0 := 0) rfl rfl)) rfl rfl hl.1 rfl (lv_room (Nat.le_of_ble_eq_true rfl)) dX12_wearOf_12 ⟨Nat.le_of_ble_eq_true rfl, Nat.le_of_ble_eq_true rfl⟩) hS (fun q _ h => hF_4 q h) hF_4 (fun r_5 u_6 t H1 locs ht hvm hr_5 hB hz1 hk1 hS => ?_)
  obtain ⟨r6, rfl⟩ : ∃ z, z = u_6 := ⟨_, rfl⟩
  obtain ⟨hP, hK1, hD1⟩ := hB
  rw [ht] at hP
  have hD := hD1.weaken (fun k q _ h => hF_4 q.1 h)
  have hP : va_P D vwCl (mW cy a i r6 rl) H1 := hP
  have hD : va_D A (mW cy a i r6 rl) := hD
  obtain ⟨hRr, hE2, hr_5⟩ := hr_5
  have hRr : mRr r6 := hRr
  have hEr : mEr [32, 33] _ r6 := Er_tr hEr hE2 (by decide)
  have hqr_5 : r_5 = byL (mD i r3) (r3 33) (102 : Int32) (9 : Int32) (0 : Int32) := hr_5
  subst hQ
  have hD9 : mD i r3 = mD i r := mD_E rfl (hE3 : mEr [33] r r3) (by decide)
  have hb9 : r_5 = byL (mD i r) (faL (mTh r (r 34) p0.toNatClampNeg p1.toNatClampNeg 0 0)) 102 9 0 := by have h9 := hqr_5; rw [hD9] at h9; exact h9.trans (byL_co (mE_gl hE) (by decide) hqr_2)
  exact W.iret (v := r_5) hx hb hr (fun t ht hW => ⟨⟨_, r6, rfl, ⟨hRr, hEr, hb9⟩, by rw [ht]; exact hP, va_K.moved hW.alike hK, hD⟩, hS.F ht⟩) hS.2.2 dX12_wearOf_15
set_option maxHeartbeats 4000000 in
set_option maxRecDepth 100000 in
theorem c_X12_lostOf9 (l : Launch) (D : va_G) (cy : Nat → ClassId) (a : Nat → Nat) (i : Nat → Int32) (r : Nat → Nat → Int32) (rl : Nat → Int64) (p0 p1 : Int32) (sz : Nat) (hRi : mRi i) (hRr : mRr r) (hE : mE i r) (q0 : 0 ≤ p0.toInt ∧ p0.toInt ≤ 5) (q1 : 0 ≤ p1.toInt ∧ p1.toInt ≤ 19) (qj : jOK r p1.toNatClampNeg) (qs : 1 ≤ (r 14 (20 * p0.toInt + p1.toInt).toNat).toInt) : Met l yX12_lostOf (Cond.code yX12_lostOf cX12_lostOf 6 (some .int) :: gT) { frames := 5, cells := 0, slots := 0, locals := 120 } (va_Pc [.ref (a 0), .int p0, .int p1] (rQ D cy (mW cy a i r rl) sz)) (va_Qi (fun (z : Int32) (u : Nat → Nat → Int32) => mRr u ∧ mEr [32, 33] r u ∧ (z = mLs (mD i r) r (r 34) p0.toNatClampNeg p1.toNatClampNeg)) (fun (u : Nat → Nat → Int32) t => va_P D vwCl (mW cy a i u rl) t.heap ∧ va_K D vwCl (vT cy) t ∧ va_D (va_A (mW cy a i r rl) sz) (mW cy a i u rl)) (va_A (mW cy a i r rl) sz)) 0 0 (va_A (mW cy a i r rl) sz) := by
  refine Met.ofQ (cc := cX12_lostOf) (maxL := 6) (ret := (some .int)) (by decide) rfl ?_
  intro p e s m args below meth c s₁ B hml hv Q hQ
  obtain ⟨rfl, hsz, hP, hK, hD0⟩ := hv
  have hx := B.exec
  have hb := B.bytes
  have hr := B.returns
  have hlocks := B.notSynchronized
  have hT : ∀ w ∈ gT, w.before _ s = true := fun w h => atoms_spec (ws := (Cond.code yX12_lostOf cX12_lostOf 6 (some .int) :: gT)) B.pre w (List.mem_cons_of_mem _ h)
  have hown : s.vm.findClass RX12 = some m.cls := findClass_of_methodNamed B.named
  subst hsz
  have hD := hD0.self (sz := s.heap.size)
  generalize hAe : va_A (mW cy a i r rl) s.heap.size = A at hD hQ
  have hA : ∀ q : Nat, s.heap.size ≤ q → A q := fun q h => by rw [← hAe]; exact Or.inr h
  have hS : va_S A s.heap s.heap [] := va_S.rf
  have hl := lv_entry ([.ref (a 0), .int p0, .int p1]) (n := 6) (Nat.le_of_ble_eq_true rfl)
  rw [lg_entry_eq]
  generalize (lg_sl ([.ref (a 0), .int p0, .int p1]) ++ List.replicate (6 - (lg_sl ([.ref (a 0), .int p0, .int p1])).length) Slot.unset).toArray = ls at hl ⊢
  have hl : lv_has ls 6 [(0, .ref (a 0)), (1, .int p0), (2, .int p1)] := hl
  have hEi : mEi [23, 24, 25, 26, 27, 28, 29, 30, 60] i i := Ei_rf
  have hEr : mEr [32, 33] r r := Er_rf
  have hJ : r 34 = r 34 := rfl
  have hI20 : (20 * p0.toInt + p1.toInt).toNat = (20 * p0.toNatClampNeg + p1.toNatClampNeg) := by show _ = 20 * p0.toInt.toNat + p1.toInt.toNat; omega
  refine lv_aload_n hx hb dX12_lostOf_0 rfl (lv_at hl 0 rfl) ?_
  refine va_get (D := D) (ci := 12) (v := .ref (a 14)) (C := RX12) (T := TX12) (N := 91) hx hb hT iX12 hown hK hP 0 rfl rfl 15 (by decide) (hT _ t_38) (fun _ h9 => h9) rfl dX12_lostOf_1 ?_
  refine lv_bipush (v := 20) hx hb dX12_lostOf_4 (by decide) ?_
  refine lv_iload_n hx hb dX12_lostOf_6 rfl (lv_at hl 1 rfl) ?_
  refine lv_imul hx hb dX12_lostOf_7 ?_
  refine lv_topi (fun v_1 ev_1 => ?_)
  have hv_1 : v_1.toInt = 20 * p0.toInt := by rw [ev_1]; have := b_rg p0; exact i_mul (a := 20) (b := p0.toInt) rfl rfl (by omega) (by omega)
  refine lv_iload_n hx hb dX12_lostOf_8 rfl (lv_at hl 2 rfl) ?_
  refine lv_iadd hx hb dX12_lostOf_9 ?_
  refine lv_topi (fun v_2 ev_2 => ?_)
  have hv_2 : v_2.toInt = v_1.toInt + p1.toInt := by rw [ev_2]; have := b_rg v_1; have := b_rg p1; exact i_add (a := v_1.toInt) (b := p1.toInt) rfl rfl (by omega) (by omega)
  refine va_iald hx hb hK hP 14 0 rfl rfl (vp_inI (by omega) (by omega)) dX12_lostOf_10 ?_
  refine lv_topi (fun v_3 ev_3 => ?_)
  have hgv_3 : 0 ≤ v_3.toInt ∧ v_3.toInt ≤ 9 := by rw [ev_3]; exact hRr 14 _
  have hwv_3 : v_3 = r 14 (((20 * p0.toInt) + p1.toInt)).toNat := by rw [ev_3]; exact congrArg (r 14) (by show v_2.toInt.toNat = _; omega)
  have hsv_3 : v_3 = r 14 (20 * p0.toNatClampNeg + p1.toNatClampNeg) := by rw [hwv_3, hI20]
  refine lv_istore_n (lv' := [(3, .int v_3), (0, .ref (a 0)), (1, .int p0), (2, .int p1)]) hx hb dX12_lostOf_11 rfl hl (by decide) rfl (fun ls hl => ?_)
  refine lv_iload_n hx hb dX12_lostOf_12 rfl (lv_at hl 0 rfl) ?_
  refine lv_aload_n hx hb dX12_lostOf_13 rfl (lv_at hl 1 rfl) ?_
  refine lv_iload_n hx hb dX12_lostOf_14 rfl (lv_at hl 2 rfl) ?_
  refine lv_iload_n hx hb dX12_lostOf_15 rfl (lv_at hl 3 rfl) ?_
  have hF_4 := rF hD hS hA
  refine va_calli (va_runV (As := [.int p0, .int p1]) (rest := [.int v_3]) ⟨hx, hb, hml, hown, hT⟩ (c_X12_wearOf9 l D cy a i r rl p0 p1 _ hRi hRr (mE_same hEi hEr (by decide) (by decide) hE) (by omega) (by omega) (jOK_ee (congrFun (hJ : (r) 34 = r 34) _) qj)) (cwV 2 hT (gV t_101 t_102 t_103 t_104 t_6) rfl rfl rfl (by decide +kernel) ⟨Nat.le_of_ble_eq_true rfl, Nat.le_of_ble_eq_true rfl⟩) (rQ_v hP hK hD (va_recv hK hP (ci := 12) (q0 := 0) rfl rfl)) rfl rfl hl.1 rfl (lv_room (Nat.le_of_ble_eq_true rfl)) dX12_lostOf_16 ⟨Nat.le_of_ble_eq_true rfl, Nat.le_of_ble_eq_true rfl⟩) hS (fun q _ h => hF_4 q h) hF_4 (fun r_5 u_6 t H1 locs ht hvm hr_5 hB hz1 hk1 hS => ?_)
  obtain ⟨r6, rfl⟩ : ∃ z, z = u_6 := ⟨_, rfl⟩
  obtain ⟨hP, hK1, hD1⟩ := hB
  rw [ht] at hP
  have hD := hD1.weaken (fun k q _ h => hF_4 q.1 h)
  have hP : va_P D vwCl (mW cy a i r6 rl) H1 := hP
  have hD : va_D A (mW cy a i r6 rl) := hD
  obtain ⟨hRr, hE2, hr_5⟩ := hr_5
  have hRr : mRr r6 := hRr
  have hEr : mEr [32, 33] _ r6 := Er_tr hEr hE2 (by decide)
  have hqr_5 : r_5 = mWe (mD i r) r (r 34) p0.toNatClampNeg p1.toNatClampNeg := hr_5
  have hJ : r6 34 = r 34 := (hE2 34 (by decide)).trans hJ
  have hwe9 : r_5 = mWe (mD i r) r (r 34) p0.toNatClampNeg p1.toNatClampNeg := hqr_5
  refine lv_isub hx hb dX12_lostOf_19 ?_
  refine lv_topi (fun v_7 ev_7 => ?_)
  refine lv_istore (lv' := [(4, .int v_7), (3, .int v_3), (0, .ref (a 0)), (1, .int p0), (2, .int p1)]) hx hb dX12_lostOf_20 hl (by decide) rfl (fun ls hl => ?_)
  refine lv_iload hx hb dX12_lostOf_22 (lv_at hl 0 rfl) ?_
  refine lv_if_ge (tgt := 31) hx hb dX12_lostOf_24 (by decide) (fun c_8 => ?_) (fun c_8 => ?_)
  · have c_8 : 0 ≤ v_7.toInt := b_le c_8
    have hm9 : v_7 = if v_7.toInt < 0 then 0 else v_7 := (if_neg (by omega)).symm
    refine lv_iload hx hb dX12_lostOf_31 (lv_at hl 0 rfl) ?_
    refine lv_istore (lv' := [(4, .int v_7), (3, .int v_3), (0, .ref (a 0)), (1, .int p0), (2, .int p1)]) hx hb dX12_lostOf_33 hl (by decide) rfl (fun ls hl => ?_)
    refine lv_iload hx hb dX12_lostOf_35 (lv_at hl 0 rfl) ?_
    refine lv_aload_n hx hb dX12_lostOf_37 rfl (lv_at hl 2 rfl) ?_
    refine lv_iload_n hx hb dX12_lostOf_38 rfl (lv_at hl 3 rfl) ?_
    refine lv_iload_n hx hb dX12_lostOf_39 rfl (lv_at hl 4 rfl) ?_
    refine vp_callSi (W.runV (As := [.int p0, .int p1]) (rest := [.int v_7]) ⟨hx, hb, hml, hown, hT⟩ (c_X12_stateAtLast9 l D cy a i r6 rl p0 p1 hRi hRr (by omega) (by omega) (jOK_ee (congrFun (hJ : (r6) 34 = r 34) _) qj)) (cwV 2 hT (gV t_34 t_35 t_36 t_37 t_6) rfl rfl rfl (by decide +kernel) ⟨Nat.le_of_ble_eq_true rfl, Nat.le_of_ble_eq_true rfl⟩) (rP_v hP hK (va_recv hK hP (ci := 12) (q0 := 0) rfl rfl)) rfl rfl hl.1 rfl (lv_room (Nat.le_of_ble_eq_true rfl)) dX12_lostOf_40 ⟨Nat.le_of_ble_eq_true rfl, Nat.le_of_ble_eq_true rfl⟩) (fun r_9 hr_9 => ?_)
    have hqr_9 : r_9.toInt = lkM (r6 34) (gjH (r6 18) p0.toNatClampNeg) p1.toNatClampNeg := hr_9.1
    have hr_9 : 0 ≤ r_9.toInt ∧ r_9.toInt ≤ 9 := hr_9.2
    have hsr_9 : r_9 = nI (lkM (r 34) (gjH (r 18) p0.toNatClampNeg) p1.toNatClampNeg).toNat := by have h9 := hqr_9; rw [hEr 34 (by decide), hEr 18 (by decide)] at h9; exact nI_eqi h9 (by rw [← h9]; omega)
    refine lv_isub hx hb dX12_lostOf_43 ?_
    refine lv_topi (fun v_10 ev_10 => ?_)
    have hv_10 : v_10.toInt = v_7.toInt - r_9.toInt := by rw [ev_10]; have := b_rg v_7; have := b_rg r_9; exact i_sub (a := v_7.toInt) (b := r_9.toInt) rfl rfl (by omega) (by omega)
    refine lv_istore (lv' := [(5, .int v_10), (4, .int v_7), (3, .int v_3), (0, .ref (a 0)), (1, .int p0), (2, .int p1)]) hx hb dX12_lostOf_44 hl (by decide) rfl (fun ls hl => ?_)
    refine lv_iload hx hb dX12_lostOf_46 (lv_at hl 0 rfl) ?_
    refine lv_if_gt (tgt := 55) hx hb dX12_lostOf_48 (by decide) (fun c_11 => ?_) (fun c_11 => ?_)
    · have c_11 : 0 < v_10.toInt := b_lt c_11
      refine lv_aload_n hx hb dX12_lostOf_55 rfl (lv_at hl 3 rfl) ?_
      refine lv_iload_n hx hb dX12_lostOf_56 rfl (lv_at hl 4 rfl) ?_
      refine lv_iload_n hx hb dX12_lostOf_57 rfl (lv_at hl 5 rfl) ?_
      refine lv_aload_n hx hb dX12_lostOf_58 rfl (lv_at hl 3 rfl) ?_
      refine lv_iload_n hx hb dX12_lostOf_59 rfl (lv_at hl 4 rfl) ?_
      refine lv_iload_n hx hb dX12_lostOf_60 rfl (lv_at hl 5 rfl) ?_
      refine vp_callSi (W.runV (As := [.int p0, .int p1]) (rest := [.int p1, .int p0, .ref (a 0)]) ⟨hx, hb, hml, hown, hT⟩ (c_X12_agedOf9 l D cy a i r6 rl p0 p1 hRi hRr (by omega) (by omega)) (cwV 2 hT (gV t_71 t_72 t_73 t_74 t_6) rfl rfl rfl (by decide +kernel) ⟨Nat.le_of_ble_eq_true rfl, Nat.le_of_ble_eq_true rfl⟩) (rP_v hP hK (va_recv hK hP (ci := 12) (q0 := 0) rfl rfl)) rfl rfl hl.1 rfl (lv_room (Nat.le_of_ble_eq_true rfl)) dX12_lostOf_61 ⟨Nat.le_of_ble_eq_true rfl, Nat.le_of_ble_eq_true rfl⟩) (fun r_12 hr_12 => ?_)
      have hqr_12 : r_12 = r6 15 (20 * p0.toNatClampNeg + p1.toNatClampNeg) + (r6 7 p0.toNatClampNeg - r6 6 p0.toNatClampNeg) := hr_12
      have hag9 : r_12 = r 15 (20 * p0.toNatClampNeg + p1.toNatClampNeg) + (r 7 p0.toNatClampNeg - r 6 p0.toNatClampNeg) := by have h9 := hqr_12; rw [hEr 15 (by decide), hEr 7 (by decide), hEr 6 (by decide)] at h9; exact h9
      refine vp_callSi (W.runV (As := [.int p0, .int p1, .int r_12]) (rest := []) ⟨hx, hb, hml, hown, hT⟩ (c_X12_worthAt9 l D cy a i r6 rl p0 p1 r_12 hRi hRr (by omega) (by omega)) (cwV 3 hT (gV t_105 t_106 t_107 t_108 t_6) rfl rfl rfl (by decide +kernel) ⟨Nat.le_of_ble_eq_true rfl, Nat.le_of_ble_eq_true rfl⟩) (rP_v hP hK (va_recv hK hP (ci := 12) (q0 := 0) rfl rfl)) rfl rfl hl.1 rfl (lv_room (Nat.le_of_ble_eq_true rfl)) dX12_lostOf_64 ⟨Nat.le_of_ble_eq_true rfl, Nat.le_of_ble_eq_true rfl⟩) (fun r_13 hr_13 => ?_)
      have hwo9 : r_13 = mWo r p0.toNatClampNeg p1.toNatClampNeg := by have h9 := hr_13; rw [hI20, hag9, hEr 1 (by decide), hEr 2 (by decide), hEr 3 (by decide), hEr 13 (by decide)] at h9; exact h9
      refine lv_iload hx hb dX12_lostOf_67 (lv_at hl 0 rfl) ?_
      refine lv_imul hx hb dX12_lostOf_69 ?_
      refine lv_topi (fun v_14 ev_14 => ?_)
      refine lv_iload_n hx hb dX12_lostOf_70 rfl (lv_at hl 2 rfl) ?_
      refine lv_idiv hx hb dX12_lostOf_71 (nz (by have := congrArg Int32.toInt hwv_3; omega)) ?_
      refine lv_topi (fun v_15 ev_15 => ?_)
      subst hQ
      exact W.iret (v := v_15) hx hb hr (fun t ht hW => ⟨⟨_, r6, rfl, ⟨hRr, hEr, (by unfold mLs; rw [← hsv_3, ← hwe9, ← hwo9]; exact ls_1 (b := v_10) ev_7 hm9 (by rw [← hsr_9]; exact ev_10) (by omega) ev_14 ev_15)⟩, by rw [ht]; exact hP, va_K.moved hW.alike hK, hD⟩, hS.F ht⟩) hS.2.2 dX12_lostOf_72
    · have c_11 : v_10.toInt ≤ 0 := b_nlt c_11
      refine lv_iconst (v := 0) hx hb dX12_lostOf_51 (by decide) ?_
      refine lv_goto (tgt := 72) hx hb dX12_lostOf_52 (by decide) ?_
      subst hQ
      exact W.iret (v := 0) hx hb hr (fun t ht hW => ⟨⟨_, r6, rfl, ⟨hRr, hEr, (by unfold mLs; rw [← hsv_3, ← hwe9]; exact ls_0 (b := v_10) ev_7 hm9 (by rw [← hsr_9]; exact ev_10) (by omega))⟩, by rw [ht]; exact hP, va_K.moved hW.alike hK, hD⟩, hS.F ht⟩) hS.2.2 dX12_lostOf_72
  · have c_8 : v_7.toInt < 0 := b_nle c_8
    have hm9 : (0 : Int32) = if v_7.toInt < 0 then 0 else v_7 := (if_pos (by omega)).symm
    refine lv_iconst (v := 0) hx hb dX12_lostOf_27 (by decide) ?_
    refine lv_goto (tgt := 33) hx hb dX12_lostOf_28 (by decide) ?_
    refine lv_istore (lv' := [(4, .int 0), (3, .int v_3), (0, .ref (a 0)), (1, .int p0), (2, .int p1)]) hx hb dX12_lostOf_33 hl (by decide) rfl (fun ls hl => ?_)
    refine lv_iload hx hb dX12_lostOf_35 (lv_at hl 0 rfl) ?_
    refine lv_aload_n hx hb dX12_lostOf_37 rfl (lv_at hl 2 rfl) ?_
    refine lv_iload_n hx hb dX12_lostOf_38 rfl (lv_at hl 3 rfl) ?_
    refine lv_iload_n hx hb dX12_lostOf_39 rfl (lv_at hl 4 rfl) ?_
    refine vp_callSi (W.runV (As := [.int p0, .int p1]) (rest := [.int 0]) ⟨hx, hb, hml, hown, hT⟩ (c_X12_stateAtLast9 l D cy a i r6 rl p0 p1 hRi hRr (by omega) (by omega) (jOK_ee (congrFun (hJ : (r6) 34 = r 34) _) qj)) (cwV 2 hT (gV t_34 t_35 t_36 t_37 t_6) rfl rfl rfl (by decide +kernel) ⟨Nat.le_of_ble_eq_true rfl, Nat.le_of_ble_eq_true rfl⟩) (rP_v hP hK (va_recv hK hP (ci := 12) (q0 := 0) rfl rfl)) rfl rfl hl.1 rfl (lv_room (Nat.le_of_ble_eq_true rfl)) dX12_lostOf_40 ⟨Nat.le_of_ble_eq_true rfl, Nat.le_of_ble_eq_true rfl⟩) (fun r_16 hr_16 => ?_)
    have hqr_16 : r_16.toInt = lkM (r6 34) (gjH (r6 18) p0.toNatClampNeg) p1.toNatClampNeg := hr_16.1
    have hr_16 : 0 ≤ r_16.toInt ∧ r_16.toInt ≤ 9 := hr_16.2
    have hsr_16 : r_16 = nI (lkM (r 34) (gjH (r 18) p0.toNatClampNeg) p1.toNatClampNeg).toNat := by have h9 := hqr_16; rw [hEr 34 (by decide), hEr 18 (by decide)] at h9; exact nI_eqi h9 (by rw [← h9]; omega)
    refine lv_isub hx hb dX12_lostOf_43 ?_
    refine lv_topi (fun v_17 ev_17 => ?_)
    have hv_17 : v_17.toInt = 0 - r_16.toInt := by rw [ev_17]; have := b_rg r_16; exact i_sub (a := 0) (b := r_16.toInt) rfl rfl (by omega) (by omega)
    refine lv_istore (lv' := [(5, .int v_17), (4, .int 0), (3, .int v_3), (0, .ref (a 0)), (1, .int p0), (2, .int p1)]) hx hb dX12_lostOf_44 hl (by decide) rfl (fun ls hl => ?_)
    refine lv_iload hx hb dX12_lostOf_46 (lv_at hl 0 rfl) ?_
    refine lv_if_gt (tgt := 55) hx hb dX12_lostOf_48 (by decide) (fun c_18 => by have c_18 : 0 < v_17.toInt := b_lt c_18; omega) (fun c_18 => ?_)
    have c_18 : v_17.toInt ≤ 0 := b_nlt c_18
    refine lv_iconst (v := 0) hx hb dX12_lostOf_51 (by decide) ?_
    refine lv_goto (tgt := 72) hx hb dX12_lostOf_52 (by decide) ?_
    subst hQ
    exact W.iret (v := 0) hx hb hr (fun t ht hW => ⟨⟨_, r6, rfl, ⟨hRr, hEr, (by unfold mLs; rw [← hsv_3, ← hwe9]; exact ls_0 (b := v_17) ev_7 hm9 (by rw [← hsr_16]; exact ev_17) (by omega))⟩, by rw [ht]; exact hP, va_K.moved hW.alike hK, hD⟩, hS.F ht⟩) hS.2.2 dX12_lostOf_72
