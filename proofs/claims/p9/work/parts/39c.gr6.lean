theorem div4 {x : Int32} (h : 0 ≤ x.toInt) : (x / 4).toInt = x.toInt / 4 := by
  rw [Int32.toInt_div_of_ne_right _ _ (by decide)]; exact Int.tdiv_eq_ediv_of_nonneg h
set_option maxHeartbeats 4000000 in
set_option maxRecDepth 100000 in
theorem c_X12_feed9 (l : Launch) (D : va_G) (cy : Nat → ClassId) (a : Nat → Nat) (i : Nat → Int32) (r : Nat → Nat → Int32) (rl : Nat → Int64) (p0 p1 p2 p3 p4 : Int32) (sz : Nat) (hRi : mRi i) (hRr : mRr r) : Met l yX12_feed (Cond.code yX12_feed cX12_feed 6 (some .int) :: gT) { frames := 2, cells := 0, slots := 0, locals := 46 } (va_Pc [.ref (a 0), .int p0, .int p1, .int p2, .int p3, .int p4] (rQ D cy (mW cy a i r rl) sz)) (va_Qi (fun (z : Int32) (u : (Nat → Int32) × (Nat → Nat → Int32)) => mRi u.1 ∧ mRr u.2 ∧ mEi [22] i u.1 ∧ mEr [20] r u.2 ∧ ((((i 22).toInt ≤ 200) → z.toInt = (i 22).toInt + 20 ∧ (u.1 22).toInt = (i 22).toInt + 20) ∧ (¬ ((i 22).toInt ≤ 200) → z = -1 ∧ mEi [] i u.1 ∧ mEr [] r u.2))) (fun (u : (Nat → Int32) × (Nat → Nat → Int32)) t => va_P D vwCl (mW cy a u.1 u.2 rl) t.heap ∧ va_K D vwCl (vT cy) t ∧ va_D (va_A (mW cy a i r rl) sz) (mW cy a u.1 u.2 rl)) (va_A (mW cy a i r rl) sz)) 0 0 (va_A (mW cy a i r rl) sz) := by
  refine Met.ofQ (cc := cX12_feed) (maxL := 6) (ret := (some .int)) (by decide) rfl ?_
  intro p e s m args below meth c s₁ B hml hv Q hQ
  obtain ⟨rfl, hsz, hP, hK, hD0⟩ := hv
  have hx := B.exec
  have hb := B.bytes
  have hr := B.returns
  have hlocks := B.notSynchronized
  have hT : ∀ w ∈ gT, w.before _ s = true := fun w h => atoms_spec (ws := (Cond.code yX12_feed cX12_feed 6 (some .int) :: gT)) B.pre w (List.mem_cons_of_mem _ h)
  have hown : s.vm.findClass RX12 = some m.cls := findClass_of_methodNamed B.named
  subst hsz
  have hD := hD0.self (sz := s.heap.size)
  generalize hAe : va_A (mW cy a i r rl) s.heap.size = A at hD hQ
  have hA : ∀ q : Nat, s.heap.size ≤ q → A q := fun q h => by rw [← hAe]; exact Or.inr h
  have hS : va_S A s.heap s.heap [] := va_S.rf
  have hl := lv_entry ([.ref (a 0), .int p0, .int p1, .int p2, .int p3, .int p4]) (n := 6) (Nat.le_of_ble_eq_true rfl)
  rw [lg_entry_eq]
  generalize (lg_sl ([.ref (a 0), .int p0, .int p1, .int p2, .int p3, .int p4]) ++ List.replicate (6 - (lg_sl ([.ref (a 0), .int p0, .int p1, .int p2, .int p3, .int p4])).length) Slot.unset).toArray = ls at hl ⊢
  have hl : lv_has ls 6 [(0, .ref (a 0)), (1, .int p0), (2, .int p1), (3, .int p2), (4, .int p3), (5, .int p4)] := hl
  have hEi : mEi [22] i i := Ei_rf
  have hEr : mEr [20] r r := Er_rf
  refine lv_aload_n hx hb dX12_feed_0 rfl (lv_at hl 0 rfl) ?_
  refine va_get (D := D) (ci := 12) (v := .int (i 22)) (C := RX12) (T := TX12) (N := 91) hx hb hT iX12 hown hK hP 0 rfl rfl 22 (by decide) (hT _ t_201) (fun _ h9 => h9) rfl dX12_feed_1 ?_
  have hg_1 : 0 ≤ (i 22).toInt ∧ (i 22).toInt ≤ 220 := hRi 22
  refine lv_bipush (v := 20) hx hb dX12_feed_4 (by decide) ?_
  refine lv_iadd hx hb dX12_feed_6 ?_
  refine lv_topi (fun v_2 ev_2 => ?_)
  have hv_2 : v_2.toInt = (i 22).toInt + 20 := by rw [ev_2]; have := b_rg (i 22); exact i_add (a := (i 22).toInt) (b := 20) rfl rfl (by omega) (by omega)
  refine lv_sipush (v := 220) hx hb dX12_feed_7 (by decide) ?_
  refine lv_icmp_le (tgt := 15) hx hb dX12_feed_10 (by decide) (fun c_3 => ?_) (fun c_3 => ?_)
  · have c_3 : v_2.toInt ≤ 220 := b_le c_3
    refine lv_aload_n hx hb dX12_feed_15 rfl (lv_at hl 0 rfl) ?_
    refine lv_iload_n hx hb dX12_feed_16 rfl (lv_at hl 1 rfl) ?_
    have hF_4 := rF hD hS hA
    refine va_callv (va_runV (As := [.int p0]) (rest := []) ⟨hx, hb, hml, hown, hT⟩ (c_X12_types l D cy a i r rl p0 _ hRi hRr (by omega)) (cwV 1 hT (gV t_202 t_203 t_204 t_205 t_6) rfl rfl rfl (by decide +kernel) ⟨Nat.le_of_ble_eq_true rfl, Nat.le_of_ble_eq_true rfl⟩) (rQ_v hP hK hD (va_recv hK hP (ci := 12) (q0 := 0) rfl rfl)) rfl rfl hl.1 rfl (lv_room (Nat.le_of_ble_eq_true rfl)) dX12_feed_17 ⟨Nat.le_of_ble_eq_true rfl, Nat.le_of_ble_eq_true rfl⟩) hS (fun q _ h => hF_4 q h) hF_4 (fun u_6 t H1 locs ht hvm hr_5 hB hz1 hk1 hS => ?_)
    obtain ⟨i6, r6⟩ := u_6
    obtain ⟨hP, hK1, hD1⟩ := hB
    rw [ht] at hP
    have hD := hD1.weaken (fun k q _ h => hF_4 q.1 h)
    have hP : va_P D vwCl (mW cy a i6 r6 rl) H1 := hP
    have hD : va_D A (mW cy a i6 r6 rl) := hD
    obtain ⟨hRi, hRr, hE1, hE2, hr_5⟩ := hr_5
    have hRi : mRi i6 := hRi
    have hRr : mRr r6 := hRr
    have hEi : mEi [22] _ i6 := Ei_tr hEi hE1 (by decide)
    have hEr : mEr [20] _ r6 := Er_tr hEr hE2 (by decide)
    have hr_5 : (i6 22).toInt = (i 22).toInt + 4 := hr_5
    refine lv_aload_n hx hb dX12_feed_20 rfl (lv_at hl 0 rfl) ?_
    refine lv_iload_n hx hb dX12_feed_21 rfl (lv_at hl 2 rfl) ?_
    have hF_7 := rF hD hS hA
    refine va_callv (va_runV (As := [.int p1]) (rest := []) ⟨hx, hb, hml, hown, hT⟩ (c_X12_types l D cy a i6 r6 rl p1 _ hRi hRr (by omega)) (cwV 1 hT (gV t_202 t_203 t_204 t_205 t_6) rfl rfl rfl (by decide +kernel) ⟨Nat.le_of_ble_eq_true rfl, Nat.le_of_ble_eq_true rfl⟩) (rQ_v hP hK hD (va_recv hK hP (ci := 12) (q0 := 0) rfl rfl)) rfl rfl hl.1 rfl (lv_room (Nat.le_of_ble_eq_true rfl)) dX12_feed_22 ⟨Nat.le_of_ble_eq_true rfl, Nat.le_of_ble_eq_true rfl⟩) hS (fun q _ h => hF_7 q h) hF_7 (fun u_9 t H1 locs ht hvm hr_8 hB hz1 hk1 hS => ?_)
    obtain ⟨i9, r9⟩ := u_9
    obtain ⟨hP, hK1, hD1⟩ := hB
    rw [ht] at hP
    have hD := hD1.weaken (fun k q _ h => hF_7 q.1 h)
    have hP : va_P D vwCl (mW cy a i9 r9 rl) H1 := hP
    have hD : va_D A (mW cy a i9 r9 rl) := hD
    obtain ⟨hRi, hRr, hE1, hE2, hr_8⟩ := hr_8
    have hRi : mRi i9 := hRi
    have hRr : mRr r9 := hRr
    have hEi : mEi [22] _ i9 := Ei_tr hEi hE1 (by decide)
    have hEr : mEr [20] _ r9 := Er_tr hEr hE2 (by decide)
    have hr_8 : (i9 22).toInt = (i6 22).toInt + 4 := hr_8
    refine lv_aload_n hx hb dX12_feed_25 rfl (lv_at hl 0 rfl) ?_
    refine lv_iload_n hx hb dX12_feed_26 rfl (lv_at hl 3 rfl) ?_
    have hF_10 := rF hD hS hA
    refine va_callv (va_runV (As := [.int p2]) (rest := []) ⟨hx, hb, hml, hown, hT⟩ (c_X12_types l D cy a i9 r9 rl p2 _ hRi hRr (by omega)) (cwV 1 hT (gV t_202 t_203 t_204 t_205 t_6) rfl rfl rfl (by decide +kernel) ⟨Nat.le_of_ble_eq_true rfl, Nat.le_of_ble_eq_true rfl⟩) (rQ_v hP hK hD (va_recv hK hP (ci := 12) (q0 := 0) rfl rfl)) rfl rfl hl.1 rfl (lv_room (Nat.le_of_ble_eq_true rfl)) dX12_feed_27 ⟨Nat.le_of_ble_eq_true rfl, Nat.le_of_ble_eq_true rfl⟩) hS (fun q _ h => hF_10 q h) hF_10 (fun u_12 t H1 locs ht hvm hr_11 hB hz1 hk1 hS => ?_)
    obtain ⟨i12, r12⟩ := u_12
    obtain ⟨hP, hK1, hD1⟩ := hB
    rw [ht] at hP
    have hD := hD1.weaken (fun k q _ h => hF_10 q.1 h)
    have hP : va_P D vwCl (mW cy a i12 r12 rl) H1 := hP
    have hD : va_D A (mW cy a i12 r12 rl) := hD
    obtain ⟨hRi, hRr, hE1, hE2, hr_11⟩ := hr_11
    have hRi : mRi i12 := hRi
    have hRr : mRr r12 := hRr
    have hEi : mEi [22] _ i12 := Ei_tr hEi hE1 (by decide)
    have hEr : mEr [20] _ r12 := Er_tr hEr hE2 (by decide)
    have hr_11 : (i12 22).toInt = (i9 22).toInt + 4 := hr_11
    refine lv_aload_n hx hb dX12_feed_30 rfl (lv_at hl 0 rfl) ?_
    refine lv_iload hx hb dX12_feed_31 (lv_at hl 4 rfl) ?_
    have hF_13 := rF hD hS hA
    refine va_callv (va_runV (As := [.int p3]) (rest := []) ⟨hx, hb, hml, hown, hT⟩ (c_X12_types l D cy a i12 r12 rl p3 _ hRi hRr (by omega)) (cwV 1 hT (gV t_202 t_203 t_204 t_205 t_6) rfl rfl rfl (by decide +kernel) ⟨Nat.le_of_ble_eq_true rfl, Nat.le_of_ble_eq_true rfl⟩) (rQ_v hP hK hD (va_recv hK hP (ci := 12) (q0 := 0) rfl rfl)) rfl rfl hl.1 rfl (lv_room (Nat.le_of_ble_eq_true rfl)) dX12_feed_33 ⟨Nat.le_of_ble_eq_true rfl, Nat.le_of_ble_eq_true rfl⟩) hS (fun q _ h => hF_13 q h) hF_13 (fun u_15 t H1 locs ht hvm hr_14 hB hz1 hk1 hS => ?_)
    obtain ⟨i15, r15⟩ := u_15
    obtain ⟨hP, hK1, hD1⟩ := hB
    rw [ht] at hP
    have hD := hD1.weaken (fun k q _ h => hF_13 q.1 h)
    have hP : va_P D vwCl (mW cy a i15 r15 rl) H1 := hP
    have hD : va_D A (mW cy a i15 r15 rl) := hD
    obtain ⟨hRi, hRr, hE1, hE2, hr_14⟩ := hr_14
    have hRi : mRi i15 := hRi
    have hRr : mRr r15 := hRr
    have hEi : mEi [22] _ i15 := Ei_tr hEi hE1 (by decide)
    have hEr : mEr [20] _ r15 := Er_tr hEr hE2 (by decide)
    have hr_14 : (i15 22).toInt = (i12 22).toInt + 4 := hr_14
    refine lv_aload_n hx hb dX12_feed_36 rfl (lv_at hl 0 rfl) ?_
    refine lv_iload hx hb dX12_feed_37 (lv_at hl 5 rfl) ?_
    have hF_16 := rF hD hS hA
    refine va_callv (va_runV (As := [.int p4]) (rest := []) ⟨hx, hb, hml, hown, hT⟩ (c_X12_types l D cy a i15 r15 rl p4 _ hRi hRr (by omega)) (cwV 1 hT (gV t_202 t_203 t_204 t_205 t_6) rfl rfl rfl (by decide +kernel) ⟨Nat.le_of_ble_eq_true rfl, Nat.le_of_ble_eq_true rfl⟩) (rQ_v hP hK hD (va_recv hK hP (ci := 12) (q0 := 0) rfl rfl)) rfl rfl hl.1 rfl (lv_room (Nat.le_of_ble_eq_true rfl)) dX12_feed_39 ⟨Nat.le_of_ble_eq_true rfl, Nat.le_of_ble_eq_true rfl⟩) hS (fun q _ h => hF_16 q h) hF_16 (fun u_18 t H1 locs ht hvm hr_17 hB hz1 hk1 hS => ?_)
    obtain ⟨i18, r18⟩ := u_18
    obtain ⟨hP, hK1, hD1⟩ := hB
    rw [ht] at hP
    have hD := hD1.weaken (fun k q _ h => hF_16 q.1 h)
    have hP : va_P D vwCl (mW cy a i18 r18 rl) H1 := hP
    have hD : va_D A (mW cy a i18 r18 rl) := hD
    obtain ⟨hRi, hRr, hE1, hE2, hr_17⟩ := hr_17
    have hRi : mRi i18 := hRi
    have hRr : mRr r18 := hRr
    have hEi : mEi [22] _ i18 := Ei_tr hEi hE1 (by decide)
    have hEr : mEr [20] _ r18 := Er_tr hEr hE2 (by decide)
    have hr_17 : (i18 22).toInt = (i15 22).toInt + 4 := hr_17
    refine lv_aload_n hx hb dX12_feed_42 rfl (lv_at hl 0 rfl) ?_
    refine va_get (D := D) (ci := 12) (v := .int (i18 22)) (C := RX12) (T := TX12) (N := 91) hx hb hT iX12 hown hK hP 0 rfl rfl 22 (by decide) (hT _ t_201) (fun _ h9 => h9) rfl dX12_feed_43 ?_
    have hg_19 : 0 ≤ (i18 22).toInt ∧ (i18 22).toInt ≤ 220 := hRi 22
    subst hQ
    exact W.iret (v := i18 22) hx hb hr (fun t ht hW => ⟨⟨_, (i18, r18), rfl, ⟨hRi, hRr, hEi, hEr, ⟨fun _ => ⟨by omega, by show (i18 22).toInt = _; omega⟩, fun h9 => absurd (by omega) h9⟩⟩, by rw [ht]; exact hP, va_K.moved hW.alike hK, hD⟩, hS.F ht⟩) hS.2.2 dX12_feed_46
  · have c_3 : 220 < v_2.toInt := b_nle c_3
    refine lv_iconst (v := (-1)) hx hb dX12_feed_13 (by decide) ?_
    subst hQ
    exact W.iret (v := (-1)) hx hb hr (fun t ht hW => ⟨⟨_, (i, r), rfl, ⟨hRi, hRr, hEi, hEr, ⟨fun h9 => absurd h9 (by omega), fun _ => ⟨rfl, Ei_rf, Er_rf⟩⟩⟩, by rw [ht]; exact hP, va_K.moved hW.alike hK, hD⟩, hS.F ht⟩) hS.2.2 dX12_feed_14
set_option maxHeartbeats 4000000 in
set_option maxRecDepth 100000 in
theorem c_X9_add9 (l : Launch) (D : va_G) (cy : Nat → ClassId) (a : Nat → Nat) (i : Nat → Int32) (r : Nat → Nat → Int32) (q : Nat → Option Nat) (tl : va_W) (p0 : Int32) (sz : Nat) (hRi : yRi i) (hRr : yRr r) (h2 : 0 ≤ (i 2).toInt ∧ (i 2).toInt ≤ 216) : Met l yX9_add (Cond.code yX9_add cX9_add 3 none :: gT) { frames := 1, cells := 0, slots := 0, locals := 24 } (va_Pc [.ref (a 8), .int p0] (rQ D cy (xW cy a i r q (a 20) (a 12) ++ tl) sz)) (va_Qv (fun u : (Nat → Int32) × (Nat → Nat → Int32) => yRi u.1 ∧ yRr u.2 ∧ mEi [2] i u.1 ∧ mEr [9] r u.2 ∧ ((u.1 2).toInt = (i 2).toInt + 4)) (fun (u : (Nat → Int32) × (Nat → Nat → Int32)) t => va_P D vwCl (xW cy a u.1 u.2 q (a 20) (a 12) ++ tl) t.heap ∧ va_K D vwCl (vT cy) t ∧ va_D (va_A (xW cy a i r q (a 20) (a 12) ++ tl) sz) (xW cy a u.1 u.2 q (a 20) (a 12) ++ tl)) (va_A (xW cy a i r q (a 20) (a 12) ++ tl) sz)) 0 0 (va_A (xW cy a i r q (a 20) (a 12) ++ tl) sz) := by
  refine Met.ofQ (cc := cX9_add) (maxL := 3) (ret := none) (by decide) rfl ?_
  intro p e s m args below meth c s₁ B hml hv Q hQ
  obtain ⟨rfl, hsz, hP, hK, hD0⟩ := hv
  have hx := B.exec
  have hb := B.bytes
  have hr := B.returns
  have hlocks := B.notSynchronized
  have hT : ∀ w ∈ gT, w.before _ s = true := fun w h => atoms_spec (ws := (Cond.code yX9_add cX9_add 3 none :: gT)) B.pre w (List.mem_cons_of_mem _ h)
  have hown : s.vm.findClass RX9 = some m.cls := findClass_of_methodNamed B.named
  subst hsz
  have hD := hD0.self (sz := s.heap.size)
  generalize hAe : va_A (xW cy a i r q (a 20) (a 12) ++ tl) s.heap.size = A at hD hQ
  have hA : ∀ q : Nat, s.heap.size ≤ q → A q := fun q h => by rw [← hAe]; exact Or.inr h
  have hS : va_S A s.heap s.heap [] := va_S.rf
  have hl := lv_entry ([.ref (a 8), .int p0]) (n := 3) (Nat.le_of_ble_eq_true rfl)
  rw [lg_entry_eq]
  generalize (lg_sl ([.ref (a 8), .int p0]) ++ List.replicate (3 - (lg_sl ([.ref (a 8), .int p0])).length) Slot.unset).toArray = ls at hl ⊢
  have hl : lv_has ls 3 [(0, .ref (a 8)), (1, .int p0)] := hl
  have hEi : mEi [2] i i := Ei_rf
  have hEr : mEr [9] r r := Er_rf
  refine lv_bipush (v := 24) hx hb dX9_add_0 (by decide) ?_
  refine lv_istore_n (lv' := [(2, .int 24), (0, .ref (a 8)), (1, .int p0)]) hx hb dX9_add_2 rfl hl (by decide) rfl (fun ls hl => ?_)
  refine lv_iload_n hx hb dX9_add_3 rfl (lv_at hl 0 rfl) ?_
  refine lv_if_lt (tgt := 46) hx hb dX9_add_4 (by decide) (fun c_1 => absurd c_1 (by decide)) (fun c_1 => ?_)
  refine lv_aload_n hx hb dX9_add_7 rfl (lv_at hl 1 rfl) ?_
  refine va_get (D := D) (ci := 9) (v := .int (i 2)) (C := RX9) (T := TX9) (N := 2) hx hb hT iX9 hown hK hP 8 rfl rfl 1 (by decide) (hT _ t_333) (fun _ h9 => h9) rfl dX9_add_8 ?_
  have hg_2 : 0 ≤ (i 2).toInt ∧ (i 2).toInt ≤ 220 := hRi 2
  refine lv_sipush (v := 220) hx hb dX9_add_11 (by decide) ?_
  refine lv_icmp_ge (tgt := 46) hx hb dX9_add_14 (by decide) (fun c_3 => by have c_3 : 220 ≤ (i 2).toInt := b_le c_3; omega) (fun c_3 => ?_)
  have c_3 : (i 2).toInt < 220 := b_nle c_3
  refine lv_aload_n hx hb dX9_add_17 rfl (lv_at hl 1 rfl) ?_
  refine va_get (D := D) (ci := 9) (v := .ref (a 9)) (C := RX9) (T := TX9) (N := 2) hx hb hT iX9 hown hK hP 8 rfl rfl 0 (by decide) (hT _ t_334) (fun _ h9 => h9) rfl dX9_add_18 ?_
  refine lv_aload_n hx hb dX9_add_21 rfl (lv_at hl 1 rfl) ?_
  refine va_get (D := D) (ci := 9) (v := .int (i 2)) (C := RX9) (T := TX9) (N := 2) hx hb hT iX9 hown hK hP 8 rfl rfl 1 (by decide) (hT _ t_333) (fun _ h9 => h9) rfl dX9_add_22 ?_
  refine lv_iload_n hx hb dX9_add_25 rfl (lv_at hl 2 rfl) ?_
  refine lv_iload_n hx hb dX9_add_26 rfl (lv_at hl 0 rfl) ?_
  refine lv_ishr hx hb dX9_add_27 ?_
  refine lv_topi (fun v_4 ev_4 => ?_)
  obtain ⟨v_5, ev_5⟩ : ∃ y : Int32, v_4.toInt8.toInt32 = y := ⟨_, rfl⟩
  refine lv_i2b (v := v_5) hx hb dX9_add_28 ev_5 ?_
  refine va_bast hx hb hK hP hD hS 9 1 rfl rfl (vp_inI (by omega) (by omega)) dX9_add_29 (fun H locs hP hD hS => ?_)
  rw [zS9] at hP hD
  have hRr : yRr (va_up r 9 (upd (r 9) ((i 2).toNatClampNeg) (vp_nar .byte v_5))) := Yr_upd hRr 9 ((i 2).toNatClampNeg) (vp_nar .byte v_5) (b_rg _)
  have hEr : mEr [9] _ (va_up r 9 (upd (r 9) ((i 2).toNatClampNeg) (vp_nar .byte v_5))) := Er_up hEr 9 _ (by decide)
  refine lv_aload_n hx hb dX9_add_30 rfl (lv_at hl 1 rfl) ?_
  refine lv_dup hx hb dX9_add_31 rfl ?_
  refine va_get (D := D) (ci := 9) (v := .int (i 2)) (C := RX9) (T := TX9) (N := 2) hx hb hT iX9 hown hK hP 8 rfl rfl 1 (by decide) (hT _ t_333) (fun _ h9 => h9) rfl dX9_add_32 ?_
  refine lv_iconst (v := 1) hx hb dX9_add_35 (by decide) ?_
  refine lv_iadd hx hb dX9_add_36 ?_
  refine lv_topi (fun v_6 ev_6 => ?_)
  have hv_6 : v_6.toInt = (i 2).toInt + 1 := by rw [ev_6]; have := b_rg (i 2); exact i_add (a := (i 2).toInt) (b := 1) rfl rfl (by omega) (by omega)
  refine va_put (D := D) (ci := 9) (v := .int v_6) (ty := .int) (C := RX9) (T := TX9) (N := 2) hx hb hT iX9 tyX9 tyX9_ok nmX9 hown hK hP hD hS 8 rfl rfl 1 (by decide) (hT _ t_333) (fun _ h9 => h9) rfl (by decide +kernel) rfl rfl (Nat.le_of_ble_eq_true rfl) dX9_add_37 (fun H locs hP hD hS => ?_)
  rw [zP2] at hP hD
  have hRi := Yi_upd hRi 2 v_6 ⟨by show (0 : Int) ≤ v_6.toInt; omega, by show v_6.toInt ≤ (220 : Int); omega⟩
  have hEi := Ei_upd hEi 2 v_6 (by decide)
  obtain ⟨x_7, ex_7⟩ : ∃ y : Int32, y = (24 : Int32) + (-8) := ⟨_, rfl⟩
  refine lv_iinc (v := x_7) (lv' := [(2, .int x_7), (0, .ref (a 8)), (1, .int p0)]) hx hb dX9_add_40 hl (k := 0) rfl (by rw [ex_7]; rfl) (by decide) rfl (fun ls hl => ?_)
  obtain rfl : x_7 = 16 := ex_7.trans (by decide)
  refine lv_goto (tgt := 3) hx hb dX9_add_43 (by decide) ?_
  refine lv_iload_n hx hb dX9_add_3 rfl (lv_at hl 0 rfl) ?_
  refine lv_if_lt (tgt := 46) hx hb dX9_add_4 (by decide) (fun c_8 => absurd c_8 (by decide)) (fun c_8 => ?_)
  refine lv_aload_n hx hb dX9_add_7 rfl (lv_at hl 1 rfl) ?_
  refine va_get (D := D) (ci := 9) (v := .int v_6) (C := RX9) (T := TX9) (N := 2) hx hb hT iX9 hown hK hP 8 rfl rfl 1 (by decide) (hT _ t_333) (fun _ h9 => h9) rfl dX9_add_8 ?_
  refine lv_sipush (v := 220) hx hb dX9_add_11 (by decide) ?_
  refine lv_icmp_ge (tgt := 46) hx hb dX9_add_14 (by decide) (fun c_9 => by have c_9 : 220 ≤ v_6.toInt := b_le c_9; omega) (fun c_9 => ?_)
  have c_9 : v_6.toInt < 220 := b_nle c_9
  refine lv_aload_n hx hb dX9_add_17 rfl (lv_at hl 1 rfl) ?_
  refine va_get (D := D) (ci := 9) (v := .ref (a 9)) (C := RX9) (T := TX9) (N := 2) hx hb hT iX9 hown hK hP 8 rfl rfl 0 (by decide) (hT _ t_334) (fun _ h9 => h9) rfl dX9_add_18 ?_
  refine lv_aload_n hx hb dX9_add_21 rfl (lv_at hl 1 rfl) ?_
  refine va_get (D := D) (ci := 9) (v := .int v_6) (C := RX9) (T := TX9) (N := 2) hx hb hT iX9 hown hK hP 8 rfl rfl 1 (by decide) (hT _ t_333) (fun _ h9 => h9) rfl dX9_add_22 ?_
  refine lv_iload_n hx hb dX9_add_25 rfl (lv_at hl 2 rfl) ?_
  refine lv_iload_n hx hb dX9_add_26 rfl (lv_at hl 0 rfl) ?_
  refine lv_ishr hx hb dX9_add_27 ?_
  refine lv_topi (fun v_10 ev_10 => ?_)
  obtain ⟨v_11, ev_11⟩ : ∃ y : Int32, v_10.toInt8.toInt32 = y := ⟨_, rfl⟩
  refine lv_i2b (v := v_11) hx hb dX9_add_28 ev_11 ?_
  refine va_bast hx hb hK hP hD hS 9 1 rfl rfl (vp_inI (by omega) (by omega)) dX9_add_29 (fun H locs hP hD hS => ?_)
  rw [zS9] at hP hD
  have hRr : yRr (va_up (va_up r 9 (upd (r 9) ((i 2).toNatClampNeg) (vp_nar .byte v_5))) 9 (upd (upd (r 9) ((i 2).toNatClampNeg) (vp_nar .byte v_5)) v_6.toNatClampNeg (vp_nar .byte v_11))) := Yr_upd hRr 9 (v_6.toNatClampNeg) (vp_nar .byte v_11) (b_rg _)
  have hEr : mEr [9] _ (va_up (va_up r 9 (upd (r 9) ((i 2).toNatClampNeg) (vp_nar .byte v_5))) 9 (upd (upd (r 9) ((i 2).toNatClampNeg) (vp_nar .byte v_5)) v_6.toNatClampNeg (vp_nar .byte v_11))) := Er_up hEr 9 _ (by decide)
  refine lv_aload_n hx hb dX9_add_30 rfl (lv_at hl 1 rfl) ?_
  refine lv_dup hx hb dX9_add_31 rfl ?_
  refine va_get (D := D) (ci := 9) (v := .int v_6) (C := RX9) (T := TX9) (N := 2) hx hb hT iX9 hown hK hP 8 rfl rfl 1 (by decide) (hT _ t_333) (fun _ h9 => h9) rfl dX9_add_32 ?_
  refine lv_iconst (v := 1) hx hb dX9_add_35 (by decide) ?_
  refine lv_iadd hx hb dX9_add_36 ?_
  refine lv_topi (fun v_12 ev_12 => ?_)
  have hv_12 : v_12.toInt = v_6.toInt + 1 := by rw [ev_12]; have := b_rg v_6; exact i_add (a := v_6.toInt) (b := 1) rfl rfl (by omega) (by omega)
  refine va_put (D := D) (ci := 9) (v := .int v_12) (ty := .int) (C := RX9) (T := TX9) (N := 2) hx hb hT iX9 tyX9 tyX9_ok nmX9 hown hK hP hD hS 8 rfl rfl 1 (by decide) (hT _ t_333) (fun _ h9 => h9) rfl (by decide +kernel) rfl rfl (Nat.le_of_ble_eq_true rfl) dX9_add_37 (fun H locs hP hD hS => ?_)
  rw [zP2] at hP hD
  have hRi := Yi_upd hRi 2 v_12 ⟨by show (0 : Int) ≤ v_12.toInt; omega, by show v_12.toInt ≤ (220 : Int); omega⟩
  have hEi := Ei_upd hEi 2 v_12 (by decide)
  obtain ⟨x_13, ex_13⟩ : ∃ y : Int32, y = (16 : Int32) + (-8) := ⟨_, rfl⟩
  refine lv_iinc (v := x_13) (lv' := [(2, .int x_13), (0, .ref (a 8)), (1, .int p0)]) hx hb dX9_add_40 hl (k := 0) rfl (by rw [ex_13]; rfl) (by decide) rfl (fun ls hl => ?_)
  obtain rfl : x_13 = 8 := ex_13.trans (by decide)
  refine lv_goto (tgt := 3) hx hb dX9_add_43 (by decide) ?_
  refine lv_iload_n hx hb dX9_add_3 rfl (lv_at hl 0 rfl) ?_
  refine lv_if_lt (tgt := 46) hx hb dX9_add_4 (by decide) (fun c_14 => absurd c_14 (by decide)) (fun c_14 => ?_)
  refine lv_aload_n hx hb dX9_add_7 rfl (lv_at hl 1 rfl) ?_
  refine va_get (D := D) (ci := 9) (v := .int v_12) (C := RX9) (T := TX9) (N := 2) hx hb hT iX9 hown hK hP 8 rfl rfl 1 (by decide) (hT _ t_333) (fun _ h9 => h9) rfl dX9_add_8 ?_
  refine lv_sipush (v := 220) hx hb dX9_add_11 (by decide) ?_
  refine lv_icmp_ge (tgt := 46) hx hb dX9_add_14 (by decide) (fun c_15 => by have c_15 : 220 ≤ v_12.toInt := b_le c_15; omega) (fun c_15 => ?_)
  have c_15 : v_12.toInt < 220 := b_nle c_15
  refine lv_aload_n hx hb dX9_add_17 rfl (lv_at hl 1 rfl) ?_
  refine va_get (D := D) (ci := 9) (v := .ref (a 9)) (C := RX9) (T := TX9) (N := 2) hx hb hT iX9 hown hK hP 8 rfl rfl 0 (by decide) (hT _ t_334) (fun _ h9 => h9) rfl dX9_add_18 ?_
  refine lv_aload_n hx hb dX9_add_21 rfl (lv_at hl 1 rfl) ?_
  refine va_get (D := D) (ci := 9) (v := .int v_12) (C := RX9) (T := TX9) (N := 2) hx hb hT iX9 hown hK hP 8 rfl rfl 1 (by decide) (hT _ t_333) (fun _ h9 => h9) rfl dX9_add_22 ?_
  refine lv_iload_n hx hb dX9_add_25 rfl (lv_at hl 2 rfl) ?_
  refine lv_iload_n hx hb dX9_add_26 rfl (lv_at hl 0 rfl) ?_
  refine lv_ishr hx hb dX9_add_27 ?_
  refine lv_topi (fun v_16 ev_16 => ?_)
  obtain ⟨v_17, ev_17⟩ : ∃ y : Int32, v_16.toInt8.toInt32 = y := ⟨_, rfl⟩
  refine lv_i2b (v := v_17) hx hb dX9_add_28 ev_17 ?_
  refine va_bast hx hb hK hP hD hS 9 1 rfl rfl (vp_inI (by omega) (by omega)) dX9_add_29 (fun H locs hP hD hS => ?_)
  rw [zS9] at hP hD
  have hRr : yRr (va_up (va_up (va_up r 9 (upd (r 9) ((i 2).toNatClampNeg) (vp_nar .byte v_5))) 9 (upd (upd (r 9) ((i 2).toNatClampNeg) (vp_nar .byte v_5)) v_6.toNatClampNeg (vp_nar .byte v_11))) 9 (upd (upd (upd (r 9) ((i 2).toNatClampNeg) (vp_nar .byte v_5)) v_6.toNatClampNeg (vp_nar .byte v_11)) v_12.toNatClampNeg (vp_nar .byte v_17))) := Yr_upd hRr 9 (v_12.toNatClampNeg) (vp_nar .byte v_17) (b_rg _)
  have hEr : mEr [9] _ (va_up (va_up (va_up r 9 (upd (r 9) ((i 2).toNatClampNeg) (vp_nar .byte v_5))) 9 (upd (upd (r 9) ((i 2).toNatClampNeg) (vp_nar .byte v_5)) v_6.toNatClampNeg (vp_nar .byte v_11))) 9 (upd (upd (upd (r 9) ((i 2).toNatClampNeg) (vp_nar .byte v_5)) v_6.toNatClampNeg (vp_nar .byte v_11)) v_12.toNatClampNeg (vp_nar .byte v_17))) := Er_up hEr 9 _ (by decide)
  refine lv_aload_n hx hb dX9_add_30 rfl (lv_at hl 1 rfl) ?_
  refine lv_dup hx hb dX9_add_31 rfl ?_
  refine va_get (D := D) (ci := 9) (v := .int v_12) (C := RX9) (T := TX9) (N := 2) hx hb hT iX9 hown hK hP 8 rfl rfl 1 (by decide) (hT _ t_333) (fun _ h9 => h9) rfl dX9_add_32 ?_
  refine lv_iconst (v := 1) hx hb dX9_add_35 (by decide) ?_
  refine lv_iadd hx hb dX9_add_36 ?_
  refine lv_topi (fun v_18 ev_18 => ?_)
  have hv_18 : v_18.toInt = v_12.toInt + 1 := by rw [ev_18]; have := b_rg v_12; exact i_add (a := v_12.toInt) (b := 1) rfl rfl (by omega) (by omega)
  refine va_put (D := D) (ci := 9) (v := .int v_18) (ty := .int) (C := RX9) (T := TX9) (N := 2) hx hb hT iX9 tyX9 tyX9_ok nmX9 hown hK hP hD hS 8 rfl rfl 1 (by decide) (hT _ t_333) (fun _ h9 => h9) rfl (by decide +kernel) rfl rfl (Nat.le_of_ble_eq_true rfl) dX9_add_37 (fun H locs hP hD hS => ?_)
  rw [zP2] at hP hD
  have hRi := Yi_upd hRi 2 v_18 ⟨by show (0 : Int) ≤ v_18.toInt; omega, by show v_18.toInt ≤ (220 : Int); omega⟩
  have hEi := Ei_upd hEi 2 v_18 (by decide)
  obtain ⟨x_19, ex_19⟩ : ∃ y : Int32, y = (8 : Int32) + (-8) := ⟨_, rfl⟩
  refine lv_iinc (v := x_19) (lv' := [(2, .int x_19), (0, .ref (a 8)), (1, .int p0)]) hx hb dX9_add_40 hl (k := 0) rfl (by rw [ex_19]; rfl) (by decide) rfl (fun ls hl => ?_)
  obtain rfl : x_19 = 0 := ex_19.trans (by decide)
  refine lv_goto (tgt := 3) hx hb dX9_add_43 (by decide) ?_
  refine lv_iload_n hx hb dX9_add_3 rfl (lv_at hl 0 rfl) ?_
  refine lv_if_lt (tgt := 46) hx hb dX9_add_4 (by decide) (fun c_20 => absurd c_20 (by decide)) (fun c_20 => ?_)
  refine lv_aload_n hx hb dX9_add_7 rfl (lv_at hl 1 rfl) ?_
  refine va_get (D := D) (ci := 9) (v := .int v_18) (C := RX9) (T := TX9) (N := 2) hx hb hT iX9 hown hK hP 8 rfl rfl 1 (by decide) (hT _ t_333) (fun _ h9 => h9) rfl dX9_add_8 ?_
  refine lv_sipush (v := 220) hx hb dX9_add_11 (by decide) ?_
  refine lv_icmp_ge (tgt := 46) hx hb dX9_add_14 (by decide) (fun c_21 => by have c_21 : 220 ≤ v_18.toInt := b_le c_21; omega) (fun c_21 => ?_)
  have c_21 : v_18.toInt < 220 := b_nle c_21
  refine lv_aload_n hx hb dX9_add_17 rfl (lv_at hl 1 rfl) ?_
  refine va_get (D := D) (ci := 9) (v := .ref (a 9)) (C := RX9) (T := TX9) (N := 2) hx hb hT iX9 hown hK hP 8 rfl rfl 0 (by decide) (hT _ t_334) (fun _ h9 => h9) rfl dX9_add_18 ?_
  refine lv_aload_n hx hb dX9_add_21 rfl (lv_at hl 1 rfl) ?_
  refine va_get (D := D) (ci := 9) (v := .int v_18) (C := RX9) (T := TX9) (N := 2) hx hb hT iX9 hown hK hP 8 rfl rfl 1 (by decide) (hT _ t_333) (fun _ h9 => h9) rfl dX9_add_22 ?_
  refine lv_iload_n hx hb dX9_add_25 rfl (lv_at hl 2 rfl) ?_
  refine lv_iload_n hx hb dX9_add_26 rfl (lv_at hl 0 rfl) ?_
  refine lv_ishr hx hb dX9_add_27 ?_
  refine lv_topi (fun v_22 ev_22 => ?_)
  obtain ⟨v_23, ev_23⟩ : ∃ y : Int32, v_22.toInt8.toInt32 = y := ⟨_, rfl⟩
  refine lv_i2b (v := v_23) hx hb dX9_add_28 ev_23 ?_
  refine va_bast hx hb hK hP hD hS 9 1 rfl rfl (vp_inI (by omega) (by omega)) dX9_add_29 (fun H locs hP hD hS => ?_)
  rw [zS9] at hP hD
  have hRr : yRr (va_up (va_up (va_up (va_up r 9 (upd (r 9) ((i 2).toNatClampNeg) (vp_nar .byte v_5))) 9 (upd (upd (r 9) ((i 2).toNatClampNeg) (vp_nar .byte v_5)) v_6.toNatClampNeg (vp_nar .byte v_11))) 9 (upd (upd (upd (r 9) ((i 2).toNatClampNeg) (vp_nar .byte v_5)) v_6.toNatClampNeg (vp_nar .byte v_11)) v_12.toNatClampNeg (vp_nar .byte v_17))) 9 (upd (upd (upd (upd (r 9) ((i 2).toNatClampNeg) (vp_nar .byte v_5)) v_6.toNatClampNeg (vp_nar .byte v_11)) v_12.toNatClampNeg (vp_nar .byte v_17)) v_18.toNatClampNeg (vp_nar .byte v_23))) := Yr_upd hRr 9 (v_18.toNatClampNeg) (vp_nar .byte v_23) (b_rg _)
  have hEr : mEr [9] _ (va_up (va_up (va_up (va_up r 9 (upd (r 9) ((i 2).toNatClampNeg) (vp_nar .byte v_5))) 9 (upd (upd (r 9) ((i 2).toNatClampNeg) (vp_nar .byte v_5)) v_6.toNatClampNeg (vp_nar .byte v_11))) 9 (upd (upd (upd (r 9) ((i 2).toNatClampNeg) (vp_nar .byte v_5)) v_6.toNatClampNeg (vp_nar .byte v_11)) v_12.toNatClampNeg (vp_nar .byte v_17))) 9 (upd (upd (upd (upd (r 9) ((i 2).toNatClampNeg) (vp_nar .byte v_5)) v_6.toNatClampNeg (vp_nar .byte v_11)) v_12.toNatClampNeg (vp_nar .byte v_17)) v_18.toNatClampNeg (vp_nar .byte v_23))) := Er_up hEr 9 _ (by decide)
  refine lv_aload_n hx hb dX9_add_30 rfl (lv_at hl 1 rfl) ?_
  refine lv_dup hx hb dX9_add_31 rfl ?_
  refine va_get (D := D) (ci := 9) (v := .int v_18) (C := RX9) (T := TX9) (N := 2) hx hb hT iX9 hown hK hP 8 rfl rfl 1 (by decide) (hT _ t_333) (fun _ h9 => h9) rfl dX9_add_32 ?_
  refine lv_iconst (v := 1) hx hb dX9_add_35 (by decide) ?_
  refine lv_iadd hx hb dX9_add_36 ?_
  refine lv_topi (fun v_24 ev_24 => ?_)
  have hv_24 : v_24.toInt = v_18.toInt + 1 := by rw [ev_24]; have := b_rg v_18; exact i_add (a := v_18.toInt) (b := 1) rfl rfl (by omega) (by omega)
  refine va_put (D := D) (ci := 9) (v := .int v_24) (ty := .int) (C := RX9) (T := TX9) (N := 2) hx hb hT iX9 tyX9 tyX9_ok nmX9 hown hK hP hD hS 8 rfl rfl 1 (by decide) (hT _ t_333) (fun _ h9 => h9) rfl (by decide +kernel) rfl rfl (Nat.le_of_ble_eq_true rfl) dX9_add_37 (fun H locs hP hD hS => ?_)
  rw [zP2] at hP hD
  have hRi := Yi_upd hRi 2 v_24 ⟨by show (0 : Int) ≤ v_24.toInt; omega, by show v_24.toInt ≤ (220 : Int); omega⟩
  have hEi := Ei_upd hEi 2 v_24 (by decide)
  obtain ⟨x_25, ex_25⟩ : ∃ y : Int32, y = (0 : Int32) + (-8) := ⟨_, rfl⟩
  refine lv_iinc (v := x_25) (lv' := [(2, .int x_25), (0, .ref (a 8)), (1, .int p0)]) hx hb dX9_add_40 hl (k := 0) rfl (by rw [ex_25]; rfl) (by decide) rfl (fun ls hl => ?_)
  obtain rfl : x_25 = (-8) := ex_25.trans (by decide)
  refine lv_goto (tgt := 3) hx hb dX9_add_43 (by decide) ?_
  refine lv_iload_n hx hb dX9_add_3 rfl (lv_at hl 0 rfl) ?_
  refine lv_if_lt (tgt := 46) hx hb dX9_add_4 (by decide) (fun c_26 => ?_) (fun c_26 => absurd (by decide) c_26)
  subst hQ
  exact W.vret hx hb hr (fun t ht hW => ⟨⟨(upd (upd (upd (upd i 2 v_6) 2 v_12) 2 v_18) 2 v_24, va_up (va_up (va_up (va_up r 9 (upd (r 9) ((i 2).toNatClampNeg) (vp_nar .byte v_5))) 9 (upd (upd (r 9) ((i 2).toNatClampNeg) (vp_nar .byte v_5)) v_6.toNatClampNeg (vp_nar .byte v_11))) 9 (upd (upd (upd (r 9) ((i 2).toNatClampNeg) (vp_nar .byte v_5)) v_6.toNatClampNeg (vp_nar .byte v_11)) v_12.toNatClampNeg (vp_nar .byte v_17))) 9 (upd (upd (upd (upd (r 9) ((i 2).toNatClampNeg) (vp_nar .byte v_5)) v_6.toNatClampNeg (vp_nar .byte v_11)) v_12.toNatClampNeg (vp_nar .byte v_17)) v_18.toNatClampNeg (vp_nar .byte v_23))), rfl, ⟨hRi, hRr, hEi, hEr, (by show v_24.toInt = _; omega)⟩, by rw [ht]; exact hP, va_K.moved hW.alike hK, hD⟩, hS.F ht⟩) hS.2.2 dX9_add_46
set_option maxHeartbeats 4000000 in
set_option maxRecDepth 100000 in
theorem c_X11_feed9 (l : Launch) (D : va_G) (cy : Nat → ClassId) (a : Nat → Nat) (i : Nat → Int32) (r : Nat → Nat → Int32) (q : Nat → Option Nat) (tl : va_W) (p0 p1 p2 p3 p4 : Int32) (sz : Nat) (hRi : yRi i) (hRr : yRr r) : Met l yX11_feed (Cond.code yX11_feed cX11_feed 6 (some .int) :: gT) { frames := 2, cells := 0, slots := 0, locals := 46 } (va_Pc [.ref (a 0), .int p0, .int p1, .int p2, .int p3, .int p4] (rQ D cy (xW cy a i r q (a 20) (a 12) ++ tl) sz)) (va_Qi (fun (z : Int32) (u : (Nat → Int32) × (Nat → Nat → Int32)) => yRi u.1 ∧ yRr u.2 ∧ mEi [2] i u.1 ∧ mEr [9] r u.2 ∧ ((((i 2).toInt ≤ 200) → z.toInt = (i 2).toInt + 20 ∧ (u.1 2).toInt = (i 2).toInt + 20) ∧ (¬ ((i 2).toInt ≤ 200) → z = -1 ∧ mEi [] i u.1 ∧ mEr [] r u.2))) (fun (u : (Nat → Int32) × (Nat → Nat → Int32)) t => va_P D vwCl (xW cy a u.1 u.2 q (a 20) (a 12) ++ tl) t.heap ∧ va_K D vwCl (vT cy) t ∧ va_D (va_A (xW cy a i r q (a 20) (a 12) ++ tl) sz) (xW cy a u.1 u.2 q (a 20) (a 12) ++ tl)) (va_A (xW cy a i r q (a 20) (a 12) ++ tl) sz)) 0 0 (va_A (xW cy a i r q (a 20) (a 12) ++ tl) sz) := by
  refine Met.ofQ (cc := cX11_feed) (maxL := 6) (ret := (some .int)) (by decide) rfl ?_
  intro p e s m args below meth c s₁ B hml hv Q hQ
  obtain ⟨rfl, hsz, hP, hK, hD0⟩ := hv
  have hx := B.exec
  have hb := B.bytes
  have hr := B.returns
  have hlocks := B.notSynchronized
  have hT : ∀ w ∈ gT, w.before _ s = true := fun w h => atoms_spec (ws := (Cond.code yX11_feed cX11_feed 6 (some .int) :: gT)) B.pre w (List.mem_cons_of_mem _ h)
  have hown : s.vm.findClass RX11 = some m.cls := findClass_of_methodNamed B.named
  subst hsz
  have hD := hD0.self (sz := s.heap.size)
  generalize hAe : va_A (xW cy a i r q (a 20) (a 12) ++ tl) s.heap.size = A at hD hQ
  have hA : ∀ q : Nat, s.heap.size ≤ q → A q := fun q h => by rw [← hAe]; exact Or.inr h
  have hS : va_S A s.heap s.heap [] := va_S.rf
  have hl := lv_entry ([.ref (a 0), .int p0, .int p1, .int p2, .int p3, .int p4]) (n := 6) (Nat.le_of_ble_eq_true rfl)
  rw [lg_entry_eq]
  generalize (lg_sl ([.ref (a 0), .int p0, .int p1, .int p2, .int p3, .int p4]) ++ List.replicate (6 - (lg_sl ([.ref (a 0), .int p0, .int p1, .int p2, .int p3, .int p4])).length) Slot.unset).toArray = ls at hl ⊢
  have hl : lv_has ls 6 [(0, .ref (a 0)), (1, .int p0), (2, .int p1), (3, .int p2), (4, .int p3), (5, .int p4)] := hl
  have hEi : mEi [2] i i := Ei_rf
  have hEr : mEr [9] r r := Er_rf
  refine lv_aload_n hx hb dX11_feed_0 rfl (lv_at hl 0 rfl) ?_
  refine va_get (D := D) (ci := 11) (v := .ref (a 8)) (C := RX11) (T := TX11) (N := 14) hx hb hT iX11 hown hK hP 0 rfl rfl 4 (by decide) (hT _ t_335) (fun _ h9 => h9) rfl dX11_feed_1 ?_
  refine va_get (D := D) (ci := 9) (v := .int (i 2)) (C := RX9) (T := TX9) (N := 2) hx hb hT iX9 hown hK hP 8 rfl rfl 1 (by decide) (hT _ t_336) (fun _ h9 => h9) rfl dX11_feed_4 ?_
  have hg_1 : 0 ≤ (i 2).toInt ∧ (i 2).toInt ≤ 220 := hRi 2
  refine lv_sipush (v := 200) hx hb dX11_feed_7 (by decide) ?_
  refine lv_icmp_le (tgt := 15) hx hb dX11_feed_10 (by decide) (fun c_2 => ?_) (fun c_2 => ?_)
  · have c_2 : (i 2).toInt ≤ 200 := b_le c_2
    refine lv_aload_n hx hb dX11_feed_15 rfl (lv_at hl 0 rfl) ?_
    refine va_get (D := D) (ci := 11) (v := .ref (a 8)) (C := RX11) (T := TX11) (N := 14) hx hb hT iX11 hown hK hP 0 rfl rfl 4 (by decide) (hT _ t_335) (fun _ h9 => h9) rfl dX11_feed_16 ?_
    refine lv_iload_n hx hb dX11_feed_19 rfl (lv_at hl 1 rfl) ?_
    have hF_3 := rF hD hS hA
    refine va_callv (va_runV (As := [.int p0]) (rest := []) ⟨hx, hb, hml, hown, hT⟩ (c_X9_add9 l D cy a i r q tl p0 _ hRi hRr (by omega)) (cwV 1 hT (gV t_337 t_339 t_340 t_341 t_338) rfl rfl rfl (by decide +kernel) ⟨Nat.le_of_ble_eq_true rfl, Nat.le_of_ble_eq_true rfl⟩) (rQ_v hP hK hD (va_recv hK hP (ci := 9) (q0 := 8) rfl rfl)) rfl rfl hl.1 rfl (lv_room (Nat.le_of_ble_eq_true rfl)) dX11_feed_20 ⟨Nat.le_of_ble_eq_true rfl, Nat.le_of_ble_eq_true rfl⟩) hS (fun q _ h => hF_3 q h) hF_3 (fun u_5 t H1 locs ht hvm hr_4 hB hz1 hk1 hS => ?_)
    obtain ⟨i5, r5⟩ := u_5
    obtain ⟨hP, hK1, hD1⟩ := hB
    rw [ht] at hP
    have hD := hD1.weaken (fun k q _ h => hF_3 q.1 h)
    obtain ⟨hRi, hRr, hE1, hE2, hr_4⟩ := hr_4
    have hRi : yRi i5 := hRi
    have hE1 : mEi [2] i i5 := hE1
    have hRr : yRr r5 := hRr
    have hE2 : mEr [9] r r5 := hE2
    have hP : va_P D vwCl (xW cy a i5 r5 q (a 20) (a 12) ++ tl) H1 := hP
    have hD : va_D A (xW cy a i5 r5 q (a 20) (a 12) ++ tl) := hD
    have hEi : mEi [2] _ i5 := Ei_tr hEi hE1 (by decide)
    have hEr : mEr [9] _ r5 := Er_tr hEr hE2 (by decide)
    have hr_4 : (i5 2).toInt = (i 2).toInt + 4 := hr_4
    refine lv_aload_n hx hb dX11_feed_23 rfl (lv_at hl 0 rfl) ?_
    refine va_get (D := D) (ci := 11) (v := .ref (a 8)) (C := RX11) (T := TX11) (N := 14) hx hb hT iX11 hown hK hP 0 rfl rfl 4 (by decide) (hT _ t_335) (fun _ h9 => h9) rfl dX11_feed_24 ?_
    refine lv_iload_n hx hb dX11_feed_27 rfl (lv_at hl 2 rfl) ?_
    have hF_6 := rF hD hS hA
    refine va_callv (va_runV (As := [.int p1]) (rest := []) ⟨hx, hb, hml, hown, hT⟩ (c_X9_add9 l D cy a i5 r5 q tl p1 _ hRi hRr (by omega)) (cwV 1 hT (gV t_337 t_339 t_340 t_341 t_338) rfl rfl rfl (by decide +kernel) ⟨Nat.le_of_ble_eq_true rfl, Nat.le_of_ble_eq_true rfl⟩) (rQ_v hP hK hD (va_recv hK hP (ci := 9) (q0 := 8) rfl rfl)) rfl rfl hl.1 rfl (lv_room (Nat.le_of_ble_eq_true rfl)) dX11_feed_28 ⟨Nat.le_of_ble_eq_true rfl, Nat.le_of_ble_eq_true rfl⟩) hS (fun q _ h => hF_6 q h) hF_6 (fun u_8 t H1 locs ht hvm hr_7 hB hz1 hk1 hS => ?_)
    obtain ⟨i8, r8⟩ := u_8
    obtain ⟨hP, hK1, hD1⟩ := hB
    rw [ht] at hP
    have hD := hD1.weaken (fun k q _ h => hF_6 q.1 h)
    obtain ⟨hRi, hRr, hE1, hE2, hr_7⟩ := hr_7
    have hRi : yRi i8 := hRi
    have hE1 : mEi [2] i5 i8 := hE1
    have hRr : yRr r8 := hRr
    have hE2 : mEr [9] r5 r8 := hE2
    have hP : va_P D vwCl (xW cy a i8 r8 q (a 20) (a 12) ++ tl) H1 := hP
    have hD : va_D A (xW cy a i8 r8 q (a 20) (a 12) ++ tl) := hD
    have hEi : mEi [2] _ i8 := Ei_tr hEi hE1 (by decide)
    have hEr : mEr [9] _ r8 := Er_tr hEr hE2 (by decide)
    have hr_7 : (i8 2).toInt = (i5 2).toInt + 4 := hr_7
    refine lv_aload_n hx hb dX11_feed_31 rfl (lv_at hl 0 rfl) ?_
    refine va_get (D := D) (ci := 11) (v := .ref (a 8)) (C := RX11) (T := TX11) (N := 14) hx hb hT iX11 hown hK hP 0 rfl rfl 4 (by decide) (hT _ t_335) (fun _ h9 => h9) rfl dX11_feed_32 ?_
    refine lv_iload_n hx hb dX11_feed_35 rfl (lv_at hl 3 rfl) ?_
    have hF_9 := rF hD hS hA
    refine va_callv (va_runV (As := [.int p2]) (rest := []) ⟨hx, hb, hml, hown, hT⟩ (c_X9_add9 l D cy a i8 r8 q tl p2 _ hRi hRr (by omega)) (cwV 1 hT (gV t_337 t_339 t_340 t_341 t_338) rfl rfl rfl (by decide +kernel) ⟨Nat.le_of_ble_eq_true rfl, Nat.le_of_ble_eq_true rfl⟩) (rQ_v hP hK hD (va_recv hK hP (ci := 9) (q0 := 8) rfl rfl)) rfl rfl hl.1 rfl (lv_room (Nat.le_of_ble_eq_true rfl)) dX11_feed_36 ⟨Nat.le_of_ble_eq_true rfl, Nat.le_of_ble_eq_true rfl⟩) hS (fun q _ h => hF_9 q h) hF_9 (fun u_11 t H1 locs ht hvm hr_10 hB hz1 hk1 hS => ?_)
    obtain ⟨i11, r11⟩ := u_11
    obtain ⟨hP, hK1, hD1⟩ := hB
    rw [ht] at hP
    have hD := hD1.weaken (fun k q _ h => hF_9 q.1 h)
    obtain ⟨hRi, hRr, hE1, hE2, hr_10⟩ := hr_10
    have hRi : yRi i11 := hRi
    have hE1 : mEi [2] i8 i11 := hE1
    have hRr : yRr r11 := hRr
    have hE2 : mEr [9] r8 r11 := hE2
    have hP : va_P D vwCl (xW cy a i11 r11 q (a 20) (a 12) ++ tl) H1 := hP
    have hD : va_D A (xW cy a i11 r11 q (a 20) (a 12) ++ tl) := hD
    have hEi : mEi [2] _ i11 := Ei_tr hEi hE1 (by decide)
    have hEr : mEr [9] _ r11 := Er_tr hEr hE2 (by decide)
    have hr_10 : (i11 2).toInt = (i8 2).toInt + 4 := hr_10
    refine lv_aload_n hx hb dX11_feed_39 rfl (lv_at hl 0 rfl) ?_
    refine va_get (D := D) (ci := 11) (v := .ref (a 8)) (C := RX11) (T := TX11) (N := 14) hx hb hT iX11 hown hK hP 0 rfl rfl 4 (by decide) (hT _ t_335) (fun _ h9 => h9) rfl dX11_feed_40 ?_
    refine lv_iload hx hb dX11_feed_43 (lv_at hl 4 rfl) ?_
    have hF_12 := rF hD hS hA
    refine va_callv (va_runV (As := [.int p3]) (rest := []) ⟨hx, hb, hml, hown, hT⟩ (c_X9_add9 l D cy a i11 r11 q tl p3 _ hRi hRr (by omega)) (cwV 1 hT (gV t_337 t_339 t_340 t_341 t_338) rfl rfl rfl (by decide +kernel) ⟨Nat.le_of_ble_eq_true rfl, Nat.le_of_ble_eq_true rfl⟩) (rQ_v hP hK hD (va_recv hK hP (ci := 9) (q0 := 8) rfl rfl)) rfl rfl hl.1 rfl (lv_room (Nat.le_of_ble_eq_true rfl)) dX11_feed_45 ⟨Nat.le_of_ble_eq_true rfl, Nat.le_of_ble_eq_true rfl⟩) hS (fun q _ h => hF_12 q h) hF_12 (fun u_14 t H1 locs ht hvm hr_13 hB hz1 hk1 hS => ?_)
    obtain ⟨i14, r14⟩ := u_14
    obtain ⟨hP, hK1, hD1⟩ := hB
    rw [ht] at hP
    have hD := hD1.weaken (fun k q _ h => hF_12 q.1 h)
    obtain ⟨hRi, hRr, hE1, hE2, hr_13⟩ := hr_13
    have hRi : yRi i14 := hRi
    have hE1 : mEi [2] i11 i14 := hE1
    have hRr : yRr r14 := hRr
    have hE2 : mEr [9] r11 r14 := hE2
    have hP : va_P D vwCl (xW cy a i14 r14 q (a 20) (a 12) ++ tl) H1 := hP
    have hD : va_D A (xW cy a i14 r14 q (a 20) (a 12) ++ tl) := hD
    have hEi : mEi [2] _ i14 := Ei_tr hEi hE1 (by decide)
    have hEr : mEr [9] _ r14 := Er_tr hEr hE2 (by decide)
    have hr_13 : (i14 2).toInt = (i11 2).toInt + 4 := hr_13
    refine lv_aload_n hx hb dX11_feed_48 rfl (lv_at hl 0 rfl) ?_
    refine va_get (D := D) (ci := 11) (v := .ref (a 8)) (C := RX11) (T := TX11) (N := 14) hx hb hT iX11 hown hK hP 0 rfl rfl 4 (by decide) (hT _ t_335) (fun _ h9 => h9) rfl dX11_feed_49 ?_
    refine lv_iload hx hb dX11_feed_52 (lv_at hl 5 rfl) ?_
    have hF_15 := rF hD hS hA
    refine va_callv (va_runV (As := [.int p4]) (rest := []) ⟨hx, hb, hml, hown, hT⟩ (c_X9_add9 l D cy a i14 r14 q tl p4 _ hRi hRr (by omega)) (cwV 1 hT (gV t_337 t_339 t_340 t_341 t_338) rfl rfl rfl (by decide +kernel) ⟨Nat.le_of_ble_eq_true rfl, Nat.le_of_ble_eq_true rfl⟩) (rQ_v hP hK hD (va_recv hK hP (ci := 9) (q0 := 8) rfl rfl)) rfl rfl hl.1 rfl (lv_room (Nat.le_of_ble_eq_true rfl)) dX11_feed_54 ⟨Nat.le_of_ble_eq_true rfl, Nat.le_of_ble_eq_true rfl⟩) hS (fun q _ h => hF_15 q h) hF_15 (fun u_17 t H1 locs ht hvm hr_16 hB hz1 hk1 hS => ?_)
    obtain ⟨i17, r17⟩ := u_17
    obtain ⟨hP, hK1, hD1⟩ := hB
    rw [ht] at hP
    have hD := hD1.weaken (fun k q _ h => hF_15 q.1 h)
    obtain ⟨hRi, hRr, hE1, hE2, hr_16⟩ := hr_16
    have hRi : yRi i17 := hRi
    have hE1 : mEi [2] i14 i17 := hE1
    have hRr : yRr r17 := hRr
    have hE2 : mEr [9] r14 r17 := hE2
    have hP : va_P D vwCl (xW cy a i17 r17 q (a 20) (a 12) ++ tl) H1 := hP
    have hD : va_D A (xW cy a i17 r17 q (a 20) (a 12) ++ tl) := hD
    have hEi : mEi [2] _ i17 := Ei_tr hEi hE1 (by decide)
    have hEr : mEr [9] _ r17 := Er_tr hEr hE2 (by decide)
    have hr_16 : (i17 2).toInt = (i14 2).toInt + 4 := hr_16
    refine lv_aload_n hx hb dX11_feed_57 rfl (lv_at hl 0 rfl) ?_
    refine va_get (D := D) (ci := 11) (v := .ref (a 8)) (C := RX11) (T := TX11) (N := 14) hx hb hT iX11 hown hK hP 0 rfl rfl 4 (by decide) (hT _ t_335) (fun _ h9 => h9) rfl dX11_feed_58 ?_
    refine va_get (D := D) (ci := 9) (v := .int (i17 2)) (C := RX9) (T := TX9) (N := 2) hx hb hT iX9 hown hK hP 8 rfl rfl 1 (by decide) (hT _ t_336) (fun _ h9 => h9) rfl dX11_feed_61 ?_
    have hg_18 : 0 ≤ (i17 2).toInt ∧ (i17 2).toInt ≤ 220 := hRi 2
    subst hQ
    exact W.iret (v := i17 2) hx hb hr (fun t ht hW => ⟨⟨_, (i17, r17), rfl, ⟨hRi, hRr, hEi, hEr, ⟨fun _ => ⟨by omega, by show (i17 2).toInt = _; omega⟩, fun h9 => absurd (by omega) h9⟩⟩, by rw [ht]; exact hP, va_K.moved hW.alike hK, hD⟩, hS.F ht⟩) hS.2.2 dX11_feed_64
  · have c_2 : 200 < (i 2).toInt := b_nle c_2
    refine lv_iconst (v := (-1)) hx hb dX11_feed_13 (by decide) ?_
    subst hQ
    exact W.iret (v := (-1)) hx hb hr (fun t ht hW => ⟨⟨_, (i, r), rfl, ⟨hRi, hRr, hEi, hEr, ⟨fun h9 => absurd h9 (by omega), fun _ => ⟨rfl, Ei_rf, Er_rf⟩⟩⟩, by rw [ht]; exact hP, va_K.moved hW.alike hK, hD⟩, hS.F ht⟩) hS.2.2 dX11_feed_14
set_option maxHeartbeats 4000000 in
set_option maxRecDepth 100000 in
theorem c_X12_law9 (l : Launch) (D : va_G) (cy : Nat → ClassId) (a : Nat → Nat) (i : Nat → Int32) (r : Nat → Nat → Int32) (rl : Nat → Int64) (p0 : Int32) (sz : Nat) (hRi : mRi i) (hRr : mRr r) (hE : mE i r) : Met l yX12_law (Cond.code yX12_law cX12_law 4 (some .int) :: gT) { frames := 9, cells := 0, slots := 0, locals := 190 } (va_Pc [.ref (a 0), .int p0] (rQ D cy (mW cy a i r rl) sz)) (va_Qi (fun (z : Int32) (u : (Nat → Int32) × (Nat → Nat → Int32)) => mRi u.1 ∧ mRr u.2 ∧ mEi [22, 23, 24, 25, 26, 27, 28, 29, 30, 31] i u.1 ∧ mEr [21, 22, 23, 24, 25, 26, 27, 28, 29, 30, 31] r u.2 ∧ (mE u.1 u.2 ∧ (((1 ≤ p0.toInt ∧ p0.toInt ≤ 200) ∧ p0.toInt ≤ (i 22).toInt) → u.1 22 = 0) ∧ (¬ ((1 ≤ p0.toInt ∧ p0.toInt ≤ 200) ∧ p0.toInt ≤ (i 22).toInt) → u.1 22 = i 22))) (fun (u : (Nat → Int32) × (Nat → Nat → Int32)) t => va_P D vwCl (mW cy a u.1 u.2 rl) t.heap ∧ va_K D vwCl (vT cy) t ∧ va_D (va_A (mW cy a i r rl) sz) (mW cy a u.1 u.2 rl)) (va_A (mW cy a i r rl) sz)) 0 0 (va_A (mW cy a i r rl) sz) := by
  refine Met.ofQ (cc := cX12_law) (maxL := 4) (ret := (some .int)) (by decide) rfl ?_
  intro p e s m args below meth c s₁ B hml hv Q hQ
  obtain ⟨rfl, hsz, hP, hK, hD0⟩ := hv
  have hx := B.exec
  have hb := B.bytes
  have hr := B.returns
  have hlocks := B.notSynchronized
  have hT : ∀ w ∈ gT, w.before _ s = true := fun w h => atoms_spec (ws := (Cond.code yX12_law cX12_law 4 (some .int) :: gT)) B.pre w (List.mem_cons_of_mem _ h)
  have hown : s.vm.findClass RX12 = some m.cls := findClass_of_methodNamed B.named
  subst hsz
  have hD := hD0.self (sz := s.heap.size)
  generalize hAe : va_A (mW cy a i r rl) s.heap.size = A at hD hQ
  have hA : ∀ q : Nat, s.heap.size ≤ q → A q := fun q h => by rw [← hAe]; exact Or.inr h
  have hS : va_S A s.heap s.heap [] := va_S.rf
  have hl := lv_entry ([.ref (a 0), .int p0]) (n := 4) (Nat.le_of_ble_eq_true rfl)
  rw [lg_entry_eq]
  generalize (lg_sl ([.ref (a 0), .int p0]) ++ List.replicate (4 - (lg_sl ([.ref (a 0), .int p0])).length) Slot.unset).toArray = ls at hl ⊢
  have hl : lv_has ls 4 [(0, .ref (a 0)), (1, .int p0)] := hl
  have hEi : mEi [22, 23, 24, 25, 26, 27, 28, 29, 30, 31] i i := Ei_rf
  have hEr : mEr [21, 22, 23, 24, 25, 26, 27, 28, 29, 30, 31] r r := Er_rf
  have hEi : mEi [22, 23, 24, 25, 26, 27, 28, 29, 30] i i := Ei_rf
  have hEr : mEr [21, 22, 23, 24, 25, 26] r r := Er_rf
  refine lv_iload_n hx hb dX12_law_0 rfl (lv_at hl 1 rfl) ?_
  refine lv_iconst (v := 1) hx hb dX12_law_1 (by decide) ?_
  refine lv_sipush (v := 200) hx hb dX12_law_2 (by decide) ?_
  refine vp_callSi (W.runS (As := [.int p0, .int 1, .int 200]) (rest := []) ⟨hx, hb, hml, hown, hT⟩ (c_X12_in l p0 1 200) (va_cwS 3 hT (gS t_113 t_114 t_115 t_6) rfl rfl rfl (by decide +kernel) ⟨Nat.le_of_ble_eq_true rfl, Nat.le_of_ble_eq_true rfl⟩) preT rfl rfl hl.1 rfl (lv_room (Nat.le_of_ble_eq_true rfl)) dX12_law_5 ⟨Nat.le_of_ble_eq_true rfl, Nat.le_of_ble_eq_true rfl⟩) (fun r_1 hr_1 => ?_)
  have hr_1 : BR r_1 (1 ≤ p0.toInt ∧ p0.toInt ≤ 200) 1 0 := hr_1
  rcases hr_1 with ⟨rfl, h_2⟩ | ⟨rfl, h_2⟩
  · skip
    refine lv_if_eq (tgt := 19) hx hb dX12_law_8 (by decide) (fun c_3 => absurd c_3 (by decide)) (fun c_3 => ?_)
    refine lv_iload_n hx hb dX12_law_11 rfl (lv_at hl 1 rfl) ?_
    refine lv_aload_n hx hb dX12_law_12 rfl (lv_at hl 0 rfl) ?_
    refine va_get (D := D) (ci := 12) (v := .int (i 22)) (C := RX12) (T := TX12) (N := 91) hx hb hT iX12 hown hK hP 0 rfl rfl 22 (by decide) (hT _ t_201) (fun _ h9 => h9) rfl dX12_law_13 ?_
    have hg_4 : 0 ≤ (i 22).toInt ∧ (i 22).toInt ≤ 220 := hRi 22
    refine lv_icmp_le (tgt := 21) hx hb dX12_law_16 (by decide) (fun c_5 => ?_) (fun c_5 => ?_)
    · have c_5 : p0.toInt ≤ (i 22).toInt := b_le c_5
      refine lv_aload_n hx hb dX12_law_21 rfl (lv_at hl 0 rfl) ?_
      refine lv_iconst (v := 0) hx hb dX12_law_22 (by decide) ?_
      refine va_put (D := D) (ci := 12) (v := .int 0) (ty := .int) (C := RX12) (T := TX12) (N := 91) hx hb hT iX12 tyX12 tyX12_ok nmX12 hown hK hP hD hS 0 rfl rfl 23 (by decide) (hT _ t_252) (fun _ h9 => h9) rfl (by decide +kernel) rfl rfl (Nat.le_of_ble_eq_true rfl) dX12_law_23 (fun H locs hP hD hS => ?_)
      rw [mP23] at hP hD
      have hRi := Ri_upd hRi 23 0 ⟨by decide, by decide⟩
      have hEi := Ei_upd hEi 23 0 (by decide)
      refine lv_aload_n hx hb dX12_law_26 rfl (lv_at hl 0 rfl) ?_
      refine lv_iload_n hx hb dX12_law_27 rfl (lv_at hl 1 rfl) ?_
      refine va_put (D := D) (ci := 12) (v := .int p0) (ty := .int) (C := RX12) (T := TX12) (N := 91) hx hb hT iX12 tyX12 tyX12_ok nmX12 hown hK hP hD hS 0 rfl rfl 24 (by decide) (hT _ t_253) (fun _ h9 => h9) rfl (by decide +kernel) rfl rfl (Nat.le_of_ble_eq_true rfl) dX12_law_28 (fun H locs hP hD hS => ?_)
      rw [mP24] at hP hD
      have hRi := Ri_upd hRi 24 p0 ⟨by show (0 : Int) ≤ p0.toInt; omega, by show p0.toInt ≤ (200 : Int); omega⟩
      have hEi := Ei_upd hEi 24 p0 (by decide)
      refine lv_aload_n hx hb dX12_law_31 rfl (lv_at hl 0 rfl) ?_
      refine lv_iconst (v := 0) hx hb dX12_law_32 (by decide) ?_
      refine va_put (D := D) (ci := 12) (v := .int 0) (ty := .int) (C := RX12) (T := TX12) (N := 91) hx hb hT iX12 tyX12 tyX12_ok nmX12 hown hK hP hD hS 0 rfl rfl 27 (by decide) (hT _ t_847) (fun _ h9 => h9) rfl (by decide +kernel) rfl rfl (Nat.le_of_ble_eq_true rfl) dX12_law_33 (fun H locs hP hD hS => ?_)
      rw [mP27] at hP hD
      have hRi := Ri_upd hRi 27 0 ⟨by decide, by decide⟩
      have hEi := Ei_upd hEi 27 0 (by decide)
      refine lv_aload_n hx hb dX12_law_36 rfl (lv_at hl 0 rfl) ?_
      refine lv_iconst (v := 0) hx hb dX12_law_37 (by decide) ?_
      refine va_put (D := D) (ci := 12) (v := .int 0) (ty := .int) (C := RX12) (T := TX12) (N := 91) hx hb hT iX12 tyX12 tyX12_ok nmX12 hown hK hP hD hS 0 rfl rfl 29 (by decide) (hT _ t_904) (fun _ h9 => h9) rfl (by decide +kernel) rfl rfl (Nat.le_of_ble_eq_true rfl) dX12_law_38 (fun H locs hP hD hS => ?_)
      rw [mP29] at hP hD
      have hRi := Ri_upd hRi 29 0 ⟨by decide, by decide⟩
      have hEi := Ei_upd hEi 29 0 (by decide)
      refine lv_aload_n hx hb dX12_law_41 rfl (lv_at hl 0 rfl) ?_
      have hck : CIv (upd (upd (upd (upd i 23 0) 24 p0) 27 0) 29 0) r := CIv_0 rfl rfl
      have hF_6 := rF hD hS hA
      refine va_calli (va_runV (As := []) (rest := []) ⟨hx, hb, hml, hown, hT⟩ (c_X12_readsClause l D cy a (upd (upd (upd (upd i 23 0) 24 p0) 27 0) 29 0) r rl _ hRi hRr hck) (cwV 0 hT (gV t_909 t_910 t_911 t_912 t_6) rfl rfl rfl (by decide +kernel) ⟨Nat.le_of_ble_eq_true rfl, Nat.le_of_ble_eq_true rfl⟩) (rQ_v hP hK hD (va_recv hK hP (ci := 12) (q0 := 0) rfl rfl)) rfl rfl hl.1 rfl (lv_room (Nat.le_of_ble_eq_true rfl)) dX12_law_42 ⟨Nat.le_of_ble_eq_true rfl, Nat.le_of_ble_eq_true rfl⟩) hS (fun q _ h => hF_6 q h) hF_6 (fun r_7 u_8 t H1 locs ht hvm hr_7 hB hz1 hk1 hS => ?_)
      obtain ⟨i8, r8⟩ := u_8
      obtain ⟨hP, hK1, hD1⟩ := hB
      rw [ht] at hP
      have hD := hD1.weaken (fun k q _ h => hF_6 q.1 h)
      have hP : va_P D vwCl (mW cy a i8 r8 rl) H1 := hP
      have hD : va_D A (mW cy a i8 r8 rl) := hD
      obtain ⟨hRi, hRr, hE1, hE2, hr_7⟩ := hr_7
      have hRi : mRi i8 := hRi
      have hRr : mRr r8 := hRr
      have hEi : mEi [22, 23, 24, 25, 26, 27, 28, 29, 30] _ i8 := Ei_tr hEi hE1 (by decide)
      have hEr : mEr [21, 22, 23, 24, 25, 26] _ r8 := Er_tr hEr hE2 (by decide)
      rcases hr_7 with ⟨rfl, hrk7, hrl7⟩ | rfl
      · have hrk7 : CIv i8 r8 := hrk7
        have hrl7 : ((upd (upd (upd (upd i 23 0) 24 p0) 27 0) 29 0) 23).toInt < (i8 23).toInt := hrl7
        refine lv_istore_n (lv' := [(2, .int 1), (0, .ref (a 0)), (1, .int p0)]) hx hb dX12_law_45 rfl hl (by decide) rfl (fun ls hl => ?_)
        have loop_9 : ∀ (n : Nat) (x9_2 : Int32) (i9 : Nat → Int32) (r9 : Nat → Nat → Int32) (H : Heap) (locs : List Loc) (ls : Array Slot), (if x9_2.toInt = 0 then 0 else 201 - (i9 23).toInt).toNat < n → (0 ≤ x9_2.toInt ∧ x9_2.toInt ≤ 1) → mRi i9 → mEi [22, 23, 24, 25, 26, 27, 28, 29, 30] i i9 → mRr r9 → mEr [21, 22, 23, 24, 25, 26] r r9 → (LG x9_2 i9 r9) → va_P D vwCl (mW cy a i9 r9 rl) H → va_D A (mW cy a i9 r9 rl) → va_S A s.heap H locs → lv_has ls 4 [(2, .int x9_2), (0, .ref (a 0)), (1, .int p0)] → W p l e ({ frames := 9, cells := 0, slots := 0, locals := 190 } : Room) s m ([.ref (a 0), .int p0] : List Value).toArray below meth c H locs 0 0 Q (F0 m 46 ls []) := by
          intro n
          induction n with
          | zero =>
            intro x9_2 i9 r9 H locs ls hm9 hf9_0 hRi hEi hRr hEr hx9 hP hD hS hl
            exact absurd hm9 (by omega)
          | succ n ih9 =>
            intro x9_2 i9 r9 H locs ls hm9 hf9_0 hRi hEi hRr hEr hx9 hP hD hS hl
            refine lv_iload_n hx hb dX12_law_46 rfl (lv_at hl 0 rfl) ?_
            have hg23_9 : 0 ≤ (i9 23).toInt ∧ (i9 23).toInt ≤ 200 := hRi 23
            have hg24_9 : 0 ≤ (i9 24).toInt ∧ (i9 24).toInt ≤ 200 := hRi 24
            refine lv_if_eq (tgt := 86) hx hb dX12_law_47 (by decide) (fun c_10 => ?_) (fun c_10 => ?_)
            · have c_10 : x9_2.toInt = 0 := b_eq c_10
              refine lv_aload_n hx hb dX12_law_86 rfl (lv_at hl 1 rfl) ?_
              have hRi9 := hRi
              refine lv_iconst (v := 0) hx hb dX12_law_87 (by decide) ?_
              refine va_put (D := D) (ci := 12) (v := .int 0) (ty := .int) (C := RX12) (T := TX12) (N := 91) hx hb hT iX12 tyX12 tyX12_ok nmX12 hown hK hP hD hS 0 rfl rfl 22 (by decide) (hT _ t_201) (fun _ h9 => h9) rfl (by decide +kernel) rfl rfl (Nat.le_of_ble_eq_true rfl) dX12_law_88 (fun H locs hP hD hS => ?_)
              rw [mP22] at hP hD
              have hRi := Ri_upd hRi 22 0 ⟨by decide, by decide⟩
              have hEi := Ei_upd hEi 22 0 (by decide)
              refine lv_iload_n hx hb dX12_law_91 rfl (lv_at hl 0 rfl) ?_
              refine lv_if_ne (tgt := 100) hx hb dX12_law_92 (by decide) (fun c_11 => by have c_11 : x9_2.toInt ≠ 0 := b_ne c_11; omega) (fun c_11 => ?_)
              have c_11 : x9_2.toInt = 0 := b_nne c_11
              refine lv_aload_n hx hb dX12_law_95 rfl (lv_at hl 1 rfl) ?_
              have hEf : mE (upd i9 22 0) r9 := mE_same hEi hEr (by decide) (by decide) hE
              have hEi : mEi [22, 23, 24, 25, 26, 27, 28, 29, 30, 31] i (upd i9 22 0) := Ei_tr Ei_rf hEi (by decide)
              have hEr : mEr [21, 22, 23, 24, 25, 26, 27, 28, 29, 30, 31] r r9 := Er_tr Er_rf hEr (by decide)
              refine va_get (D := D) (ci := 12) (v := .int (i9 25)) (C := RX12) (T := TX12) (N := 91) hx hb hT iX12 hown hK hP 0 rfl rfl 25 (by decide) (hT _ t_258) (fun _ h9 => h9) rfl dX12_law_96 ?_
              subst hQ
              exact W.iret (v := i9 25) hx hb hr (fun t ht hW => ⟨⟨_, (upd i9 22 0, r9), rfl, ⟨hRi, hRr, hEi, hEr, ⟨hEf, ⟨fun _ => rfl, fun h9 => absurd (by omega) h9⟩⟩⟩, by rw [ht]; exact hP, va_K.moved hW.alike hK, hD⟩, hS.F ht⟩) hS.2.2 dX12_law_99
            · have c_10 : x9_2.toInt ≠ 0 := b_ne c_10
              have hcg : CIv i9 r9 := hx9 c_10
              refine lv_aload_n hx hb dX12_law_50 rfl (lv_at hl 1 rfl) ?_
              refine va_get (D := D) (ci := 12) (v := .int (i9 23)) (C := RX12) (T := TX12) (N := 91) hx hb hT iX12 hown hK hP 0 rfl rfl 23 (by decide) (hT _ t_252) (fun _ h9 => h9) rfl dX12_law_51 ?_
              have hg_12 : 0 ≤ (i9 23).toInt ∧ (i9 23).toInt ≤ 200 := hRi 23
              refine lv_aload_n hx hb dX12_law_54 rfl (lv_at hl 1 rfl) ?_
              refine va_get (D := D) (ci := 12) (v := .int (i9 24)) (C := RX12) (T := TX12) (N := 91) hx hb hT iX12 hown hK hP 0 rfl rfl 24 (by decide) (hT _ t_253) (fun _ h9 => h9) rfl dX12_law_55 ?_
              have hg_13 : 0 ≤ (i9 24).toInt ∧ (i9 24).toInt ≤ 200 := hRi 24
              refine lv_icmp_ge (tgt := 86) hx hb dX12_law_58 (by decide) (fun c_14 => ?_) (fun c_14 => ?_)
              · have c_14 : (i9 24).toInt ≤ (i9 23).toInt := b_le c_14
                refine lv_aload_n hx hb dX12_law_86 rfl (lv_at hl 1 rfl) ?_
                have hRi9 := hRi
                refine lv_iconst (v := 0) hx hb dX12_law_87 (by decide) ?_
                refine va_put (D := D) (ci := 12) (v := .int 0) (ty := .int) (C := RX12) (T := TX12) (N := 91) hx hb hT iX12 tyX12 tyX12_ok nmX12 hown hK hP hD hS 0 rfl rfl 22 (by decide) (hT _ t_201) (fun _ h9 => h9) rfl (by decide +kernel) rfl rfl (Nat.le_of_ble_eq_true rfl) dX12_law_88 (fun H locs hP hD hS => ?_)
                rw [mP22] at hP hD
                have hRi := Ri_upd hRi 22 0 ⟨by decide, by decide⟩
                have hEi := Ei_upd hEi 22 0 (by decide)
                refine lv_iload_n hx hb dX12_law_91 rfl (lv_at hl 0 rfl) ?_
                refine lv_if_ne (tgt := 100) hx hb dX12_law_92 (by decide) (fun c_15 => ?_) (fun c_15 => ?_)
                · have c_15 : x9_2.toInt ≠ 0 := b_ne c_15
                  have hEi9 := hEi
                  have hEr9 := hEr
                  have hEi : mEi [22, 23, 24, 25, 26, 27, 28, 29, 30, 31] i (upd i9 22 0) := Ei_tr Ei_rf hEi (by decide)
                  have hEr : mEr [21, 22, 23, 24, 25, 26, 27, 28, 29, 30, 31] r r9 := Er_tr Er_rf hEr (by decide)
                  have hcg : CIv i9 r9 := hx9 (by omega)
                  have hb27 := CIv_np hcg hRi9
                  have hg27z : 0 ≤ (i9 27).toInt := (hRi9 27).1
                  have hg29z : 0 ≤ (i9 29).toInt ∧ (i9 29).toInt ≤ 14 := hRi9 29
                  refine lv_aload_n hx hb dX12_law_100 rfl (lv_at hl 1 rfl) ?_
                  refine lv_aload_n hx hb dX12_law_101 rfl (lv_at hl 1 rfl) ?_
                  refine va_get (D := D) (ci := 12) (v := .int (i9 29)) (C := RX12) (T := TX12) (N := 91) hx hb hT iX12 hown hK hP 0 rfl rfl 29 (by decide) (hT _ t_904) (fun _ h9 => h9) rfl dX12_law_102 ?_
                  have hg_16 : 0 ≤ (i9 29).toInt ∧ (i9 29).toInt ≤ 14 := hRi 29
                  refine va_put (D := D) (ci := 12) (v := .int (i9 29)) (ty := .int) (C := RX12) (T := TX12) (N := 91) hx hb hT iX12 tyX12 tyX12_ok nmX12 hown hK hP hD hS 0 rfl rfl 31 (by decide) (hT _ t_88) (fun _ h9 => h9) rfl (by decide +kernel) rfl rfl (Nat.le_of_ble_eq_true rfl) dX12_law_105 (fun H locs hP hD hS => ?_)
                  rw [mP31] at hP hD
                  have hRi := Ri_upd hRi 31 (i9 29) ⟨by show (0 : Int) ≤ (i9 29).toInt; omega, by show (i9 29).toInt ≤ (14 : Int); omega⟩
                  have hEi := Ei_upd hEi 31 (i9 29) (by decide)
                  refine lv_iconst (v := 0) hx hb dX12_law_108 (by decide) ?_
                  refine lv_istore_n (lv' := [(3, .int 0), (2, .int x9_2), (0, .ref (a 0)), (1, .int p0)]) hx hb dX12_law_109 rfl hl (by decide) rfl (fun ls hl => ?_)
                  have loop_17 : ∀ (n : Nat) (x17_3 : Int32) (r17 : Nat → Nat → Int32) (H : Heap) (locs : List Loc) (ls : Array Slot), (220 - x17_3.toInt).toNat < n → (0 ≤ x17_3.toInt ∧ x17_3.toInt ≤ 220) → mRr r17 → mEr [21, 22, 23, 24, 25, 26, 27, 28, 29, 30, 31] r r17 → (cpU (r17 27) (r9 21) x17_3 ∧ mEr [27] r9 r17) → va_P D vwCl (mW cy a (upd (upd i9 22 0) 31 (i9 29)) r17 rl) H → va_D A (mW cy a (upd (upd i9 22 0) 31 (i9 29)) r17 rl) → va_S A s.heap H locs → lv_has ls 4 [(3, .int x17_3), (2, .int x9_2), (0, .ref (a 0)), (1, .int p0)] → W p l e ({ frames := 9, cells := 0, slots := 0, locals := 190 } : Room) s m ([.ref (a 0), .int p0] : List Value).toArray below meth c H locs 0 0 Q (F0 m 110 ls []) := by
                    intro n
                    induction n with
                    | zero =>
                      intro x17_3 r17 H locs ls hm17 hf17_0 hRr hEr hx17 hP hD hS hl
                      exact absurd hm17 (by omega)
                    | succ n ih17 =>
                      intro x17_3 r17 H locs ls hm17 hf17_0 hRr hEr hx17 hP hD hS hl
                      refine lv_iload_n hx hb dX12_law_110 rfl (lv_at hl 0 rfl) ?_
                      refine lv_aload_n hx hb dX12_law_111 rfl (lv_at hl 2 rfl) ?_
                      refine va_get (D := D) (ci := 12) (v := .int (i9 27)) (C := RX12) (T := TX12) (N := 91) hx hb hT iX12 hown hK hP 0 rfl rfl 27 (by decide) (hT _ t_847) (fun _ h9 => h9) rfl dX12_law_112 ?_
                      have hg_18 : 0 ≤ (i9 27).toInt ∧ (i9 27).toInt ≤ 220 := hRi 27
                      refine lv_icmp_ge (tgt := 136) hx hb dX12_law_115 (by decide) (fun c_19 => ?_) (fun c_19 => ?_)
                      · have c_19 : (i9 27).toInt ≤ x17_3.toInt := b_le c_19
                        refine lv_iconst (v := 0) hx hb dX12_law_136 (by decide) ?_
                        refine lv_istore_n (lv' := [(3, .int 0), (2, .int x9_2), (0, .ref (a 0)), (1, .int p0)]) hx hb dX12_law_137 rfl hl (by decide) rfl (fun ls hl => ?_)
                        have loop_20 : ∀ (n : Nat) (x20_3 : Int32) (r20 : Nat → Nat → Int32) (H : Heap) (locs : List Loc) (ls : Array Slot), (14 - x20_3.toInt).toNat < n → (0 ≤ x20_3.toInt ∧ x20_3.toInt ≤ 14) → mRr r20 → mEr [21, 22, 23, 24, 25, 26, 27, 28, 29, 30, 31] r r20 → (cpU (r20 28) (r17 23) x20_3 ∧ cpU (r20 29) (r17 24) x20_3 ∧ cpU (r20 30) (r17 25) x20_3 ∧ cpU (r20 31) (r17 26) x20_3 ∧ mEr [28, 29, 30, 31] r17 r20) → va_P D vwCl (mW cy a (upd (upd i9 22 0) 31 (i9 29)) r20 rl) H → va_D A (mW cy a (upd (upd i9 22 0) 31 (i9 29)) r20 rl) → va_S A s.heap H locs → lv_has ls 4 [(3, .int x20_3), (2, .int x9_2), (0, .ref (a 0)), (1, .int p0)] → W p l e ({ frames := 9, cells := 0, slots := 0, locals := 190 } : Room) s m ([.ref (a 0), .int p0] : List Value).toArray below meth c H locs 0 0 Q (F0 m 138 ls []) := by
                          intro n
                          induction n with
                          | zero =>
                            intro x20_3 r20 H locs ls hm20 hf20_0 hRr hEr hx20 hP hD hS hl
                            exact absurd hm20 (by omega)
                          | succ n ih20 =>
                            intro x20_3 r20 H locs ls hm20 hf20_0 hRr hEr hx20 hP hD hS hl
                            refine lv_iload_n hx hb dX12_law_138 rfl (lv_at hl 0 rfl) ?_
                            refine lv_aload_n hx hb dX12_law_139 rfl (lv_at hl 2 rfl) ?_
                            refine va_get (D := D) (ci := 12) (v := .int (i9 29)) (C := RX12) (T := TX12) (N := 91) hx hb hT iX12 hown hK hP 0 rfl rfl 29 (by decide) (hT _ t_904) (fun _ h9 => h9) rfl dX12_law_140 ?_
                            refine lv_icmp_ge (tgt := 200) hx hb dX12_law_143 (by decide) (fun c_21 => ?_) (fun c_21 => ?_)
                            · have c_21 : (i9 29).toInt ≤ x20_3.toInt := b_le c_21
                              refine lv_aload_n hx hb dX12_law_200 rfl (lv_at hl 2 rfl) ?_
                              refine va_get (D := D) (ci := 12) (v := .int (i9 29)) (C := RX12) (T := TX12) (N := 91) hx hb hT iX12 hown hK hP 0 rfl rfl 29 (by decide) (hT _ t_904) (fun _ h9 => h9) rfl dX12_law_201 ?_
                              subst hQ
                              have hn110 : (i9 27).toInt ≤ x17_3.toInt := by omega
                              have hn138 : (i9 29).toInt ≤ x20_3.toInt := by omega
                              have c38 : cpU (r20 27) (r9 21) x17_3 := by rw [hx20.2.2.2.2 27 (by decide)]; exact hx17.1
                              have c28_9 : cpU (r20 28) (r9 23) x20_3 := by rw [← hx17.2 23 (by decide)]; exact hx20.1
                              have c29_9 : cpU (r20 29) (r9 24) x20_3 := by rw [← hx17.2 24 (by decide)]; exact hx20.2.1
                              have c30_9 : cpU (r20 30) (r9 25) x20_3 := by rw [← hx17.2 25 (by decide)]; exact hx20.2.2.1
                              have c31_9 : cpU (r20 31) (r9 26) x20_3 := by rw [← hx17.2 26 (by decide)]; exact hx20.2.2.2.1
                              have hj : mE (upd (upd i9 22 0) 31 (i9 29)) r20 := mE_law hE (hEi9 0 (by decide)) (hEi9 51 (by decide)) (hEi9 79 (by decide)) ((hx20.2.2.2.2 4 (by decide)).trans ((hx17.2 4 (by decide)).trans (hEr9 4 (by decide)))) ((hx20.2.2.2.2 10 (by decide)).trans ((hx17.2 10 (by decide)).trans (hEr9 10 (by decide)))) ((hx20.2.2.2.2 14 (by decide)).trans ((hx17.2 14 (by decide)).trans (hEr9 14 (by decide)))) ((hx20.2.2.2.2 40 (by decide)).trans ((hx17.2 40 (by decide)).trans (hEr9 40 (by decide)))) ((hx20.2.2.2.2 41 (by decide)).trans ((hx17.2 41 (by decide)).trans (hEr9 41 (by decide)))) ((hx20.2.2.2.2 63 (by decide)).trans ((hx17.2 63 (by decide)).trans (hEr9 63 (by decide)))) ((hx20.2.2.2.2 64 (by decide)).trans ((hx17.2 64 (by decide)).trans (hEr9 64 (by decide)))) hcg hn110 hn138 (by rfl) c38 c28_9 c29_9 c30_9 c31_9
                              exact W.iret (v := i9 29) hx hb hr (fun t ht hW => ⟨⟨_, (upd (upd i9 22 0) 31 (i9 29), r20), rfl, ⟨hRi, hRr, hEi, hEr, ⟨hj, ⟨fun _ => rfl, fun h9 => absurd (by omega) h9⟩⟩⟩, by rw [ht]; exact hP, va_K.moved hW.alike hK, hD⟩, hS.F ht⟩) hS.2.2 dX12_law_204
                            · have c_21 : x20_3.toInt < (i9 29).toInt := b_nle c_21
                              refine lv_aload_n hx hb dX12_law_146 rfl (lv_at hl 2 rfl) ?_
                              refine va_get (D := D) (ci := 12) (v := .ref (a 28)) (C := RX12) (T := TX12) (N := 91) hx hb hT iX12 hown hK hP 0 rfl rfl 39 (by decide) (hT _ t_89) (fun _ h9 => h9) rfl dX12_law_147 ?_
                              refine lv_iload_n hx hb dX12_law_150 rfl (lv_at hl 0 rfl) ?_
                              refine lv_aload_n hx hb dX12_law_151 rfl (lv_at hl 2 rfl) ?_
                              refine va_get (D := D) (ci := 12) (v := .ref (a 23)) (C := RX12) (T := TX12) (N := 91) hx hb hT iX12 hown hK hP 0 rfl rfl 34 (by decide) (hT _ t_790) (fun _ h9 => h9) rfl dX12_law_152 ?_
                              refine lv_iload_n hx hb dX12_law_155 rfl (lv_at hl 0 rfl) ?_
                              refine va_iald hx hb hK hP 23 0 rfl rfl (vp_inI (by omega) (by omega)) dX12_law_156 ?_
                              refine lv_topi (fun v_22 ev_22 => ?_)
                              refine va_iast hx hb hK hP hD hS 28 0 rfl rfl (vp_inI (by omega) (by omega)) dX12_law_157 (fun H locs hP hD hS => ?_)
                              rw [mS28] at hP hD
                              have hRr : mRr (va_up r20 28 (upd (r20 28) x20_3.toNatClampNeg v_22)) := Rr_upd hRr 28 (x20_3.toNatClampNeg) v_22 (b_rg _)
                              have hEr : mEr [21, 22, 23, 24, 25, 26, 27, 28, 29, 30, 31] _ (va_up r20 28 (upd (r20 28) x20_3.toNatClampNeg v_22)) := Er_up hEr 28 _ (by decide)
                              refine lv_aload_n hx hb dX12_law_158 rfl (lv_at hl 2 rfl) ?_
                              refine va_get (D := D) (ci := 12) (v := .ref (a 29)) (C := RX12) (T := TX12) (N := 91) hx hb hT iX12 hown hK hP 0 rfl rfl 40 (by decide) (hT _ t_96) (fun _ h9 => h9) rfl dX12_law_159 ?_
                              refine lv_iload_n hx hb dX12_law_162 rfl (lv_at hl 0 rfl) ?_
                              refine lv_aload_n hx hb dX12_law_163 rfl (lv_at hl 2 rfl) ?_
                              refine va_get (D := D) (ci := 12) (v := .ref (a 24)) (C := RX12) (T := TX12) (N := 91) hx hb hT iX12 hown hK hP 0 rfl rfl 35 (by decide) (hT _ t_791) (fun _ h9 => h9) rfl dX12_law_164 ?_
                              refine lv_iload_n hx hb dX12_law_167 rfl (lv_at hl 0 rfl) ?_
                              refine va_iald hx hb hK hP 24 0 rfl rfl (vp_inI (by omega) (by omega)) dX12_law_168 ?_
                              refine lv_topi (fun v_23 ev_23 => ?_)
                              have hgv_23 : 0 ≤ v_23.toInt ∧ v_23.toInt ≤ 220 := by rw [ev_23]; exact hRr 24 _
                              refine va_iast hx hb hK hP hD hS 29 0 rfl rfl (vp_inI (by omega) (by omega)) dX12_law_169 (fun H locs hP hD hS => ?_)
                              rw [mS29] at hP hD
                              have hRr : mRr (va_up (va_up r20 28 (upd (r20 28) x20_3.toNatClampNeg v_22)) 29 (upd (r20 29) x20_3.toNatClampNeg v_23)) := Rr_upd hRr 29 (x20_3.toNatClampNeg) v_23 ⟨by show (0 : Int) ≤ v_23.toInt; omega, by show v_23.toInt ≤ (220 : Int); omega⟩
                              have hEr : mEr [21, 22, 23, 24, 25, 26, 27, 28, 29, 30, 31] _ (va_up (va_up r20 28 (upd (r20 28) x20_3.toNatClampNeg v_22)) 29 (upd (r20 29) x20_3.toNatClampNeg v_23)) := Er_up hEr 29 _ (by decide)
                              refine lv_aload_n hx hb dX12_law_170 rfl (lv_at hl 2 rfl) ?_
                              refine va_get (D := D) (ci := 12) (v := .ref (a 30)) (C := RX12) (T := TX12) (N := 91) hx hb hT iX12 hown hK hP 0 rfl rfl 41 (by decide) (hT _ t_90) (fun _ h9 => h9) rfl dX12_law_171 ?_
                              refine lv_iload_n hx hb dX12_law_174 rfl (lv_at hl 0 rfl) ?_
                              refine lv_aload_n hx hb dX12_law_175 rfl (lv_at hl 2 rfl) ?_
                              refine va_get (D := D) (ci := 12) (v := .ref (a 25)) (C := RX12) (T := TX12) (N := 91) hx hb hT iX12 hown hK hP 0 rfl rfl 36 (by decide) (hT _ t_792) (fun _ h9 => h9) rfl dX12_law_176 ?_
                              refine lv_iload_n hx hb dX12_law_179 rfl (lv_at hl 0 rfl) ?_
                              refine va_iald hx hb hK hP 25 0 rfl rfl (vp_inI (by omega) (by omega)) dX12_law_180 ?_
                              refine lv_topi (fun v_24 ev_24 => ?_)
                              have hgv_24 : 0 ≤ v_24.toInt ∧ v_24.toInt ≤ 220 := by rw [ev_24]; exact hRr 25 _
                              refine va_iast hx hb hK hP hD hS 30 0 rfl rfl (vp_inI (by omega) (by omega)) dX12_law_181 (fun H locs hP hD hS => ?_)
                              rw [mS30] at hP hD
                              have hRr : mRr (va_up (va_up (va_up r20 28 (upd (r20 28) x20_3.toNatClampNeg v_22)) 29 (upd (r20 29) x20_3.toNatClampNeg v_23)) 30 (upd (r20 30) x20_3.toNatClampNeg v_24)) := Rr_upd hRr 30 (x20_3.toNatClampNeg) v_24 ⟨by show (0 : Int) ≤ v_24.toInt; omega, by show v_24.toInt ≤ (220 : Int); omega⟩
                              have hEr : mEr [21, 22, 23, 24, 25, 26, 27, 28, 29, 30, 31] _ (va_up (va_up (va_up r20 28 (upd (r20 28) x20_3.toNatClampNeg v_22)) 29 (upd (r20 29) x20_3.toNatClampNeg v_23)) 30 (upd (r20 30) x20_3.toNatClampNeg v_24)) := Er_up hEr 30 _ (by decide)
                              refine lv_aload_n hx hb dX12_law_182 rfl (lv_at hl 2 rfl) ?_
                              refine va_get (D := D) (ci := 12) (v := .ref (a 31)) (C := RX12) (T := TX12) (N := 91) hx hb hT iX12 hown hK hP 0 rfl rfl 42 (by decide) (hT _ t_91) (fun _ h9 => h9) rfl dX12_law_183 ?_
                              refine lv_iload_n hx hb dX12_law_186 rfl (lv_at hl 0 rfl) ?_
                              refine lv_aload_n hx hb dX12_law_187 rfl (lv_at hl 2 rfl) ?_
                              refine va_get (D := D) (ci := 12) (v := .ref (a 26)) (C := RX12) (T := TX12) (N := 91) hx hb hT iX12 hown hK hP 0 rfl rfl 37 (by decide) (hT _ t_793) (fun _ h9 => h9) rfl dX12_law_188 ?_
                              refine lv_iload_n hx hb dX12_law_191 rfl (lv_at hl 0 rfl) ?_
                              refine va_iald hx hb hK hP 26 0 rfl rfl (vp_inI (by omega) (by omega)) dX12_law_192 ?_
                              refine lv_topi (fun v_25 ev_25 => ?_)
                              have hgv_25 : 0 ≤ v_25.toInt ∧ v_25.toInt ≤ 220 := by rw [ev_25]; exact hRr 26 _
                              refine va_iast hx hb hK hP hD hS 31 0 rfl rfl (vp_inI (by omega) (by omega)) dX12_law_193 (fun H locs hP hD hS => ?_)
                              rw [mS31] at hP hD
                              have hRr : mRr (va_up (va_up (va_up (va_up r20 28 (upd (r20 28) x20_3.toNatClampNeg v_22)) 29 (upd (r20 29) x20_3.toNatClampNeg v_23)) 30 (upd (r20 30) x20_3.toNatClampNeg v_24)) 31 (upd (r20 31) x20_3.toNatClampNeg v_25)) := Rr_upd hRr 31 (x20_3.toNatClampNeg) v_25 ⟨by show (0 : Int) ≤ v_25.toInt; omega, by show v_25.toInt ≤ (220 : Int); omega⟩
                              have hEr : mEr [21, 22, 23, 24, 25, 26, 27, 28, 29, 30, 31] _ (va_up (va_up (va_up (va_up r20 28 (upd (r20 28) x20_3.toNatClampNeg v_22)) 29 (upd (r20 29) x20_3.toNatClampNeg v_23)) 30 (upd (r20 30) x20_3.toNatClampNeg v_24)) 31 (upd (r20 31) x20_3.toNatClampNeg v_25)) := Er_up hEr 31 _ (by decide)
                              obtain ⟨x_26, ex_26⟩ : ∃ y : Int32, y = x20_3 + 1 := ⟨_, rfl⟩
                              refine lv_iinc (v := x_26) (lv' := [(3, .int x_26), (2, .int x9_2), (0, .ref (a 0)), (1, .int p0)]) hx hb dX12_law_194 hl (k := 0) rfl (by rw [ex_26]; rfl) (by decide) rfl (fun ls hl => ?_)
                              have hx_26 : x_26.toInt = x20_3.toInt + 1 := by rw [ex_26]; have := b_rg x20_3; exact i_add (a := x20_3.toInt) (b := 1) rfl rfl (by omega) (by omega)
                              refine lv_goto (tgt := 138) hx hb dX12_law_197 (by decide) ?_
                              have hw0 : v_22 = r17 23 x20_3.toInt.toNat := by rw [ev_22]; show r20 23 _ = _; rw [hx20.2.2.2.2 23 (by decide)]; rfl
                              have hw1 : v_23 = r17 24 x20_3.toInt.toNat := by rw [ev_23]; show r20 24 _ = _; rw [hx20.2.2.2.2 24 (by decide)]; rfl
                              have hw2 : v_24 = r17 25 x20_3.toInt.toNat := by rw [ev_24]; show r20 25 _ = _; rw [hx20.2.2.2.2 25 (by decide)]; rfl
                              have hw3 : v_25 = r17 26 x20_3.toInt.toNat := by rw [ev_25]; show r20 26 _ = _; rw [hx20.2.2.2.2 26 (by decide)]; rfl
                              exact ih20 x_26 (va_up (va_up (va_up (va_up r20 28 (upd (r20 28) x20_3.toNatClampNeg v_22)) 29 (upd (r20 29) x20_3.toNatClampNeg v_23)) 30 (upd (r20 30) x20_3.toNatClampNeg v_24)) 31 (upd (r20 31) x20_3.toNatClampNeg v_25)) _ _ _ (by first | omega | (simp only [Int.toNat]; omega)) (by first | omega | decide) hRr hEr ⟨cpU_s (v := v_22) hx20.1 rfl hw0 (by omega) (by omega), cpU_s (v := v_23) hx20.2.1 rfl hw1 (by omega) (by omega), cpU_s (v := v_24) hx20.2.2.1 rfl hw2 (by omega) (by omega), cpU_s (v := v_25) hx20.2.2.2.1 rfl hw3 (by omega) (by omega), (Er_up (Er_up (Er_up (Er_up hx20.2.2.2.2 28 _ (by decide)) 29 _ (by decide)) 30 _ (by decide)) 31 _ (by decide))⟩ hP hD hS (lv_sub hl [0, 1, 2, 3] rfl)
                        exact loop_20 _ 0 r17 _ _ _ (Nat.lt_succ_self _) (by first | omega | decide) hRr hEr ⟨cpU_0, cpU_0, cpU_0, cpU_0, Er_rf⟩ hP hD hS hl
                      · have c_19 : x17_3.toInt < (i9 27).toInt := b_nle c_19
                        refine lv_aload_n hx hb dX12_law_118 rfl (lv_at hl 2 rfl) ?_
                        refine va_get (D := D) (ci := 12) (v := .ref (a 27)) (C := RX12) (T := TX12) (N := 91) hx hb hT iX12 hown hK hP 0 rfl rfl 38 (by decide) (hT _ t_83) (fun _ h9 => h9) rfl dX12_law_119 ?_
                        refine lv_iload_n hx hb dX12_law_122 rfl (lv_at hl 0 rfl) ?_
                        refine lv_aload_n hx hb dX12_law_123 rfl (lv_at hl 2 rfl) ?_
                        refine va_get (D := D) (ci := 12) (v := .ref (a 21)) (C := RX12) (T := TX12) (N := 91) hx hb hT iX12 hown hK hP 0 rfl rfl 32 (by decide) (hT _ t_788) (fun _ h9 => h9) rfl dX12_law_124 ?_
                        refine lv_iload_n hx hb dX12_law_127 rfl (lv_at hl 0 rfl) ?_
                        refine va_iald hx hb hK hP 21 0 rfl rfl (vp_inI (by omega) (by omega)) dX12_law_128 ?_
                        refine lv_topi (fun v_27 ev_27 => ?_)
                        refine va_iast hx hb hK hP hD hS 27 0 rfl rfl (vp_inI (by omega) (by omega)) dX12_law_129 (fun H locs hP hD hS => ?_)
                        rw [mS27] at hP hD
                        have hRr : mRr (va_up r17 27 (upd (r17 27) x17_3.toNatClampNeg v_27)) := Rr_upd hRr 27 (x17_3.toNatClampNeg) v_27 (b_rg _)
                        have hEr : mEr [21, 22, 23, 24, 25, 26, 27, 28, 29, 30, 31] _ (va_up r17 27 (upd (r17 27) x17_3.toNatClampNeg v_27)) := Er_up hEr 27 _ (by decide)
                        obtain ⟨x_28, ex_28⟩ : ∃ y : Int32, y = x17_3 + 1 := ⟨_, rfl⟩
                        refine lv_iinc (v := x_28) (lv' := [(3, .int x_28), (2, .int x9_2), (0, .ref (a 0)), (1, .int p0)]) hx hb dX12_law_130 hl (k := 0) rfl (by rw [ex_28]; rfl) (by decide) rfl (fun ls hl => ?_)
                        have hx_28 : x_28.toInt = x17_3.toInt + 1 := by rw [ex_28]; have := b_rg x17_3; exact i_add (a := x17_3.toInt) (b := 1) rfl rfl (by omega) (by omega)
                        refine lv_goto (tgt := 110) hx hb dX12_law_133 (by decide) ?_
                        have hv9 : v_27 = r9 21 x17_3.toInt.toNat := by rw [ev_27, hx17.2 21 (by decide)]; rfl
                        exact ih17 x_28 (va_up r17 27 (upd (r17 27) x17_3.toNatClampNeg v_27)) _ _ _ (by first | omega | (simp only [Int.toNat]; omega)) (by first | omega | decide) hRr hEr ⟨cpU_s (v := v_27) hx17.1 rfl hv9 (by omega) (by omega), Er_up hx17.2 27 _ (by decide)⟩ hP hD hS (lv_sub hl [0, 1, 2, 3] rfl)
                  exact loop_17 _ 0 r9 _ _ _ (Nat.lt_succ_self _) (by first | omega | decide) hRr hEr ⟨cpU_0, Er_rf⟩ hP hD hS hl
                · have c_15 : x9_2.toInt = 0 := b_nne c_15
                  refine lv_aload_n hx hb dX12_law_95 rfl (lv_at hl 1 rfl) ?_
                  have hEf : mE (upd i9 22 0) r9 := mE_same hEi hEr (by decide) (by decide) hE
                  have hEi : mEi [22, 23, 24, 25, 26, 27, 28, 29, 30, 31] i (upd i9 22 0) := Ei_tr Ei_rf hEi (by decide)
                  have hEr : mEr [21, 22, 23, 24, 25, 26, 27, 28, 29, 30, 31] r r9 := Er_tr Er_rf hEr (by decide)
                  refine va_get (D := D) (ci := 12) (v := .int (i9 25)) (C := RX12) (T := TX12) (N := 91) hx hb hT iX12 hown hK hP 0 rfl rfl 25 (by decide) (hT _ t_258) (fun _ h9 => h9) rfl dX12_law_96 ?_
                  subst hQ
                  exact W.iret (v := i9 25) hx hb hr (fun t ht hW => ⟨⟨_, (upd i9 22 0, r9), rfl, ⟨hRi, hRr, hEi, hEr, ⟨hEf, ⟨fun _ => rfl, fun h9 => absurd (by omega) h9⟩⟩⟩, by rw [ht]; exact hP, va_K.moved hW.alike hK, hD⟩, hS.F ht⟩) hS.2.2 dX12_law_99
              · have c_14 : (i9 23).toInt < (i9 24).toInt := b_nle c_14
                refine lv_aload_n hx hb dX12_law_61 rfl (lv_at hl 1 rfl) ?_
                refine lv_bipush (v := 59) hx hb dX12_law_62 (by decide) ?_
                have hF_29 := rF hD hS hA
                refine va_calli (va_runV (As := [.int 59]) (rest := []) ⟨hx, hb, hml, hown, hT⟩ (c_X12_takes l D cy a i9 r9 rl 59 _ hRi hRr (by first | omega | decide)) (cwV 1 hT (gV t_913 t_914 t_915 t_916 t_6) rfl rfl rfl (by decide +kernel) ⟨Nat.le_of_ble_eq_true rfl, Nat.le_of_ble_eq_true rfl⟩) (rQ_v hP hK hD (va_recv hK hP (ci := 12) (q0 := 0) rfl rfl)) rfl rfl hl.1 rfl (lv_room (Nat.le_of_ble_eq_true rfl)) dX12_law_64 ⟨Nat.le_of_ble_eq_true rfl, Nat.le_of_ble_eq_true rfl⟩) hS (fun q _ h => hF_29 q h) hF_29 (fun r_30 u_31 t H1 locs ht hvm hr_30 hB hz1 hk1 hS => ?_)
                obtain ⟨i31, r31⟩ := u_31
                obtain ⟨hP, hK1, hD1⟩ := hB
                rw [ht] at hP
                have hD := hD1.weaken (fun k q _ h => hF_29 q.1 h)
                have hP : va_P D vwCl (mW cy a i31 r31 rl) H1 := hP
                have hD : va_D A (mW cy a i31 r31 rl) := hD
                obtain ⟨hRi, hRr, hE1, hE2, hr_30⟩ := hr_30
                have hRi : mRi i31 := hRi
                have hRr : mRr r31 := hRr
                have hEi : mEi [22, 23, 24, 25, 26, 27, 28, 29, 30] _ i31 := Ei_tr hEi hE1 (by decide)
                have hEr : mEr [21, 22, 23, 24, 25, 26] _ r31 := Er_tr hEr hE2 (by decide)
                rcases hr_30 with ⟨rfl, htk30, -⟩ | ⟨rfl, -⟩
                · have htk30 : (i31 23).toInt = (i9 23).toInt + 1 := htk30
                  have hrr : r31 = r9 := funext (fun p_ => hE2 p_ (by simp))
                  have hck : CIv i31 r31 := by rw [hrr]; exact CIv_same hcg (hE1 27 (by decide)) (hE1 29 (by decide)) (by omega)
                  refine lv_if_eq (tgt := 81) hx hb dX12_law_67 (by decide) (fun c_32 => absurd c_32 (by decide)) (fun c_32 => ?_)
                  refine lv_aload_n hx hb dX12_law_70 rfl (lv_at hl 1 rfl) ?_
                  have hF_33 := rF hD hS hA
                  refine va_calli (va_runV (As := []) (rest := []) ⟨hx, hb, hml, hown, hT⟩ (c_X12_readsClause l D cy a i31 r31 rl _ hRi hRr hck) (cwV 0 hT (gV t_909 t_910 t_911 t_912 t_6) rfl rfl rfl (by decide +kernel) ⟨Nat.le_of_ble_eq_true rfl, Nat.le_of_ble_eq_true rfl⟩) (rQ_v hP hK hD (va_recv hK hP (ci := 12) (q0 := 0) rfl rfl)) rfl rfl hl.1 rfl (lv_room (Nat.le_of_ble_eq_true rfl)) dX12_law_71 ⟨Nat.le_of_ble_eq_true rfl, Nat.le_of_ble_eq_true rfl⟩) hS (fun q _ h => hF_33 q h) hF_33 (fun r_34 u_35 t H1 locs ht hvm hr_34 hB hz1 hk1 hS => ?_)
                  obtain ⟨i35, r35⟩ := u_35
                  obtain ⟨hP, hK1, hD1⟩ := hB
                  rw [ht] at hP
                  have hD := hD1.weaken (fun k q _ h => hF_33 q.1 h)
                  have hP : va_P D vwCl (mW cy a i35 r35 rl) H1 := hP
                  have hD : va_D A (mW cy a i35 r35 rl) := hD
                  obtain ⟨hRi, hRr, hE1, hE2, hr_34⟩ := hr_34
                  have hRi : mRi i35 := hRi
                  have hRr : mRr r35 := hRr
                  have hEi : mEi [22, 23, 24, 25, 26, 27, 28, 29, 30] _ i35 := Ei_tr hEi hE1 (by decide)
                  have hEr : mEr [21, 22, 23, 24, 25, 26] _ r35 := Er_tr hEr hE2 (by decide)
                  rcases hr_34 with ⟨rfl, hrk34, hrl34⟩ | rfl
                  · have hrk34 : CIv i35 r35 := hrk34
                    have hrl34 : (i31 23).toInt < (i35 23).toInt := hrl34
                    refine lv_if_eq (tgt := 81) hx hb dX12_law_74 (by decide) (fun c_36 => absurd c_36 (by decide)) (fun c_36 => ?_)
                    refine lv_iconst (v := 1) hx hb dX12_law_77 (by decide) ?_
                    refine lv_goto (tgt := 82) hx hb dX12_law_78 (by decide) ?_
                    refine lv_istore_n (lv' := [(2, .int 1), (0, .ref (a 0)), (1, .int p0)]) hx hb dX12_law_82 rfl hl (by decide) rfl (fun ls hl => ?_)
                    refine lv_goto (tgt := 46) hx hb dX12_law_83 (by decide) ?_
                    exact ih9 1 i35 r35 _ _ _ (lw1 hm9 c_10 (by omega) (show _ ≤ (200 : Int) from (hRi 23).2) (by decide)) (by first | omega | decide) hRi hEi hRr hEr (fun _ => hrk34) hP hD hS (lv_sub hl [0, 1, 2] rfl)
                  · skip
                    refine lv_if_eq (tgt := 81) hx hb dX12_law_74 (by decide) (fun c_37 => ?_) (fun c_37 => absurd (by decide) c_37)
                    refine lv_iconst (v := 0) hx hb dX12_law_81 (by decide) ?_
                    refine lv_istore_n (lv' := [(2, .int 0), (0, .ref (a 0)), (1, .int p0)]) hx hb dX12_law_82 rfl hl (by decide) rfl (fun ls hl => ?_)
                    refine lv_goto (tgt := 46) hx hb dX12_law_83 (by decide) ?_
                    exact ih9 0 i35 r35 _ _ _ (lw0 hm9 c_10 (show _ ≤ (200 : Int) from hg23_9.2) rfl) (by first | omega | decide) hRi hEi hRr hEr (fun h9 => absurd rfl h9) hP hD hS (lv_sub hl [0, 1, 2] rfl)
                · skip
                  refine lv_if_eq (tgt := 81) hx hb dX12_law_67 (by decide) (fun c_38 => ?_) (fun c_38 => absurd (by decide) c_38)
                  refine lv_iconst (v := 0) hx hb dX12_law_81 (by decide) ?_
                  refine lv_istore_n (lv' := [(2, .int 0), (0, .ref (a 0)), (1, .int p0)]) hx hb dX12_law_82 rfl hl (by decide) rfl (fun ls hl => ?_)
                  refine lv_goto (tgt := 46) hx hb dX12_law_83 (by decide) ?_
                  exact ih9 0 i31 r31 _ _ _ (lw0 hm9 c_10 (show _ ≤ (200 : Int) from hg23_9.2) rfl) (by first | omega | decide) hRi hEi hRr hEr (fun h9 => absurd rfl h9) hP hD hS (lv_sub hl [0, 1, 2] rfl)
        exact loop_9 _ 1 i8 r8 _ _ _ (Nat.lt_succ_self _) (by first | omega | decide) hRi hEi hRr hEr (fun _ => hrk7) hP hD hS hl
      · skip
        refine lv_istore_n (lv' := [(2, .int 0), (0, .ref (a 0)), (1, .int p0)]) hx hb dX12_law_45 rfl hl (by decide) rfl (fun ls hl => ?_)
        have loop_39 : ∀ (n : Nat) (x39_2 : Int32) (i39 : Nat → Int32) (r39 : Nat → Nat → Int32) (H : Heap) (locs : List Loc) (ls : Array Slot), (if x39_2.toInt = 0 then 0 else 201 - (i39 23).toInt).toNat < n → (0 ≤ x39_2.toInt ∧ x39_2.toInt ≤ 1) → mRi i39 → mEi [22, 23, 24, 25, 26, 27, 28, 29, 30] i i39 → mRr r39 → mEr [21, 22, 23, 24, 25, 26] r r39 → (LG x39_2 i39 r39) → va_P D vwCl (mW cy a i39 r39 rl) H → va_D A (mW cy a i39 r39 rl) → va_S A s.heap H locs → lv_has ls 4 [(2, .int x39_2), (0, .ref (a 0)), (1, .int p0)] → W p l e ({ frames := 9, cells := 0, slots := 0, locals := 190 } : Room) s m ([.ref (a 0), .int p0] : List Value).toArray below meth c H locs 0 0 Q (F0 m 46 ls []) := by
          intro n
          induction n with
          | zero =>
            intro x39_2 i39 r39 H locs ls hm39 hf39_0 hRi hEi hRr hEr hx39 hP hD hS hl
            exact absurd hm39 (by omega)
          | succ n ih39 =>
            intro x39_2 i39 r39 H locs ls hm39 hf39_0 hRi hEi hRr hEr hx39 hP hD hS hl
            refine lv_iload_n hx hb dX12_law_46 rfl (lv_at hl 0 rfl) ?_
            have hg23_39 : 0 ≤ (i39 23).toInt ∧ (i39 23).toInt ≤ 200 := hRi 23
            have hg24_39 : 0 ≤ (i39 24).toInt ∧ (i39 24).toInt ≤ 200 := hRi 24
            refine lv_if_eq (tgt := 86) hx hb dX12_law_47 (by decide) (fun c_40 => ?_) (fun c_40 => ?_)
            · have c_40 : x39_2.toInt = 0 := b_eq c_40
              refine lv_aload_n hx hb dX12_law_86 rfl (lv_at hl 1 rfl) ?_
              have hRi9 := hRi
              refine lv_iconst (v := 0) hx hb dX12_law_87 (by decide) ?_
              refine va_put (D := D) (ci := 12) (v := .int 0) (ty := .int) (C := RX12) (T := TX12) (N := 91) hx hb hT iX12 tyX12 tyX12_ok nmX12 hown hK hP hD hS 0 rfl rfl 22 (by decide) (hT _ t_201) (fun _ h9 => h9) rfl (by decide +kernel) rfl rfl (Nat.le_of_ble_eq_true rfl) dX12_law_88 (fun H locs hP hD hS => ?_)
              rw [mP22] at hP hD
              have hRi := Ri_upd hRi 22 0 ⟨by decide, by decide⟩
              have hEi := Ei_upd hEi 22 0 (by decide)
              refine lv_iload_n hx hb dX12_law_91 rfl (lv_at hl 0 rfl) ?_
              refine lv_if_ne (tgt := 100) hx hb dX12_law_92 (by decide) (fun c_41 => by have c_41 : x39_2.toInt ≠ 0 := b_ne c_41; omega) (fun c_41 => ?_)
              have c_41 : x39_2.toInt = 0 := b_nne c_41
              refine lv_aload_n hx hb dX12_law_95 rfl (lv_at hl 1 rfl) ?_
              have hEf : mE (upd i39 22 0) r39 := mE_same hEi hEr (by decide) (by decide) hE
              have hEi : mEi [22, 23, 24, 25, 26, 27, 28, 29, 30, 31] i (upd i39 22 0) := Ei_tr Ei_rf hEi (by decide)
              have hEr : mEr [21, 22, 23, 24, 25, 26, 27, 28, 29, 30, 31] r r39 := Er_tr Er_rf hEr (by decide)
              refine va_get (D := D) (ci := 12) (v := .int (i39 25)) (C := RX12) (T := TX12) (N := 91) hx hb hT iX12 hown hK hP 0 rfl rfl 25 (by decide) (hT _ t_258) (fun _ h9 => h9) rfl dX12_law_96 ?_
              subst hQ
              exact W.iret (v := i39 25) hx hb hr (fun t ht hW => ⟨⟨_, (upd i39 22 0, r39), rfl, ⟨hRi, hRr, hEi, hEr, ⟨hEf, ⟨fun _ => rfl, fun h9 => absurd (by omega) h9⟩⟩⟩, by rw [ht]; exact hP, va_K.moved hW.alike hK, hD⟩, hS.F ht⟩) hS.2.2 dX12_law_99
            · have c_40 : x39_2.toInt ≠ 0 := b_ne c_40
              have hcg : CIv i39 r39 := hx39 c_40
              refine lv_aload_n hx hb dX12_law_50 rfl (lv_at hl 1 rfl) ?_
              refine va_get (D := D) (ci := 12) (v := .int (i39 23)) (C := RX12) (T := TX12) (N := 91) hx hb hT iX12 hown hK hP 0 rfl rfl 23 (by decide) (hT _ t_252) (fun _ h9 => h9) rfl dX12_law_51 ?_
              have hg_42 : 0 ≤ (i39 23).toInt ∧ (i39 23).toInt ≤ 200 := hRi 23
              refine lv_aload_n hx hb dX12_law_54 rfl (lv_at hl 1 rfl) ?_
              refine va_get (D := D) (ci := 12) (v := .int (i39 24)) (C := RX12) (T := TX12) (N := 91) hx hb hT iX12 hown hK hP 0 rfl rfl 24 (by decide) (hT _ t_253) (fun _ h9 => h9) rfl dX12_law_55 ?_
              have hg_43 : 0 ≤ (i39 24).toInt ∧ (i39 24).toInt ≤ 200 := hRi 24
              refine lv_icmp_ge (tgt := 86) hx hb dX12_law_58 (by decide) (fun c_44 => ?_) (fun c_44 => ?_)
              · have c_44 : (i39 24).toInt ≤ (i39 23).toInt := b_le c_44
                refine lv_aload_n hx hb dX12_law_86 rfl (lv_at hl 1 rfl) ?_
                have hRi9 := hRi
                refine lv_iconst (v := 0) hx hb dX12_law_87 (by decide) ?_
                refine va_put (D := D) (ci := 12) (v := .int 0) (ty := .int) (C := RX12) (T := TX12) (N := 91) hx hb hT iX12 tyX12 tyX12_ok nmX12 hown hK hP hD hS 0 rfl rfl 22 (by decide) (hT _ t_201) (fun _ h9 => h9) rfl (by decide +kernel) rfl rfl (Nat.le_of_ble_eq_true rfl) dX12_law_88 (fun H locs hP hD hS => ?_)
                rw [mP22] at hP hD
                have hRi := Ri_upd hRi 22 0 ⟨by decide, by decide⟩
                have hEi := Ei_upd hEi 22 0 (by decide)
                refine lv_iload_n hx hb dX12_law_91 rfl (lv_at hl 0 rfl) ?_
                refine lv_if_ne (tgt := 100) hx hb dX12_law_92 (by decide) (fun c_45 => ?_) (fun c_45 => ?_)
                · have c_45 : x39_2.toInt ≠ 0 := b_ne c_45
                  have hEi9 := hEi
                  have hEr9 := hEr
                  have hEi : mEi [22, 23, 24, 25, 26, 27, 28, 29, 30, 31] i (upd i39 22 0) := Ei_tr Ei_rf hEi (by decide)
                  have hEr : mEr [21, 22, 23, 24, 25, 26, 27, 28, 29, 30, 31] r r39 := Er_tr Er_rf hEr (by decide)
                  have hcg : CIv i39 r39 := hx39 (by omega)
                  have hb27 := CIv_np hcg hRi9
                  have hg27z : 0 ≤ (i39 27).toInt := (hRi9 27).1
                  have hg29z : 0 ≤ (i39 29).toInt ∧ (i39 29).toInt ≤ 14 := hRi9 29
                  refine lv_aload_n hx hb dX12_law_100 rfl (lv_at hl 1 rfl) ?_
                  refine lv_aload_n hx hb dX12_law_101 rfl (lv_at hl 1 rfl) ?_
                  refine va_get (D := D) (ci := 12) (v := .int (i39 29)) (C := RX12) (T := TX12) (N := 91) hx hb hT iX12 hown hK hP 0 rfl rfl 29 (by decide) (hT _ t_904) (fun _ h9 => h9) rfl dX12_law_102 ?_
                  have hg_46 : 0 ≤ (i39 29).toInt ∧ (i39 29).toInt ≤ 14 := hRi 29
                  refine va_put (D := D) (ci := 12) (v := .int (i39 29)) (ty := .int) (C := RX12) (T := TX12) (N := 91) hx hb hT iX12 tyX12 tyX12_ok nmX12 hown hK hP hD hS 0 rfl rfl 31 (by decide) (hT _ t_88) (fun _ h9 => h9) rfl (by decide +kernel) rfl rfl (Nat.le_of_ble_eq_true rfl) dX12_law_105 (fun H locs hP hD hS => ?_)
                  rw [mP31] at hP hD
                  have hRi := Ri_upd hRi 31 (i39 29) ⟨by show (0 : Int) ≤ (i39 29).toInt; omega, by show (i39 29).toInt ≤ (14 : Int); omega⟩
                  have hEi := Ei_upd hEi 31 (i39 29) (by decide)
                  refine lv_iconst (v := 0) hx hb dX12_law_108 (by decide) ?_
                  refine lv_istore_n (lv' := [(3, .int 0), (2, .int x39_2), (0, .ref (a 0)), (1, .int p0)]) hx hb dX12_law_109 rfl hl (by decide) rfl (fun ls hl => ?_)
                  have loop_47 : ∀ (n : Nat) (x47_3 : Int32) (r47 : Nat → Nat → Int32) (H : Heap) (locs : List Loc) (ls : Array Slot), (220 - x47_3.toInt).toNat < n → (0 ≤ x47_3.toInt ∧ x47_3.toInt ≤ 220) → mRr r47 → mEr [21, 22, 23, 24, 25, 26, 27, 28, 29, 30, 31] r r47 → (cpU (r47 27) (r39 21) x47_3 ∧ mEr [27] r39 r47) → va_P D vwCl (mW cy a (upd (upd i39 22 0) 31 (i39 29)) r47 rl) H → va_D A (mW cy a (upd (upd i39 22 0) 31 (i39 29)) r47 rl) → va_S A s.heap H locs → lv_has ls 4 [(3, .int x47_3), (2, .int x39_2), (0, .ref (a 0)), (1, .int p0)] → W p l e ({ frames := 9, cells := 0, slots := 0, locals := 190 } : Room) s m ([.ref (a 0), .int p0] : List Value).toArray below meth c H locs 0 0 Q (F0 m 110 ls []) := by
                    intro n
                    induction n with
                    | zero =>
                      intro x47_3 r47 H locs ls hm47 hf47_0 hRr hEr hx47 hP hD hS hl
                      exact absurd hm47 (by omega)
                    | succ n ih47 =>
                      intro x47_3 r47 H locs ls hm47 hf47_0 hRr hEr hx47 hP hD hS hl
                      refine lv_iload_n hx hb dX12_law_110 rfl (lv_at hl 0 rfl) ?_
                      refine lv_aload_n hx hb dX12_law_111 rfl (lv_at hl 2 rfl) ?_
                      refine va_get (D := D) (ci := 12) (v := .int (i39 27)) (C := RX12) (T := TX12) (N := 91) hx hb hT iX12 hown hK hP 0 rfl rfl 27 (by decide) (hT _ t_847) (fun _ h9 => h9) rfl dX12_law_112 ?_
                      have hg_48 : 0 ≤ (i39 27).toInt ∧ (i39 27).toInt ≤ 220 := hRi 27
                      refine lv_icmp_ge (tgt := 136) hx hb dX12_law_115 (by decide) (fun c_49 => ?_) (fun c_49 => ?_)
                      · have c_49 : (i39 27).toInt ≤ x47_3.toInt := b_le c_49
                        refine lv_iconst (v := 0) hx hb dX12_law_136 (by decide) ?_
                        refine lv_istore_n (lv' := [(3, .int 0), (2, .int x39_2), (0, .ref (a 0)), (1, .int p0)]) hx hb dX12_law_137 rfl hl (by decide) rfl (fun ls hl => ?_)
                        have loop_50 : ∀ (n : Nat) (x50_3 : Int32) (r50 : Nat → Nat → Int32) (H : Heap) (locs : List Loc) (ls : Array Slot), (14 - x50_3.toInt).toNat < n → (0 ≤ x50_3.toInt ∧ x50_3.toInt ≤ 14) → mRr r50 → mEr [21, 22, 23, 24, 25, 26, 27, 28, 29, 30, 31] r r50 → (cpU (r50 28) (r47 23) x50_3 ∧ cpU (r50 29) (r47 24) x50_3 ∧ cpU (r50 30) (r47 25) x50_3 ∧ cpU (r50 31) (r47 26) x50_3 ∧ mEr [28, 29, 30, 31] r47 r50) → va_P D vwCl (mW cy a (upd (upd i39 22 0) 31 (i39 29)) r50 rl) H → va_D A (mW cy a (upd (upd i39 22 0) 31 (i39 29)) r50 rl) → va_S A s.heap H locs → lv_has ls 4 [(3, .int x50_3), (2, .int x39_2), (0, .ref (a 0)), (1, .int p0)] → W p l e ({ frames := 9, cells := 0, slots := 0, locals := 190 } : Room) s m ([.ref (a 0), .int p0] : List Value).toArray below meth c H locs 0 0 Q (F0 m 138 ls []) := by
                          intro n
                          induction n with
                          | zero =>
                            intro x50_3 r50 H locs ls hm50 hf50_0 hRr hEr hx50 hP hD hS hl
                            exact absurd hm50 (by omega)
                          | succ n ih50 =>
                            intro x50_3 r50 H locs ls hm50 hf50_0 hRr hEr hx50 hP hD hS hl
                            refine lv_iload_n hx hb dX12_law_138 rfl (lv_at hl 0 rfl) ?_
                            refine lv_aload_n hx hb dX12_law_139 rfl (lv_at hl 2 rfl) ?_
                            refine va_get (D := D) (ci := 12) (v := .int (i39 29)) (C := RX12) (T := TX12) (N := 91) hx hb hT iX12 hown hK hP 0 rfl rfl 29 (by decide) (hT _ t_904) (fun _ h9 => h9) rfl dX12_law_140 ?_
                            refine lv_icmp_ge (tgt := 200) hx hb dX12_law_143 (by decide) (fun c_51 => ?_) (fun c_51 => ?_)
                            · have c_51 : (i39 29).toInt ≤ x50_3.toInt := b_le c_51
                              refine lv_aload_n hx hb dX12_law_200 rfl (lv_at hl 2 rfl) ?_
                              refine va_get (D := D) (ci := 12) (v := .int (i39 29)) (C := RX12) (T := TX12) (N := 91) hx hb hT iX12 hown hK hP 0 rfl rfl 29 (by decide) (hT _ t_904) (fun _ h9 => h9) rfl dX12_law_201 ?_
                              subst hQ
                              have hn110 : (i39 27).toInt ≤ x47_3.toInt := by omega
                              have hn138 : (i39 29).toInt ≤ x50_3.toInt := by omega
                              have c38 : cpU (r50 27) (r39 21) x47_3 := by rw [hx50.2.2.2.2 27 (by decide)]; exact hx47.1
                              have c28_9 : cpU (r50 28) (r39 23) x50_3 := by rw [← hx47.2 23 (by decide)]; exact hx50.1
                              have c29_9 : cpU (r50 29) (r39 24) x50_3 := by rw [← hx47.2 24 (by decide)]; exact hx50.2.1
                              have c30_9 : cpU (r50 30) (r39 25) x50_3 := by rw [← hx47.2 25 (by decide)]; exact hx50.2.2.1
                              have c31_9 : cpU (r50 31) (r39 26) x50_3 := by rw [← hx47.2 26 (by decide)]; exact hx50.2.2.2.1
                              have hj : mE (upd (upd i39 22 0) 31 (i39 29)) r50 := mE_law hE (hEi9 0 (by decide)) (hEi9 51 (by decide)) (hEi9 79 (by decide)) ((hx50.2.2.2.2 4 (by decide)).trans ((hx47.2 4 (by decide)).trans (hEr9 4 (by decide)))) ((hx50.2.2.2.2 10 (by decide)).trans ((hx47.2 10 (by decide)).trans (hEr9 10 (by decide)))) ((hx50.2.2.2.2 14 (by decide)).trans ((hx47.2 14 (by decide)).trans (hEr9 14 (by decide)))) ((hx50.2.2.2.2 40 (by decide)).trans ((hx47.2 40 (by decide)).trans (hEr9 40 (by decide)))) ((hx50.2.2.2.2 41 (by decide)).trans ((hx47.2 41 (by decide)).trans (hEr9 41 (by decide)))) ((hx50.2.2.2.2 63 (by decide)).trans ((hx47.2 63 (by decide)).trans (hEr9 63 (by decide)))) ((hx50.2.2.2.2 64 (by decide)).trans ((hx47.2 64 (by decide)).trans (hEr9 64 (by decide)))) hcg hn110 hn138 (by rfl) c38 c28_9 c29_9 c30_9 c31_9
                              exact W.iret (v := i39 29) hx hb hr (fun t ht hW => ⟨⟨_, (upd (upd i39 22 0) 31 (i39 29), r50), rfl, ⟨hRi, hRr, hEi, hEr, ⟨hj, ⟨fun _ => rfl, fun h9 => absurd (by omega) h9⟩⟩⟩, by rw [ht]; exact hP, va_K.moved hW.alike hK, hD⟩, hS.F ht⟩) hS.2.2 dX12_law_204
                            · have c_51 : x50_3.toInt < (i39 29).toInt := b_nle c_51
                              refine lv_aload_n hx hb dX12_law_146 rfl (lv_at hl 2 rfl) ?_
                              refine va_get (D := D) (ci := 12) (v := .ref (a 28)) (C := RX12) (T := TX12) (N := 91) hx hb hT iX12 hown hK hP 0 rfl rfl 39 (by decide) (hT _ t_89) (fun _ h9 => h9) rfl dX12_law_147 ?_
                              refine lv_iload_n hx hb dX12_law_150 rfl (lv_at hl 0 rfl) ?_
                              refine lv_aload_n hx hb dX12_law_151 rfl (lv_at hl 2 rfl) ?_
                              refine va_get (D := D) (ci := 12) (v := .ref (a 23)) (C := RX12) (T := TX12) (N := 91) hx hb hT iX12 hown hK hP 0 rfl rfl 34 (by decide) (hT _ t_790) (fun _ h9 => h9) rfl dX12_law_152 ?_
                              refine lv_iload_n hx hb dX12_law_155 rfl (lv_at hl 0 rfl) ?_
                              refine va_iald hx hb hK hP 23 0 rfl rfl (vp_inI (by omega) (by omega)) dX12_law_156 ?_
                              refine lv_topi (fun v_52 ev_52 => ?_)
                              refine va_iast hx hb hK hP hD hS 28 0 rfl rfl (vp_inI (by omega) (by omega)) dX12_law_157 (fun H locs hP hD hS => ?_)
                              rw [mS28] at hP hD
                              have hRr : mRr (va_up r50 28 (upd (r50 28) x50_3.toNatClampNeg v_52)) := Rr_upd hRr 28 (x50_3.toNatClampNeg) v_52 (b_rg _)
                              have hEr : mEr [21, 22, 23, 24, 25, 26, 27, 28, 29, 30, 31] _ (va_up r50 28 (upd (r50 28) x50_3.toNatClampNeg v_52)) := Er_up hEr 28 _ (by decide)
                              refine lv_aload_n hx hb dX12_law_158 rfl (lv_at hl 2 rfl) ?_
                              refine va_get (D := D) (ci := 12) (v := .ref (a 29)) (C := RX12) (T := TX12) (N := 91) hx hb hT iX12 hown hK hP 0 rfl rfl 40 (by decide) (hT _ t_96) (fun _ h9 => h9) rfl dX12_law_159 ?_
                              refine lv_iload_n hx hb dX12_law_162 rfl (lv_at hl 0 rfl) ?_
                              refine lv_aload_n hx hb dX12_law_163 rfl (lv_at hl 2 rfl) ?_
                              refine va_get (D := D) (ci := 12) (v := .ref (a 24)) (C := RX12) (T := TX12) (N := 91) hx hb hT iX12 hown hK hP 0 rfl rfl 35 (by decide) (hT _ t_791) (fun _ h9 => h9) rfl dX12_law_164 ?_
                              refine lv_iload_n hx hb dX12_law_167 rfl (lv_at hl 0 rfl) ?_
                              refine va_iald hx hb hK hP 24 0 rfl rfl (vp_inI (by omega) (by omega)) dX12_law_168 ?_
                              refine lv_topi (fun v_53 ev_53 => ?_)
                              have hgv_53 : 0 ≤ v_53.toInt ∧ v_53.toInt ≤ 220 := by rw [ev_53]; exact hRr 24 _
                              refine va_iast hx hb hK hP hD hS 29 0 rfl rfl (vp_inI (by omega) (by omega)) dX12_law_169 (fun H locs hP hD hS => ?_)
                              rw [mS29] at hP hD
                              have hRr : mRr (va_up (va_up r50 28 (upd (r50 28) x50_3.toNatClampNeg v_52)) 29 (upd (r50 29) x50_3.toNatClampNeg v_53)) := Rr_upd hRr 29 (x50_3.toNatClampNeg) v_53 ⟨by show (0 : Int) ≤ v_53.toInt; omega, by show v_53.toInt ≤ (220 : Int); omega⟩
                              have hEr : mEr [21, 22, 23, 24, 25, 26, 27, 28, 29, 30, 31] _ (va_up (va_up r50 28 (upd (r50 28) x50_3.toNatClampNeg v_52)) 29 (upd (r50 29) x50_3.toNatClampNeg v_53)) := Er_up hEr 29 _ (by decide)
                              refine lv_aload_n hx hb dX12_law_170 rfl (lv_at hl 2 rfl) ?_
                              refine va_get (D := D) (ci := 12) (v := .ref (a 30)) (C := RX12) (T := TX12) (N := 91) hx hb hT iX12 hown hK hP 0 rfl rfl 41 (by decide) (hT _ t_90) (fun _ h9 => h9) rfl dX12_law_171 ?_
                              refine lv_iload_n hx hb dX12_law_174 rfl (lv_at hl 0 rfl) ?_
                              refine lv_aload_n hx hb dX12_law_175 rfl (lv_at hl 2 rfl) ?_
                              refine va_get (D := D) (ci := 12) (v := .ref (a 25)) (C := RX12) (T := TX12) (N := 91) hx hb hT iX12 hown hK hP 0 rfl rfl 36 (by decide) (hT _ t_792) (fun _ h9 => h9) rfl dX12_law_176 ?_
                              refine lv_iload_n hx hb dX12_law_179 rfl (lv_at hl 0 rfl) ?_
                              refine va_iald hx hb hK hP 25 0 rfl rfl (vp_inI (by omega) (by omega)) dX12_law_180 ?_
                              refine lv_topi (fun v_54 ev_54 => ?_)
                              have hgv_54 : 0 ≤ v_54.toInt ∧ v_54.toInt ≤ 220 := by rw [ev_54]; exact hRr 25 _
                              refine va_iast hx hb hK hP hD hS 30 0 rfl rfl (vp_inI (by omega) (by omega)) dX12_law_181 (fun H locs hP hD hS => ?_)
                              rw [mS30] at hP hD
                              have hRr : mRr (va_up (va_up (va_up r50 28 (upd (r50 28) x50_3.toNatClampNeg v_52)) 29 (upd (r50 29) x50_3.toNatClampNeg v_53)) 30 (upd (r50 30) x50_3.toNatClampNeg v_54)) := Rr_upd hRr 30 (x50_3.toNatClampNeg) v_54 ⟨by show (0 : Int) ≤ v_54.toInt; omega, by show v_54.toInt ≤ (220 : Int); omega⟩
                              have hEr : mEr [21, 22, 23, 24, 25, 26, 27, 28, 29, 30, 31] _ (va_up (va_up (va_up r50 28 (upd (r50 28) x50_3.toNatClampNeg v_52)) 29 (upd (r50 29) x50_3.toNatClampNeg v_53)) 30 (upd (r50 30) x50_3.toNatClampNeg v_54)) := Er_up hEr 30 _ (by decide)
                              refine lv_aload_n hx hb dX12_law_182 rfl (lv_at hl 2 rfl) ?_
                              refine va_get (D := D) (ci := 12) (v := .ref (a 31)) (C := RX12) (T := TX12) (N := 91) hx hb hT iX12 hown hK hP 0 rfl rfl 42 (by decide) (hT _ t_91) (fun _ h9 => h9) rfl dX12_law_183 ?_
                              refine lv_iload_n hx hb dX12_law_186 rfl (lv_at hl 0 rfl) ?_
                              refine lv_aload_n hx hb dX12_law_187 rfl (lv_at hl 2 rfl) ?_
                              refine va_get (D := D) (ci := 12) (v := .ref (a 26)) (C := RX12) (T := TX12) (N := 91) hx hb hT iX12 hown hK hP 0 rfl rfl 37 (by decide) (hT _ t_793) (fun _ h9 => h9) rfl dX12_law_188 ?_
                              refine lv_iload_n hx hb dX12_law_191 rfl (lv_at hl 0 rfl) ?_
                              refine va_iald hx hb hK hP 26 0 rfl rfl (vp_inI (by omega) (by omega)) dX12_law_192 ?_
                              refine lv_topi (fun v_55 ev_55 => ?_)
                              have hgv_55 : 0 ≤ v_55.toInt ∧ v_55.toInt ≤ 220 := by rw [ev_55]; exact hRr 26 _
                              refine va_iast hx hb hK hP hD hS 31 0 rfl rfl (vp_inI (by omega) (by omega)) dX12_law_193 (fun H locs hP hD hS => ?_)
                              rw [mS31] at hP hD
                              have hRr : mRr (va_up (va_up (va_up (va_up r50 28 (upd (r50 28) x50_3.toNatClampNeg v_52)) 29 (upd (r50 29) x50_3.toNatClampNeg v_53)) 30 (upd (r50 30) x50_3.toNatClampNeg v_54)) 31 (upd (r50 31) x50_3.toNatClampNeg v_55)) := Rr_upd hRr 31 (x50_3.toNatClampNeg) v_55 ⟨by show (0 : Int) ≤ v_55.toInt; omega, by show v_55.toInt ≤ (220 : Int); omega⟩
                              have hEr : mEr [21, 22, 23, 24, 25, 26, 27, 28, 29, 30, 31] _ (va_up (va_up (va_up (va_up r50 28 (upd (r50 28) x50_3.toNatClampNeg v_52)) 29 (upd (r50 29) x50_3.toNatClampNeg v_53)) 30 (upd (r50 30) x50_3.toNatClampNeg v_54)) 31 (upd (r50 31) x50_3.toNatClampNeg v_55)) := Er_up hEr 31 _ (by decide)
                              obtain ⟨x_56, ex_56⟩ : ∃ y : Int32, y = x50_3 + 1 := ⟨_, rfl⟩
                              refine lv_iinc (v := x_56) (lv' := [(3, .int x_56), (2, .int x39_2), (0, .ref (a 0)), (1, .int p0)]) hx hb dX12_law_194 hl (k := 0) rfl (by rw [ex_56]; rfl) (by decide) rfl (fun ls hl => ?_)
                              have hx_56 : x_56.toInt = x50_3.toInt + 1 := by rw [ex_56]; have := b_rg x50_3; exact i_add (a := x50_3.toInt) (b := 1) rfl rfl (by omega) (by omega)
                              refine lv_goto (tgt := 138) hx hb dX12_law_197 (by decide) ?_
                              have hw0 : v_52 = r47 23 x50_3.toInt.toNat := by rw [ev_52]; show r50 23 _ = _; rw [hx50.2.2.2.2 23 (by decide)]; rfl
                              have hw1 : v_53 = r47 24 x50_3.toInt.toNat := by rw [ev_53]; show r50 24 _ = _; rw [hx50.2.2.2.2 24 (by decide)]; rfl
                              have hw2 : v_54 = r47 25 x50_3.toInt.toNat := by rw [ev_54]; show r50 25 _ = _; rw [hx50.2.2.2.2 25 (by decide)]; rfl
                              have hw3 : v_55 = r47 26 x50_3.toInt.toNat := by rw [ev_55]; show r50 26 _ = _; rw [hx50.2.2.2.2 26 (by decide)]; rfl
                              exact ih50 x_56 (va_up (va_up (va_up (va_up r50 28 (upd (r50 28) x50_3.toNatClampNeg v_52)) 29 (upd (r50 29) x50_3.toNatClampNeg v_53)) 30 (upd (r50 30) x50_3.toNatClampNeg v_54)) 31 (upd (r50 31) x50_3.toNatClampNeg v_55)) _ _ _ (by first | omega | (simp only [Int.toNat]; omega)) (by first | omega | decide) hRr hEr ⟨cpU_s (v := v_52) hx50.1 rfl hw0 (by omega) (by omega), cpU_s (v := v_53) hx50.2.1 rfl hw1 (by omega) (by omega), cpU_s (v := v_54) hx50.2.2.1 rfl hw2 (by omega) (by omega), cpU_s (v := v_55) hx50.2.2.2.1 rfl hw3 (by omega) (by omega), (Er_up (Er_up (Er_up (Er_up hx50.2.2.2.2 28 _ (by decide)) 29 _ (by decide)) 30 _ (by decide)) 31 _ (by decide))⟩ hP hD hS (lv_sub hl [0, 1, 2, 3] rfl)
                        exact loop_50 _ 0 r47 _ _ _ (Nat.lt_succ_self _) (by first | omega | decide) hRr hEr ⟨cpU_0, cpU_0, cpU_0, cpU_0, Er_rf⟩ hP hD hS hl
                      · have c_49 : x47_3.toInt < (i39 27).toInt := b_nle c_49
                        refine lv_aload_n hx hb dX12_law_118 rfl (lv_at hl 2 rfl) ?_
                        refine va_get (D := D) (ci := 12) (v := .ref (a 27)) (C := RX12) (T := TX12) (N := 91) hx hb hT iX12 hown hK hP 0 rfl rfl 38 (by decide) (hT _ t_83) (fun _ h9 => h9) rfl dX12_law_119 ?_
                        refine lv_iload_n hx hb dX12_law_122 rfl (lv_at hl 0 rfl) ?_
                        refine lv_aload_n hx hb dX12_law_123 rfl (lv_at hl 2 rfl) ?_
                        refine va_get (D := D) (ci := 12) (v := .ref (a 21)) (C := RX12) (T := TX12) (N := 91) hx hb hT iX12 hown hK hP 0 rfl rfl 32 (by decide) (hT _ t_788) (fun _ h9 => h9) rfl dX12_law_124 ?_
                        refine lv_iload_n hx hb dX12_law_127 rfl (lv_at hl 0 rfl) ?_
                        refine va_iald hx hb hK hP 21 0 rfl rfl (vp_inI (by omega) (by omega)) dX12_law_128 ?_
                        refine lv_topi (fun v_57 ev_57 => ?_)
                        refine va_iast hx hb hK hP hD hS 27 0 rfl rfl (vp_inI (by omega) (by omega)) dX12_law_129 (fun H locs hP hD hS => ?_)
                        rw [mS27] at hP hD
                        have hRr : mRr (va_up r47 27 (upd (r47 27) x47_3.toNatClampNeg v_57)) := Rr_upd hRr 27 (x47_3.toNatClampNeg) v_57 (b_rg _)
                        have hEr : mEr [21, 22, 23, 24, 25, 26, 27, 28, 29, 30, 31] _ (va_up r47 27 (upd (r47 27) x47_3.toNatClampNeg v_57)) := Er_up hEr 27 _ (by decide)
                        obtain ⟨x_58, ex_58⟩ : ∃ y : Int32, y = x47_3 + 1 := ⟨_, rfl⟩
                        refine lv_iinc (v := x_58) (lv' := [(3, .int x_58), (2, .int x39_2), (0, .ref (a 0)), (1, .int p0)]) hx hb dX12_law_130 hl (k := 0) rfl (by rw [ex_58]; rfl) (by decide) rfl (fun ls hl => ?_)
                        have hx_58 : x_58.toInt = x47_3.toInt + 1 := by rw [ex_58]; have := b_rg x47_3; exact i_add (a := x47_3.toInt) (b := 1) rfl rfl (by omega) (by omega)
                        refine lv_goto (tgt := 110) hx hb dX12_law_133 (by decide) ?_
                        have hv9 : v_57 = r39 21 x47_3.toInt.toNat := by rw [ev_57, hx47.2 21 (by decide)]; rfl
                        exact ih47 x_58 (va_up r47 27 (upd (r47 27) x47_3.toNatClampNeg v_57)) _ _ _ (by first | omega | (simp only [Int.toNat]; omega)) (by first | omega | decide) hRr hEr ⟨cpU_s (v := v_57) hx47.1 rfl hv9 (by omega) (by omega), Er_up hx47.2 27 _ (by decide)⟩ hP hD hS (lv_sub hl [0, 1, 2, 3] rfl)
                  exact loop_47 _ 0 r39 _ _ _ (Nat.lt_succ_self _) (by first | omega | decide) hRr hEr ⟨cpU_0, Er_rf⟩ hP hD hS hl
                · have c_45 : x39_2.toInt = 0 := b_nne c_45
                  refine lv_aload_n hx hb dX12_law_95 rfl (lv_at hl 1 rfl) ?_
                  have hEf : mE (upd i39 22 0) r39 := mE_same hEi hEr (by decide) (by decide) hE
                  have hEi : mEi [22, 23, 24, 25, 26, 27, 28, 29, 30, 31] i (upd i39 22 0) := Ei_tr Ei_rf hEi (by decide)
                  have hEr : mEr [21, 22, 23, 24, 25, 26, 27, 28, 29, 30, 31] r r39 := Er_tr Er_rf hEr (by decide)
                  refine va_get (D := D) (ci := 12) (v := .int (i39 25)) (C := RX12) (T := TX12) (N := 91) hx hb hT iX12 hown hK hP 0 rfl rfl 25 (by decide) (hT _ t_258) (fun _ h9 => h9) rfl dX12_law_96 ?_
                  subst hQ
                  exact W.iret (v := i39 25) hx hb hr (fun t ht hW => ⟨⟨_, (upd i39 22 0, r39), rfl, ⟨hRi, hRr, hEi, hEr, ⟨hEf, ⟨fun _ => rfl, fun h9 => absurd (by omega) h9⟩⟩⟩, by rw [ht]; exact hP, va_K.moved hW.alike hK, hD⟩, hS.F ht⟩) hS.2.2 dX12_law_99
              · have c_44 : (i39 23).toInt < (i39 24).toInt := b_nle c_44
                refine lv_aload_n hx hb dX12_law_61 rfl (lv_at hl 1 rfl) ?_
                refine lv_bipush (v := 59) hx hb dX12_law_62 (by decide) ?_
                have hF_59 := rF hD hS hA
                refine va_calli (va_runV (As := [.int 59]) (rest := []) ⟨hx, hb, hml, hown, hT⟩ (c_X12_takes l D cy a i39 r39 rl 59 _ hRi hRr (by first | omega | decide)) (cwV 1 hT (gV t_913 t_914 t_915 t_916 t_6) rfl rfl rfl (by decide +kernel) ⟨Nat.le_of_ble_eq_true rfl, Nat.le_of_ble_eq_true rfl⟩) (rQ_v hP hK hD (va_recv hK hP (ci := 12) (q0 := 0) rfl rfl)) rfl rfl hl.1 rfl (lv_room (Nat.le_of_ble_eq_true rfl)) dX12_law_64 ⟨Nat.le_of_ble_eq_true rfl, Nat.le_of_ble_eq_true rfl⟩) hS (fun q _ h => hF_59 q h) hF_59 (fun r_60 u_61 t H1 locs ht hvm hr_60 hB hz1 hk1 hS => ?_)
                obtain ⟨i61, r61⟩ := u_61
                obtain ⟨hP, hK1, hD1⟩ := hB
                rw [ht] at hP
                have hD := hD1.weaken (fun k q _ h => hF_59 q.1 h)
                have hP : va_P D vwCl (mW cy a i61 r61 rl) H1 := hP
                have hD : va_D A (mW cy a i61 r61 rl) := hD
                obtain ⟨hRi, hRr, hE1, hE2, hr_60⟩ := hr_60
                have hRi : mRi i61 := hRi
                have hRr : mRr r61 := hRr
                have hEi : mEi [22, 23, 24, 25, 26, 27, 28, 29, 30] _ i61 := Ei_tr hEi hE1 (by decide)
                have hEr : mEr [21, 22, 23, 24, 25, 26] _ r61 := Er_tr hEr hE2 (by decide)
                rcases hr_60 with ⟨rfl, htk60, -⟩ | ⟨rfl, -⟩
                · have htk60 : (i61 23).toInt = (i39 23).toInt + 1 := htk60
                  have hrr : r61 = r39 := funext (fun p_ => hE2 p_ (by simp))
                  have hck : CIv i61 r61 := by rw [hrr]; exact CIv_same hcg (hE1 27 (by decide)) (hE1 29 (by decide)) (by omega)
                  refine lv_if_eq (tgt := 81) hx hb dX12_law_67 (by decide) (fun c_62 => absurd c_62 (by decide)) (fun c_62 => ?_)
                  refine lv_aload_n hx hb dX12_law_70 rfl (lv_at hl 1 rfl) ?_
                  have hF_63 := rF hD hS hA
                  refine va_calli (va_runV (As := []) (rest := []) ⟨hx, hb, hml, hown, hT⟩ (c_X12_readsClause l D cy a i61 r61 rl _ hRi hRr hck) (cwV 0 hT (gV t_909 t_910 t_911 t_912 t_6) rfl rfl rfl (by decide +kernel) ⟨Nat.le_of_ble_eq_true rfl, Nat.le_of_ble_eq_true rfl⟩) (rQ_v hP hK hD (va_recv hK hP (ci := 12) (q0 := 0) rfl rfl)) rfl rfl hl.1 rfl (lv_room (Nat.le_of_ble_eq_true rfl)) dX12_law_71 ⟨Nat.le_of_ble_eq_true rfl, Nat.le_of_ble_eq_true rfl⟩) hS (fun q _ h => hF_63 q h) hF_63 (fun r_64 u_65 t H1 locs ht hvm hr_64 hB hz1 hk1 hS => ?_)
                  obtain ⟨i65, r65⟩ := u_65
                  obtain ⟨hP, hK1, hD1⟩ := hB
                  rw [ht] at hP
                  have hD := hD1.weaken (fun k q _ h => hF_63 q.1 h)
                  have hP : va_P D vwCl (mW cy a i65 r65 rl) H1 := hP
                  have hD : va_D A (mW cy a i65 r65 rl) := hD
                  obtain ⟨hRi, hRr, hE1, hE2, hr_64⟩ := hr_64
                  have hRi : mRi i65 := hRi
                  have hRr : mRr r65 := hRr
                  have hEi : mEi [22, 23, 24, 25, 26, 27, 28, 29, 30] _ i65 := Ei_tr hEi hE1 (by decide)
                  have hEr : mEr [21, 22, 23, 24, 25, 26] _ r65 := Er_tr hEr hE2 (by decide)
                  rcases hr_64 with ⟨rfl, hrk64, hrl64⟩ | rfl
                  · have hrk64 : CIv i65 r65 := hrk64
                    have hrl64 : (i61 23).toInt < (i65 23).toInt := hrl64
                    refine lv_if_eq (tgt := 81) hx hb dX12_law_74 (by decide) (fun c_66 => absurd c_66 (by decide)) (fun c_66 => ?_)
                    refine lv_iconst (v := 1) hx hb dX12_law_77 (by decide) ?_
                    refine lv_goto (tgt := 82) hx hb dX12_law_78 (by decide) ?_
                    refine lv_istore_n (lv' := [(2, .int 1), (0, .ref (a 0)), (1, .int p0)]) hx hb dX12_law_82 rfl hl (by decide) rfl (fun ls hl => ?_)
                    refine lv_goto (tgt := 46) hx hb dX12_law_83 (by decide) ?_
                    exact ih39 1 i65 r65 _ _ _ (lw1 hm39 c_40 (by omega) (show _ ≤ (200 : Int) from (hRi 23).2) (by decide)) (by first | omega | decide) hRi hEi hRr hEr (fun _ => hrk64) hP hD hS (lv_sub hl [0, 1, 2] rfl)
                  · skip
                    refine lv_if_eq (tgt := 81) hx hb dX12_law_74 (by decide) (fun c_67 => ?_) (fun c_67 => absurd (by decide) c_67)
                    refine lv_iconst (v := 0) hx hb dX12_law_81 (by decide) ?_
                    refine lv_istore_n (lv' := [(2, .int 0), (0, .ref (a 0)), (1, .int p0)]) hx hb dX12_law_82 rfl hl (by decide) rfl (fun ls hl => ?_)
                    refine lv_goto (tgt := 46) hx hb dX12_law_83 (by decide) ?_
                    exact ih39 0 i65 r65 _ _ _ (lw0 hm39 c_40 (show _ ≤ (200 : Int) from hg23_39.2) rfl) (by first | omega | decide) hRi hEi hRr hEr (fun h9 => absurd rfl h9) hP hD hS (lv_sub hl [0, 1, 2] rfl)
                · skip
                  refine lv_if_eq (tgt := 81) hx hb dX12_law_67 (by decide) (fun c_68 => ?_) (fun c_68 => absurd (by decide) c_68)
                  refine lv_iconst (v := 0) hx hb dX12_law_81 (by decide) ?_
                  refine lv_istore_n (lv' := [(2, .int 0), (0, .ref (a 0)), (1, .int p0)]) hx hb dX12_law_82 rfl hl (by decide) rfl (fun ls hl => ?_)
                  refine lv_goto (tgt := 46) hx hb dX12_law_83 (by decide) ?_
                  exact ih39 0 i61 r61 _ _ _ (lw0 hm39 c_40 (show _ ≤ (200 : Int) from hg23_39.2) rfl) (by first | omega | decide) hRi hEi hRr hEr (fun h9 => absurd rfl h9) hP hD hS (lv_sub hl [0, 1, 2] rfl)
        exact loop_39 _ 0 i8 r8 _ _ _ (Nat.lt_succ_self _) (by first | omega | decide) hRi hEi hRr hEr (fun h9 => absurd rfl h9) hP hD hS hl
    · have c_5 : (i 22).toInt < p0.toInt := b_nle c_5
      refine lv_iconst (v := (-1)) hx hb dX12_law_19 (by decide) ?_
      have hEi : mEi [22, 23, 24, 25, 26, 27, 28, 29, 30, 31] i i := Ei_tr Ei_rf hEi (by decide)
      have hEr : mEr [21, 22, 23, 24, 25, 26, 27, 28, 29, 30, 31] r r := Er_tr Er_rf hEr (by decide)
      subst hQ
      exact W.iret (v := (-1)) hx hb hr (fun t ht hW => ⟨⟨_, (i, r), rfl, ⟨hRi, hRr, hEi, hEr, ⟨hE, ⟨fun h9 => absurd h9 (by omega), fun _ => rfl⟩⟩⟩, by rw [ht]; exact hP, va_K.moved hW.alike hK, hD⟩, hS.F ht⟩) hS.2.2 dX12_law_20
  · skip
    refine lv_if_eq (tgt := 19) hx hb dX12_law_8 (by decide) (fun c_69 => ?_) (fun c_69 => absurd (by decide) c_69)
    refine lv_iconst (v := (-1)) hx hb dX12_law_19 (by decide) ?_
    have hEi : mEi [22, 23, 24, 25, 26, 27, 28, 29, 30, 31] i i := Ei_tr Ei_rf hEi (by decide)
    have hEr : mEr [21, 22, 23, 24, 25, 26, 27, 28, 29, 30, 31] r r := Er_tr Er_rf hEr (by decide)
    subst hQ
    exact W.iret (v := (-1)) hx hb hr (fun t ht hW => ⟨⟨_, (i, r), rfl, ⟨hRi, hRr, hEi, hEr, ⟨hE, ⟨fun h9 => absurd h9 (by omega), fun _ => rfl⟩⟩⟩, by rw [ht]; exact hP, va_K.moved hW.alike hK, hD⟩, hS.F ht⟩) hS.2.2 dX12_law_20
set_option maxHeartbeats 4000000 in
set_option maxRecDepth 100000 in
theorem c_X11_law9 (l : Launch) (D : va_G) (cy : Nat → ClassId) (a : Nat → Nat) (i : Nat → Int32) (r : Nat → Nat → Int32) (q : Nat → Option Nat) (tl : va_W) (kq vq : Nat) (p0 : Int32) (sz : Nat) (hRi : yRi i) (hRr : yRr r) : Met l yX11_law (Cond.code yX11_law cX11_law 4 (some .int) :: gT) { frames := 27, cells := 0, slots := 0, locals := 664 } (va_Pc [.ref (a 0), .int p0] (rS D cy (xW cy a i r q (a 20) (a 12) ++ tl) sz kq vq)) (va_Qi (fun (z : Int32) (u : (Nat → Nat) × (Nat → Int32) × (Nat → Nat → Int32)) => yRi u.2.1 ∧ yRr u.2.2 ∧ mEi [2, 3, 4, 5, 6, 7, 8, 9] i u.2.1 ∧ mEr [11, 12, 13, 14, 15, 16, 17, 18, 19, 20, 21, 22, 23, 24, 25, 26, 27] r u.2.2 ∧ (∀ k, k < 12 ∨ 28 ≤ k → u.1 k = a k) ∧ (((1 ≤ p0.toInt ∧ p0.toInt ≤ 200) ∧ p0.toInt ≤ (i 2).toInt) → u.2.1 2 = 0) ∧ (¬ ((1 ≤ p0.toInt ∧ p0.toInt ≤ 200) ∧ p0.toInt ≤ (i 2).toInt) → u.2.1 2 = i 2)) (fun (u : (Nat → Nat) × (Nat → Int32) × (Nat → Nat → Int32)) t => va_P D vwCl (xW cy u.1 u.2.1 u.2.2 q (u.1 20) (u.1 12) ++ tl) t.heap ∧ va_K D vwCl (vT cy) t ∧ va_D (va_A (xW cy a i r q (a 20) (a 12) ++ tl) sz) (xW cy u.1 u.2.1 u.2.2 q (u.1 20) (u.1 12) ++ tl)) (va_A (xW cy a i r q (a 20) (a 12) ++ tl) sz)) 0 0 (va_A (xW cy a i r q (a 20) (a 12) ++ tl) sz) := by
  refine Met.ofQ (cc := cX11_law) (maxL := 4) (ret := (some .int)) (by decide) rfl ?_
  intro p e s m args below meth c s₁ B hml hv Q hQ
  obtain ⟨rfl, hsk, hsz, hP, hK, hD0⟩ := hv
  have hx := B.exec
  have hb := B.bytes
  have hr := B.returns
  have hlocks := B.notSynchronized
  have hT : ∀ w ∈ gT, w.before _ s = true := fun w h => atoms_spec (ws := (Cond.code yX11_law cX11_law 4 (some .int) :: gT)) B.pre w (List.mem_cons_of_mem _ h)
  have hown : s.vm.findClass RX11 = some m.cls := findClass_of_methodNamed B.named
  subst hsz
  have hD := hD0.self (sz := s.heap.size)
  generalize hAe : va_A (xW cy a i r q (a 20) (a 12) ++ tl) s.heap.size = A at hD hQ hsk
  have hA : ∀ q : Nat, s.heap.size ≤ q → A q := fun q h => by rw [← hAe]; exact Or.inr h
  have hS : va_S A s.heap s.heap [] := va_S.rf
  have hl := lv_entry ([.ref (a 0), .int p0]) (n := 4) (Nat.le_of_ble_eq_true rfl)
  rw [lg_entry_eq]
  generalize (lg_sl ([.ref (a 0), .int p0]) ++ List.replicate (4 - (lg_sl ([.ref (a 0), .int p0])).length) Slot.unset).toArray = ls at hl ⊢
  have hl : lv_has ls 4 [(0, .ref (a 0)), (1, .int p0)] := hl
  have hEi : mEi [2, 3, 4, 5, 6, 7, 8, 9] i i := Ei_rf
  have hEr : mEr [11, 12, 13, 14, 15, 16, 17, 18, 19, 20, 21, 22, 23, 24, 25, 26, 27] r r := Er_rf
  refine lv_iload_n hx hb dX11_law_0 rfl (lv_at hl 1 rfl) ?_
  refine lv_iconst (v := 1) hx hb dX11_law_1 (by decide) ?_
  refine lv_sipush (v := 200) hx hb dX11_law_2 (by decide) ?_
  refine vp_callSi (W.runS (As := [.int p0, .int 1, .int 200]) (rest := []) ⟨hx, hb, hml, hown, hT⟩ (c_X11_within l p0 1 200) (va_cwS 3 hT (gS t_1 t_3 t_4 t_2) rfl rfl rfl (by decide +kernel) ⟨Nat.le_of_ble_eq_true rfl, Nat.le_of_ble_eq_true rfl⟩) preT rfl rfl hl.1 rfl (lv_room (Nat.le_of_ble_eq_true rfl)) dX11_law_5 ⟨Nat.le_of_ble_eq_true rfl, Nat.le_of_ble_eq_true rfl⟩) (fun r_1 hr_1 => ?_)
  have hr_1 : BR r_1 (1 ≤ p0.toInt ∧ p0.toInt ≤ 200) 1 0 := hr_1
  rcases hr_1 with ⟨rfl, h_2⟩ | ⟨rfl, h_2⟩
  · skip
    refine lv_if_eq (tgt := 22) hx hb dX11_law_8 (by decide) (fun c_3 => absurd c_3 (by decide)) (fun c_3 => ?_)
    refine lv_iload_n hx hb dX11_law_11 rfl (lv_at hl 1 rfl) ?_
    refine lv_aload_n hx hb dX11_law_12 rfl (lv_at hl 0 rfl) ?_
    refine va_get (D := D) (ci := 11) (v := .ref (a 8)) (C := RX11) (T := TX11) (N := 14) hx hb hT iX11 hown hK hP 0 rfl rfl 4 (by decide) (hT _ t_335) (fun _ h9 => h9) rfl dX11_law_13 ?_
    refine va_get (D := D) (ci := 9) (v := .int (i 2)) (C := RX9) (T := TX9) (N := 2) hx hb hT iX9 hown hK hP 8 rfl rfl 1 (by decide) (hT _ t_336) (fun _ h9 => h9) rfl dX11_law_16 ?_
    have hg_4 : 0 ≤ (i 2).toInt ∧ (i 2).toInt ≤ 220 := hRi 2
    refine lv_icmp_le (tgt := 24) hx hb dX11_law_19 (by decide) (fun c_5 => ?_) (fun c_5 => ?_)
    · have c_5 : p0.toInt ≤ (i 2).toInt := b_le c_5
      refine lv_aload_n hx hb dX11_law_24 rfl (lv_at hl 0 rfl) ?_
      refine va_get (D := D) (ci := 11) (v := .ref (a 10)) (C := RX11) (T := TX11) (N := 14) hx hb hT iX11 hown hK hP 0 rfl rfl 5 (by decide) (hT _ t_767) (fun _ h9 => h9) rfl dX11_law_25 ?_
      refine lv_aload_n hx hb dX11_law_28 rfl (lv_at hl 0 rfl) ?_
      refine va_get (D := D) (ci := 11) (v := .ref (a 8)) (C := RX11) (T := TX11) (N := 14) hx hb hT iX11 hown hK hP 0 rfl rfl 4 (by decide) (hT _ t_335) (fun _ h9 => h9) rfl dX11_law_29 ?_
      refine lv_iload_n hx hb dX11_law_32 rfl (lv_at hl 1 rfl) ?_
      have hF_6 := rF hD hS hA
      refine va_calli (va_runV (As := [.ref (a 8), .int p0]) (rest := []) ⟨hx, hb, hml, hown, hT⟩ (c_X6_read l D cy a i r q tl kq vq p0 _ hRi hRr (by first | omega | decide)) (cwV 2 hT (gV t_812 t_813 t_814 t_815 t_653) rfl rfl rfl (by decide +kernel) ⟨Nat.le_of_ble_eq_true rfl, Nat.le_of_ble_eq_true rfl⟩) (rS_v hsk hS hF_6 hP hK hD (va_recv hK hP (ci := 6) (q0 := 10) rfl rfl)) rfl rfl hl.1 rfl (lv_room (Nat.le_of_ble_eq_true rfl)) dX11_law_33 ⟨Nat.le_of_ble_eq_true rfl, Nat.le_of_ble_eq_true rfl⟩) hS (fun q _ h => hF_6 q h) hF_6 (fun r_7 u_8 t H1 locs ht hvm hr_7 hB hz1 hk1 hS => ?_)
      obtain ⟨i8, r8⟩ := u_8
      obtain ⟨hP, hK1, hD1⟩ := hB
      rw [ht] at hP
      have hD := hD1.weaken (fun k q _ h => hF_6 q.1 h)
      obtain ⟨hRi, hRr, hE1, hE2, hr_7⟩ := hr_7
      have hRi : yRi i8 := hRi
      have hE1 : mEi [3, 4, 5, 6, 7] i i8 := hE1
      have hRr : yRr r8 := hRr
      have hE2 : mEr [11, 13, 14, 15, 16, 17, 18] r r8 := hE2
      have hP : va_P D vwCl (xW cy a i8 r8 q (a 20) (a 12) ++ tl) H1 := hP
      have hD : va_D A (xW cy a i8 r8 q (a 20) (a 12) ++ tl) := hD
      have hEi : mEi [2, 3, 4, 5, 6, 7, 8, 9] _ i8 := Ei_tr hEi hE1 (by decide)
      have hEr : mEr [11, 12, 13, 14, 15, 16, 17, 18, 19, 20, 21, 22, 23, 24, 25, 26, 27] _ r8 := Er_tr hEr hE2 (by decide)
      refine lv_istore_n (lv' := [(2, .int r_7), (0, .ref (a 0)), (1, .int p0)]) hx hb dX11_law_36 rfl hl (by decide) rfl (fun ls hl => ?_)
      refine lv_aload_n hx hb dX11_law_37 rfl (lv_at hl 1 rfl) ?_
      refine va_get (D := D) (ci := 11) (v := .ref (a 8)) (C := RX11) (T := TX11) (N := 14) hx hb hT iX11 hown hK hP 0 rfl rfl 4 (by decide) (hT _ t_335) (fun _ h9 => h9) rfl dX11_law_38 ?_
      refine lv_iconst (v := 0) hx hb dX11_law_41 (by decide) ?_
      refine va_put (D := D) (ci := 9) (v := .int 0) (ty := .int) (C := RX9) (T := TX9) (N := 2) hx hb hT iX9 tyX9 tyX9_ok nmX9 hown hK hP hD hS 8 rfl rfl 1 (by decide) (hT _ t_336) (fun _ h9 => h9) rfl (by decide +kernel) rfl rfl (Nat.le_of_ble_eq_true rfl) dX11_law_42 (fun H locs hP hD hS => ?_)
      rw [zP2] at hP hD
      have hRi := Yi_upd hRi 2 0 ⟨by decide, by decide⟩
      have hEi := Ei_upd hEi 2 0 (by decide)
      refine lv_iload_n hx hb dX11_law_45 rfl (lv_at hl 0 rfl) ?_
      refine lv_if_eq (tgt := 51) hx hb dX11_law_46 (by decide) (fun c_9 => ?_) (fun c_9 => ?_)
      · have c_9 : r_7.toInt = 0 := b_eq c_9
        refine lv_aload_n hx hb dX11_law_51 rfl (lv_at hl 1 rfl) ?_
        refine va_get (D := D) (ci := 11) (v := .ref (a 20)) (C := RX11) (T := TX11) (N := 14) hx hb hT iX11 hown hK hP 0 rfl rfl 6 (by decide) (hT _ t_516) (fun _ h9 => h9) rfl dX11_law_52 ?_
        refine lv_astore_n (lv' := [(3, .ref (a 20)), (2, .int r_7), (0, .ref (a 0)), (1, .int p0)]) hx hb dX11_law_55 rfl hl (by decide) rfl (fun ls hl => ?_)
        refine lv_aload_n hx hb dX11_law_56 rfl (lv_at hl 2 rfl) ?_
        refine lv_aload_n hx hb dX11_law_57 rfl (lv_at hl 2 rfl) ?_
        refine va_get (D := D) (ci := 11) (v := .ref (a 10)) (C := RX11) (T := TX11) (N := 14) hx hb hT iX11 hown hK hP 0 rfl rfl 5 (by decide) (hT _ t_767) (fun _ h9 => h9) rfl dX11_law_58 ?_
        refine va_get (D := D) (ci := 6) (v := .ref (a 12)) (C := RX6) (T := TX6) (N := 5) hx hb hT iX6 hown hK hP 10 rfl rfl 0 (by decide) (hT _ t_816) (fun _ h9 => h9) rfl dX11_law_61 ?_
        refine va_put (D := D) (ci := 11) (v := .ref (a 12)) (ty := .object "DepositJudge$Law") (C := RX11) (T := TX11) (N := 14) hx hb hT iX11 tyX11 tyX11_ok nmX11 hown hK hP hD hS 0 rfl rfl 6 (by decide) (hT _ t_516) (fun _ h9 => h9) rfl (by decide +kernel) rfl rfl (Nat.le_of_ble_eq_true rfl) dX11_law_64 (fun H locs hP hD hS => ?_)
        rw [zLF] at hP hD
        refine lv_aload_n hx hb dX11_law_67 rfl (lv_at hl 2 rfl) ?_
        refine va_get (D := D) (ci := 11) (v := .ref (a 10)) (C := RX11) (T := TX11) (N := 14) hx hb hT iX11 hown hK hP 0 rfl rfl 5 (by decide) (hT _ t_767) (fun _ h9 => h9) rfl dX11_law_68 ?_
        refine lv_aload_n hx hb dX11_law_71 rfl (lv_at hl 0 rfl) ?_
        refine va_put (D := D) (ci := 6) (v := .ref (a 20)) (ty := .object "DepositJudge$Law") (C := RX6) (T := TX6) (N := 5) hx hb hT iX6 tyX6 tyX6_ok nmX6 hown hK hP hD hS 10 rfl rfl 0 (by decide) (hT _ t_816) (fun _ h9 => h9) rfl (by decide +kernel) rfl rfl (Nat.le_of_ble_eq_true rfl) dX11_law_72 (fun H locs hP hD hS => ?_)
        rw [zLD] at hP hD
        refine lv_aload_n hx hb dX11_law_75 rfl (lv_at hl 2 rfl) ?_
        refine va_get (D := D) (ci := 11) (v := .ref (a 12)) (C := RX11) (T := TX11) (N := 14) hx hb hT iX11 hown hK hP 0 rfl rfl 6 (by decide) (hT _ t_516) (fun _ h9 => h9) rfl dX11_law_76 ?_
        refine va_get (D := D) (ci := 5) (v := .int (i8 6)) (C := RX5) (T := TX5) (N := 9) hx hb hT iX5 hown hK hP 12 rfl rfl 0 (by decide) (hT _ t_609) (fun _ h9 => h9) rfl dX11_law_79 ?_
        have hg_10 : 0 ≤ (i8 6).toInt ∧ (i8 6).toInt ≤ 14 := hRi 6
        subst hQ
        have hP9 := vaP_perm swap_perm hP
        have hD9 := vaD_perm swap_perm hD
        exact W.iret (v := i8 6) hx hb hr (fun t ht hW => ⟨⟨_, ((fun p => a (swp p)), (fun k => (upd i8 2 0) (swi k)), (fun p => (r8) (swp p))), rfl, ⟨swap_Ri hRi, swap_Rr hRr, sw_Ei hEi, sw_Er hEr, sw_a, ⟨fun _ => rfl, fun h9 => absurd (by omega) h9⟩⟩, by rw [ht]; exact hP9, va_K.moved hW.alike hK, hD9⟩, hS.F ht⟩) hS.2.2 dX11_law_82
      · have c_9 : r_7.toInt ≠ 0 := b_ne c_9
        refine lv_iload_n hx hb dX11_law_49 rfl (lv_at hl 0 rfl) ?_
        subst hQ
        exact W.iret (v := r_7) hx hb hr (fun t ht hW => ⟨⟨_, (a, upd i8 2 0, r8), rfl, ⟨hRi, hRr, hEi, hEr, fun _ _ => rfl, ⟨fun _ => rfl, fun h9 => absurd (by omega) h9⟩⟩, by rw [ht]; exact hP, va_K.moved hW.alike hK, hD⟩, hS.F ht⟩) hS.2.2 dX11_law_50
    · have c_5 : (i 2).toInt < p0.toInt := b_nle c_5
      refine lv_iconst (v := (-1)) hx hb dX11_law_22 (by decide) ?_
      subst hQ
      exact W.iret (v := (-1)) hx hb hr (fun t ht hW => ⟨⟨_, (a, i, r), rfl, ⟨hRi, hRr, hEi, hEr, fun _ _ => rfl, ⟨fun h9 => absurd h9 (by omega), fun _ => rfl⟩⟩, by rw [ht]; exact hP, va_K.moved hW.alike hK, hD⟩, hS.F ht⟩) hS.2.2 dX11_law_23
  · skip
    refine lv_if_eq (tgt := 22) hx hb dX11_law_8 (by decide) (fun c_11 => ?_) (fun c_11 => absurd (by decide) c_11)
    refine lv_iconst (v := (-1)) hx hb dX11_law_22 (by decide) ?_
    subst hQ
    exact W.iret (v := (-1)) hx hb hr (fun t ht hW => ⟨⟨_, (a, i, r), rfl, ⟨hRi, hRr, hEi, hEr, fun _ _ => rfl, ⟨fun h9 => absurd h9 (by omega), fun _ => rfl⟩⟩, by rw [ht]; exact hP, va_K.moved hW.alike hK, hD⟩, hS.F ht⟩) hS.2.2 dX11_law_23
set_option maxHeartbeats 4000000 in
set_option maxRecDepth 100000 in
theorem c_X12_check9 (l : Launch) (D : va_G) (cy : Nat → ClassId) (a : Nat → Nat) (i : Nat → Int32) (r : Nat → Nat → Int32) (rl : Nat → Int64) (p0 p1 p2 : Int32) (sz : Nat) (hRi : mRi i) (hRr : mRr r) (hE : mE i r) : Met l yX12_check (Cond.code yX12_check cX12_check 5 (some .int) :: gT) { frames := 10, cells := 0, slots := 0, locals := 238 } (va_Pc [.ref (a 0), .int p0, .int p1, .int p2] (rQ D cy (mW cy a i r rl) sz)) (va_Qi (fun (z : Int32) (u : (Nat → Int32) × (Nat → Nat → Int32) × (Nat → Int64)) => mRi u.1 ∧ mRr u.2.1 ∧ mEi [22, 23, 24, 25, 26, 27, 28, 29, 30, 60] i u.1 ∧ mEr [32, 33, 34, 35, 36, 37, 38, 39, 49] r u.2.1 ∧ ((((0 ≤ p0.toInt ∧ p0.toInt < (i 0).toInt) ∧ (0 ≤ p1.toInt ∧ p1.toInt ≤ 9999) ∧ (0 ≤ p2.toInt ∧ p2.toInt ≤ 4) ∧ 4 * p2.toInt ≤ (i 22).toInt) → u.1 22 = 0) ∧ (¬ ((0 ≤ p0.toInt ∧ p0.toInt < (i 0).toInt) ∧ (0 ≤ p1.toInt ∧ p1.toInt ≤ 9999) ∧ (0 ≤ p2.toInt ∧ p2.toInt ≤ 4) ∧ 4 * p2.toInt ≤ (i 22).toInt) → u.1 22 = i 22))) (fun (u : (Nat → Int32) × (Nat → Nat → Int32) × (Nat → Int64)) t => va_P D vwCl (mW cy a u.1 u.2.1 u.2.2) t.heap ∧ va_K D vwCl (vT cy) t ∧ va_D (va_A (mW cy a i r rl) sz) (mW cy a u.1 u.2.1 u.2.2)) (va_A (mW cy a i r rl) sz)) 0 0 (va_A (mW cy a i r rl) sz) := by
  refine Met.ofQ (cc := cX12_check) (maxL := 5) (ret := (some .int)) (by decide) rfl ?_
  intro p e s m args below meth c s₁ B hml hv Q hQ
  obtain ⟨rfl, hsz, hP, hK, hD0⟩ := hv
  have hx := B.exec
  have hb := B.bytes
  have hr := B.returns
  have hlocks := B.notSynchronized
  have hT : ∀ w ∈ gT, w.before _ s = true := fun w h => atoms_spec (ws := (Cond.code yX12_check cX12_check 5 (some .int) :: gT)) B.pre w (List.mem_cons_of_mem _ h)
  have hown : s.vm.findClass RX12 = some m.cls := findClass_of_methodNamed B.named
  subst hsz
  have hD := hD0.self (sz := s.heap.size)
  generalize hAe : va_A (mW cy a i r rl) s.heap.size = A at hD hQ
  have hA : ∀ q : Nat, s.heap.size ≤ q → A q := fun q h => by rw [← hAe]; exact Or.inr h
  have hS : va_S A s.heap s.heap [] := va_S.rf
  have hl := lv_entry ([.ref (a 0), .int p0, .int p1, .int p2]) (n := 5) (Nat.le_of_ble_eq_true rfl)
  rw [lg_entry_eq]
  generalize (lg_sl ([.ref (a 0), .int p0, .int p1, .int p2]) ++ List.replicate (5 - (lg_sl ([.ref (a 0), .int p0, .int p1, .int p2])).length) Slot.unset).toArray = ls at hl ⊢
  have hl : lv_has ls 5 [(0, .ref (a 0)), (1, .int p0), (2, .int p1), (3, .int p2)] := hl
  have hEi : mEi [22, 23, 24, 25, 26, 27, 28, 29, 30, 60] i i := Ei_rf
  have hEr : mEr [32, 33, 34, 35, 36, 37, 38, 39, 49] r r := Er_rf
  refine lv_aload_n hx hb dX12_check_0 rfl (lv_at hl 0 rfl) ?_
  refine lv_iload_n hx hb dX12_check_1 rfl (lv_at hl 1 rfl) ?_
  refine vp_callSi (W.runV (As := [.int p0]) (rest := []) ⟨hx, hb, hml, hown, hT⟩ (c_X12_isHome l D cy a i r rl p0 hRi hRr) (cwV 1 hT (gV t_12 t_13 t_14 t_15 t_6) rfl rfl rfl (by decide +kernel) ⟨Nat.le_of_ble_eq_true rfl, Nat.le_of_ble_eq_true rfl⟩) (rP_v hP hK (va_recv hK hP (ci := 12) (q0 := 0) rfl rfl)) rfl rfl hl.1 rfl (lv_room (Nat.le_of_ble_eq_true rfl)) dX12_check_2 ⟨Nat.le_of_ble_eq_true rfl, Nat.le_of_ble_eq_true rfl⟩) (fun r_1 hr_1 => ?_)
  have hg_2 : 0 ≤ (i 0).toInt ∧ (i 0).toInt ≤ 6 := hRi 0
  have hr_1 : BR r_1 (0 ≤ p0.toInt ∧ p0.toInt < (i 0).toInt) 1 0 := hr_1
  rcases hr_1 with ⟨rfl, h_3⟩ | ⟨rfl, h_3⟩
  · skip
    refine lv_if_eq (tgt := 34) hx hb dX12_check_5 (by decide) (fun c_4 => absurd c_4 (by decide)) (fun c_4 => ?_)
    refine lv_iload_n hx hb dX12_check_8 rfl (lv_at hl 2 rfl) ?_
    refine vp_callSi (W.runS (As := [.int p1]) (rest := []) ⟨hx, hb, hml, hown, hT⟩ (c_X12_isDay l p1) (va_cwS 1 hT (gS t_157 t_158 t_159 t_6) rfl rfl rfl (by decide +kernel) ⟨Nat.le_of_ble_eq_true rfl, Nat.le_of_ble_eq_true rfl⟩) preT rfl rfl hl.1 rfl (lv_room (Nat.le_of_ble_eq_true rfl)) dX12_check_9 ⟨Nat.le_of_ble_eq_true rfl, Nat.le_of_ble_eq_true rfl⟩) (fun r_5 hr_5 => ?_)
    have hr_5 : BR r_5 (0 ≤ p1.toInt ∧ p1.toInt ≤ 9999) 1 0 := hr_5
    rcases hr_5 with ⟨rfl, h_6⟩ | ⟨rfl, h_6⟩
    · skip
      refine lv_if_eq (tgt := 34) hx hb dX12_check_12 (by decide) (fun c_7 => absurd c_7 (by decide)) (fun c_7 => ?_)
      refine lv_iload_n hx hb dX12_check_15 rfl (lv_at hl 3 rfl) ?_
      refine lv_iconst (v := 0) hx hb dX12_check_16 (by decide) ?_
      refine lv_iconst (v := 4) hx hb dX12_check_17 (by decide) ?_
      refine vp_callSi (W.runS (As := [.int p2, .int 0, .int 4]) (rest := []) ⟨hx, hb, hml, hown, hT⟩ (c_X12_in l p2 0 4) (va_cwS 3 hT (gS t_113 t_114 t_115 t_6) rfl rfl rfl (by decide +kernel) ⟨Nat.le_of_ble_eq_true rfl, Nat.le_of_ble_eq_true rfl⟩) preT rfl rfl hl.1 rfl (lv_room (Nat.le_of_ble_eq_true rfl)) dX12_check_18 ⟨Nat.le_of_ble_eq_true rfl, Nat.le_of_ble_eq_true rfl⟩) (fun r_8 hr_8 => ?_)
      have hr_8 : BR r_8 (0 ≤ p2.toInt ∧ p2.toInt ≤ 4) 1 0 := hr_8
      rcases hr_8 with ⟨rfl, h_9⟩ | ⟨rfl, h_9⟩
      · skip
        refine lv_if_eq (tgt := 34) hx hb dX12_check_21 (by decide) (fun c_10 => absurd c_10 (by decide)) (fun c_10 => ?_)
        refine lv_iload_n hx hb dX12_check_24 rfl (lv_at hl 3 rfl) ?_
        refine lv_aload_n hx hb dX12_check_25 rfl (lv_at hl 0 rfl) ?_
        refine va_get (D := D) (ci := 12) (v := .int (i 22)) (C := RX12) (T := TX12) (N := 91) hx hb hT iX12 hown hK hP 0 rfl rfl 22 (by decide) (hT _ t_201) (fun _ h9 => h9) rfl dX12_check_26 ?_
        have hg_11 : 0 ≤ (i 22).toInt ∧ (i 22).toInt ≤ 220 := hRi 22
        refine lv_iconst (v := 4) hx hb dX12_check_29 (by decide) ?_
        refine lv_idiv hx hb dX12_check_30 (by decide) ?_
        refine lv_topi (fun v_12 ev_12 => ?_)
        have hd9 : v_12.toInt = (i 22).toInt / 4 := by rw [ev_12]; exact div4 (by omega)
        refine lv_icmp_le (tgt := 37) hx hb dX12_check_31 (by decide) (fun c_13 => ?_) (fun c_13 => ?_)
        · have c_13 : p2.toInt ≤ v_12.toInt := b_le c_13
          refine lv_aload_n hx hb dX12_check_37 rfl (lv_at hl 0 rfl) ?_
          refine lv_iconst (v := 0) hx hb dX12_check_38 (by decide) ?_
          refine va_put (D := D) (ci := 12) (v := .int 0) (ty := .int) (C := RX12) (T := TX12) (N := 91) hx hb hT iX12 tyX12 tyX12_ok nmX12 hown hK hP hD hS 0 rfl rfl 22 (by decide) (hT _ t_201) (fun _ h9 => h9) rfl (by decide +kernel) rfl rfl (Nat.le_of_ble_eq_true rfl) dX12_check_39 (fun H locs hP hD hS => ?_)
          rw [mP22] at hP hD
          have hRi := Ri_upd hRi 22 0 ⟨by decide, by decide⟩
          have hEi := Ei_upd hEi 22 0 (by decide)
          refine lv_aload_n hx hb dX12_check_42 rfl (lv_at hl 0 rfl) ?_
          refine lv_iload_n hx hb dX12_check_43 rfl (lv_at hl 1 rfl) ?_
          refine lv_aload_n hx hb dX12_check_44 rfl (lv_at hl 0 rfl) ?_
          refine lv_iload_n hx hb dX12_check_45 rfl (lv_at hl 1 rfl) ?_
          refine lv_iload_n hx hb dX12_check_46 rfl (lv_at hl 2 rfl) ?_
          have hF_14 := rF hD hS hA
          refine va_calli (va_runV (As := [.int p0, .int p1]) (rest := [.int p0, .ref (a 0)]) ⟨hx, hb, hml, hown, hT⟩ (c_X12_backOf l D cy a (upd i 22 0) r rl p0 p1 _ hRi hRr (mE_same hEi hEr (by decide) (by decide) hE) (by omega)) (cwV 2 hT (gV t_826 t_827 t_828 t_829 t_6) rfl rfl rfl (by decide +kernel) ⟨Nat.le_of_ble_eq_true rfl, Nat.le_of_ble_eq_true rfl⟩) (rQ_v hP hK hD (va_recv hK hP (ci := 12) (q0 := 0) rfl rfl)) rfl rfl hl.1 rfl (lv_room (Nat.le_of_ble_eq_true rfl)) dX12_check_47 ⟨Nat.le_of_ble_eq_true rfl, Nat.le_of_ble_eq_true rfl⟩) hS (fun q _ h => hF_14 q h) hF_14 (fun r_15 u_16 t H1 locs ht hvm hr_15 hB hz1 hk1 hS => ?_)
          obtain ⟨i16, r16⟩ := u_16
          obtain ⟨hP, hK1, hD1⟩ := hB
          rw [ht] at hP
          have hD := hD1.weaken (fun k q _ h => hF_14 q.1 h)
          have hP : va_P D vwCl (mW cy a i16 r16 rl) H1 := hP
          have hD : va_D A (mW cy a i16 r16 rl) := hD
          obtain ⟨hRi, hRr, hE1, hE2, hr_15⟩ := hr_15
          have hRi : mRi i16 := hRi
          have hRr : mRr r16 := hRr
          have hEi : mEi [22, 23, 24, 25, 26, 27, 28, 29, 30, 60] _ i16 := Ei_tr hEi hE1 (by decide)
          have hEr : mEr [32, 33, 34, 35, 36, 37, 38, 39, 49] _ r16 := Er_tr hEr hE2 (by decide)
          have hz47 : i16 22 = 0 := (hE1 22 (by decide)).trans rfl
          obtain ⟨v_17, ev_17⟩ : ∃ y : Int64, r_15.toInt64 = y := ⟨_, rfl⟩
          refine lv_i2l (v := v_17) hx hb dX12_check_50 ev_17 ?_
          refine lv_aload_n hx hb dX12_check_51 rfl (lv_at hl 0 rfl) ?_
          refine lv_iload_n hx hb dX12_check_52 rfl (lv_at hl 1 rfl) ?_
          have hF_18 := rF hD hS hA
          refine va_calli (va_runV (As := [.int p0]) (rest := [.long v_17, .int p0, .ref (a 0)]) ⟨hx, hb, hml, hown, hT⟩ (c_X12_penaltyOf l D cy a i16 r16 rl p0 _ hRi hRr (mE_same hEi hEr (by decide) (by decide) hE) (by omega)) (cwV 1 hT (gV t_830 t_831 t_832 t_833 t_6) rfl rfl rfl (by decide +kernel) ⟨Nat.le_of_ble_eq_true rfl, Nat.le_of_ble_eq_true rfl⟩) (rQ_v hP hK hD (va_recv hK hP (ci := 12) (q0 := 0) rfl rfl)) rfl rfl hl.1 rfl (lv_room (Nat.le_of_ble_eq_true rfl)) dX12_check_53 ⟨Nat.le_of_ble_eq_true rfl, Nat.le_of_ble_eq_true rfl⟩) hS (fun q _ h => hF_18 q h) hF_18 (fun r_19 u_20 t H1 locs ht hvm hr_19 hB hz1 hk1 hS => ?_)
          obtain ⟨r20, rfl⟩ : ∃ z, z = u_20 := ⟨_, rfl⟩
          obtain ⟨hP, hK1, hD1⟩ := hB
          rw [ht] at hP
          have hD := hD1.weaken (fun k q _ h => hF_18 q.1 h)
          have hP : va_P D vwCl (mW cy a i16 r20 rl) H1 := hP
          have hD : va_D A (mW cy a i16 r20 rl) := hD
          obtain ⟨hRr, hE2, hr_19⟩ := hr_19
          have hRr : mRr r20 := hRr
          have hEr : mEr [32, 33, 34, 35, 36, 37, 38, 39, 49] _ r20 := Er_tr hEr hE2 (by decide)
          obtain ⟨v_21, ev_21⟩ : ∃ y : Int64, r_19.toInt64 = y := ⟨_, rfl⟩
          refine lv_i2l (v := v_21) hx hb dX12_check_56 ev_21 ?_
          refine lv_ladd hx hb dX12_check_57 ?_
          refine lv_topl (fun v_22 ev_22 => ?_)
          have hF_23 := rF hD hS hA
          refine va_callv (va_runV (As := [.int p0, .long v_22]) (rest := []) ⟨hx, hb, hml, hown, hT⟩ (c_X12_sharesOut l D cy a i16 r20 rl p0 v_22 _ hRi hRr (mE_same hEi hEr (by decide) (by decide) hE) (by rw [hEi 0 (by decide)]; omega)) (cwV 2 hT (gV t_834 t_835 t_836 t_837 t_6) rfl rfl rfl (by decide +kernel) ⟨Nat.le_of_ble_eq_true rfl, Nat.le_of_ble_eq_true rfl⟩) (rQ_v hP hK hD (va_recv hK hP (ci := 12) (q0 := 0) rfl rfl)) rfl rfl hl.1 rfl (lv_room (Nat.le_of_ble_eq_true rfl)) dX12_check_58 ⟨Nat.le_of_ble_eq_true rfl, Nat.le_of_ble_eq_true rfl⟩) hS (fun q _ h => hF_23 q h) hF_23 (fun u_25 t H1 locs ht hvm hr_24 hB hz1 hk1 hS => ?_)
          obtain ⟨i25, r25, l25⟩ := u_25
          obtain ⟨hP, hK1, hD1⟩ := hB
          rw [ht] at hP
          have hD := hD1.weaken (fun k q _ h => hF_23 q.1 h)
          have hP : va_P D vwCl (mW cy a i25 r25 l25) H1 := hP
          have hD : va_D A (mW cy a i25 r25 l25) := hD
          obtain ⟨hRi, hRr, hE1, hE2, hr_24⟩ := hr_24
          have hRi : mRi i25 := hRi
          have hRr : mRr r25 := hRr
          have hEi : mEi [22, 23, 24, 25, 26, 27, 28, 29, 30, 60] _ i25 := Ei_tr hEi hE1 (by decide)
          have hEr : mEr [32, 33, 34, 35, 36, 37, 38, 39, 49] _ r25 := Er_tr hEr hE2 (by decide)
          have h22z : i25 22 = 0 := (hE1 22 (by decide)).trans hz47
          refine lv_iconst (v := 0) hx hb dX12_check_61 (by decide) ?_
          refine lv_istore (lv' := [(4, .int 0), (0, .ref (a 0)), (1, .int p0), (2, .int p1), (3, .int p2)]) hx hb dX12_check_62 hl (by decide) rfl (fun ls hl => ?_)
          have loop_26 : ∀ (n : Nat) (x26_4 : Int32) (H : Heap) (locs : List Loc) (ls : Array Slot), (4 - x26_4.toInt).toNat < n → (0 ≤ x26_4.toInt ∧ x26_4.toInt ≤ 4) → va_P D vwCl (mW cy a i25 r25 l25) H → va_D A (mW cy a i25 r25 l25) → va_S A s.heap H locs → lv_has ls 5 [(4, .int x26_4), (0, .ref (a 0)), (1, .int p0), (2, .int p1), (3, .int p2)] → W p l e ({ frames := 10, cells := 0, slots := 0, locals := 238 } : Room) s m ([.ref (a 0), .int p0, .int p1, .int p2] : List Value).toArray below meth c H locs 0 0 Q (F0 m 64 ls []) := by
            intro n
            induction n with
            | zero =>
              intro x26_4 H locs ls hm26 hf26_0 hP hD hS hl
              exact absurd hm26 (by omega)
            | succ n ih26 =>
              intro x26_4 H locs ls hm26 hf26_0 hP hD hS hl
              refine lv_iload hx hb dX12_check_64 (lv_at hl 0 rfl) ?_
              refine lv_aload_n hx hb dX12_check_66 rfl (lv_at hl 1 rfl) ?_
              refine va_get (D := D) (ci := 12) (v := .ref (a 4)) (C := RX12) (T := TX12) (N := 91) hx hb hT iX12 hown hK hP 0 rfl rfl 5 (by decide) (hT _ t_66) (fun _ h9 => h9) rfl dX12_check_67 ?_
              refine lv_iload_n hx hb dX12_check_70 rfl (lv_at hl 2 rfl) ?_
              refine va_iald hx hb hK hP 4 0 rfl rfl (vp_inI (by omega) (by omega)) dX12_check_71 ?_
              refine lv_topi (fun v_27 ev_27 => ?_)
              have hgv_27 : 0 ≤ v_27.toInt ∧ v_27.toInt ≤ 4 := by rw [ev_27]; exact hRr 4 _
              refine lv_icmp_ge (tgt := 106) hx hb dX12_check_72 (by decide) (fun c_28 => ?_) (fun c_28 => ?_)
              · have c_28 : v_27.toInt ≤ x26_4.toInt := b_le c_28
                refine lv_aload_n hx hb dX12_check_106 rfl (lv_at hl 1 rfl) ?_
                refine va_get (D := D) (ci := 12) (v := .ref (a 4)) (C := RX12) (T := TX12) (N := 91) hx hb hT iX12 hown hK hP 0 rfl rfl 5 (by decide) (hT _ t_66) (fun _ h9 => h9) rfl dX12_check_107 ?_
                refine lv_iload_n hx hb dX12_check_110 rfl (lv_at hl 2 rfl) ?_
                refine va_iald hx hb hK hP 4 0 rfl rfl (vp_inI (by omega) (by omega)) dX12_check_111 ?_
                refine lv_topi (fun v_29 ev_29 => ?_)
                have hgv_29 : 0 ≤ v_29.toInt ∧ v_29.toInt ≤ 4 := by rw [ev_29]; exact hRr 4 _
                refine lv_iload_n hx hb dX12_check_112 rfl (lv_at hl 4 rfl) ?_
                refine lv_icmp_ge (tgt := 125) hx hb dX12_check_113 (by decide) (fun c_30 => ?_) (fun c_30 => ?_)
                · have c_30 : p2.toInt ≤ v_29.toInt := b_le c_30
                  refine lv_iconst (v := (-1)) hx hb dX12_check_125 (by decide) ?_
                  subst hQ
                  exact W.iret (v := (-1)) hx hb hr (fun t ht hW => ⟨⟨_, (i25, r25, l25), rfl, ⟨hRi, hRr, hEi, hEr, ⟨fun _ => h22z, fun h9 => absurd (by omega) h9⟩⟩, by rw [ht]; exact hP, va_K.moved hW.alike hK, hD⟩, hS.F ht⟩) hS.2.2 dX12_check_126
                · have c_30 : v_29.toInt < p2.toInt := b_nle c_30
                  refine lv_aload_n hx hb dX12_check_116 rfl (lv_at hl 1 rfl) ?_
                  refine va_get (D := D) (ci := 12) (v := .ref (a 4)) (C := RX12) (T := TX12) (N := 91) hx hb hT iX12 hown hK hP 0 rfl rfl 5 (by decide) (hT _ t_66) (fun _ h9 => h9) rfl dX12_check_117 ?_
                  refine lv_iload_n hx hb dX12_check_120 rfl (lv_at hl 2 rfl) ?_
                  refine va_iald hx hb hK hP 4 0 rfl rfl (vp_inI (by omega) (by omega)) dX12_check_121 ?_
                  refine lv_topi (fun v_31 ev_31 => ?_)
                  have hgv_31 : 0 ≤ v_31.toInt ∧ v_31.toInt ≤ 4 := by rw [ev_31]; exact hRr 4 _
                  refine lv_goto (tgt := 126) hx hb dX12_check_122 (by decide) ?_
                  subst hQ
                  exact W.iret (v := v_31) hx hb hr (fun t ht hW => ⟨⟨_, (i25, r25, l25), rfl, ⟨hRi, hRr, hEi, hEr, ⟨fun _ => h22z, fun h9 => absurd (by omega) h9⟩⟩, by rw [ht]; exact hP, va_K.moved hW.alike hK, hD⟩, hS.F ht⟩) hS.2.2 dX12_check_126
              · have c_28 : x26_4.toInt < v_27.toInt := b_nle c_28
                refine lv_iload hx hb dX12_check_75 (lv_at hl 0 rfl) ?_
                refine lv_iload_n hx hb dX12_check_77 rfl (lv_at hl 4 rfl) ?_
                refine lv_icmp_eq (tgt := 97) hx hb dX12_check_78 (by decide) (fun c_32 => ?_) (fun c_32 => ?_)
                · have c_32 : x26_4.toInt = p2.toInt := b_eq c_32
                  refine lv_iload hx hb dX12_check_97 (lv_at hl 0 rfl) ?_
                  subst hQ
                  exact W.iret (v := x26_4) hx hb hr (fun t ht hW => ⟨⟨_, (i25, r25, l25), rfl, ⟨hRi, hRr, hEi, hEr, ⟨fun _ => h22z, fun h9 => absurd (by omega) h9⟩⟩, by rw [ht]; exact hP, va_K.moved hW.alike hK, hD⟩, hS.F ht⟩) hS.2.2 dX12_check_99
                · have c_32 : x26_4.toInt ≠ p2.toInt := b_ne c_32
                  refine lv_aload_n hx hb dX12_check_81 rfl (lv_at hl 1 rfl) ?_
                  refine lv_iload hx hb dX12_check_82 (lv_at hl 0 rfl) ?_
                  refine vp_callSi (W.runV (As := [.int x26_4]) (rest := []) ⟨hx, hb, hml, hown, hT⟩ (c_X12_tapeNumber l D cy a i25 r25 l25 x26_4 hRi hRr (by omega)) (cwV 1 hT (gV t_838 t_839 t_840 t_841 t_6) rfl rfl rfl (by decide +kernel) ⟨Nat.le_of_ble_eq_true rfl, Nat.le_of_ble_eq_true rfl⟩) (rP_v hP hK (va_recv hK hP (ci := 12) (q0 := 0) rfl rfl)) rfl rfl hl.1 rfl (lv_room (Nat.le_of_ble_eq_true rfl)) dX12_check_84 ⟨Nat.le_of_ble_eq_true rfl, Nat.le_of_ble_eq_true rfl⟩) (fun r_33 hr_33 => ?_)
                  refine lv_aload_n hx hb dX12_check_87 rfl (lv_at hl 1 rfl) ?_
                  refine va_get (D := D) (ci := 12) (v := .ref (a 49)) (C := RX12) (T := TX12) (N := 91) hx hb hT iX12 hown hK hP 0 rfl rfl 62 (by decide) (hT _ t_796) (fun _ h9 => h9) rfl dX12_check_88 ?_
                  refine lv_iload hx hb dX12_check_91 (lv_at hl 0 rfl) ?_
                  refine va_iald hx hb hK hP 49 0 rfl rfl (vp_inI (by omega) (by omega)) dX12_check_93 ?_
                  refine lv_topi (fun v_34 ev_34 => ?_)
                  refine lv_icmp_eq (tgt := 100) hx hb dX12_check_94 (by decide) (fun c_35 => ?_) (fun c_35 => ?_)
                  · have c_35 : r_33.toInt = v_34.toInt := b_eq c_35
                    obtain ⟨x_36, ex_36⟩ : ∃ y : Int32, y = x26_4 + 1 := ⟨_, rfl⟩
                    refine lv_iinc (v := x_36) (lv' := [(4, .int x_36), (0, .ref (a 0)), (1, .int p0), (2, .int p1), (3, .int p2)]) hx hb dX12_check_100 hl (k := 0) rfl (by rw [ex_36]; rfl) (by decide) rfl (fun ls hl => ?_)
                    have hx_36 : x_36.toInt = x26_4.toInt + 1 := by rw [ex_36]; have := b_rg x26_4; exact i_add (a := x26_4.toInt) (b := 1) rfl rfl (by omega) (by omega)
                    refine lv_goto (tgt := 64) hx hb dX12_check_103 (by decide) ?_
                    exact ih26 x_36 _ _ _ (by first | omega | (simp only [Int.toNat]; omega)) (by first | omega | decide)   hP hD hS (lv_sub hl [0, 1, 2, 3, 4] rfl)
                  · have c_35 : r_33.toInt ≠ v_34.toInt := b_ne c_35
                    refine lv_iload hx hb dX12_check_97 (lv_at hl 0 rfl) ?_
                    subst hQ
                    exact W.iret (v := x26_4) hx hb hr (fun t ht hW => ⟨⟨_, (i25, r25, l25), rfl, ⟨hRi, hRr, hEi, hEr, ⟨fun _ => h22z, fun h9 => absurd (by omega) h9⟩⟩, by rw [ht]; exact hP, va_K.moved hW.alike hK, hD⟩, hS.F ht⟩) hS.2.2 dX12_check_99
          exact loop_26 _ 0 _ _ _ (Nat.lt_succ_self _) (by first | omega | decide)   hP hD hS hl
        · have c_13 : v_12.toInt < p2.toInt := b_nle c_13
          refine lv_bipush (v := (-2)) hx hb dX12_check_34 (by decide) ?_
          subst hQ
          exact W.iret (v := (-2)) hx hb hr (fun t ht hW => ⟨⟨_, (i, r, rl), rfl, ⟨hRi, hRr, hEi, hEr, ⟨fun h9 => absurd h9 (by omega), fun _ => rfl⟩⟩, by rw [ht]; exact hP, va_K.moved hW.alike hK, hD⟩, hS.F ht⟩) hS.2.2 dX12_check_36
      · skip
        refine lv_if_eq (tgt := 34) hx hb dX12_check_21 (by decide) (fun c_37 => ?_) (fun c_37 => absurd (by decide) c_37)
        refine lv_bipush (v := (-2)) hx hb dX12_check_34 (by decide) ?_
        subst hQ
        exact W.iret (v := (-2)) hx hb hr (fun t ht hW => ⟨⟨_, (i, r, rl), rfl, ⟨hRi, hRr, hEi, hEr, ⟨fun h9 => absurd h9 (by omega), fun _ => rfl⟩⟩, by rw [ht]; exact hP, va_K.moved hW.alike hK, hD⟩, hS.F ht⟩) hS.2.2 dX12_check_36
    · skip
      refine lv_if_eq (tgt := 34) hx hb dX12_check_12 (by decide) (fun c_38 => ?_) (fun c_38 => absurd (by decide) c_38)
      refine lv_bipush (v := (-2)) hx hb dX12_check_34 (by decide) ?_
      subst hQ
      exact W.iret (v := (-2)) hx hb hr (fun t ht hW => ⟨⟨_, (i, r, rl), rfl, ⟨hRi, hRr, hEi, hEr, ⟨fun h9 => absurd h9 (by omega), fun _ => rfl⟩⟩, by rw [ht]; exact hP, va_K.moved hW.alike hK, hD⟩, hS.F ht⟩) hS.2.2 dX12_check_36
  · skip
    refine lv_if_eq (tgt := 34) hx hb dX12_check_5 (by decide) (fun c_39 => ?_) (fun c_39 => absurd (by decide) c_39)
    refine lv_bipush (v := (-2)) hx hb dX12_check_34 (by decide) ?_
    subst hQ
    exact W.iret (v := (-2)) hx hb hr (fun t ht hW => ⟨⟨_, (i, r, rl), rfl, ⟨hRi, hRr, hEi, hEr, ⟨fun h9 => absurd h9 (by omega), fun _ => rfl⟩⟩, by rw [ht]; exact hP, va_K.moved hW.alike hK, hD⟩, hS.F ht⟩) hS.2.2 dX12_check_36
set_option maxHeartbeats 4000000 in
set_option maxRecDepth 100000 in
theorem c_X11_check.y9 (l : Launch) (D : va_G) (cy : Nat → ClassId) (a : Nat → Nat) (i : Nat → Int32) (r : Nat → Nat → Int32) (q : Nat → Option Nat) (tl : va_W) (p0 p1 p2 : Int32) (sz : Nat) (hRi : yRi i) (hRr : yRr r) (hh : 0 ≤ p0.toInt ∧ p0.toInt < (i 0).toInt) (hq : q p0.toNatClampNeg = some (a 61)) : Met l yX11_check (Cond.code yX11_check cX11_check 6 (some .int) :: gT) { frames := 7, cells := 0, slots := 0, locals := 175 } (va_Pc [.ref (a 0), .int p0, .int p1, .int p2] (rM D cy (xW cy a i r q (a 20) (a 12) ++ (hW cy a i r ++ tl)) sz)) (va_Qi (fun (z : Int32) (u : (Nat → Int32) × (Nat → Nat → Int32)) => yRi u.1 ∧ yRr u.2 ∧ mEi [2] i u.1 ∧ mEr [27, 28, 52, 53] r u.2 ∧ ((((0 ≤ p1.toInt ∧ p1.toInt ≤ 9999) ∧ (0 ≤ p2.toInt ∧ p2.toInt ≤ 4) ∧ 4 * p2.toInt ≤ (i 2).toInt) → u.1 2 = 0) ∧ (¬ ((0 ≤ p1.toInt ∧ p1.toInt ≤ 9999) ∧ (0 ≤ p2.toInt ∧ p2.toInt ≤ 4) ∧ 4 * p2.toInt ≤ (i 2).toInt) → u.1 2 = i 2))) (fun (u : (Nat → Int32) × (Nat → Nat → Int32)) t => va_P D vwCl (xW cy a u.1 u.2 q (a 20) (a 12) ++ (hW cy a u.1 u.2 ++ tl)) t.heap ∧ va_K D vwCl (vT cy) t ∧ va_D (va_A (xW cy a i r q (a 20) (a 12) ++ (hW cy a i r ++ tl)) sz) (xW cy a u.1 u.2 q (a 20) (a 12) ++ (hW cy a u.1 u.2 ++ tl))) (va_A (xW cy a i r q (a 20) (a 12) ++ (hW cy a i r ++ tl)) sz)) 0 0 (va_A (xW cy a i r q (a 20) (a 12) ++ (hW cy a i r ++ tl)) sz) := by
  refine Met.ofQ (cc := cX11_check) (maxL := 6) (ret := (some .int)) (by decide) rfl ?_
  intro p e s m args below meth c s₁ B hml hv Q hQ
  obtain ⟨rfl, hnw, hsz, hP, hK, hD0⟩ := hv
  have hx := B.exec
  have hb := B.bytes
  have hr := B.returns
  have hlocks := B.notSynchronized
  have hT : ∀ w ∈ gT, w.before _ s = true := fun w h => atoms_spec (ws := (Cond.code yX11_check cX11_check 6 (some .int) :: gT)) B.pre w (List.mem_cons_of_mem _ h)
  have hown : s.vm.findClass RX11 = some m.cls := findClass_of_methodNamed B.named
  subst hsz
  have hD := hD0.self (sz := s.heap.size)
  generalize hAe : va_A (xW cy a i r q (a 20) (a 12) ++ (hW cy a i r ++ tl)) s.heap.size = A at hD hQ
  have hA : ∀ q : Nat, s.heap.size ≤ q → A q := fun q h => by rw [← hAe]; exact Or.inr h
  have hS : va_S A s.heap s.heap [] := va_S.rf
  have hl := lv_entry ([.ref (a 0), .int p0, .int p1, .int p2]) (n := 6) (Nat.le_of_ble_eq_true rfl)
  rw [lg_entry_eq]
  generalize (lg_sl ([.ref (a 0), .int p0, .int p1, .int p2]) ++ List.replicate (6 - (lg_sl ([.ref (a 0), .int p0, .int p1, .int p2])).length) Slot.unset).toArray = ls at hl ⊢
  have hl : lv_has ls 6 [(0, .ref (a 0)), (1, .int p0), (2, .int p1), (3, .int p2)] := hl
  have hEi : mEi [2] i i := Ei_rf
  have hEr : mEr [27, 28, 52, 53] r r := Er_rf
  have hg0 : 0 ≤ (i 0).toInt ∧ (i 0).toInt ≤ 6 := hRi 0
  refine lv_aload_n hx hb dX11_check_0 rfl (lv_at hl 0 rfl) ?_
  refine lv_iload_n hx hb dX11_check_1 rfl (lv_at hl 1 rfl) ?_
  refine va_csq (W.runV (As := [.int p0]) (rest := []) ⟨hx, hb, hml, hown, hT⟩ (c_X11_homeAt l D cy a i r q (hW cy a i r ++ tl) p0 hRi hRr) (cwV 1 hT (gV t_443 t_444 t_445 t_446 t_2) rfl rfl rfl (by decide +kernel) ⟨Nat.le_of_ble_eq_true rfl, Nat.le_of_ble_eq_true rfl⟩) (rP_v hP hK (va_recv hK hP (ci := 11) (q0 := 0) rfl rfl)) rfl rfl hl.1 rfl (lv_room (Nat.le_of_ble_eq_true rfl)) dX11_check_2 ⟨Nat.le_of_ble_eq_true rfl, Nat.le_of_ble_eq_true rfl⟩) (fun r_1 hr_1 => ?_)
  obtain rfl : r_1 = some (a 61) := (hr_1.1 hh).trans hq
  refine W.eq (g2 := F0 m 5 ls [.ref (a 61)]) rfl ?_
  refine lv_astore (lv' := [(4, .ref (a 61)), (0, .ref (a 0)), (1, .int p0), (2, .int p1), (3, .int p2)]) hx hb dX11_check_5 hl (by decide) rfl (fun ls hl => ?_)
  refine lv_aload hx hb dX11_check_7 (lv_at hl 0 rfl) ?_
  refine lv_ifnull hx hb dX11_check_9 ?_
  refine lv_iload_n hx hb dX11_check_12 rfl (lv_at hl 3 rfl) ?_
  refine vp_callSi (W.runS (As := [.int p1]) (rest := []) ⟨hx, hb, hml, hown, hT⟩ (c_X11_isDay l p1) (va_cwS 1 hT (gS t_279 t_280 t_281 t_2) rfl rfl rfl (by decide +kernel) ⟨Nat.le_of_ble_eq_true rfl, Nat.le_of_ble_eq_true rfl⟩) preT rfl rfl hl.1 rfl (lv_room (Nat.le_of_ble_eq_true rfl)) dX11_check_13 ⟨Nat.le_of_ble_eq_true rfl, Nat.le_of_ble_eq_true rfl⟩) (fun r_2 hr_2 => ?_)
  have hr_2 : BR r_2 (0 ≤ p1.toInt ∧ p1.toInt ≤ 9999) 1 0 := hr_2
  rcases hr_2 with ⟨rfl, h_3⟩ | ⟨rfl, h_3⟩
  · skip
    refine lv_if_eq (tgt := 41) hx hb dX11_check_16 (by decide) (fun c_4 => absurd c_4 (by decide)) (fun c_4 => ?_)
    refine lv_iload_n hx hb dX11_check_19 rfl (lv_at hl 4 rfl) ?_
    refine lv_iconst (v := 0) hx hb dX11_check_20 (by decide) ?_
    refine lv_iconst (v := 4) hx hb dX11_check_21 (by decide) ?_
    refine vp_callSi (W.runS (As := [.int p2, .int 0, .int 4]) (rest := []) ⟨hx, hb, hml, hown, hT⟩ (c_X11_within l p2 0 4) (va_cwS 3 hT (gS t_1 t_3 t_4 t_2) rfl rfl rfl (by decide +kernel) ⟨Nat.le_of_ble_eq_true rfl, Nat.le_of_ble_eq_true rfl⟩) preT rfl rfl hl.1 rfl (lv_room (Nat.le_of_ble_eq_true rfl)) dX11_check_22 ⟨Nat.le_of_ble_eq_true rfl, Nat.le_of_ble_eq_true rfl⟩) (fun r_5 hr_5 => ?_)
    have hr_5 : BR r_5 (0 ≤ p2.toInt ∧ p2.toInt ≤ 4) 1 0 := hr_5
    rcases hr_5 with ⟨rfl, h_6⟩ | ⟨rfl, h_6⟩
    · skip
      refine lv_if_eq (tgt := 41) hx hb dX11_check_25 (by decide) (fun c_7 => absurd c_7 (by decide)) (fun c_7 => ?_)
      refine lv_iconst (v := 4) hx hb dX11_check_28 (by decide) ?_
      refine lv_iload_n hx hb dX11_check_29 rfl (lv_at hl 4 rfl) ?_
      refine lv_imul hx hb dX11_check_30 ?_
      refine lv_topi (fun v_8 ev_8 => ?_)
      have hv_8 : v_8.toInt = 4 * p2.toInt := by rw [ev_8]; have := b_rg p2; exact i_mul (a := 4) (b := p2.toInt) rfl rfl (by omega) (by omega)
      refine lv_aload_n hx hb dX11_check_31 rfl (lv_at hl 1 rfl) ?_
      refine va_get (D := D) (ci := 11) (v := .ref (a 8)) (C := RX11) (T := TX11) (N := 14) hx hb hT iX11 hown hK hP 0 rfl rfl 4 (by decide) (hT _ t_335) (fun _ h9 => h9) rfl dX11_check_32 ?_
      refine va_get (D := D) (ci := 9) (v := .int (i 2)) (C := RX9) (T := TX9) (N := 2) hx hb hT iX9 hown hK hP 8 rfl rfl 1 (by decide) (hT _ t_336) (fun _ h9 => h9) rfl dX11_check_35 ?_
      have hg_9 : 0 ≤ (i 2).toInt ∧ (i 2).toInt ≤ 220 := hRi 2
      refine lv_icmp_le (tgt := 44) hx hb dX11_check_38 (by decide) (fun c_10 => ?_) (fun c_10 => ?_)
      · have c_10 : v_8.toInt ≤ (i 2).toInt := b_le c_10
        refine lv_aload_n hx hb dX11_check_44 rfl (lv_at hl 1 rfl) ?_
        refine va_get (D := D) (ci := 11) (v := .ref (a 51)) (C := RX11) (T := TX11) (N := 14) hx hb hT iX11 hown hK hP 0 rfl rfl 11 (by decide) (hT _ t_595) (fun _ h9 => h9) rfl dX11_check_45 ?_
        refine lv_aload_n hx hb dX11_check_48 rfl (lv_at hl 1 rfl) ?_
        refine lv_aload hx hb dX11_check_49 (lv_at hl 0 rfl) ?_
        refine lv_aload_n hx hb dX11_check_51 rfl (lv_at hl 1 rfl) ?_
        refine lv_iload_n hx hb dX11_check_52 rfl (lv_at hl 2 rfl) ?_
        refine lv_iload_n hx hb dX11_check_53 rfl (lv_at hl 3 rfl) ?_
        have hF_11 := rF hD hS hA
        refine va_calli (va_runV (As := [.int p0, .int p1]) (rest := [.ref (a 61), .ref (a 0), .ref (a 51)]) ⟨hx, hb, hml, hown, hT⟩ (c_X11_awards l D cy a i r q tl p0 p1 _ hRi hRr hh hq) (cwV 2 hT (gV t_591 t_592 t_593 t_594 t_2) rfl rfl rfl (by decide +kernel) ⟨Nat.le_of_ble_eq_true rfl, Nat.le_of_ble_eq_true rfl⟩) (rM_v hnw hP hK hD (va_recv hK hP (ci := 11) (q0 := 0) rfl rfl)) rfl rfl hl.1 rfl (lv_room (Nat.le_of_ble_eq_true rfl)) dX11_check_54 ⟨Nat.le_of_ble_eq_true rfl, Nat.le_of_ble_eq_true rfl⟩) hS (fun q _ h => hF_11 q h) hF_11 (fun r_12 u_13 t H1 locs ht hvm hr_12 hB hz1 hk1 hS => ?_)
        obtain ⟨r13, rfl⟩ : ∃ z, z = u_13 := ⟨_, rfl⟩
        obtain ⟨hP, hK1, hD1⟩ := hB
        rw [ht] at hP
        have hD := hD1.weaken (fun k q _ h => hF_11 q.1 h)
        obtain ⟨hRr, hE2, hr_12⟩ := hr_12
        have hRr : yRr r13 := hRr
        have hE2 : mEr [27, 28] r r13 := hE2
        have hP : va_P D vwCl (xW cy a i r13 q (a 20) (a 12) ++ (hW cy a i r13 ++ tl)) H1 := hP
        have hD : va_D A (xW cy a i r13 q (a 20) (a 12) ++ (hW cy a i r13 ++ tl)) := hD
        have hEr : mEr [27, 28, 52, 53] _ r13 := Er_tr hEr hE2 (by decide)
        have hF_14 := rF hD hS hA
        refine va_calli (va_runV (As := [.ref (a 61), .int r_12]) (rest := [.ref (a 51)]) ⟨hx, hb, hml, hown, hT⟩ (c_X11_paidBack l D cy a i r13 q tl r_12 _ hRi hRr) (cwV 2 hT (gV t_596 t_597 t_598 t_599 t_2) rfl rfl rfl (by decide +kernel) ⟨Nat.le_of_ble_eq_true rfl, Nat.le_of_ble_eq_true rfl⟩) (rM_v hnw hP hK hD (va_recv hK hP (ci := 11) (q0 := 0) rfl rfl)) rfl rfl hl.1 rfl (lv_room (Nat.le_of_ble_eq_true rfl)) dX11_check_57 ⟨Nat.le_of_ble_eq_true rfl, Nat.le_of_ble_eq_true rfl⟩) hS (fun q _ h => hF_14 q h) hF_14 (fun r_15 u_16 t H1 locs ht hvm hr_15 hB hz1 hk1 hS => ?_)
        obtain ⟨r16, rfl⟩ : ∃ z, z = u_16 := ⟨_, rfl⟩
        obtain ⟨hP, hK1, hD1⟩ := hB
        rw [ht] at hP
        have hD := hD1.weaken (fun k q _ h => hF_14 q.1 h)
        obtain ⟨hRr, hE2, hr_15⟩ := hr_15
        have hRr : yRr r16 := hRr
        have hE2 : mEr [27, 28] r13 r16 := hE2
        have hP : va_P D vwCl (xW cy a i r16 q (a 20) (a 12) ++ (hW cy a i r16 ++ tl)) H1 := hP
        have hD : va_D A (xW cy a i r16 q (a 20) (a 12) ++ (hW cy a i r16 ++ tl)) := hD
        have hEr : mEr [27, 28, 52, 53] _ r16 := Er_tr hEr hE2 (by decide)
        refine lv_aload hx hb dX11_check_60 (lv_at hl 0 rfl) ?_
        have hF_17 := rF hD hS hA
        refine va_callv (va_runV (As := [.int r_15, .ref (a 61)]) (rest := []) ⟨hx, hb, hml, hown, hT⟩ (c_X0_divide l D cy a i r16 q tl r_15 _ hRi hRr) (cwV 2 hT (gV t_600 t_601 t_602 t_603 t_586) rfl rfl rfl (by decide +kernel) ⟨Nat.le_of_ble_eq_true rfl, Nat.le_of_ble_eq_true rfl⟩) (rQ_v hP hK hD (va_recv hK hP (ci := 0) (q0 := 51) rfl rfl)) rfl rfl hl.1 rfl (lv_room (Nat.le_of_ble_eq_true rfl)) dX11_check_62 ⟨Nat.le_of_ble_eq_true rfl, Nat.le_of_ble_eq_true rfl⟩) hS (fun q _ h => hF_17 q h) hF_17 (fun u_19 t H1 locs ht hvm hr_18 hB hz1 hk1 hS => ?_)
        obtain ⟨r19, rfl⟩ : ∃ z, z = u_19 := ⟨_, rfl⟩
        obtain ⟨hP, hK1, hD1⟩ := hB
        rw [ht] at hP
        have hD := hD1.weaken (fun k q _ h => hF_17 q.1 h)
        obtain ⟨hRr, hE2, hr_18⟩ := hr_18
        have hRr : yRr r19 := hRr
        have hE2 : mEr [52, 53] r16 r19 := hE2
        have hP : va_P D vwCl (xW cy a i r19 q (a 20) (a 12) ++ (hW cy a i r19 ++ tl)) H1 := hP
        have hD : va_D A (xW cy a i r19 q (a 20) (a 12) ++ (hW cy a i r19 ++ tl)) := hD
        have hEr : mEr [27, 28, 52, 53] _ r19 := Er_tr hEr hE2 (by decide)
        refine lv_aload_n hx hb dX11_check_65 rfl (lv_at hl 1 rfl) ?_
        refine va_get (D := D) (ci := 11) (v := .ref (a 51)) (C := RX11) (T := TX11) (N := 14) hx hb hT iX11 hown hK hP 0 rfl rfl 11 (by decide) (hT _ t_595) (fun _ h9 => h9) rfl dX11_check_66 ?_
        refine lv_aload_n hx hb dX11_check_69 rfl (lv_at hl 1 rfl) ?_
        refine va_get (D := D) (ci := 11) (v := .ref (a 8)) (C := RX11) (T := TX11) (N := 14) hx hb hT iX11 hown hK hP 0 rfl rfl 4 (by decide) (hT _ t_335) (fun _ h9 => h9) rfl dX11_check_70 ?_
        refine lv_iload_n hx hb dX11_check_73 rfl (lv_at hl 4 rfl) ?_
        refine lv_aload hx hb dX11_check_74 (lv_at hl 0 rfl) ?_
        refine va_get (D := D) (ci := 3) (v := .int (i 18)) (C := RX3) (T := TX3) (N := 12) hx hb hT iX3 hown hK hP 61 rfl rfl 1 (by decide) (hT _ t_447) (fun _ h9 => h9) rfl dX11_check_76 ?_
        have hg_20 : 1 ≤ (i 18).toInt ∧ (i 18).toInt ≤ 4 := hRi 18
        refine va_mmin hx hb (by rw [hml]; exact hl.1.symm) hown (hT _ t_568) (hT _ t_380) (hT _ t_289) (hT _ t_381) (Nat.le_of_ble_eq_true rfl) (Nat.le_of_ble_eq_true rfl) (Nat.le_of_ble_eq_true rfl) (Nat.le_of_ble_eq_true rfl) dX11_check_79 ?_
        refine lv_topi (fun v_21 ev_21 => ?_)
        refine vp_callSi (W.runV (As := [.ref (a 8), .int v_21]) (rest := []) ⟨hx, hb, hml, hown, hT⟩ (c_X0_firstUnlike l D cy a i r19 q (hW cy a i r19 ++ tl) v_21 hRi hRr) (cwV 2 hT (gV t_605 t_606 t_607 t_608 t_586) rfl rfl rfl (by decide +kernel) ⟨Nat.le_of_ble_eq_true rfl, Nat.le_of_ble_eq_true rfl⟩) (rP_v hP hK (va_recv hK hP (ci := 0) (q0 := 51) rfl rfl)) rfl rfl hl.1 rfl (lv_room (Nat.le_of_ble_eq_true rfl)) dX11_check_82 ⟨Nat.le_of_ble_eq_true rfl, Nat.le_of_ble_eq_true rfl⟩) (fun r_22 hr_22 => ?_)
        refine lv_istore (lv' := [(5, .int r_22), (4, .ref (a 61)), (0, .ref (a 0)), (1, .int p0), (2, .int p1), (3, .int p2)]) hx hb dX11_check_85 hl (by decide) rfl (fun ls hl => ?_)
        refine lv_aload_n hx hb dX11_check_87 rfl (lv_at hl 2 rfl) ?_
        refine va_get (D := D) (ci := 11) (v := .ref (a 8)) (C := RX11) (T := TX11) (N := 14) hx hb hT iX11 hown hK hP 0 rfl rfl 4 (by decide) (hT _ t_335) (fun _ h9 => h9) rfl dX11_check_88 ?_
        refine lv_iconst (v := 0) hx hb dX11_check_91 (by decide) ?_
        refine va_put (D := D) (ci := 9) (v := .int 0) (ty := .int) (C := RX9) (T := TX9) (N := 2) hx hb hT iX9 tyX9 tyX9_ok nmX9 hown hK hP hD hS 8 rfl rfl 1 (by decide) (hT _ t_336) (fun _ h9 => h9) rfl (by decide +kernel) rfl rfl (Nat.le_of_ble_eq_true rfl) dX11_check_92 (fun H locs hP hD hS => ?_)
        rw [yP2] at hP hD
        have hRi := Yi_upd hRi 2 0 ⟨by decide, by decide⟩
        have hEi := Ei_upd hEi 2 0 (by decide)
        refine lv_iload hx hb dX11_check_95 (lv_at hl 0 rfl) ?_
        refine lv_iload_n hx hb dX11_check_97 rfl (lv_at hl 5 rfl) ?_
        refine lv_icmp_ne (tgt := 114) hx hb dX11_check_98 (by decide) (fun c_23 => ?_) (fun c_23 => ?_)
        · have c_23 : r_22.toInt ≠ p2.toInt := b_ne c_23
          refine lv_iload hx hb dX11_check_114 (lv_at hl 0 rfl) ?_
          subst hQ
          exact W.iret (v := r_22) hx hb hr (fun t ht hW => ⟨⟨_, (upd i 2 0, r19), rfl, ⟨hRi, hRr, hEi, hEr, ⟨fun _ => rfl, fun h9 => absurd (by omega) h9⟩⟩, by rw [ht]; exact hP, va_K.moved hW.alike hK, hD⟩, hS.F ht⟩) hS.2.2 dX11_check_116
        · have c_23 : r_22.toInt = p2.toInt := b_nne c_23
          refine lv_iload_n hx hb dX11_check_101 rfl (lv_at hl 5 rfl) ?_
          refine lv_aload hx hb dX11_check_102 (lv_at hl 1 rfl) ?_
          refine va_get (D := D) (ci := 3) (v := .int (i 18)) (C := RX3) (T := TX3) (N := 12) hx hb hT iX3 hown hK hP 61 rfl rfl 1 (by decide) (hT _ t_447) (fun _ h9 => h9) rfl dX11_check_104 ?_
          refine lv_icmp_ne (tgt := 114) hx hb dX11_check_107 (by decide) (fun c_24 => ?_) (fun c_24 => ?_)
          · have c_24 : p2.toInt ≠ (i 18).toInt := b_ne c_24
            refine lv_iload hx hb dX11_check_114 (lv_at hl 0 rfl) ?_
            subst hQ
            exact W.iret (v := r_22) hx hb hr (fun t ht hW => ⟨⟨_, (upd i 2 0, r19), rfl, ⟨hRi, hRr, hEi, hEr, ⟨fun _ => rfl, fun h9 => absurd (by omega) h9⟩⟩, by rw [ht]; exact hP, va_K.moved hW.alike hK, hD⟩, hS.F ht⟩) hS.2.2 dX11_check_116
          · have c_24 : p2.toInt = (i 18).toInt := b_nne c_24
            refine lv_iconst (v := (-1)) hx hb dX11_check_110 (by decide) ?_
            refine lv_goto (tgt := 116) hx hb dX11_check_111 (by decide) ?_
            subst hQ
            exact W.iret (v := (-1)) hx hb hr (fun t ht hW => ⟨⟨_, (upd i 2 0, r19), rfl, ⟨hRi, hRr, hEi, hEr, ⟨fun _ => rfl, fun h9 => absurd (by omega) h9⟩⟩, by rw [ht]; exact hP, va_K.moved hW.alike hK, hD⟩, hS.F ht⟩) hS.2.2 dX11_check_116
      · have c_10 : (i 2).toInt < v_8.toInt := b_nle c_10
        refine lv_bipush (v := (-2)) hx hb dX11_check_41 (by decide) ?_
        subst hQ
        exact W.iret (v := (-2)) hx hb hr (fun t ht hW => ⟨⟨_, (i, r), rfl, ⟨hRi, hRr, hEi, hEr, ⟨fun h9 => absurd h9 (by omega), fun _ => rfl⟩⟩, by rw [ht]; exact hP, va_K.moved hW.alike hK, hD⟩, hS.F ht⟩) hS.2.2 dX11_check_43
    · skip
      refine lv_if_eq (tgt := 41) hx hb dX11_check_25 (by decide) (fun c_25 => ?_) (fun c_25 => absurd (by decide) c_25)
      refine lv_bipush (v := (-2)) hx hb dX11_check_41 (by decide) ?_
      subst hQ
      exact W.iret (v := (-2)) hx hb hr (fun t ht hW => ⟨⟨_, (i, r), rfl, ⟨hRi, hRr, hEi, hEr, ⟨fun h9 => absurd h9 (by omega), fun _ => rfl⟩⟩, by rw [ht]; exact hP, va_K.moved hW.alike hK, hD⟩, hS.F ht⟩) hS.2.2 dX11_check_43
  · skip
    refine lv_if_eq (tgt := 41) hx hb dX11_check_16 (by decide) (fun c_26 => ?_) (fun c_26 => absurd (by decide) c_26)
    refine lv_bipush (v := (-2)) hx hb dX11_check_41 (by decide) ?_
    subst hQ
    exact W.iret (v := (-2)) hx hb hr (fun t ht hW => ⟨⟨_, (i, r), rfl, ⟨hRi, hRr, hEi, hEr, ⟨fun h9 => absurd h9 (by omega), fun _ => rfl⟩⟩, by rw [ht]; exact hP, va_K.moved hW.alike hK, hD⟩, hS.F ht⟩) hS.2.2 dX11_check_43
