/-- the first n of two rows are the same -/
def CP (n : Int) (f g : Nat → Int32) : Prop := ∀ c : Nat, (c : Int) < n → f c = g c
theorem CP_0 {f g : Nat → Int32} : CP (0 : Int32).toInt f g := fun c hc => absurd hc (by have h9 : (0 : Int32).toInt = 0 := rfl; omega)
theorem CP_s {f g : Nat → Int32} {x y v : Int32} (h : CP x.toInt f g) (hy : y.toInt = x.toInt + 1) (hx : 0 ≤ x.toInt) (hv : v = g x.toNatClampNeg) : CP y.toInt (upd f x.toNatClampNeg v) g := by
  intro c hc
  unfold upd
  by_cases e : c = x.toNatClampNeg
  · rw [if_pos e, hv, e]
  · rw [if_neg e]
    have h9 : x.toNatClampNeg = x.toInt.toNat := rfl
    exact h c (by omega)
theorem CP_le {n m : Int} {f g : Nat → Int32} (h : CP n f g) (hm : m ≤ n) : CP m f g := fun c hc => h c (by omega)
set_option maxHeartbeats 4000000 in
set_option maxRecDepth 100000 in
theorem c_X12_keep9 (l : Launch) (D : va_G) (cy : Nat → ClassId) (a : Nat → Nat) (i : Nat → Int32) (r : Nat → Nat → Int32) (rl : Nat → Int64) (sz : Nat) (hRi : mRi i) (hRr : mRr r) (hE : mE i r) : Met l yX12_keep (Cond.code yX12_keep cX12_keep 2 (some .int) :: gT) { frames := 2, cells := 0, slots := 0, locals := 47 } (va_Pc [.ref (a 0)] (rQ D cy (mW cy a i r rl) sz)) (va_Qi (fun (z : Int32) (u : (Nat → Int32) × (Nat → Nat → Int32)) => mRi u.1 ∧ mRr u.2 ∧ mEi [78, 79, 80] i u.1 ∧ mEr [63, 64, 65, 66, 67, 68, 69, 70, 71, 72] r u.2 ∧ (mE u.1 u.2 ∧ (z = i 51 ∧ u.1 78 = 1 ∧ u.1 79 = i 51 ∧ u.1 80 = i 1 ∧ (∀ c, c < 30 → u.2 63 c = r 40 c) ∧ (∀ c, c < 30 → u.2 64 c = r 41 c) ∧ (∀ c, c < 30 → u.2 65 c = r 42 c) ∧ (∀ c, c < 30 → u.2 66 c = r 43 c) ∧ (∀ c, c < 30 → u.2 67 c = r 44 c) ∧ (∀ c, c < 30 → u.2 68 c = r 45 c) ∧ (∀ c, c < 30 → u.2 69 c = r 46 c) ∧ (∀ c, c < 6 → u.2 70 c = r 50 c) ∧ (∀ c, c < 6 → u.2 71 c = r 51 c)))) (fun (u : (Nat → Int32) × (Nat → Nat → Int32)) t => va_P D vwCl (mW cy a u.1 u.2 rl) t.heap ∧ va_K D vwCl (vT cy) t ∧ va_D (va_A (mW cy a i r rl) sz) (mW cy a u.1 u.2 rl)) (va_A (mW cy a i r rl) sz)) 0 0 (va_A (mW cy a i r rl) sz) := by
  refine Met.ofQ (cc := cX12_keep) (maxL := 2) (ret := (some .int)) (by decide) rfl ?_
  intro p e s m args below meth c s₁ B hml hv Q hQ
  obtain ⟨rfl, hsz, hP, hK, hD0⟩ := hv
  have hx := B.exec
  have hb := B.bytes
  have hr := B.returns
  have hlocks := B.notSynchronized
  have hT : ∀ w ∈ gT, w.before _ s = true := fun w h => atoms_spec (ws := (Cond.code yX12_keep cX12_keep 2 (some .int) :: gT)) B.pre w (List.mem_cons_of_mem _ h)
  have hown : s.vm.findClass RX12 = some m.cls := findClass_of_methodNamed B.named
  subst hsz
  have hD := hD0.self (sz := s.heap.size)
  generalize hAe : va_A (mW cy a i r rl) s.heap.size = A at hD hQ
  have hA : ∀ q : Nat, s.heap.size ≤ q → A q := fun q h => by rw [← hAe]; exact Or.inr h
  have hS : va_S A s.heap s.heap [] := va_S.rf
  have hl := lv_entry ([.ref (a 0)]) (n := 2) (Nat.le_of_ble_eq_true rfl)
  rw [lg_entry_eq]
  generalize (lg_sl ([.ref (a 0)]) ++ List.replicate (2 - (lg_sl ([.ref (a 0)])).length) Slot.unset).toArray = ls at hl ⊢
  have hl : lv_has ls 2 [(0, .ref (a 0))] := hl
  have hEi : mEi [78, 79, 80] i i := Ei_rf
  have hEr : mEr [63, 64, 65, 66, 67, 68, 69, 70, 71, 72] r r := Er_rf
  have hRi0 := hRi
  refine lv_aload_n hx hb dX12_keep_0 rfl (lv_at hl 0 rfl) ?_
  refine lv_iconst (v := 1) hx hb dX12_keep_1 (by decide) ?_
  refine va_put (D := D) (ci := 12) (v := .int 1) (ty := .boolean) (C := RX12) (T := TX12) (N := 91) hx hb hT iX12 tyX12 tyX12_ok nmX12 hown hK hP hD hS 0 rfl rfl 78 (by decide) (hT _ t_232) (fun _ h9 => h9) rfl (by decide +kernel) rfl rfl (Nat.le_of_ble_eq_true rfl) dX12_keep_2 (fun H locs hP hD hS => ?_)
  rw [mP78] at hP hD
  have hRi := Ri_upd hRi 78 1 ⟨by decide, by decide⟩
  have hEi := Ei_upd hEi 78 1 (by decide)
  refine lv_aload_n hx hb dX12_keep_5 rfl (lv_at hl 0 rfl) ?_
  refine lv_aload_n hx hb dX12_keep_6 rfl (lv_at hl 0 rfl) ?_
  refine va_get (D := D) (ci := 12) (v := .int (i 51)) (C := RX12) (T := TX12) (N := 91) hx hb hT iX12 hown hK hP 0 rfl rfl 51 (by decide) (hT _ t_11) (fun _ h9 => h9) rfl dX12_keep_7 ?_
  have hg_1 : 0 ≤ (i 51).toInt ∧ (i 51).toInt ≤ 30 := hRi 51
  refine va_put (D := D) (ci := 12) (v := .int (i 51)) (ty := .int) (C := RX12) (T := TX12) (N := 91) hx hb hT iX12 tyX12 tyX12_ok nmX12 hown hK hP hD hS 0 rfl rfl 79 (by decide) (hT _ t_233) (fun _ h9 => h9) rfl (by decide +kernel) rfl rfl (Nat.le_of_ble_eq_true rfl) dX12_keep_10 (fun H locs hP hD hS => ?_)
  rw [mP79] at hP hD
  have hRi := Ri_upd hRi 79 (i 51) ⟨by show (0 : Int) ≤ (i 51).toInt; omega, by show (i 51).toInt ≤ (30 : Int); omega⟩
  have hEi := Ei_upd hEi 79 (i 51) (by decide)
  refine lv_aload_n hx hb dX12_keep_13 rfl (lv_at hl 0 rfl) ?_
  refine lv_aload_n hx hb dX12_keep_14 rfl (lv_at hl 0 rfl) ?_
  refine va_get (D := D) (ci := 12) (v := .int (i 1)) (C := RX12) (T := TX12) (N := 91) hx hb hT iX12 hown hK hP 0 rfl rfl 1 (by decide) (hT _ t_181) (fun _ h9 => h9) rfl dX12_keep_15 ?_
  have hg_2 : 0 ≤ (i 1).toInt ∧ (i 1).toInt ≤ 65535 := hRi 1
  refine va_put (D := D) (ci := 12) (v := .int (i 1)) (ty := .int) (C := RX12) (T := TX12) (N := 91) hx hb hT iX12 tyX12 tyX12_ok nmX12 hown hK hP hD hS 0 rfl rfl 80 (by decide) (hT _ t_234) (fun _ h9 => h9) rfl (by decide +kernel) rfl rfl (Nat.le_of_ble_eq_true rfl) dX12_keep_18 (fun H locs hP hD hS => ?_)
  rw [mP80] at hP hD
  have hRi := Ri_upd hRi 80 (i 1) ⟨by show (0 : Int) ≤ (i 1).toInt; omega, by show (i 1).toInt ≤ (65535 : Int); omega⟩
  have hEi := Ei_upd hEi 80 (i 1) (by decide)
  refine lv_aload_n hx hb dX12_keep_21 rfl (lv_at hl 0 rfl) ?_
  refine va_get (D := D) (ci := 12) (v := .ref (a 40)) (C := RX12) (T := TX12) (N := 91) hx hb hT iX12 hown hK hP 0 rfl rfl 52 (by decide) (hT _ t_75) (fun _ h9 => h9) rfl dX12_keep_22 ?_
  refine lv_aload_n hx hb dX12_keep_25 rfl (lv_at hl 0 rfl) ?_
  refine va_get (D := D) (ci := 12) (v := .ref (a 63)) (C := RX12) (T := TX12) (N := 91) hx hb hT iX12 hown hK hP 0 rfl rfl 81 (by decide) (hT _ t_235) (fun _ h9 => h9) rfl dX12_keep_26 ?_
  refine lv_bipush (v := 30) hx hb dX12_keep_29 (by decide) ?_
  have hP_3 := hP.sub (ws' := [(a 40, .inl (cy 0, 30, .inl (r 40))), (a 63, .inl (cy 0, 30, .inl (r 63)))]) [40, 63] rfl
  have hD_5 := hD.sub (ws' := [(a 40, .inl (cy 0, 30, .inl (r 40))), (a 63, .inl (cy 0, 30, .inl (r 63)))]) [40, 63] (by decide) rfl
  have hF_4 := va_free (wc := [(a 40, .inl (cy 0, 30, .inl (r 40))), (a 63, .inl (cy 0, 30, .inl (r 63)))]) hD hS hA [40, 63] rfl
  refine va_callv (va_runS (As := [.ref (a 40), .ref (a 63), .int 30]) (rest := []) ⟨hx, hb, hml, hown, hT⟩ (c_X12_copies30 l D cy (a 40) (a 63) (r 40) (r 63) _) (va_cwS 3 hT (gS t_236 t_237 t_238 t_6) rfl rfl rfl (by decide +kernel) ⟨Nat.le_of_ble_eq_true rfl, Nat.le_of_ble_eq_true rfl⟩) (rQ_s hP_3 hK hD_5) rfl rfl hl.1 rfl (lv_room (Nat.le_of_ble_eq_true rfl)) dX12_keep_31 ⟨Nat.le_of_ble_eq_true rfl, Nat.le_of_ble_eq_true rfl⟩) hS (fun q _ h => hF_4 q h) hF_4 (fun u_7 t H1 locs ht hvm hr_6 hB hz1 hk1 hS => ?_)
  obtain ⟨hP1, hK1, hD1⟩ := hB
  rw [ht] at hP1
  obtain ⟨hP, hD⟩ := rj (wc := [(a 40, .inl (cy 0, 30, .inl (r 40))), (a 63, .inl (cy 0, 30, .inl (r 63)))]) (w1 := [(a 40, .inl (cy 0, 30, .inl (r 40))), (a 63, .inl (cy 0, 30, .inl u_7))]) hP hD [40, 63] rfl rfl hk1 hP1
  have hP : va_P D vwCl (mW cy a (upd (upd (upd i 78 1) 79 (i 51)) 80 (i 1)) (va_up r 63 u_7) rl) H1 := hP
  have hD : va_D A (mW cy a (upd (upd (upd i 78 1) 79 (i 51)) 80 (i 1)) (va_up r 63 u_7) rl) := hD
  have hRr : mRr (va_up r 63 u_7) := Rr_up hRr 63 u_7 (fun j => (hr_6 j).symm ▸ (show 0 ≤ (if j < 30 then (r 40) j else (r 63) j).toInt ∧ (if j < 30 then (r 40) j else (r 63) j).toInt ≤ 5 from (by split; exact hRr 40 j; exact hRr 63 j)))
  have hEr : mEr [63, 64, 65, 66, 67, 68, 69, 70, 71, 72] _ (va_up r 63 u_7) := Er_up hEr 63 _ (by decide)
  refine lv_aload_n hx hb dX12_keep_34 rfl (lv_at hl 0 rfl) ?_
  refine va_get (D := D) (ci := 12) (v := .ref (a 41)) (C := RX12) (T := TX12) (N := 91) hx hb hT iX12 hown hK hP 0 rfl rfl 53 (by decide) (hT _ t_76) (fun _ h9 => h9) rfl dX12_keep_35 ?_
  refine lv_aload_n hx hb dX12_keep_38 rfl (lv_at hl 0 rfl) ?_
  refine va_get (D := D) (ci := 12) (v := .ref (a 64)) (C := RX12) (T := TX12) (N := 91) hx hb hT iX12 hown hK hP 0 rfl rfl 82 (by decide) (hT _ t_239) (fun _ h9 => h9) rfl dX12_keep_39 ?_
  refine lv_bipush (v := 30) hx hb dX12_keep_42 (by decide) ?_
  have hP_8 := hP.sub (ws' := [(a 41, .inl (cy 0, 30, .inl ((va_up r 63 u_7) 41))), (a 64, .inl (cy 0, 30, .inl ((va_up r 63 u_7) 64)))]) [41, 64] rfl
  have hD_10 := hD.sub (ws' := [(a 41, .inl (cy 0, 30, .inl ((va_up r 63 u_7) 41))), (a 64, .inl (cy 0, 30, .inl ((va_up r 63 u_7) 64)))]) [41, 64] (by decide) rfl
  have hF_9 := va_free (wc := [(a 41, .inl (cy 0, 30, .inl ((va_up r 63 u_7) 41))), (a 64, .inl (cy 0, 30, .inl ((va_up r 63 u_7) 64)))]) hD hS hA [41, 64] rfl
  refine va_callv (va_runS (As := [.ref (a 41), .ref (a 64), .int 30]) (rest := []) ⟨hx, hb, hml, hown, hT⟩ (c_X12_copies30 l D cy (a 41) (a 64) ((va_up r 63 u_7) 41) ((va_up r 63 u_7) 64) _) (va_cwS 3 hT (gS t_236 t_237 t_238 t_6) rfl rfl rfl (by decide +kernel) ⟨Nat.le_of_ble_eq_true rfl, Nat.le_of_ble_eq_true rfl⟩) (rQ_s hP_8 hK hD_10) rfl rfl hl.1 rfl (lv_room (Nat.le_of_ble_eq_true rfl)) dX12_keep_44 ⟨Nat.le_of_ble_eq_true rfl, Nat.le_of_ble_eq_true rfl⟩) hS (fun q _ h => hF_9 q h) hF_9 (fun u_12 t H1 locs ht hvm hr_11 hB hz1 hk1 hS => ?_)
  obtain ⟨hP1, hK1, hD1⟩ := hB
  rw [ht] at hP1
  obtain ⟨hP, hD⟩ := rj (wc := [(a 41, .inl (cy 0, 30, .inl ((va_up r 63 u_7) 41))), (a 64, .inl (cy 0, 30, .inl ((va_up r 63 u_7) 64)))]) (w1 := [(a 41, .inl (cy 0, 30, .inl ((va_up r 63 u_7) 41))), (a 64, .inl (cy 0, 30, .inl u_12))]) hP hD [41, 64] rfl rfl hk1 hP1
  have hP : va_P D vwCl (mW cy a (upd (upd (upd i 78 1) 79 (i 51)) 80 (i 1)) (va_up (va_up r 63 u_7) 64 u_12) rl) H1 := hP
  have hD : va_D A (mW cy a (upd (upd (upd i 78 1) 79 (i 51)) 80 (i 1)) (va_up (va_up r 63 u_7) 64 u_12) rl) := hD
  have hRr : mRr (va_up (va_up r 63 u_7) 64 u_12) := Rr_up hRr 64 u_12 (fun j => (hr_11 j).symm ▸ (show 0 ≤ (if j < 30 then ((va_up r 63 u_7) 41) j else ((va_up r 63 u_7) 64) j).toInt ∧ (if j < 30 then ((va_up r 63 u_7) 41) j else ((va_up r 63 u_7) 64) j).toInt ≤ 19 from (by split; exact hRr 41 j; exact hRr 64 j)))
  have hEr : mEr [63, 64, 65, 66, 67, 68, 69, 70, 71, 72] _ (va_up (va_up r 63 u_7) 64 u_12) := Er_up hEr 64 _ (by decide)
  refine lv_aload_n hx hb dX12_keep_47 rfl (lv_at hl 0 rfl) ?_
  refine va_get (D := D) (ci := 12) (v := .ref (a 42)) (C := RX12) (T := TX12) (N := 91) hx hb hT iX12 hown hK hP 0 rfl rfl 54 (by decide) (hT _ t_81) (fun _ h9 => h9) rfl dX12_keep_48 ?_
  refine lv_aload_n hx hb dX12_keep_51 rfl (lv_at hl 0 rfl) ?_
  refine va_get (D := D) (ci := 12) (v := .ref (a 65)) (C := RX12) (T := TX12) (N := 91) hx hb hT iX12 hown hK hP 0 rfl rfl 83 (by decide) (hT _ t_240) (fun _ h9 => h9) rfl dX12_keep_52 ?_
  refine lv_bipush (v := 30) hx hb dX12_keep_55 (by decide) ?_
  have hP_13 := hP.sub (ws' := [(a 42, .inl (cy 0, 30, .inl ((va_up (va_up r 63 u_7) 64 u_12) 42))), (a 65, .inl (cy 0, 30, .inl ((va_up (va_up r 63 u_7) 64 u_12) 65)))]) [42, 65] rfl
  have hD_15 := hD.sub (ws' := [(a 42, .inl (cy 0, 30, .inl ((va_up (va_up r 63 u_7) 64 u_12) 42))), (a 65, .inl (cy 0, 30, .inl ((va_up (va_up r 63 u_7) 64 u_12) 65)))]) [42, 65] (by decide) rfl
  have hF_14 := va_free (wc := [(a 42, .inl (cy 0, 30, .inl ((va_up (va_up r 63 u_7) 64 u_12) 42))), (a 65, .inl (cy 0, 30, .inl ((va_up (va_up r 63 u_7) 64 u_12) 65)))]) hD hS hA [42, 65] rfl
  refine va_callv (va_runS (As := [.ref (a 42), .ref (a 65), .int 30]) (rest := []) ⟨hx, hb, hml, hown, hT⟩ (c_X12_copies30 l D cy (a 42) (a 65) ((va_up (va_up r 63 u_7) 64 u_12) 42) ((va_up (va_up r 63 u_7) 64 u_12) 65) _) (va_cwS 3 hT (gS t_236 t_237 t_238 t_6) rfl rfl rfl (by decide +kernel) ⟨Nat.le_of_ble_eq_true rfl, Nat.le_of_ble_eq_true rfl⟩) (rQ_s hP_13 hK hD_15) rfl rfl hl.1 rfl (lv_room (Nat.le_of_ble_eq_true rfl)) dX12_keep_57 ⟨Nat.le_of_ble_eq_true rfl, Nat.le_of_ble_eq_true rfl⟩) hS (fun q _ h => hF_14 q h) hF_14 (fun u_17 t H1 locs ht hvm hr_16 hB hz1 hk1 hS => ?_)
  obtain ⟨hP1, hK1, hD1⟩ := hB
  rw [ht] at hP1
  obtain ⟨hP, hD⟩ := rj (wc := [(a 42, .inl (cy 0, 30, .inl ((va_up (va_up r 63 u_7) 64 u_12) 42))), (a 65, .inl (cy 0, 30, .inl ((va_up (va_up r 63 u_7) 64 u_12) 65)))]) (w1 := [(a 42, .inl (cy 0, 30, .inl ((va_up (va_up r 63 u_7) 64 u_12) 42))), (a 65, .inl (cy 0, 30, .inl u_17))]) hP hD [42, 65] rfl rfl hk1 hP1
  have hP : va_P D vwCl (mW cy a (upd (upd (upd i 78 1) 79 (i 51)) 80 (i 1)) (va_up (va_up (va_up r 63 u_7) 64 u_12) 65 u_17) rl) H1 := hP
  have hD : va_D A (mW cy a (upd (upd (upd i 78 1) 79 (i 51)) 80 (i 1)) (va_up (va_up (va_up r 63 u_7) 64 u_12) 65 u_17) rl) := hD
  have hRr : mRr (va_up (va_up (va_up r 63 u_7) 64 u_12) 65 u_17) := Rr_up hRr 65 u_17 (fun j => (hr_16 j).symm ▸ (show 0 ≤ (if j < 30 then ((va_up (va_up r 63 u_7) 64 u_12) 42) j else ((va_up (va_up r 63 u_7) 64 u_12) 65) j).toInt ∧ (if j < 30 then ((va_up (va_up r 63 u_7) 64 u_12) 42) j else ((va_up (va_up r 63 u_7) 64 u_12) 65) j).toInt ≤ 9 from (by split; exact hRr 42 j; exact hRr 65 j)))
  have hEr : mEr [63, 64, 65, 66, 67, 68, 69, 70, 71, 72] _ (va_up (va_up (va_up r 63 u_7) 64 u_12) 65 u_17) := Er_up hEr 65 _ (by decide)
  refine lv_aload_n hx hb dX12_keep_60 rfl (lv_at hl 0 rfl) ?_
  refine va_get (D := D) (ci := 12) (v := .ref (a 43)) (C := RX12) (T := TX12) (N := 91) hx hb hT iX12 hown hK hP 0 rfl rfl 55 (by decide) (hT _ t_31) (fun _ h9 => h9) rfl dX12_keep_61 ?_
  refine lv_aload_n hx hb dX12_keep_64 rfl (lv_at hl 0 rfl) ?_
  refine va_get (D := D) (ci := 12) (v := .ref (a 66)) (C := RX12) (T := TX12) (N := 91) hx hb hT iX12 hown hK hP 0 rfl rfl 84 (by decide) (hT _ t_241) (fun _ h9 => h9) rfl dX12_keep_65 ?_
  refine lv_bipush (v := 30) hx hb dX12_keep_68 (by decide) ?_
  have hP_18 := hP.sub (ws' := [(a 43, .inl (cy 0, 30, .inl ((va_up (va_up (va_up r 63 u_7) 64 u_12) 65 u_17) 43))), (a 66, .inl (cy 0, 30, .inl ((va_up (va_up (va_up r 63 u_7) 64 u_12) 65 u_17) 66)))]) [43, 66] rfl
  have hD_20 := hD.sub (ws' := [(a 43, .inl (cy 0, 30, .inl ((va_up (va_up (va_up r 63 u_7) 64 u_12) 65 u_17) 43))), (a 66, .inl (cy 0, 30, .inl ((va_up (va_up (va_up r 63 u_7) 64 u_12) 65 u_17) 66)))]) [43, 66] (by decide) rfl
  have hF_19 := va_free (wc := [(a 43, .inl (cy 0, 30, .inl ((va_up (va_up (va_up r 63 u_7) 64 u_12) 65 u_17) 43))), (a 66, .inl (cy 0, 30, .inl ((va_up (va_up (va_up r 63 u_7) 64 u_12) 65 u_17) 66)))]) hD hS hA [43, 66] rfl
  refine va_callv (va_runS (As := [.ref (a 43), .ref (a 66), .int 30]) (rest := []) ⟨hx, hb, hml, hown, hT⟩ (c_X12_copies30 l D cy (a 43) (a 66) ((va_up (va_up (va_up r 63 u_7) 64 u_12) 65 u_17) 43) ((va_up (va_up (va_up r 63 u_7) 64 u_12) 65 u_17) 66) _) (va_cwS 3 hT (gS t_236 t_237 t_238 t_6) rfl rfl rfl (by decide +kernel) ⟨Nat.le_of_ble_eq_true rfl, Nat.le_of_ble_eq_true rfl⟩) (rQ_s hP_18 hK hD_20) rfl rfl hl.1 rfl (lv_room (Nat.le_of_ble_eq_true rfl)) dX12_keep_70 ⟨Nat.le_of_ble_eq_true rfl, Nat.le_of_ble_eq_true rfl⟩) hS (fun q _ h => hF_19 q h) hF_19 (fun u_22 t H1 locs ht hvm hr_21 hB hz1 hk1 hS => ?_)
  obtain ⟨hP1, hK1, hD1⟩ := hB
  rw [ht] at hP1
  obtain ⟨hP, hD⟩ := rj (wc := [(a 43, .inl (cy 0, 30, .inl ((va_up (va_up (va_up r 63 u_7) 64 u_12) 65 u_17) 43))), (a 66, .inl (cy 0, 30, .inl ((va_up (va_up (va_up r 63 u_7) 64 u_12) 65 u_17) 66)))]) (w1 := [(a 43, .inl (cy 0, 30, .inl ((va_up (va_up (va_up r 63 u_7) 64 u_12) 65 u_17) 43))), (a 66, .inl (cy 0, 30, .inl u_22))]) hP hD [43, 66] rfl rfl hk1 hP1
  have hP : va_P D vwCl (mW cy a (upd (upd (upd i 78 1) 79 (i 51)) 80 (i 1)) (va_up (va_up (va_up (va_up r 63 u_7) 64 u_12) 65 u_17) 66 u_22) rl) H1 := hP
  have hD : va_D A (mW cy a (upd (upd (upd i 78 1) 79 (i 51)) 80 (i 1)) (va_up (va_up (va_up (va_up r 63 u_7) 64 u_12) 65 u_17) 66 u_22) rl) := hD
  have hRr : mRr (va_up (va_up (va_up (va_up r 63 u_7) 64 u_12) 65 u_17) 66 u_22) := Rr_up hRr 66 u_22 (fun j => (hr_21 j).symm ▸ (show 0 ≤ (if j < 30 then ((va_up (va_up (va_up r 63 u_7) 64 u_12) 65 u_17) 43) j else ((va_up (va_up (va_up r 63 u_7) 64 u_12) 65 u_17) 66) j).toInt ∧ (if j < 30 then ((va_up (va_up (va_up r 63 u_7) 64 u_12) 65 u_17) 43) j else ((va_up (va_up (va_up r 63 u_7) 64 u_12) 65 u_17) 66) j).toInt ≤ 7 from (by split; exact hRr 43 j; exact hRr 66 j)))
  have hEr : mEr [63, 64, 65, 66, 67, 68, 69, 70, 71, 72] _ (va_up (va_up (va_up (va_up r 63 u_7) 64 u_12) 65 u_17) 66 u_22) := Er_up hEr 66 _ (by decide)
  refine lv_aload_n hx hb dX12_keep_73 rfl (lv_at hl 0 rfl) ?_
  refine va_get (D := D) (ci := 12) (v := .ref (a 44)) (C := RX12) (T := TX12) (N := 91) hx hb hT iX12 hown hK hP 0 rfl rfl 56 (by decide) (hT _ t_139) (fun _ h9 => h9) rfl dX12_keep_74 ?_
  refine lv_aload_n hx hb dX12_keep_77 rfl (lv_at hl 0 rfl) ?_
  refine va_get (D := D) (ci := 12) (v := .ref (a 67)) (C := RX12) (T := TX12) (N := 91) hx hb hT iX12 hown hK hP 0 rfl rfl 85 (by decide) (hT _ t_242) (fun _ h9 => h9) rfl dX12_keep_78 ?_
  refine lv_bipush (v := 30) hx hb dX12_keep_81 (by decide) ?_
  have hP_23 := hP.sub (ws' := [(a 44, .inl (cy 0, 30, .inl ((va_up (va_up (va_up (va_up r 63 u_7) 64 u_12) 65 u_17) 66 u_22) 44))), (a 67, .inl (cy 0, 30, .inl ((va_up (va_up (va_up (va_up r 63 u_7) 64 u_12) 65 u_17) 66 u_22) 67)))]) [44, 67] rfl
  have hD_25 := hD.sub (ws' := [(a 44, .inl (cy 0, 30, .inl ((va_up (va_up (va_up (va_up r 63 u_7) 64 u_12) 65 u_17) 66 u_22) 44))), (a 67, .inl (cy 0, 30, .inl ((va_up (va_up (va_up (va_up r 63 u_7) 64 u_12) 65 u_17) 66 u_22) 67)))]) [44, 67] (by decide) rfl
  have hF_24 := va_free (wc := [(a 44, .inl (cy 0, 30, .inl ((va_up (va_up (va_up (va_up r 63 u_7) 64 u_12) 65 u_17) 66 u_22) 44))), (a 67, .inl (cy 0, 30, .inl ((va_up (va_up (va_up (va_up r 63 u_7) 64 u_12) 65 u_17) 66 u_22) 67)))]) hD hS hA [44, 67] rfl
  refine va_callv (va_runS (As := [.ref (a 44), .ref (a 67), .int 30]) (rest := []) ⟨hx, hb, hml, hown, hT⟩ (c_X12_copies30 l D cy (a 44) (a 67) ((va_up (va_up (va_up (va_up r 63 u_7) 64 u_12) 65 u_17) 66 u_22) 44) ((va_up (va_up (va_up (va_up r 63 u_7) 64 u_12) 65 u_17) 66 u_22) 67) _) (va_cwS 3 hT (gS t_236 t_237 t_238 t_6) rfl rfl rfl (by decide +kernel) ⟨Nat.le_of_ble_eq_true rfl, Nat.le_of_ble_eq_true rfl⟩) (rQ_s hP_23 hK hD_25) rfl rfl hl.1 rfl (lv_room (Nat.le_of_ble_eq_true rfl)) dX12_keep_83 ⟨Nat.le_of_ble_eq_true rfl, Nat.le_of_ble_eq_true rfl⟩) hS (fun q _ h => hF_24 q h) hF_24 (fun u_27 t H1 locs ht hvm hr_26 hB hz1 hk1 hS => ?_)
  obtain ⟨hP1, hK1, hD1⟩ := hB
  rw [ht] at hP1
  obtain ⟨hP, hD⟩ := rj (wc := [(a 44, .inl (cy 0, 30, .inl ((va_up (va_up (va_up (va_up r 63 u_7) 64 u_12) 65 u_17) 66 u_22) 44))), (a 67, .inl (cy 0, 30, .inl ((va_up (va_up (va_up (va_up r 63 u_7) 64 u_12) 65 u_17) 66 u_22) 67)))]) (w1 := [(a 44, .inl (cy 0, 30, .inl ((va_up (va_up (va_up (va_up r 63 u_7) 64 u_12) 65 u_17) 66 u_22) 44))), (a 67, .inl (cy 0, 30, .inl u_27))]) hP hD [44, 67] rfl rfl hk1 hP1
  have hP : va_P D vwCl (mW cy a (upd (upd (upd i 78 1) 79 (i 51)) 80 (i 1)) (va_up (va_up (va_up (va_up (va_up r 63 u_7) 64 u_12) 65 u_17) 66 u_22) 67 u_27) rl) H1 := hP
  have hD : va_D A (mW cy a (upd (upd (upd i 78 1) 79 (i 51)) 80 (i 1)) (va_up (va_up (va_up (va_up (va_up r 63 u_7) 64 u_12) 65 u_17) 66 u_22) 67 u_27) rl) := hD
  have hRr : mRr (va_up (va_up (va_up (va_up (va_up r 63 u_7) 64 u_12) 65 u_17) 66 u_22) 67 u_27) := Rr_up hRr 67 u_27 (fun j => (hr_26 j).symm ▸ (show 0 ≤ (if j < 30 then ((va_up (va_up (va_up (va_up r 63 u_7) 64 u_12) 65 u_17) 66 u_22) 44) j else ((va_up (va_up (va_up (va_up r 63 u_7) 64 u_12) 65 u_17) 66 u_22) 67) j).toInt ∧ (if j < 30 then ((va_up (va_up (va_up (va_up r 63 u_7) 64 u_12) 65 u_17) 66 u_22) 44) j else ((va_up (va_up (va_up (va_up r 63 u_7) 64 u_12) 65 u_17) 66 u_22) 67) j).toInt ≤ 9999 from (by split; exact hRr 44 j; exact hRr 67 j)))
  have hEr : mEr [63, 64, 65, 66, 67, 68, 69, 70, 71, 72] _ (va_up (va_up (va_up (va_up (va_up r 63 u_7) 64 u_12) 65 u_17) 66 u_22) 67 u_27) := Er_up hEr 67 _ (by decide)
  refine lv_aload_n hx hb dX12_keep_86 rfl (lv_at hl 0 rfl) ?_
  refine va_get (D := D) (ci := 12) (v := .ref (a 45)) (C := RX12) (T := TX12) (N := 91) hx hb hT iX12 hown hK hP 0 rfl rfl 57 (by decide) (hT _ t_133) (fun _ h9 => h9) rfl dX12_keep_87 ?_
  refine lv_aload_n hx hb dX12_keep_90 rfl (lv_at hl 0 rfl) ?_
  refine va_get (D := D) (ci := 12) (v := .ref (a 68)) (C := RX12) (T := TX12) (N := 91) hx hb hT iX12 hown hK hP 0 rfl rfl 86 (by decide) (hT _ t_243) (fun _ h9 => h9) rfl dX12_keep_91 ?_
  refine lv_bipush (v := 30) hx hb dX12_keep_94 (by decide) ?_
  have hP_28 := hP.sub (ws' := [(a 45, .inl (cy 0, 30, .inl ((va_up (va_up (va_up (va_up (va_up r 63 u_7) 64 u_12) 65 u_17) 66 u_22) 67 u_27) 45))), (a 68, .inl (cy 0, 30, .inl ((va_up (va_up (va_up (va_up (va_up r 63 u_7) 64 u_12) 65 u_17) 66 u_22) 67 u_27) 68)))]) [45, 68] rfl
  have hD_30 := hD.sub (ws' := [(a 45, .inl (cy 0, 30, .inl ((va_up (va_up (va_up (va_up (va_up r 63 u_7) 64 u_12) 65 u_17) 66 u_22) 67 u_27) 45))), (a 68, .inl (cy 0, 30, .inl ((va_up (va_up (va_up (va_up (va_up r 63 u_7) 64 u_12) 65 u_17) 66 u_22) 67 u_27) 68)))]) [45, 68] (by decide) rfl
  have hF_29 := va_free (wc := [(a 45, .inl (cy 0, 30, .inl ((va_up (va_up (va_up (va_up (va_up r 63 u_7) 64 u_12) 65 u_17) 66 u_22) 67 u_27) 45))), (a 68, .inl (cy 0, 30, .inl ((va_up (va_up (va_up (va_up (va_up r 63 u_7) 64 u_12) 65 u_17) 66 u_22) 67 u_27) 68)))]) hD hS hA [45, 68] rfl
  refine va_callv (va_runS (As := [.ref (a 45), .ref (a 68), .int 30]) (rest := []) ⟨hx, hb, hml, hown, hT⟩ (c_X12_copies30 l D cy (a 45) (a 68) ((va_up (va_up (va_up (va_up (va_up r 63 u_7) 64 u_12) 65 u_17) 66 u_22) 67 u_27) 45) ((va_up (va_up (va_up (va_up (va_up r 63 u_7) 64 u_12) 65 u_17) 66 u_22) 67 u_27) 68) _) (va_cwS 3 hT (gS t_236 t_237 t_238 t_6) rfl rfl rfl (by decide +kernel) ⟨Nat.le_of_ble_eq_true rfl, Nat.le_of_ble_eq_true rfl⟩) (rQ_s hP_28 hK hD_30) rfl rfl hl.1 rfl (lv_room (Nat.le_of_ble_eq_true rfl)) dX12_keep_96 ⟨Nat.le_of_ble_eq_true rfl, Nat.le_of_ble_eq_true rfl⟩) hS (fun q _ h => hF_29 q h) hF_29 (fun u_32 t H1 locs ht hvm hr_31 hB hz1 hk1 hS => ?_)
  obtain ⟨hP1, hK1, hD1⟩ := hB
  rw [ht] at hP1
  obtain ⟨hP, hD⟩ := rj (wc := [(a 45, .inl (cy 0, 30, .inl ((va_up (va_up (va_up (va_up (va_up r 63 u_7) 64 u_12) 65 u_17) 66 u_22) 67 u_27) 45))), (a 68, .inl (cy 0, 30, .inl ((va_up (va_up (va_up (va_up (va_up r 63 u_7) 64 u_12) 65 u_17) 66 u_22) 67 u_27) 68)))]) (w1 := [(a 45, .inl (cy 0, 30, .inl ((va_up (va_up (va_up (va_up (va_up r 63 u_7) 64 u_12) 65 u_17) 66 u_22) 67 u_27) 45))), (a 68, .inl (cy 0, 30, .inl u_32))]) hP hD [45, 68] rfl rfl hk1 hP1
  have hP : va_P D vwCl (mW cy a (upd (upd (upd i 78 1) 79 (i 51)) 80 (i 1)) (va_up (va_up (va_up (va_up (va_up (va_up r 63 u_7) 64 u_12) 65 u_17) 66 u_22) 67 u_27) 68 u_32) rl) H1 := hP
  have hD : va_D A (mW cy a (upd (upd (upd i 78 1) 79 (i 51)) 80 (i 1)) (va_up (va_up (va_up (va_up (va_up (va_up r 63 u_7) 64 u_12) 65 u_17) 66 u_22) 67 u_27) 68 u_32) rl) := hD
  have hRr : mRr (va_up (va_up (va_up (va_up (va_up (va_up r 63 u_7) 64 u_12) 65 u_17) 66 u_22) 67 u_27) 68 u_32) := Rr_up hRr 68 u_32 (fun j => (hr_31 j).symm ▸ (show 0 ≤ (if j < 30 then ((va_up (va_up (va_up (va_up (va_up r 63 u_7) 64 u_12) 65 u_17) 66 u_22) 67 u_27) 45) j else ((va_up (va_up (va_up (va_up (va_up r 63 u_7) 64 u_12) 65 u_17) 66 u_22) 67 u_27) 68) j).toInt ∧ (if j < 30 then ((va_up (va_up (va_up (va_up (va_up r 63 u_7) 64 u_12) 65 u_17) 66 u_22) 67 u_27) 45) j else ((va_up (va_up (va_up (va_up (va_up r 63 u_7) 64 u_12) 65 u_17) 66 u_22) 67 u_27) 68) j).toInt ≤ 999999 from (by split; exact hRr 45 j; exact hRr 68 j)))
  have hEr : mEr [63, 64, 65, 66, 67, 68, 69, 70, 71, 72] _ (va_up (va_up (va_up (va_up (va_up (va_up r 63 u_7) 64 u_12) 65 u_17) 66 u_22) 67 u_27) 68 u_32) := Er_up hEr 68 _ (by decide)
  refine lv_aload_n hx hb dX12_keep_99 rfl (lv_at hl 0 rfl) ?_
  refine va_get (D := D) (ci := 12) (v := .ref (a 46)) (C := RX12) (T := TX12) (N := 91) hx hb hT iX12 hown hK hP 0 rfl rfl 58 (by decide) (hT _ t_138) (fun _ h9 => h9) rfl dX12_keep_100 ?_
  refine lv_aload_n hx hb dX12_keep_103 rfl (lv_at hl 0 rfl) ?_
  refine va_get (D := D) (ci := 12) (v := .ref (a 69)) (C := RX12) (T := TX12) (N := 91) hx hb hT iX12 hown hK hP 0 rfl rfl 87 (by decide) (hT _ t_244) (fun _ h9 => h9) rfl dX12_keep_104 ?_
  refine lv_bipush (v := 30) hx hb dX12_keep_107 (by decide) ?_
  have hP_33 := hP.sub (ws' := [(a 46, .inl (cy 0, 30, .inl ((va_up (va_up (va_up (va_up (va_up (va_up r 63 u_7) 64 u_12) 65 u_17) 66 u_22) 67 u_27) 68 u_32) 46))), (a 69, .inl (cy 0, 30, .inl ((va_up (va_up (va_up (va_up (va_up (va_up r 63 u_7) 64 u_12) 65 u_17) 66 u_22) 67 u_27) 68 u_32) 69)))]) [46, 69] rfl
  have hD_35 := hD.sub (ws' := [(a 46, .inl (cy 0, 30, .inl ((va_up (va_up (va_up (va_up (va_up (va_up r 63 u_7) 64 u_12) 65 u_17) 66 u_22) 67 u_27) 68 u_32) 46))), (a 69, .inl (cy 0, 30, .inl ((va_up (va_up (va_up (va_up (va_up (va_up r 63 u_7) 64 u_12) 65 u_17) 66 u_22) 67 u_27) 68 u_32) 69)))]) [46, 69] (by decide) rfl
  have hF_34 := va_free (wc := [(a 46, .inl (cy 0, 30, .inl ((va_up (va_up (va_up (va_up (va_up (va_up r 63 u_7) 64 u_12) 65 u_17) 66 u_22) 67 u_27) 68 u_32) 46))), (a 69, .inl (cy 0, 30, .inl ((va_up (va_up (va_up (va_up (va_up (va_up r 63 u_7) 64 u_12) 65 u_17) 66 u_22) 67 u_27) 68 u_32) 69)))]) hD hS hA [46, 69] rfl
  refine va_callv (va_runS (As := [.ref (a 46), .ref (a 69), .int 30]) (rest := []) ⟨hx, hb, hml, hown, hT⟩ (c_X12_copies30 l D cy (a 46) (a 69) ((va_up (va_up (va_up (va_up (va_up (va_up r 63 u_7) 64 u_12) 65 u_17) 66 u_22) 67 u_27) 68 u_32) 46) ((va_up (va_up (va_up (va_up (va_up (va_up r 63 u_7) 64 u_12) 65 u_17) 66 u_22) 67 u_27) 68 u_32) 69) _) (va_cwS 3 hT (gS t_236 t_237 t_238 t_6) rfl rfl rfl (by decide +kernel) ⟨Nat.le_of_ble_eq_true rfl, Nat.le_of_ble_eq_true rfl⟩) (rQ_s hP_33 hK hD_35) rfl rfl hl.1 rfl (lv_room (Nat.le_of_ble_eq_true rfl)) dX12_keep_109 ⟨Nat.le_of_ble_eq_true rfl, Nat.le_of_ble_eq_true rfl⟩) hS (fun q _ h => hF_34 q h) hF_34 (fun u_37 t H1 locs ht hvm hr_36 hB hz1 hk1 hS => ?_)
  obtain ⟨hP1, hK1, hD1⟩ := hB
  rw [ht] at hP1
  obtain ⟨hP, hD⟩ := rj (wc := [(a 46, .inl (cy 0, 30, .inl ((va_up (va_up (va_up (va_up (va_up (va_up r 63 u_7) 64 u_12) 65 u_17) 66 u_22) 67 u_27) 68 u_32) 46))), (a 69, .inl (cy 0, 30, .inl ((va_up (va_up (va_up (va_up (va_up (va_up r 63 u_7) 64 u_12) 65 u_17) 66 u_22) 67 u_27) 68 u_32) 69)))]) (w1 := [(a 46, .inl (cy 0, 30, .inl ((va_up (va_up (va_up (va_up (va_up (va_up r 63 u_7) 64 u_12) 65 u_17) 66 u_22) 67 u_27) 68 u_32) 46))), (a 69, .inl (cy 0, 30, .inl u_37))]) hP hD [46, 69] rfl rfl hk1 hP1
  have hP : va_P D vwCl (mW cy a (upd (upd (upd i 78 1) 79 (i 51)) 80 (i 1)) (va_up (va_up (va_up (va_up (va_up (va_up (va_up r 63 u_7) 64 u_12) 65 u_17) 66 u_22) 67 u_27) 68 u_32) 69 u_37) rl) H1 := hP
  have hD : va_D A (mW cy a (upd (upd (upd i 78 1) 79 (i 51)) 80 (i 1)) (va_up (va_up (va_up (va_up (va_up (va_up (va_up r 63 u_7) 64 u_12) 65 u_17) 66 u_22) 67 u_27) 68 u_32) 69 u_37) rl) := hD
  have hRr : mRr (va_up (va_up (va_up (va_up (va_up (va_up (va_up r 63 u_7) 64 u_12) 65 u_17) 66 u_22) 67 u_27) 68 u_32) 69 u_37) := Rr_up hRr 69 u_37 (fun j => (hr_36 j).symm ▸ (show -1 ≤ (if j < 30 then ((va_up (va_up (va_up (va_up (va_up (va_up r 63 u_7) 64 u_12) 65 u_17) 66 u_22) 67 u_27) 68 u_32) 46) j else ((va_up (va_up (va_up (va_up (va_up (va_up r 63 u_7) 64 u_12) 65 u_17) 66 u_22) 67 u_27) 68 u_32) 69) j).toInt ∧ (if j < 30 then ((va_up (va_up (va_up (va_up (va_up (va_up r 63 u_7) 64 u_12) 65 u_17) 66 u_22) 67 u_27) 68 u_32) 46) j else ((va_up (va_up (va_up (va_up (va_up (va_up r 63 u_7) 64 u_12) 65 u_17) 66 u_22) 67 u_27) 68 u_32) 69) j).toInt ≤ 9999 from (by split; exact hRr 46 j; exact hRr 69 j)))
  have hEr : mEr [63, 64, 65, 66, 67, 68, 69, 70, 71, 72] _ (va_up (va_up (va_up (va_up (va_up (va_up (va_up r 63 u_7) 64 u_12) 65 u_17) 66 u_22) 67 u_27) 68 u_32) 69 u_37) := Er_up hEr 69 _ (by decide)
  refine lv_aload_n hx hb dX12_keep_112 rfl (lv_at hl 0 rfl) ?_
  refine va_get (D := D) (ci := 12) (v := .ref (a 50)) (C := RX12) (T := TX12) (N := 91) hx hb hT iX12 hown hK hP 0 rfl rfl 64 (by decide) (hT _ t_186) (fun _ h9 => h9) rfl dX12_keep_113 ?_
  refine lv_aload_n hx hb dX12_keep_116 rfl (lv_at hl 0 rfl) ?_
  refine va_get (D := D) (ci := 12) (v := .ref (a 70)) (C := RX12) (T := TX12) (N := 91) hx hb hT iX12 hown hK hP 0 rfl rfl 88 (by decide) (hT _ t_245) (fun _ h9 => h9) rfl dX12_keep_117 ?_
  refine lv_bipush (v := 6) hx hb dX12_keep_120 (by decide) ?_
  have hP_38 := hP.sub (ws' := [(a 50, .inl (cy 0, 6, .inl ((va_up (va_up (va_up (va_up (va_up (va_up (va_up r 63 u_7) 64 u_12) 65 u_17) 66 u_22) 67 u_27) 68 u_32) 69 u_37) 50))), (a 70, .inl (cy 0, 6, .inl ((va_up (va_up (va_up (va_up (va_up (va_up (va_up r 63 u_7) 64 u_12) 65 u_17) 66 u_22) 67 u_27) 68 u_32) 69 u_37) 70)))]) [50, 70] rfl
  have hD_40 := hD.sub (ws' := [(a 50, .inl (cy 0, 6, .inl ((va_up (va_up (va_up (va_up (va_up (va_up (va_up r 63 u_7) 64 u_12) 65 u_17) 66 u_22) 67 u_27) 68 u_32) 69 u_37) 50))), (a 70, .inl (cy 0, 6, .inl ((va_up (va_up (va_up (va_up (va_up (va_up (va_up r 63 u_7) 64 u_12) 65 u_17) 66 u_22) 67 u_27) 68 u_32) 69 u_37) 70)))]) [50, 70] (by decide) rfl
  have hF_39 := va_free (wc := [(a 50, .inl (cy 0, 6, .inl ((va_up (va_up (va_up (va_up (va_up (va_up (va_up r 63 u_7) 64 u_12) 65 u_17) 66 u_22) 67 u_27) 68 u_32) 69 u_37) 50))), (a 70, .inl (cy 0, 6, .inl ((va_up (va_up (va_up (va_up (va_up (va_up (va_up r 63 u_7) 64 u_12) 65 u_17) 66 u_22) 67 u_27) 68 u_32) 69 u_37) 70)))]) hD hS hA [50, 70] rfl
  refine va_callv (va_runS (As := [.ref (a 50), .ref (a 70), .int 6]) (rest := []) ⟨hx, hb, hml, hown, hT⟩ (c_X12_copies6 l D cy (a 50) (a 70) ((va_up (va_up (va_up (va_up (va_up (va_up (va_up r 63 u_7) 64 u_12) 65 u_17) 66 u_22) 67 u_27) 68 u_32) 69 u_37) 50) ((va_up (va_up (va_up (va_up (va_up (va_up (va_up r 63 u_7) 64 u_12) 65 u_17) 66 u_22) 67 u_27) 68 u_32) 69 u_37) 70) _) (va_cwS 3 hT (gS t_236 t_237 t_238 t_6) rfl rfl rfl (by decide +kernel) ⟨Nat.le_of_ble_eq_true rfl, Nat.le_of_ble_eq_true rfl⟩) (rQ_s hP_38 hK hD_40) rfl rfl hl.1 rfl (lv_room (Nat.le_of_ble_eq_true rfl)) dX12_keep_122 ⟨Nat.le_of_ble_eq_true rfl, Nat.le_of_ble_eq_true rfl⟩) hS (fun q _ h => hF_39 q h) hF_39 (fun u_42 t H1 locs ht hvm hr_41 hB hz1 hk1 hS => ?_)
  obtain ⟨hP1, hK1, hD1⟩ := hB
  rw [ht] at hP1
  obtain ⟨hP, hD⟩ := rj (wc := [(a 50, .inl (cy 0, 6, .inl ((va_up (va_up (va_up (va_up (va_up (va_up (va_up r 63 u_7) 64 u_12) 65 u_17) 66 u_22) 67 u_27) 68 u_32) 69 u_37) 50))), (a 70, .inl (cy 0, 6, .inl ((va_up (va_up (va_up (va_up (va_up (va_up (va_up r 63 u_7) 64 u_12) 65 u_17) 66 u_22) 67 u_27) 68 u_32) 69 u_37) 70)))]) (w1 := [(a 50, .inl (cy 0, 6, .inl ((va_up (va_up (va_up (va_up (va_up (va_up (va_up r 63 u_7) 64 u_12) 65 u_17) 66 u_22) 67 u_27) 68 u_32) 69 u_37) 50))), (a 70, .inl (cy 0, 6, .inl u_42))]) hP hD [50, 70] rfl rfl hk1 hP1
  have hP : va_P D vwCl (mW cy a (upd (upd (upd i 78 1) 79 (i 51)) 80 (i 1)) (va_up (va_up (va_up (va_up (va_up (va_up (va_up (va_up r 63 u_7) 64 u_12) 65 u_17) 66 u_22) 67 u_27) 68 u_32) 69 u_37) 70 u_42) rl) H1 := hP
  have hD : va_D A (mW cy a (upd (upd (upd i 78 1) 79 (i 51)) 80 (i 1)) (va_up (va_up (va_up (va_up (va_up (va_up (va_up (va_up r 63 u_7) 64 u_12) 65 u_17) 66 u_22) 67 u_27) 68 u_32) 69 u_37) 70 u_42) rl) := hD
  have hRr : mRr (va_up (va_up (va_up (va_up (va_up (va_up (va_up (va_up r 63 u_7) 64 u_12) 65 u_17) 66 u_22) 67 u_27) 68 u_32) 69 u_37) 70 u_42) := Rr_up hRr 70 u_42 (fun j => (hr_41 j).symm ▸ (show 0 ≤ (if j < 6 then ((va_up (va_up (va_up (va_up (va_up (va_up (va_up r 63 u_7) 64 u_12) 65 u_17) 66 u_22) 67 u_27) 68 u_32) 69 u_37) 50) j else ((va_up (va_up (va_up (va_up (va_up (va_up (va_up r 63 u_7) 64 u_12) 65 u_17) 66 u_22) 67 u_27) 68 u_32) 69 u_37) 70) j).toInt ∧ (if j < 6 then ((va_up (va_up (va_up (va_up (va_up (va_up (va_up r 63 u_7) 64 u_12) 65 u_17) 66 u_22) 67 u_27) 68 u_32) 69 u_37) 50) j else ((va_up (va_up (va_up (va_up (va_up (va_up (va_up r 63 u_7) 64 u_12) 65 u_17) 66 u_22) 67 u_27) 68 u_32) 69 u_37) 70) j).toInt ≤ 1000000 from (by split; exact hRr 50 j; exact hRr 70 j)))
  have hEr : mEr [63, 64, 65, 66, 67, 68, 69, 70, 71, 72] _ (va_up (va_up (va_up (va_up (va_up (va_up (va_up (va_up r 63 u_7) 64 u_12) 65 u_17) 66 u_22) 67 u_27) 68 u_32) 69 u_37) 70 u_42) := Er_up hEr 70 _ (by decide)
  refine lv_aload_n hx hb dX12_keep_125 rfl (lv_at hl 0 rfl) ?_
  refine va_get (D := D) (ci := 12) (v := .ref (a 51)) (C := RX12) (T := TX12) (N := 91) hx hb hT iX12 hown hK hP 0 rfl rfl 65 (by decide) (hT _ t_185) (fun _ h9 => h9) rfl dX12_keep_126 ?_
  refine lv_aload_n hx hb dX12_keep_129 rfl (lv_at hl 0 rfl) ?_
  refine va_get (D := D) (ci := 12) (v := .ref (a 71)) (C := RX12) (T := TX12) (N := 91) hx hb hT iX12 hown hK hP 0 rfl rfl 89 (by decide) (hT _ t_246) (fun _ h9 => h9) rfl dX12_keep_130 ?_
  refine lv_bipush (v := 6) hx hb dX12_keep_133 (by decide) ?_
  have hP_43 := hP.sub (ws' := [(a 51, .inl (cy 0, 6, .inl ((va_up (va_up (va_up (va_up (va_up (va_up (va_up (va_up r 63 u_7) 64 u_12) 65 u_17) 66 u_22) 67 u_27) 68 u_32) 69 u_37) 70 u_42) 51))), (a 71, .inl (cy 0, 6, .inl ((va_up (va_up (va_up (va_up (va_up (va_up (va_up (va_up r 63 u_7) 64 u_12) 65 u_17) 66 u_22) 67 u_27) 68 u_32) 69 u_37) 70 u_42) 71)))]) [51, 71] rfl
  have hD_45 := hD.sub (ws' := [(a 51, .inl (cy 0, 6, .inl ((va_up (va_up (va_up (va_up (va_up (va_up (va_up (va_up r 63 u_7) 64 u_12) 65 u_17) 66 u_22) 67 u_27) 68 u_32) 69 u_37) 70 u_42) 51))), (a 71, .inl (cy 0, 6, .inl ((va_up (va_up (va_up (va_up (va_up (va_up (va_up (va_up r 63 u_7) 64 u_12) 65 u_17) 66 u_22) 67 u_27) 68 u_32) 69 u_37) 70 u_42) 71)))]) [51, 71] (by decide) rfl
  have hF_44 := va_free (wc := [(a 51, .inl (cy 0, 6, .inl ((va_up (va_up (va_up (va_up (va_up (va_up (va_up (va_up r 63 u_7) 64 u_12) 65 u_17) 66 u_22) 67 u_27) 68 u_32) 69 u_37) 70 u_42) 51))), (a 71, .inl (cy 0, 6, .inl ((va_up (va_up (va_up (va_up (va_up (va_up (va_up (va_up r 63 u_7) 64 u_12) 65 u_17) 66 u_22) 67 u_27) 68 u_32) 69 u_37) 70 u_42) 71)))]) hD hS hA [51, 71] rfl
  refine va_callv (va_runS (As := [.ref (a 51), .ref (a 71), .int 6]) (rest := []) ⟨hx, hb, hml, hown, hT⟩ (c_X12_copies6 l D cy (a 51) (a 71) ((va_up (va_up (va_up (va_up (va_up (va_up (va_up (va_up r 63 u_7) 64 u_12) 65 u_17) 66 u_22) 67 u_27) 68 u_32) 69 u_37) 70 u_42) 51) ((va_up (va_up (va_up (va_up (va_up (va_up (va_up (va_up r 63 u_7) 64 u_12) 65 u_17) 66 u_22) 67 u_27) 68 u_32) 69 u_37) 70 u_42) 71) _) (va_cwS 3 hT (gS t_236 t_237 t_238 t_6) rfl rfl rfl (by decide +kernel) ⟨Nat.le_of_ble_eq_true rfl, Nat.le_of_ble_eq_true rfl⟩) (rQ_s hP_43 hK hD_45) rfl rfl hl.1 rfl (lv_room (Nat.le_of_ble_eq_true rfl)) dX12_keep_135 ⟨Nat.le_of_ble_eq_true rfl, Nat.le_of_ble_eq_true rfl⟩) hS (fun q _ h => hF_44 q h) hF_44 (fun u_47 t H1 locs ht hvm hr_46 hB hz1 hk1 hS => ?_)
  obtain ⟨hP1, hK1, hD1⟩ := hB
  rw [ht] at hP1
  obtain ⟨hP, hD⟩ := rj (wc := [(a 51, .inl (cy 0, 6, .inl ((va_up (va_up (va_up (va_up (va_up (va_up (va_up (va_up r 63 u_7) 64 u_12) 65 u_17) 66 u_22) 67 u_27) 68 u_32) 69 u_37) 70 u_42) 51))), (a 71, .inl (cy 0, 6, .inl ((va_up (va_up (va_up (va_up (va_up (va_up (va_up (va_up r 63 u_7) 64 u_12) 65 u_17) 66 u_22) 67 u_27) 68 u_32) 69 u_37) 70 u_42) 71)))]) (w1 := [(a 51, .inl (cy 0, 6, .inl ((va_up (va_up (va_up (va_up (va_up (va_up (va_up (va_up r 63 u_7) 64 u_12) 65 u_17) 66 u_22) 67 u_27) 68 u_32) 69 u_37) 70 u_42) 51))), (a 71, .inl (cy 0, 6, .inl u_47))]) hP hD [51, 71] rfl rfl hk1 hP1
  have hP : va_P D vwCl (mW cy a (upd (upd (upd i 78 1) 79 (i 51)) 80 (i 1)) (va_up (va_up (va_up (va_up (va_up (va_up (va_up (va_up (va_up r 63 u_7) 64 u_12) 65 u_17) 66 u_22) 67 u_27) 68 u_32) 69 u_37) 70 u_42) 71 u_47) rl) H1 := hP
  have hD : va_D A (mW cy a (upd (upd (upd i 78 1) 79 (i 51)) 80 (i 1)) (va_up (va_up (va_up (va_up (va_up (va_up (va_up (va_up (va_up r 63 u_7) 64 u_12) 65 u_17) 66 u_22) 67 u_27) 68 u_32) 69 u_37) 70 u_42) 71 u_47) rl) := hD
  have hRr : mRr (va_up (va_up (va_up (va_up (va_up (va_up (va_up (va_up (va_up r 63 u_7) 64 u_12) 65 u_17) 66 u_22) 67 u_27) 68 u_32) 69 u_37) 70 u_42) 71 u_47) := Rr_up hRr 71 u_47 (fun j => (hr_46 j).symm ▸ (show 0 ≤ (if j < 6 then ((va_up (va_up (va_up (va_up (va_up (va_up (va_up (va_up r 63 u_7) 64 u_12) 65 u_17) 66 u_22) 67 u_27) 68 u_32) 69 u_37) 70 u_42) 51) j else ((va_up (va_up (va_up (va_up (va_up (va_up (va_up (va_up r 63 u_7) 64 u_12) 65 u_17) 66 u_22) 67 u_27) 68 u_32) 69 u_37) 70 u_42) 71) j).toInt ∧ (if j < 6 then ((va_up (va_up (va_up (va_up (va_up (va_up (va_up (va_up r 63 u_7) 64 u_12) 65 u_17) 66 u_22) 67 u_27) 68 u_32) 69 u_37) 70 u_42) 51) j else ((va_up (va_up (va_up (va_up (va_up (va_up (va_up (va_up r 63 u_7) 64 u_12) 65 u_17) 66 u_22) 67 u_27) 68 u_32) 69 u_37) 70 u_42) 71) j).toInt ≤ 1000000 from (by split; exact hRr 51 j; exact hRr 71 j)))
  have hEr : mEr [63, 64, 65, 66, 67, 68, 69, 70, 71, 72] _ (va_up (va_up (va_up (va_up (va_up (va_up (va_up (va_up (va_up r 63 u_7) 64 u_12) 65 u_17) 66 u_22) 67 u_27) 68 u_32) 69 u_37) 70 u_42) 71 u_47) := Er_up hEr 71 _ (by decide)
  refine lv_iconst (v := 0) hx hb dX12_keep_138 (by decide) ?_
  refine lv_istore_n (lv' := [(1, .int 0), (0, .ref (a 0))]) hx hb dX12_keep_139 rfl hl (by decide) rfl (fun ls hl => ?_)
  have loop_48 : ∀ (n : Nat) (x48_1 : Int32) (r48 : Nat → Nat → Int32) (H : Heap) (locs : List Loc) (ls : Array Slot), (30 - x48_1.toInt).toNat < n → (0 ≤ x48_1.toInt ∧ x48_1.toInt ≤ 30) → mRr r48 → mEr [63, 64, 65, 66, 67, 68, 69, 70, 71, 72] r r48 → (mEr [72] (va_up (va_up (va_up (va_up (va_up (va_up (va_up (va_up (va_up r 63 u_7) 64 u_12) 65 u_17) 66 u_22) 67 u_27) 68 u_32) 69 u_37) 70 u_42) 71 u_47) r48) → va_P D vwCl (mW cy a (upd (upd (upd i 78 1) 79 (i 51)) 80 (i 1)) r48 rl) H → va_D A (mW cy a (upd (upd (upd i 78 1) 79 (i 51)) 80 (i 1)) r48 rl) → va_S A s.heap H locs → lv_has ls 2 [(1, .int x48_1), (0, .ref (a 0))] → W p l e ({ frames := 2, cells := 0, slots := 0, locals := 47 } : Room) s m ([.ref (a 0)] : List Value).toArray below meth c H locs 0 0 Q (F0 m 140 ls []) := by
    intro n
    induction n with
    | zero =>
      intro x48_1 r48 H locs ls hm48 hf48_0 hRr hEr hx48 hP hD hS hl
      exact absurd hm48 (by omega)
    | succ n ih48 =>
      intro x48_1 r48 H locs ls hm48 hf48_0 hRr hEr hx48 hP hD hS hl
      refine lv_iload_n hx hb dX12_keep_140 rfl (lv_at hl 0 rfl) ?_
      refine lv_bipush (v := 30) hx hb dX12_keep_141 (by decide) ?_
      refine lv_icmp_ge (tgt := 164) hx hb dX12_keep_143 (by decide) (fun c_49 => ?_) (fun c_49 => ?_)
      · have c_49 : 30 ≤ x48_1.toInt := b_le c_49
        refine lv_aload_n hx hb dX12_keep_164 rfl (lv_at hl 1 rfl) ?_
        refine va_get (D := D) (ci := 12) (v := .int (i 51)) (C := RX12) (T := TX12) (N := 91) hx hb hT iX12 hown hK hP 0 rfl rfl 51 (by decide) (hT _ t_11) (fun _ h9 => h9) rfl dX12_keep_165 ?_
        subst hQ
        have ha : ∀ c, c < 30 → r48 63 c = r 40 c := by
          intro c hc
          rw [hx48 63 (by decide)]
          exact (hr_6 c).trans (if_pos hc)
        have hb9 : ∀ c, c < 30 → r48 64 c = r 41 c := by
          intro c hc
          rw [hx48 64 (by decide)]
          exact (hr_11 c).trans (if_pos hc)
        have hc63 : ∀ c, c < 30 → r48 63 c = r 40 c := by
          intro c hc
          rw [hx48 63 (by decide)]
          exact (hr_6 c).trans (if_pos hc)
        have hc64 : ∀ c, c < 30 → r48 64 c = r 41 c := by
          intro c hc
          rw [hx48 64 (by decide)]
          exact (hr_11 c).trans (if_pos hc)
        have hc65 : ∀ c, c < 30 → r48 65 c = r 42 c := by
          intro c hc
          rw [hx48 65 (by decide)]
          exact (hr_16 c).trans (if_pos hc)
        have hc66 : ∀ c, c < 30 → r48 66 c = r 43 c := by
          intro c hc
          rw [hx48 66 (by decide)]
          exact (hr_21 c).trans (if_pos hc)
        have hc67 : ∀ c, c < 30 → r48 67 c = r 44 c := by
          intro c hc
          rw [hx48 67 (by decide)]
          exact (hr_26 c).trans (if_pos hc)
        have hc68 : ∀ c, c < 30 → r48 68 c = r 45 c := by
          intro c hc
          rw [hx48 68 (by decide)]
          exact (hr_31 c).trans (if_pos hc)
        have hc69 : ∀ c, c < 30 → r48 69 c = r 46 c := by
          intro c hc
          rw [hx48 69 (by decide)]
          exact (hr_36 c).trans (if_pos hc)
        have hc70 : ∀ c, c < 6 → r48 70 c = r 50 c := by
          intro c hc
          rw [hx48 70 (by decide)]
          exact (hr_41 c).trans (if_pos hc)
        have hc71 : ∀ c, c < 6 → r48 71 c = r 51 c := by
          intro c hc
          rw [hx48 71 (by decide)]
          exact (hr_46 c).trans (if_pos hc)
        exact W.iret (v := i 51) hx hb hr (fun t ht hW => ⟨⟨_, (upd (upd (upd i 78 1) 79 (i 51)) 80 (i 1), r48), rfl, ⟨hRi, hRr, hEi, hEr, ⟨mE_keep hE (by have h9 : (i 51).toInt ≤ 30 := (hRi0 51).2; exact h9) rfl rfl rfl rfl ha hb9 (hx48 4 (by decide)) (hx48 10 (by decide)) (hx48 14 (by decide)) (hx48 27 (by decide)) (hx48 28 (by decide)) (hx48 29 (by decide)) (hx48 30 (by decide)) (hx48 31 (by decide)) (hx48 40 (by decide)) (hx48 41 (by decide)), ⟨rfl, rfl, rfl, rfl, hc63, hc64, hc65, hc66, hc67, hc68, hc69, hc70, hc71⟩⟩⟩, by rw [ht]; exact hP, va_K.moved hW.alike hK, hD⟩, hS.F ht⟩) hS.2.2 dX12_keep_168
      · have c_49 : x48_1.toInt < 30 := b_nle c_49
        refine lv_aload_n hx hb dX12_keep_146 rfl (lv_at hl 1 rfl) ?_
        refine va_get (D := D) (ci := 12) (v := .ref (a 72)) (C := RX12) (T := TX12) (N := 91) hx hb hT iX12 hown hK hP 0 rfl rfl 90 (by decide) (hT _ t_247) (fun _ h9 => h9) rfl dX12_keep_147 ?_
        refine lv_iload_n hx hb dX12_keep_150 rfl (lv_at hl 0 rfl) ?_
        refine lv_aload_n hx hb dX12_keep_151 rfl (lv_at hl 1 rfl) ?_
        refine va_get (D := D) (ci := 12) (v := .ref (a 47)) (C := RX12) (T := TX12) (N := 91) hx hb hT iX12 hown hK hP 0 rfl rfl 59 (by decide) (hT _ t_152) (fun _ h9 => h9) rfl dX12_keep_152 ?_
        refine lv_iload_n hx hb dX12_keep_155 rfl (lv_at hl 0 rfl) ?_
        refine va_zald hx hb hK hP 47 2 rfl rfl (vp_inI (by omega) (by omega)) dX12_keep_156 ?_
        refine lv_topi (fun v_50 ev_50 => ?_)
        refine va_zast hx hb hK hP hD hS 72 2 rfl rfl (vp_inI (by omega) (by omega)) dX12_keep_157 (fun H locs hP hD hS => ?_)
        rw [mS72] at hP hD
        have hRr : mRr (va_up r48 72 (upd (r48 72) x48_1.toNatClampNeg (vp_nar .boolean v_50))) := Rr_upd hRr 72 (x48_1.toNatClampNeg) (vp_nar .boolean v_50) (b_rg _)
        have hEr : mEr [63, 64, 65, 66, 67, 68, 69, 70, 71, 72] _ (va_up r48 72 (upd (r48 72) x48_1.toNatClampNeg (vp_nar .boolean v_50))) := Er_up hEr 72 _ (by decide)
        obtain ⟨x_51, ex_51⟩ : ∃ y : Int32, y = x48_1 + 1 := ⟨_, rfl⟩
        refine lv_iinc (v := x_51) (lv' := [(1, .int x_51), (0, .ref (a 0))]) hx hb dX12_keep_158 hl (k := 0) rfl (by rw [ex_51]; rfl) (by decide) rfl (fun ls hl => ?_)
        have hx_51 : x_51.toInt = x48_1.toInt + 1 := by rw [ex_51]; have := b_rg x48_1; exact i_add (a := x48_1.toInt) (b := 1) rfl rfl (by omega) (by omega)
        refine lv_goto (tgt := 140) hx hb dX12_keep_161 (by decide) ?_
        exact ih48 x_51 (va_up r48 72 (upd (r48 72) x48_1.toNatClampNeg (vp_nar .boolean v_50))) _ _ _ (by first | omega | (simp only [Int.toNat]; omega)) (by first | omega | decide) hRr hEr (Er_up hx48 72 _ (by decide)) hP hD hS (lv_sub hl [0, 1] rfl)
  exact loop_48 _ 0 (va_up (va_up (va_up (va_up (va_up (va_up (va_up (va_up (va_up r 63 u_7) 64 u_12) 65 u_17) 66 u_22) 67 u_27) 68 u_32) 69 u_37) 70 u_42) 71 u_47) _ _ _ (Nat.lt_succ_self _) (by first | omega | decide) hRr hEr (Er_rf) hP hD hS hl
set_option maxHeartbeats 4000000 in
set_option maxRecDepth 100000 in
theorem c_X12_undo9 (l : Launch) (D : va_G) (cy : Nat → ClassId) (a : Nat → Nat) (i : Nat → Int32) (r : Nat → Nat → Int32) (rl : Nat → Int64) (sz : Nat) (hRi : mRi i) (hRr : mRr r) (hE : mE i r) : Met l yX12_undo (Cond.code yX12_undo cX12_undo 2 (some .boolean) :: gT) { frames := 2, cells := 0, slots := 0, locals := 47 } (va_Pc [.ref (a 0)] (rQ D cy (mW cy a i r rl) sz)) (va_Qi (fun (z : Int32) (u : (Nat → Int32) × (Nat → Nat → Int32)) => mRi u.1 ∧ mRr u.2 ∧ mEi [1, 51] i u.1 ∧ mEr [40, 41, 42, 43, 44, 45, 46, 47, 50, 51] r u.2 ∧ (mE u.1 u.2 ∧ (BR z ((i 78).toInt ≠ 0) 1 0 ∧ ((i 78).toInt ≠ 0 → u.1 51 = i 79 ∧ u.1 1 = i 80 ∧ (∀ c, c < 30 → u.2 40 c = r 63 c) ∧ (∀ c, c < 30 → u.2 41 c = r 64 c) ∧ (∀ c, c < 30 → u.2 42 c = r 65 c) ∧ (∀ c, c < 30 → u.2 43 c = r 66 c) ∧ (∀ c, c < 30 → u.2 44 c = r 67 c) ∧ (∀ c, c < 30 → u.2 45 c = r 68 c) ∧ (∀ c, c < 30 → u.2 46 c = r 69 c) ∧ (∀ c, c < 6 → u.2 50 c = r 70 c) ∧ (∀ c, c < 6 → u.2 51 c = r 71 c)) ∧ (¬ (i 78).toInt ≠ 0 → mEi [] i u.1 ∧ mEr [] r u.2)))) (fun (u : (Nat → Int32) × (Nat → Nat → Int32)) t => va_P D vwCl (mW cy a u.1 u.2 rl) t.heap ∧ va_K D vwCl (vT cy) t ∧ va_D (va_A (mW cy a i r rl) sz) (mW cy a u.1 u.2 rl)) (va_A (mW cy a i r rl) sz)) 0 0 (va_A (mW cy a i r rl) sz) := by
  refine Met.ofQ (cc := cX12_undo) (maxL := 2) (ret := (some .boolean)) (by decide) rfl ?_
  intro p e s m args below meth c s₁ B hml hv Q hQ
  obtain ⟨rfl, hsz, hP, hK, hD0⟩ := hv
  have hx := B.exec
  have hb := B.bytes
  have hr := B.returns
  have hlocks := B.notSynchronized
  have hT : ∀ w ∈ gT, w.before _ s = true := fun w h => atoms_spec (ws := (Cond.code yX12_undo cX12_undo 2 (some .boolean) :: gT)) B.pre w (List.mem_cons_of_mem _ h)
  have hown : s.vm.findClass RX12 = some m.cls := findClass_of_methodNamed B.named
  subst hsz
  have hD := hD0.self (sz := s.heap.size)
  generalize hAe : va_A (mW cy a i r rl) s.heap.size = A at hD hQ
  have hA : ∀ q : Nat, s.heap.size ≤ q → A q := fun q h => by rw [← hAe]; exact Or.inr h
  have hS : va_S A s.heap s.heap [] := va_S.rf
  have hl := lv_entry ([.ref (a 0)]) (n := 2) (Nat.le_of_ble_eq_true rfl)
  rw [lg_entry_eq]
  generalize (lg_sl ([.ref (a 0)]) ++ List.replicate (2 - (lg_sl ([.ref (a 0)])).length) Slot.unset).toArray = ls at hl ⊢
  have hl : lv_has ls 2 [(0, .ref (a 0))] := hl
  have hEi : mEi [1, 51] i i := Ei_rf
  have hEr : mEr [40, 41, 42, 43, 44, 45, 46, 47, 50, 51] r r := Er_rf
  have hRi0 := hRi
  refine lv_aload_n hx hb dX12_undo_0 rfl (lv_at hl 0 rfl) ?_
  refine va_get (D := D) (ci := 12) (v := .int (i 78)) (C := RX12) (T := TX12) (N := 91) hx hb hT iX12 hown hK hP 0 rfl rfl 78 (by decide) (hT _ t_232) (fun _ h9 => h9) rfl dX12_undo_1 ?_
  have hg_1 : 0 ≤ (i 78).toInt ∧ (i 78).toInt ≤ 1 := hRi 78
  refine lv_if_ne (tgt := 9) hx hb dX12_undo_4 (by decide) (fun c_2 => ?_) (fun c_2 => ?_)
  · have c_2 : (i 78).toInt ≠ 0 := b_ne c_2
    refine lv_aload_n hx hb dX12_undo_9 rfl (lv_at hl 0 rfl) ?_
    refine lv_aload_n hx hb dX12_undo_10 rfl (lv_at hl 0 rfl) ?_
    refine va_get (D := D) (ci := 12) (v := .int (i 79)) (C := RX12) (T := TX12) (N := 91) hx hb hT iX12 hown hK hP 0 rfl rfl 79 (by decide) (hT _ t_233) (fun _ h9 => h9) rfl dX12_undo_11 ?_
    have hg_3 : 0 ≤ (i 79).toInt ∧ (i 79).toInt ≤ 30 := hRi 79
    refine va_put (D := D) (ci := 12) (v := .int (i 79)) (ty := .int) (C := RX12) (T := TX12) (N := 91) hx hb hT iX12 tyX12 tyX12_ok nmX12 hown hK hP hD hS 0 rfl rfl 51 (by decide) (hT _ t_11) (fun _ h9 => h9) rfl (by decide +kernel) rfl rfl (Nat.le_of_ble_eq_true rfl) dX12_undo_14 (fun H locs hP hD hS => ?_)
    rw [mP51] at hP hD
    have hRi := Ri_upd hRi 51 (i 79) ⟨by show (0 : Int) ≤ (i 79).toInt; omega, by show (i 79).toInt ≤ (30 : Int); omega⟩
    have hEi := Ei_upd hEi 51 (i 79) (by decide)
    refine lv_aload_n hx hb dX12_undo_17 rfl (lv_at hl 0 rfl) ?_
    refine lv_aload_n hx hb dX12_undo_18 rfl (lv_at hl 0 rfl) ?_
    refine va_get (D := D) (ci := 12) (v := .int (i 80)) (C := RX12) (T := TX12) (N := 91) hx hb hT iX12 hown hK hP 0 rfl rfl 80 (by decide) (hT _ t_234) (fun _ h9 => h9) rfl dX12_undo_19 ?_
    have hg_4 : 0 ≤ (i 80).toInt ∧ (i 80).toInt ≤ 65535 := hRi 80
    refine va_put (D := D) (ci := 12) (v := .int (i 80)) (ty := .int) (C := RX12) (T := TX12) (N := 91) hx hb hT iX12 tyX12 tyX12_ok nmX12 hown hK hP hD hS 0 rfl rfl 1 (by decide) (hT _ t_181) (fun _ h9 => h9) rfl (by decide +kernel) rfl rfl (Nat.le_of_ble_eq_true rfl) dX12_undo_22 (fun H locs hP hD hS => ?_)
    rw [mP1] at hP hD
    have hRi := Ri_upd hRi 1 (i 80) ⟨by show (0 : Int) ≤ (i 80).toInt; omega, by show (i 80).toInt ≤ (65535 : Int); omega⟩
    have hEi := Ei_upd hEi 1 (i 80) (by decide)
    refine lv_aload_n hx hb dX12_undo_25 rfl (lv_at hl 0 rfl) ?_
    refine va_get (D := D) (ci := 12) (v := .ref (a 63)) (C := RX12) (T := TX12) (N := 91) hx hb hT iX12 hown hK hP 0 rfl rfl 81 (by decide) (hT _ t_235) (fun _ h9 => h9) rfl dX12_undo_26 ?_
    refine lv_aload_n hx hb dX12_undo_29 rfl (lv_at hl 0 rfl) ?_
    refine va_get (D := D) (ci := 12) (v := .ref (a 40)) (C := RX12) (T := TX12) (N := 91) hx hb hT iX12 hown hK hP 0 rfl rfl 52 (by decide) (hT _ t_75) (fun _ h9 => h9) rfl dX12_undo_30 ?_
    refine lv_bipush (v := 30) hx hb dX12_undo_33 (by decide) ?_
    have hP_5 := hP.sub (ws' := [(a 63, .inl (cy 0, 30, .inl (r 63))), (a 40, .inl (cy 0, 30, .inl (r 40)))]) [63, 40] rfl
    have hD_7 := hD.sub (ws' := [(a 63, .inl (cy 0, 30, .inl (r 63))), (a 40, .inl (cy 0, 30, .inl (r 40)))]) [63, 40] (by decide) rfl
    have hF_6 := va_free (wc := [(a 63, .inl (cy 0, 30, .inl (r 63))), (a 40, .inl (cy 0, 30, .inl (r 40)))]) hD hS hA [63, 40] rfl
    refine va_callv (va_runS (As := [.ref (a 63), .ref (a 40), .int 30]) (rest := []) ⟨hx, hb, hml, hown, hT⟩ (c_X12_copies30 l D cy (a 63) (a 40) (r 63) (r 40) _) (va_cwS 3 hT (gS t_236 t_237 t_238 t_6) rfl rfl rfl (by decide +kernel) ⟨Nat.le_of_ble_eq_true rfl, Nat.le_of_ble_eq_true rfl⟩) (rQ_s hP_5 hK hD_7) rfl rfl hl.1 rfl (lv_room (Nat.le_of_ble_eq_true rfl)) dX12_undo_35 ⟨Nat.le_of_ble_eq_true rfl, Nat.le_of_ble_eq_true rfl⟩) hS (fun q _ h => hF_6 q h) hF_6 (fun u_9 t H1 locs ht hvm hr_8 hB hz1 hk1 hS => ?_)
    obtain ⟨hP1, hK1, hD1⟩ := hB
    rw [ht] at hP1
    obtain ⟨hP, hD⟩ := rj (wc := [(a 63, .inl (cy 0, 30, .inl (r 63))), (a 40, .inl (cy 0, 30, .inl (r 40)))]) (w1 := [(a 63, .inl (cy 0, 30, .inl (r 63))), (a 40, .inl (cy 0, 30, .inl u_9))]) hP hD [63, 40] rfl rfl hk1 hP1
    have hP : va_P D vwCl (mW cy a (upd (upd i 51 (i 79)) 1 (i 80)) (va_up r 40 u_9) rl) H1 := hP
    have hD : va_D A (mW cy a (upd (upd i 51 (i 79)) 1 (i 80)) (va_up r 40 u_9) rl) := hD
    have hRr : mRr (va_up r 40 u_9) := Rr_up hRr 40 u_9 (fun j => (hr_8 j).symm ▸ (show 0 ≤ (if j < 30 then (r 63) j else (r 40) j).toInt ∧ (if j < 30 then (r 63) j else (r 40) j).toInt ≤ 5 from (by split; exact hRr 63 j; exact hRr 40 j)))
    have hEr : mEr [40, 41, 42, 43, 44, 45, 46, 47, 50, 51] _ (va_up r 40 u_9) := Er_up hEr 40 _ (by decide)
    refine lv_aload_n hx hb dX12_undo_38 rfl (lv_at hl 0 rfl) ?_
    refine va_get (D := D) (ci := 12) (v := .ref (a 64)) (C := RX12) (T := TX12) (N := 91) hx hb hT iX12 hown hK hP 0 rfl rfl 82 (by decide) (hT _ t_239) (fun _ h9 => h9) rfl dX12_undo_39 ?_
    refine lv_aload_n hx hb dX12_undo_42 rfl (lv_at hl 0 rfl) ?_
    refine va_get (D := D) (ci := 12) (v := .ref (a 41)) (C := RX12) (T := TX12) (N := 91) hx hb hT iX12 hown hK hP 0 rfl rfl 53 (by decide) (hT _ t_76) (fun _ h9 => h9) rfl dX12_undo_43 ?_
    refine lv_bipush (v := 30) hx hb dX12_undo_46 (by decide) ?_
    have hP_10 := hP.sub (ws' := [(a 64, .inl (cy 0, 30, .inl ((va_up r 40 u_9) 64))), (a 41, .inl (cy 0, 30, .inl ((va_up r 40 u_9) 41)))]) [64, 41] rfl
    have hD_12 := hD.sub (ws' := [(a 64, .inl (cy 0, 30, .inl ((va_up r 40 u_9) 64))), (a 41, .inl (cy 0, 30, .inl ((va_up r 40 u_9) 41)))]) [64, 41] (by decide) rfl
    have hF_11 := va_free (wc := [(a 64, .inl (cy 0, 30, .inl ((va_up r 40 u_9) 64))), (a 41, .inl (cy 0, 30, .inl ((va_up r 40 u_9) 41)))]) hD hS hA [64, 41] rfl
    refine va_callv (va_runS (As := [.ref (a 64), .ref (a 41), .int 30]) (rest := []) ⟨hx, hb, hml, hown, hT⟩ (c_X12_copies30 l D cy (a 64) (a 41) ((va_up r 40 u_9) 64) ((va_up r 40 u_9) 41) _) (va_cwS 3 hT (gS t_236 t_237 t_238 t_6) rfl rfl rfl (by decide +kernel) ⟨Nat.le_of_ble_eq_true rfl, Nat.le_of_ble_eq_true rfl⟩) (rQ_s hP_10 hK hD_12) rfl rfl hl.1 rfl (lv_room (Nat.le_of_ble_eq_true rfl)) dX12_undo_48 ⟨Nat.le_of_ble_eq_true rfl, Nat.le_of_ble_eq_true rfl⟩) hS (fun q _ h => hF_11 q h) hF_11 (fun u_14 t H1 locs ht hvm hr_13 hB hz1 hk1 hS => ?_)
    obtain ⟨hP1, hK1, hD1⟩ := hB
    rw [ht] at hP1
    obtain ⟨hP, hD⟩ := rj (wc := [(a 64, .inl (cy 0, 30, .inl ((va_up r 40 u_9) 64))), (a 41, .inl (cy 0, 30, .inl ((va_up r 40 u_9) 41)))]) (w1 := [(a 64, .inl (cy 0, 30, .inl ((va_up r 40 u_9) 64))), (a 41, .inl (cy 0, 30, .inl u_14))]) hP hD [64, 41] rfl rfl hk1 hP1
    have hP : va_P D vwCl (mW cy a (upd (upd i 51 (i 79)) 1 (i 80)) (va_up (va_up r 40 u_9) 41 u_14) rl) H1 := hP
    have hD : va_D A (mW cy a (upd (upd i 51 (i 79)) 1 (i 80)) (va_up (va_up r 40 u_9) 41 u_14) rl) := hD
    have hRr : mRr (va_up (va_up r 40 u_9) 41 u_14) := Rr_up hRr 41 u_14 (fun j => (hr_13 j).symm ▸ (show 0 ≤ (if j < 30 then ((va_up r 40 u_9) 64) j else ((va_up r 40 u_9) 41) j).toInt ∧ (if j < 30 then ((va_up r 40 u_9) 64) j else ((va_up r 40 u_9) 41) j).toInt ≤ 19 from (by split; exact hRr 64 j; exact hRr 41 j)))
    have hEr : mEr [40, 41, 42, 43, 44, 45, 46, 47, 50, 51] _ (va_up (va_up r 40 u_9) 41 u_14) := Er_up hEr 41 _ (by decide)
    refine lv_aload_n hx hb dX12_undo_51 rfl (lv_at hl 0 rfl) ?_
    refine va_get (D := D) (ci := 12) (v := .ref (a 65)) (C := RX12) (T := TX12) (N := 91) hx hb hT iX12 hown hK hP 0 rfl rfl 83 (by decide) (hT _ t_240) (fun _ h9 => h9) rfl dX12_undo_52 ?_
    refine lv_aload_n hx hb dX12_undo_55 rfl (lv_at hl 0 rfl) ?_
    refine va_get (D := D) (ci := 12) (v := .ref (a 42)) (C := RX12) (T := TX12) (N := 91) hx hb hT iX12 hown hK hP 0 rfl rfl 54 (by decide) (hT _ t_81) (fun _ h9 => h9) rfl dX12_undo_56 ?_
    refine lv_bipush (v := 30) hx hb dX12_undo_59 (by decide) ?_
    have hP_15 := hP.sub (ws' := [(a 65, .inl (cy 0, 30, .inl ((va_up (va_up r 40 u_9) 41 u_14) 65))), (a 42, .inl (cy 0, 30, .inl ((va_up (va_up r 40 u_9) 41 u_14) 42)))]) [65, 42] rfl
    have hD_17 := hD.sub (ws' := [(a 65, .inl (cy 0, 30, .inl ((va_up (va_up r 40 u_9) 41 u_14) 65))), (a 42, .inl (cy 0, 30, .inl ((va_up (va_up r 40 u_9) 41 u_14) 42)))]) [65, 42] (by decide) rfl
    have hF_16 := va_free (wc := [(a 65, .inl (cy 0, 30, .inl ((va_up (va_up r 40 u_9) 41 u_14) 65))), (a 42, .inl (cy 0, 30, .inl ((va_up (va_up r 40 u_9) 41 u_14) 42)))]) hD hS hA [65, 42] rfl
    refine va_callv (va_runS (As := [.ref (a 65), .ref (a 42), .int 30]) (rest := []) ⟨hx, hb, hml, hown, hT⟩ (c_X12_copies30 l D cy (a 65) (a 42) ((va_up (va_up r 40 u_9) 41 u_14) 65) ((va_up (va_up r 40 u_9) 41 u_14) 42) _) (va_cwS 3 hT (gS t_236 t_237 t_238 t_6) rfl rfl rfl (by decide +kernel) ⟨Nat.le_of_ble_eq_true rfl, Nat.le_of_ble_eq_true rfl⟩) (rQ_s hP_15 hK hD_17) rfl rfl hl.1 rfl (lv_room (Nat.le_of_ble_eq_true rfl)) dX12_undo_61 ⟨Nat.le_of_ble_eq_true rfl, Nat.le_of_ble_eq_true rfl⟩) hS (fun q _ h => hF_16 q h) hF_16 (fun u_19 t H1 locs ht hvm hr_18 hB hz1 hk1 hS => ?_)
    obtain ⟨hP1, hK1, hD1⟩ := hB
    rw [ht] at hP1
    obtain ⟨hP, hD⟩ := rj (wc := [(a 65, .inl (cy 0, 30, .inl ((va_up (va_up r 40 u_9) 41 u_14) 65))), (a 42, .inl (cy 0, 30, .inl ((va_up (va_up r 40 u_9) 41 u_14) 42)))]) (w1 := [(a 65, .inl (cy 0, 30, .inl ((va_up (va_up r 40 u_9) 41 u_14) 65))), (a 42, .inl (cy 0, 30, .inl u_19))]) hP hD [65, 42] rfl rfl hk1 hP1
    have hP : va_P D vwCl (mW cy a (upd (upd i 51 (i 79)) 1 (i 80)) (va_up (va_up (va_up r 40 u_9) 41 u_14) 42 u_19) rl) H1 := hP
    have hD : va_D A (mW cy a (upd (upd i 51 (i 79)) 1 (i 80)) (va_up (va_up (va_up r 40 u_9) 41 u_14) 42 u_19) rl) := hD
    have hRr : mRr (va_up (va_up (va_up r 40 u_9) 41 u_14) 42 u_19) := Rr_up hRr 42 u_19 (fun j => (hr_18 j).symm ▸ (show 0 ≤ (if j < 30 then ((va_up (va_up r 40 u_9) 41 u_14) 65) j else ((va_up (va_up r 40 u_9) 41 u_14) 42) j).toInt ∧ (if j < 30 then ((va_up (va_up r 40 u_9) 41 u_14) 65) j else ((va_up (va_up r 40 u_9) 41 u_14) 42) j).toInt ≤ 9 from (by split; exact hRr 65 j; exact hRr 42 j)))
    have hEr : mEr [40, 41, 42, 43, 44, 45, 46, 47, 50, 51] _ (va_up (va_up (va_up r 40 u_9) 41 u_14) 42 u_19) := Er_up hEr 42 _ (by decide)
    refine lv_aload_n hx hb dX12_undo_64 rfl (lv_at hl 0 rfl) ?_
    refine va_get (D := D) (ci := 12) (v := .ref (a 66)) (C := RX12) (T := TX12) (N := 91) hx hb hT iX12 hown hK hP 0 rfl rfl 84 (by decide) (hT _ t_241) (fun _ h9 => h9) rfl dX12_undo_65 ?_
    refine lv_aload_n hx hb dX12_undo_68 rfl (lv_at hl 0 rfl) ?_
    refine va_get (D := D) (ci := 12) (v := .ref (a 43)) (C := RX12) (T := TX12) (N := 91) hx hb hT iX12 hown hK hP 0 rfl rfl 55 (by decide) (hT _ t_31) (fun _ h9 => h9) rfl dX12_undo_69 ?_
    refine lv_bipush (v := 30) hx hb dX12_undo_72 (by decide) ?_
    have hP_20 := hP.sub (ws' := [(a 66, .inl (cy 0, 30, .inl ((va_up (va_up (va_up r 40 u_9) 41 u_14) 42 u_19) 66))), (a 43, .inl (cy 0, 30, .inl ((va_up (va_up (va_up r 40 u_9) 41 u_14) 42 u_19) 43)))]) [66, 43] rfl
    have hD_22 := hD.sub (ws' := [(a 66, .inl (cy 0, 30, .inl ((va_up (va_up (va_up r 40 u_9) 41 u_14) 42 u_19) 66))), (a 43, .inl (cy 0, 30, .inl ((va_up (va_up (va_up r 40 u_9) 41 u_14) 42 u_19) 43)))]) [66, 43] (by decide) rfl
    have hF_21 := va_free (wc := [(a 66, .inl (cy 0, 30, .inl ((va_up (va_up (va_up r 40 u_9) 41 u_14) 42 u_19) 66))), (a 43, .inl (cy 0, 30, .inl ((va_up (va_up (va_up r 40 u_9) 41 u_14) 42 u_19) 43)))]) hD hS hA [66, 43] rfl
    refine va_callv (va_runS (As := [.ref (a 66), .ref (a 43), .int 30]) (rest := []) ⟨hx, hb, hml, hown, hT⟩ (c_X12_copies30 l D cy (a 66) (a 43) ((va_up (va_up (va_up r 40 u_9) 41 u_14) 42 u_19) 66) ((va_up (va_up (va_up r 40 u_9) 41 u_14) 42 u_19) 43) _) (va_cwS 3 hT (gS t_236 t_237 t_238 t_6) rfl rfl rfl (by decide +kernel) ⟨Nat.le_of_ble_eq_true rfl, Nat.le_of_ble_eq_true rfl⟩) (rQ_s hP_20 hK hD_22) rfl rfl hl.1 rfl (lv_room (Nat.le_of_ble_eq_true rfl)) dX12_undo_74 ⟨Nat.le_of_ble_eq_true rfl, Nat.le_of_ble_eq_true rfl⟩) hS (fun q _ h => hF_21 q h) hF_21 (fun u_24 t H1 locs ht hvm hr_23 hB hz1 hk1 hS => ?_)
    obtain ⟨hP1, hK1, hD1⟩ := hB
    rw [ht] at hP1
    obtain ⟨hP, hD⟩ := rj (wc := [(a 66, .inl (cy 0, 30, .inl ((va_up (va_up (va_up r 40 u_9) 41 u_14) 42 u_19) 66))), (a 43, .inl (cy 0, 30, .inl ((va_up (va_up (va_up r 40 u_9) 41 u_14) 42 u_19) 43)))]) (w1 := [(a 66, .inl (cy 0, 30, .inl ((va_up (va_up (va_up r 40 u_9) 41 u_14) 42 u_19) 66))), (a 43, .inl (cy 0, 30, .inl u_24))]) hP hD [66, 43] rfl rfl hk1 hP1
    have hP : va_P D vwCl (mW cy a (upd (upd i 51 (i 79)) 1 (i 80)) (va_up (va_up (va_up (va_up r 40 u_9) 41 u_14) 42 u_19) 43 u_24) rl) H1 := hP
    have hD : va_D A (mW cy a (upd (upd i 51 (i 79)) 1 (i 80)) (va_up (va_up (va_up (va_up r 40 u_9) 41 u_14) 42 u_19) 43 u_24) rl) := hD
    have hRr : mRr (va_up (va_up (va_up (va_up r 40 u_9) 41 u_14) 42 u_19) 43 u_24) := Rr_up hRr 43 u_24 (fun j => (hr_23 j).symm ▸ (show 0 ≤ (if j < 30 then ((va_up (va_up (va_up r 40 u_9) 41 u_14) 42 u_19) 66) j else ((va_up (va_up (va_up r 40 u_9) 41 u_14) 42 u_19) 43) j).toInt ∧ (if j < 30 then ((va_up (va_up (va_up r 40 u_9) 41 u_14) 42 u_19) 66) j else ((va_up (va_up (va_up r 40 u_9) 41 u_14) 42 u_19) 43) j).toInt ≤ 7 from (by split; exact hRr 66 j; exact hRr 43 j)))
    have hEr : mEr [40, 41, 42, 43, 44, 45, 46, 47, 50, 51] _ (va_up (va_up (va_up (va_up r 40 u_9) 41 u_14) 42 u_19) 43 u_24) := Er_up hEr 43 _ (by decide)
    refine lv_aload_n hx hb dX12_undo_77 rfl (lv_at hl 0 rfl) ?_
    refine va_get (D := D) (ci := 12) (v := .ref (a 67)) (C := RX12) (T := TX12) (N := 91) hx hb hT iX12 hown hK hP 0 rfl rfl 85 (by decide) (hT _ t_242) (fun _ h9 => h9) rfl dX12_undo_78 ?_
    refine lv_aload_n hx hb dX12_undo_81 rfl (lv_at hl 0 rfl) ?_
    refine va_get (D := D) (ci := 12) (v := .ref (a 44)) (C := RX12) (T := TX12) (N := 91) hx hb hT iX12 hown hK hP 0 rfl rfl 56 (by decide) (hT _ t_139) (fun _ h9 => h9) rfl dX12_undo_82 ?_
    refine lv_bipush (v := 30) hx hb dX12_undo_85 (by decide) ?_
    have hP_25 := hP.sub (ws' := [(a 67, .inl (cy 0, 30, .inl ((va_up (va_up (va_up (va_up r 40 u_9) 41 u_14) 42 u_19) 43 u_24) 67))), (a 44, .inl (cy 0, 30, .inl ((va_up (va_up (va_up (va_up r 40 u_9) 41 u_14) 42 u_19) 43 u_24) 44)))]) [67, 44] rfl
    have hD_27 := hD.sub (ws' := [(a 67, .inl (cy 0, 30, .inl ((va_up (va_up (va_up (va_up r 40 u_9) 41 u_14) 42 u_19) 43 u_24) 67))), (a 44, .inl (cy 0, 30, .inl ((va_up (va_up (va_up (va_up r 40 u_9) 41 u_14) 42 u_19) 43 u_24) 44)))]) [67, 44] (by decide) rfl
    have hF_26 := va_free (wc := [(a 67, .inl (cy 0, 30, .inl ((va_up (va_up (va_up (va_up r 40 u_9) 41 u_14) 42 u_19) 43 u_24) 67))), (a 44, .inl (cy 0, 30, .inl ((va_up (va_up (va_up (va_up r 40 u_9) 41 u_14) 42 u_19) 43 u_24) 44)))]) hD hS hA [67, 44] rfl
    refine va_callv (va_runS (As := [.ref (a 67), .ref (a 44), .int 30]) (rest := []) ⟨hx, hb, hml, hown, hT⟩ (c_X12_copies30 l D cy (a 67) (a 44) ((va_up (va_up (va_up (va_up r 40 u_9) 41 u_14) 42 u_19) 43 u_24) 67) ((va_up (va_up (va_up (va_up r 40 u_9) 41 u_14) 42 u_19) 43 u_24) 44) _) (va_cwS 3 hT (gS t_236 t_237 t_238 t_6) rfl rfl rfl (by decide +kernel) ⟨Nat.le_of_ble_eq_true rfl, Nat.le_of_ble_eq_true rfl⟩) (rQ_s hP_25 hK hD_27) rfl rfl hl.1 rfl (lv_room (Nat.le_of_ble_eq_true rfl)) dX12_undo_87 ⟨Nat.le_of_ble_eq_true rfl, Nat.le_of_ble_eq_true rfl⟩) hS (fun q _ h => hF_26 q h) hF_26 (fun u_29 t H1 locs ht hvm hr_28 hB hz1 hk1 hS => ?_)
    obtain ⟨hP1, hK1, hD1⟩ := hB
    rw [ht] at hP1
    obtain ⟨hP, hD⟩ := rj (wc := [(a 67, .inl (cy 0, 30, .inl ((va_up (va_up (va_up (va_up r 40 u_9) 41 u_14) 42 u_19) 43 u_24) 67))), (a 44, .inl (cy 0, 30, .inl ((va_up (va_up (va_up (va_up r 40 u_9) 41 u_14) 42 u_19) 43 u_24) 44)))]) (w1 := [(a 67, .inl (cy 0, 30, .inl ((va_up (va_up (va_up (va_up r 40 u_9) 41 u_14) 42 u_19) 43 u_24) 67))), (a 44, .inl (cy 0, 30, .inl u_29))]) hP hD [67, 44] rfl rfl hk1 hP1
    have hP : va_P D vwCl (mW cy a (upd (upd i 51 (i 79)) 1 (i 80)) (va_up (va_up (va_up (va_up (va_up r 40 u_9) 41 u_14) 42 u_19) 43 u_24) 44 u_29) rl) H1 := hP
    have hD : va_D A (mW cy a (upd (upd i 51 (i 79)) 1 (i 80)) (va_up (va_up (va_up (va_up (va_up r 40 u_9) 41 u_14) 42 u_19) 43 u_24) 44 u_29) rl) := hD
    have hRr : mRr (va_up (va_up (va_up (va_up (va_up r 40 u_9) 41 u_14) 42 u_19) 43 u_24) 44 u_29) := Rr_up hRr 44 u_29 (fun j => (hr_28 j).symm ▸ (show 0 ≤ (if j < 30 then ((va_up (va_up (va_up (va_up r 40 u_9) 41 u_14) 42 u_19) 43 u_24) 67) j else ((va_up (va_up (va_up (va_up r 40 u_9) 41 u_14) 42 u_19) 43 u_24) 44) j).toInt ∧ (if j < 30 then ((va_up (va_up (va_up (va_up r 40 u_9) 41 u_14) 42 u_19) 43 u_24) 67) j else ((va_up (va_up (va_up (va_up r 40 u_9) 41 u_14) 42 u_19) 43 u_24) 44) j).toInt ≤ 9999 from (by split; exact hRr 67 j; exact hRr 44 j)))
    have hEr : mEr [40, 41, 42, 43, 44, 45, 46, 47, 50, 51] _ (va_up (va_up (va_up (va_up (va_up r 40 u_9) 41 u_14) 42 u_19) 43 u_24) 44 u_29) := Er_up hEr 44 _ (by decide)
    refine lv_aload_n hx hb dX12_undo_90 rfl (lv_at hl 0 rfl) ?_
    refine va_get (D := D) (ci := 12) (v := .ref (a 68)) (C := RX12) (T := TX12) (N := 91) hx hb hT iX12 hown hK hP 0 rfl rfl 86 (by decide) (hT _ t_243) (fun _ h9 => h9) rfl dX12_undo_91 ?_
    refine lv_aload_n hx hb dX12_undo_94 rfl (lv_at hl 0 rfl) ?_
    refine va_get (D := D) (ci := 12) (v := .ref (a 45)) (C := RX12) (T := TX12) (N := 91) hx hb hT iX12 hown hK hP 0 rfl rfl 57 (by decide) (hT _ t_133) (fun _ h9 => h9) rfl dX12_undo_95 ?_
    refine lv_bipush (v := 30) hx hb dX12_undo_98 (by decide) ?_
    have hP_30 := hP.sub (ws' := [(a 68, .inl (cy 0, 30, .inl ((va_up (va_up (va_up (va_up (va_up r 40 u_9) 41 u_14) 42 u_19) 43 u_24) 44 u_29) 68))), (a 45, .inl (cy 0, 30, .inl ((va_up (va_up (va_up (va_up (va_up r 40 u_9) 41 u_14) 42 u_19) 43 u_24) 44 u_29) 45)))]) [68, 45] rfl
    have hD_32 := hD.sub (ws' := [(a 68, .inl (cy 0, 30, .inl ((va_up (va_up (va_up (va_up (va_up r 40 u_9) 41 u_14) 42 u_19) 43 u_24) 44 u_29) 68))), (a 45, .inl (cy 0, 30, .inl ((va_up (va_up (va_up (va_up (va_up r 40 u_9) 41 u_14) 42 u_19) 43 u_24) 44 u_29) 45)))]) [68, 45] (by decide) rfl
    have hF_31 := va_free (wc := [(a 68, .inl (cy 0, 30, .inl ((va_up (va_up (va_up (va_up (va_up r 40 u_9) 41 u_14) 42 u_19) 43 u_24) 44 u_29) 68))), (a 45, .inl (cy 0, 30, .inl ((va_up (va_up (va_up (va_up (va_up r 40 u_9) 41 u_14) 42 u_19) 43 u_24) 44 u_29) 45)))]) hD hS hA [68, 45] rfl
    refine va_callv (va_runS (As := [.ref (a 68), .ref (a 45), .int 30]) (rest := []) ⟨hx, hb, hml, hown, hT⟩ (c_X12_copies30 l D cy (a 68) (a 45) ((va_up (va_up (va_up (va_up (va_up r 40 u_9) 41 u_14) 42 u_19) 43 u_24) 44 u_29) 68) ((va_up (va_up (va_up (va_up (va_up r 40 u_9) 41 u_14) 42 u_19) 43 u_24) 44 u_29) 45) _) (va_cwS 3 hT (gS t_236 t_237 t_238 t_6) rfl rfl rfl (by decide +kernel) ⟨Nat.le_of_ble_eq_true rfl, Nat.le_of_ble_eq_true rfl⟩) (rQ_s hP_30 hK hD_32) rfl rfl hl.1 rfl (lv_room (Nat.le_of_ble_eq_true rfl)) dX12_undo_100 ⟨Nat.le_of_ble_eq_true rfl, Nat.le_of_ble_eq_true rfl⟩) hS (fun q _ h => hF_31 q h) hF_31 (fun u_34 t H1 locs ht hvm hr_33 hB hz1 hk1 hS => ?_)
    obtain ⟨hP1, hK1, hD1⟩ := hB
    rw [ht] at hP1
    obtain ⟨hP, hD⟩ := rj (wc := [(a 68, .inl (cy 0, 30, .inl ((va_up (va_up (va_up (va_up (va_up r 40 u_9) 41 u_14) 42 u_19) 43 u_24) 44 u_29) 68))), (a 45, .inl (cy 0, 30, .inl ((va_up (va_up (va_up (va_up (va_up r 40 u_9) 41 u_14) 42 u_19) 43 u_24) 44 u_29) 45)))]) (w1 := [(a 68, .inl (cy 0, 30, .inl ((va_up (va_up (va_up (va_up (va_up r 40 u_9) 41 u_14) 42 u_19) 43 u_24) 44 u_29) 68))), (a 45, .inl (cy 0, 30, .inl u_34))]) hP hD [68, 45] rfl rfl hk1 hP1
    have hP : va_P D vwCl (mW cy a (upd (upd i 51 (i 79)) 1 (i 80)) (va_up (va_up (va_up (va_up (va_up (va_up r 40 u_9) 41 u_14) 42 u_19) 43 u_24) 44 u_29) 45 u_34) rl) H1 := hP
    have hD : va_D A (mW cy a (upd (upd i 51 (i 79)) 1 (i 80)) (va_up (va_up (va_up (va_up (va_up (va_up r 40 u_9) 41 u_14) 42 u_19) 43 u_24) 44 u_29) 45 u_34) rl) := hD
    have hRr : mRr (va_up (va_up (va_up (va_up (va_up (va_up r 40 u_9) 41 u_14) 42 u_19) 43 u_24) 44 u_29) 45 u_34) := Rr_up hRr 45 u_34 (fun j => (hr_33 j).symm ▸ (show 0 ≤ (if j < 30 then ((va_up (va_up (va_up (va_up (va_up r 40 u_9) 41 u_14) 42 u_19) 43 u_24) 44 u_29) 68) j else ((va_up (va_up (va_up (va_up (va_up r 40 u_9) 41 u_14) 42 u_19) 43 u_24) 44 u_29) 45) j).toInt ∧ (if j < 30 then ((va_up (va_up (va_up (va_up (va_up r 40 u_9) 41 u_14) 42 u_19) 43 u_24) 44 u_29) 68) j else ((va_up (va_up (va_up (va_up (va_up r 40 u_9) 41 u_14) 42 u_19) 43 u_24) 44 u_29) 45) j).toInt ≤ 999999 from (by split; exact hRr 68 j; exact hRr 45 j)))
    have hEr : mEr [40, 41, 42, 43, 44, 45, 46, 47, 50, 51] _ (va_up (va_up (va_up (va_up (va_up (va_up r 40 u_9) 41 u_14) 42 u_19) 43 u_24) 44 u_29) 45 u_34) := Er_up hEr 45 _ (by decide)
    refine lv_aload_n hx hb dX12_undo_103 rfl (lv_at hl 0 rfl) ?_
    refine va_get (D := D) (ci := 12) (v := .ref (a 69)) (C := RX12) (T := TX12) (N := 91) hx hb hT iX12 hown hK hP 0 rfl rfl 87 (by decide) (hT _ t_244) (fun _ h9 => h9) rfl dX12_undo_104 ?_
    refine lv_aload_n hx hb dX12_undo_107 rfl (lv_at hl 0 rfl) ?_
    refine va_get (D := D) (ci := 12) (v := .ref (a 46)) (C := RX12) (T := TX12) (N := 91) hx hb hT iX12 hown hK hP 0 rfl rfl 58 (by decide) (hT _ t_138) (fun _ h9 => h9) rfl dX12_undo_108 ?_
    refine lv_bipush (v := 30) hx hb dX12_undo_111 (by decide) ?_
    have hP_35 := hP.sub (ws' := [(a 69, .inl (cy 0, 30, .inl ((va_up (va_up (va_up (va_up (va_up (va_up r 40 u_9) 41 u_14) 42 u_19) 43 u_24) 44 u_29) 45 u_34) 69))), (a 46, .inl (cy 0, 30, .inl ((va_up (va_up (va_up (va_up (va_up (va_up r 40 u_9) 41 u_14) 42 u_19) 43 u_24) 44 u_29) 45 u_34) 46)))]) [69, 46] rfl
    have hD_37 := hD.sub (ws' := [(a 69, .inl (cy 0, 30, .inl ((va_up (va_up (va_up (va_up (va_up (va_up r 40 u_9) 41 u_14) 42 u_19) 43 u_24) 44 u_29) 45 u_34) 69))), (a 46, .inl (cy 0, 30, .inl ((va_up (va_up (va_up (va_up (va_up (va_up r 40 u_9) 41 u_14) 42 u_19) 43 u_24) 44 u_29) 45 u_34) 46)))]) [69, 46] (by decide) rfl
    have hF_36 := va_free (wc := [(a 69, .inl (cy 0, 30, .inl ((va_up (va_up (va_up (va_up (va_up (va_up r 40 u_9) 41 u_14) 42 u_19) 43 u_24) 44 u_29) 45 u_34) 69))), (a 46, .inl (cy 0, 30, .inl ((va_up (va_up (va_up (va_up (va_up (va_up r 40 u_9) 41 u_14) 42 u_19) 43 u_24) 44 u_29) 45 u_34) 46)))]) hD hS hA [69, 46] rfl
    refine va_callv (va_runS (As := [.ref (a 69), .ref (a 46), .int 30]) (rest := []) ⟨hx, hb, hml, hown, hT⟩ (c_X12_copies30 l D cy (a 69) (a 46) ((va_up (va_up (va_up (va_up (va_up (va_up r 40 u_9) 41 u_14) 42 u_19) 43 u_24) 44 u_29) 45 u_34) 69) ((va_up (va_up (va_up (va_up (va_up (va_up r 40 u_9) 41 u_14) 42 u_19) 43 u_24) 44 u_29) 45 u_34) 46) _) (va_cwS 3 hT (gS t_236 t_237 t_238 t_6) rfl rfl rfl (by decide +kernel) ⟨Nat.le_of_ble_eq_true rfl, Nat.le_of_ble_eq_true rfl⟩) (rQ_s hP_35 hK hD_37) rfl rfl hl.1 rfl (lv_room (Nat.le_of_ble_eq_true rfl)) dX12_undo_113 ⟨Nat.le_of_ble_eq_true rfl, Nat.le_of_ble_eq_true rfl⟩) hS (fun q _ h => hF_36 q h) hF_36 (fun u_39 t H1 locs ht hvm hr_38 hB hz1 hk1 hS => ?_)
    obtain ⟨hP1, hK1, hD1⟩ := hB
    rw [ht] at hP1
    obtain ⟨hP, hD⟩ := rj (wc := [(a 69, .inl (cy 0, 30, .inl ((va_up (va_up (va_up (va_up (va_up (va_up r 40 u_9) 41 u_14) 42 u_19) 43 u_24) 44 u_29) 45 u_34) 69))), (a 46, .inl (cy 0, 30, .inl ((va_up (va_up (va_up (va_up (va_up (va_up r 40 u_9) 41 u_14) 42 u_19) 43 u_24) 44 u_29) 45 u_34) 46)))]) (w1 := [(a 69, .inl (cy 0, 30, .inl ((va_up (va_up (va_up (va_up (va_up (va_up r 40 u_9) 41 u_14) 42 u_19) 43 u_24) 44 u_29) 45 u_34) 69))), (a 46, .inl (cy 0, 30, .inl u_39))]) hP hD [69, 46] rfl rfl hk1 hP1
    have hP : va_P D vwCl (mW cy a (upd (upd i 51 (i 79)) 1 (i 80)) (va_up (va_up (va_up (va_up (va_up (va_up (va_up r 40 u_9) 41 u_14) 42 u_19) 43 u_24) 44 u_29) 45 u_34) 46 u_39) rl) H1 := hP
    have hD : va_D A (mW cy a (upd (upd i 51 (i 79)) 1 (i 80)) (va_up (va_up (va_up (va_up (va_up (va_up (va_up r 40 u_9) 41 u_14) 42 u_19) 43 u_24) 44 u_29) 45 u_34) 46 u_39) rl) := hD
    have hRr : mRr (va_up (va_up (va_up (va_up (va_up (va_up (va_up r 40 u_9) 41 u_14) 42 u_19) 43 u_24) 44 u_29) 45 u_34) 46 u_39) := Rr_up hRr 46 u_39 (fun j => (hr_38 j).symm ▸ (show -1 ≤ (if j < 30 then ((va_up (va_up (va_up (va_up (va_up (va_up r 40 u_9) 41 u_14) 42 u_19) 43 u_24) 44 u_29) 45 u_34) 69) j else ((va_up (va_up (va_up (va_up (va_up (va_up r 40 u_9) 41 u_14) 42 u_19) 43 u_24) 44 u_29) 45 u_34) 46) j).toInt ∧ (if j < 30 then ((va_up (va_up (va_up (va_up (va_up (va_up r 40 u_9) 41 u_14) 42 u_19) 43 u_24) 44 u_29) 45 u_34) 69) j else ((va_up (va_up (va_up (va_up (va_up (va_up r 40 u_9) 41 u_14) 42 u_19) 43 u_24) 44 u_29) 45 u_34) 46) j).toInt ≤ 9999 from (by split; exact hRr 69 j; exact hRr 46 j)))
    have hEr : mEr [40, 41, 42, 43, 44, 45, 46, 47, 50, 51] _ (va_up (va_up (va_up (va_up (va_up (va_up (va_up r 40 u_9) 41 u_14) 42 u_19) 43 u_24) 44 u_29) 45 u_34) 46 u_39) := Er_up hEr 46 _ (by decide)
    refine lv_aload_n hx hb dX12_undo_116 rfl (lv_at hl 0 rfl) ?_
    refine va_get (D := D) (ci := 12) (v := .ref (a 70)) (C := RX12) (T := TX12) (N := 91) hx hb hT iX12 hown hK hP 0 rfl rfl 88 (by decide) (hT _ t_245) (fun _ h9 => h9) rfl dX12_undo_117 ?_
    refine lv_aload_n hx hb dX12_undo_120 rfl (lv_at hl 0 rfl) ?_
    refine va_get (D := D) (ci := 12) (v := .ref (a 50)) (C := RX12) (T := TX12) (N := 91) hx hb hT iX12 hown hK hP 0 rfl rfl 64 (by decide) (hT _ t_186) (fun _ h9 => h9) rfl dX12_undo_121 ?_
    refine lv_bipush (v := 6) hx hb dX12_undo_124 (by decide) ?_
    have hP_40 := hP.sub (ws' := [(a 70, .inl (cy 0, 6, .inl ((va_up (va_up (va_up (va_up (va_up (va_up (va_up r 40 u_9) 41 u_14) 42 u_19) 43 u_24) 44 u_29) 45 u_34) 46 u_39) 70))), (a 50, .inl (cy 0, 6, .inl ((va_up (va_up (va_up (va_up (va_up (va_up (va_up r 40 u_9) 41 u_14) 42 u_19) 43 u_24) 44 u_29) 45 u_34) 46 u_39) 50)))]) [70, 50] rfl
    have hD_42 := hD.sub (ws' := [(a 70, .inl (cy 0, 6, .inl ((va_up (va_up (va_up (va_up (va_up (va_up (va_up r 40 u_9) 41 u_14) 42 u_19) 43 u_24) 44 u_29) 45 u_34) 46 u_39) 70))), (a 50, .inl (cy 0, 6, .inl ((va_up (va_up (va_up (va_up (va_up (va_up (va_up r 40 u_9) 41 u_14) 42 u_19) 43 u_24) 44 u_29) 45 u_34) 46 u_39) 50)))]) [70, 50] (by decide) rfl
    have hF_41 := va_free (wc := [(a 70, .inl (cy 0, 6, .inl ((va_up (va_up (va_up (va_up (va_up (va_up (va_up r 40 u_9) 41 u_14) 42 u_19) 43 u_24) 44 u_29) 45 u_34) 46 u_39) 70))), (a 50, .inl (cy 0, 6, .inl ((va_up (va_up (va_up (va_up (va_up (va_up (va_up r 40 u_9) 41 u_14) 42 u_19) 43 u_24) 44 u_29) 45 u_34) 46 u_39) 50)))]) hD hS hA [70, 50] rfl
    refine va_callv (va_runS (As := [.ref (a 70), .ref (a 50), .int 6]) (rest := []) ⟨hx, hb, hml, hown, hT⟩ (c_X12_copies6 l D cy (a 70) (a 50) ((va_up (va_up (va_up (va_up (va_up (va_up (va_up r 40 u_9) 41 u_14) 42 u_19) 43 u_24) 44 u_29) 45 u_34) 46 u_39) 70) ((va_up (va_up (va_up (va_up (va_up (va_up (va_up r 40 u_9) 41 u_14) 42 u_19) 43 u_24) 44 u_29) 45 u_34) 46 u_39) 50) _) (va_cwS 3 hT (gS t_236 t_237 t_238 t_6) rfl rfl rfl (by decide +kernel) ⟨Nat.le_of_ble_eq_true rfl, Nat.le_of_ble_eq_true rfl⟩) (rQ_s hP_40 hK hD_42) rfl rfl hl.1 rfl (lv_room (Nat.le_of_ble_eq_true rfl)) dX12_undo_126 ⟨Nat.le_of_ble_eq_true rfl, Nat.le_of_ble_eq_true rfl⟩) hS (fun q _ h => hF_41 q h) hF_41 (fun u_44 t H1 locs ht hvm hr_43 hB hz1 hk1 hS => ?_)
    obtain ⟨hP1, hK1, hD1⟩ := hB
    rw [ht] at hP1
    obtain ⟨hP, hD⟩ := rj (wc := [(a 70, .inl (cy 0, 6, .inl ((va_up (va_up (va_up (va_up (va_up (va_up (va_up r 40 u_9) 41 u_14) 42 u_19) 43 u_24) 44 u_29) 45 u_34) 46 u_39) 70))), (a 50, .inl (cy 0, 6, .inl ((va_up (va_up (va_up (va_up (va_up (va_up (va_up r 40 u_9) 41 u_14) 42 u_19) 43 u_24) 44 u_29) 45 u_34) 46 u_39) 50)))]) (w1 := [(a 70, .inl (cy 0, 6, .inl ((va_up (va_up (va_up (va_up (va_up (va_up (va_up r 40 u_9) 41 u_14) 42 u_19) 43 u_24) 44 u_29) 45 u_34) 46 u_39) 70))), (a 50, .inl (cy 0, 6, .inl u_44))]) hP hD [70, 50] rfl rfl hk1 hP1
    have hP : va_P D vwCl (mW cy a (upd (upd i 51 (i 79)) 1 (i 80)) (va_up (va_up (va_up (va_up (va_up (va_up (va_up (va_up r 40 u_9) 41 u_14) 42 u_19) 43 u_24) 44 u_29) 45 u_34) 46 u_39) 50 u_44) rl) H1 := hP
    have hD : va_D A (mW cy a (upd (upd i 51 (i 79)) 1 (i 80)) (va_up (va_up (va_up (va_up (va_up (va_up (va_up (va_up r 40 u_9) 41 u_14) 42 u_19) 43 u_24) 44 u_29) 45 u_34) 46 u_39) 50 u_44) rl) := hD
    have hRr : mRr (va_up (va_up (va_up (va_up (va_up (va_up (va_up (va_up r 40 u_9) 41 u_14) 42 u_19) 43 u_24) 44 u_29) 45 u_34) 46 u_39) 50 u_44) := Rr_up hRr 50 u_44 (fun j => (hr_43 j).symm ▸ (show 0 ≤ (if j < 6 then ((va_up (va_up (va_up (va_up (va_up (va_up (va_up r 40 u_9) 41 u_14) 42 u_19) 43 u_24) 44 u_29) 45 u_34) 46 u_39) 70) j else ((va_up (va_up (va_up (va_up (va_up (va_up (va_up r 40 u_9) 41 u_14) 42 u_19) 43 u_24) 44 u_29) 45 u_34) 46 u_39) 50) j).toInt ∧ (if j < 6 then ((va_up (va_up (va_up (va_up (va_up (va_up (va_up r 40 u_9) 41 u_14) 42 u_19) 43 u_24) 44 u_29) 45 u_34) 46 u_39) 70) j else ((va_up (va_up (va_up (va_up (va_up (va_up (va_up r 40 u_9) 41 u_14) 42 u_19) 43 u_24) 44 u_29) 45 u_34) 46 u_39) 50) j).toInt ≤ 1000000 from (by split; exact hRr 70 j; exact hRr 50 j)))
    have hEr : mEr [40, 41, 42, 43, 44, 45, 46, 47, 50, 51] _ (va_up (va_up (va_up (va_up (va_up (va_up (va_up (va_up r 40 u_9) 41 u_14) 42 u_19) 43 u_24) 44 u_29) 45 u_34) 46 u_39) 50 u_44) := Er_up hEr 50 _ (by decide)
    refine lv_aload_n hx hb dX12_undo_129 rfl (lv_at hl 0 rfl) ?_
    refine va_get (D := D) (ci := 12) (v := .ref (a 71)) (C := RX12) (T := TX12) (N := 91) hx hb hT iX12 hown hK hP 0 rfl rfl 89 (by decide) (hT _ t_246) (fun _ h9 => h9) rfl dX12_undo_130 ?_
    refine lv_aload_n hx hb dX12_undo_133 rfl (lv_at hl 0 rfl) ?_
    refine va_get (D := D) (ci := 12) (v := .ref (a 51)) (C := RX12) (T := TX12) (N := 91) hx hb hT iX12 hown hK hP 0 rfl rfl 65 (by decide) (hT _ t_185) (fun _ h9 => h9) rfl dX12_undo_134 ?_
    refine lv_bipush (v := 6) hx hb dX12_undo_137 (by decide) ?_
    have hP_45 := hP.sub (ws' := [(a 71, .inl (cy 0, 6, .inl ((va_up (va_up (va_up (va_up (va_up (va_up (va_up (va_up r 40 u_9) 41 u_14) 42 u_19) 43 u_24) 44 u_29) 45 u_34) 46 u_39) 50 u_44) 71))), (a 51, .inl (cy 0, 6, .inl ((va_up (va_up (va_up (va_up (va_up (va_up (va_up (va_up r 40 u_9) 41 u_14) 42 u_19) 43 u_24) 44 u_29) 45 u_34) 46 u_39) 50 u_44) 51)))]) [71, 51] rfl
    have hD_47 := hD.sub (ws' := [(a 71, .inl (cy 0, 6, .inl ((va_up (va_up (va_up (va_up (va_up (va_up (va_up (va_up r 40 u_9) 41 u_14) 42 u_19) 43 u_24) 44 u_29) 45 u_34) 46 u_39) 50 u_44) 71))), (a 51, .inl (cy 0, 6, .inl ((va_up (va_up (va_up (va_up (va_up (va_up (va_up (va_up r 40 u_9) 41 u_14) 42 u_19) 43 u_24) 44 u_29) 45 u_34) 46 u_39) 50 u_44) 51)))]) [71, 51] (by decide) rfl
    have hF_46 := va_free (wc := [(a 71, .inl (cy 0, 6, .inl ((va_up (va_up (va_up (va_up (va_up (va_up (va_up (va_up r 40 u_9) 41 u_14) 42 u_19) 43 u_24) 44 u_29) 45 u_34) 46 u_39) 50 u_44) 71))), (a 51, .inl (cy 0, 6, .inl ((va_up (va_up (va_up (va_up (va_up (va_up (va_up (va_up r 40 u_9) 41 u_14) 42 u_19) 43 u_24) 44 u_29) 45 u_34) 46 u_39) 50 u_44) 51)))]) hD hS hA [71, 51] rfl
    refine va_callv (va_runS (As := [.ref (a 71), .ref (a 51), .int 6]) (rest := []) ⟨hx, hb, hml, hown, hT⟩ (c_X12_copies6 l D cy (a 71) (a 51) ((va_up (va_up (va_up (va_up (va_up (va_up (va_up (va_up r 40 u_9) 41 u_14) 42 u_19) 43 u_24) 44 u_29) 45 u_34) 46 u_39) 50 u_44) 71) ((va_up (va_up (va_up (va_up (va_up (va_up (va_up (va_up r 40 u_9) 41 u_14) 42 u_19) 43 u_24) 44 u_29) 45 u_34) 46 u_39) 50 u_44) 51) _) (va_cwS 3 hT (gS t_236 t_237 t_238 t_6) rfl rfl rfl (by decide +kernel) ⟨Nat.le_of_ble_eq_true rfl, Nat.le_of_ble_eq_true rfl⟩) (rQ_s hP_45 hK hD_47) rfl rfl hl.1 rfl (lv_room (Nat.le_of_ble_eq_true rfl)) dX12_undo_139 ⟨Nat.le_of_ble_eq_true rfl, Nat.le_of_ble_eq_true rfl⟩) hS (fun q _ h => hF_46 q h) hF_46 (fun u_49 t H1 locs ht hvm hr_48 hB hz1 hk1 hS => ?_)
    obtain ⟨hP1, hK1, hD1⟩ := hB
    rw [ht] at hP1
    obtain ⟨hP, hD⟩ := rj (wc := [(a 71, .inl (cy 0, 6, .inl ((va_up (va_up (va_up (va_up (va_up (va_up (va_up (va_up r 40 u_9) 41 u_14) 42 u_19) 43 u_24) 44 u_29) 45 u_34) 46 u_39) 50 u_44) 71))), (a 51, .inl (cy 0, 6, .inl ((va_up (va_up (va_up (va_up (va_up (va_up (va_up (va_up r 40 u_9) 41 u_14) 42 u_19) 43 u_24) 44 u_29) 45 u_34) 46 u_39) 50 u_44) 51)))]) (w1 := [(a 71, .inl (cy 0, 6, .inl ((va_up (va_up (va_up (va_up (va_up (va_up (va_up (va_up r 40 u_9) 41 u_14) 42 u_19) 43 u_24) 44 u_29) 45 u_34) 46 u_39) 50 u_44) 71))), (a 51, .inl (cy 0, 6, .inl u_49))]) hP hD [71, 51] rfl rfl hk1 hP1
    have hP : va_P D vwCl (mW cy a (upd (upd i 51 (i 79)) 1 (i 80)) (va_up (va_up (va_up (va_up (va_up (va_up (va_up (va_up (va_up r 40 u_9) 41 u_14) 42 u_19) 43 u_24) 44 u_29) 45 u_34) 46 u_39) 50 u_44) 51 u_49) rl) H1 := hP
    have hD : va_D A (mW cy a (upd (upd i 51 (i 79)) 1 (i 80)) (va_up (va_up (va_up (va_up (va_up (va_up (va_up (va_up (va_up r 40 u_9) 41 u_14) 42 u_19) 43 u_24) 44 u_29) 45 u_34) 46 u_39) 50 u_44) 51 u_49) rl) := hD
    have hRr : mRr (va_up (va_up (va_up (va_up (va_up (va_up (va_up (va_up (va_up r 40 u_9) 41 u_14) 42 u_19) 43 u_24) 44 u_29) 45 u_34) 46 u_39) 50 u_44) 51 u_49) := Rr_up hRr 51 u_49 (fun j => (hr_48 j).symm ▸ (show 0 ≤ (if j < 6 then ((va_up (va_up (va_up (va_up (va_up (va_up (va_up (va_up r 40 u_9) 41 u_14) 42 u_19) 43 u_24) 44 u_29) 45 u_34) 46 u_39) 50 u_44) 71) j else ((va_up (va_up (va_up (va_up (va_up (va_up (va_up (va_up r 40 u_9) 41 u_14) 42 u_19) 43 u_24) 44 u_29) 45 u_34) 46 u_39) 50 u_44) 51) j).toInt ∧ (if j < 6 then ((va_up (va_up (va_up (va_up (va_up (va_up (va_up (va_up r 40 u_9) 41 u_14) 42 u_19) 43 u_24) 44 u_29) 45 u_34) 46 u_39) 50 u_44) 71) j else ((va_up (va_up (va_up (va_up (va_up (va_up (va_up (va_up r 40 u_9) 41 u_14) 42 u_19) 43 u_24) 44 u_29) 45 u_34) 46 u_39) 50 u_44) 51) j).toInt ≤ 1000000 from (by split; exact hRr 71 j; exact hRr 51 j)))
    have hEr : mEr [40, 41, 42, 43, 44, 45, 46, 47, 50, 51] _ (va_up (va_up (va_up (va_up (va_up (va_up (va_up (va_up (va_up r 40 u_9) 41 u_14) 42 u_19) 43 u_24) 44 u_29) 45 u_34) 46 u_39) 50 u_44) 51 u_49) := Er_up hEr 51 _ (by decide)
    refine lv_iconst (v := 0) hx hb dX12_undo_142 (by decide) ?_
    refine lv_istore_n (lv' := [(1, .int 0), (0, .ref (a 0))]) hx hb dX12_undo_143 rfl hl (by decide) rfl (fun ls hl => ?_)
    have loop_50 : ∀ (n : Nat) (x50_1 : Int32) (r50 : Nat → Nat → Int32) (H : Heap) (locs : List Loc) (ls : Array Slot), (30 - x50_1.toInt).toNat < n → (0 ≤ x50_1.toInt ∧ x50_1.toInt ≤ 30) → mRr r50 → mEr [40, 41, 42, 43, 44, 45, 46, 47, 50, 51] r r50 → (mEr [47] (va_up (va_up (va_up (va_up (va_up (va_up (va_up (va_up (va_up r 40 u_9) 41 u_14) 42 u_19) 43 u_24) 44 u_29) 45 u_34) 46 u_39) 50 u_44) 51 u_49) r50) → va_P D vwCl (mW cy a (upd (upd i 51 (i 79)) 1 (i 80)) r50 rl) H → va_D A (mW cy a (upd (upd i 51 (i 79)) 1 (i 80)) r50 rl) → va_S A s.heap H locs → lv_has ls 2 [(1, .int x50_1), (0, .ref (a 0))] → W p l e ({ frames := 2, cells := 0, slots := 0, locals := 47 } : Room) s m ([.ref (a 0)] : List Value).toArray below meth c H locs 0 0 Q (F0 m 144 ls []) := by
      intro n
      induction n with
      | zero =>
        intro x50_1 r50 H locs ls hm50 hf50_0 hRr hEr hx50 hP hD hS hl
        exact absurd hm50 (by omega)
      | succ n ih50 =>
        intro x50_1 r50 H locs ls hm50 hf50_0 hRr hEr hx50 hP hD hS hl
        refine lv_iload_n hx hb dX12_undo_144 rfl (lv_at hl 0 rfl) ?_
        refine lv_bipush (v := 30) hx hb dX12_undo_145 (by decide) ?_
        refine lv_icmp_ge (tgt := 168) hx hb dX12_undo_147 (by decide) (fun c_51 => ?_) (fun c_51 => ?_)
        · have c_51 : 30 ≤ x50_1.toInt := b_le c_51
          refine lv_iconst (v := 1) hx hb dX12_undo_168 (by decide) ?_
          subst hQ
          have ha : ∀ c, c < 30 → r50 40 c = r 63 c := by
            intro c hc
            rw [hx50 40 (by decide)]
            exact (hr_8 c).trans (if_pos hc)
          have hb9 : ∀ c, c < 30 → r50 41 c = r 64 c := by
            intro c hc
            rw [hx50 41 (by decide)]
            exact (hr_13 c).trans (if_pos hc)
          have hc40 : ∀ c, c < 30 → r50 40 c = r 63 c := by
            intro c hc
            rw [hx50 40 (by decide)]
            exact (hr_8 c).trans (if_pos hc)
          have hc41 : ∀ c, c < 30 → r50 41 c = r 64 c := by
            intro c hc
            rw [hx50 41 (by decide)]
            exact (hr_13 c).trans (if_pos hc)
          have hc42 : ∀ c, c < 30 → r50 42 c = r 65 c := by
            intro c hc
            rw [hx50 42 (by decide)]
            exact (hr_18 c).trans (if_pos hc)
          have hc43 : ∀ c, c < 30 → r50 43 c = r 66 c := by
            intro c hc
            rw [hx50 43 (by decide)]
            exact (hr_23 c).trans (if_pos hc)
          have hc44 : ∀ c, c < 30 → r50 44 c = r 67 c := by
            intro c hc
            rw [hx50 44 (by decide)]
            exact (hr_28 c).trans (if_pos hc)
          have hc45 : ∀ c, c < 30 → r50 45 c = r 68 c := by
            intro c hc
            rw [hx50 45 (by decide)]
            exact (hr_33 c).trans (if_pos hc)
          have hc46 : ∀ c, c < 30 → r50 46 c = r 69 c := by
            intro c hc
            rw [hx50 46 (by decide)]
            exact (hr_38 c).trans (if_pos hc)
          have hc50 : ∀ c, c < 6 → r50 50 c = r 70 c := by
            intro c hc
            rw [hx50 50 (by decide)]
            exact (hr_43 c).trans (if_pos hc)
          have hc51 : ∀ c, c < 6 → r50 51 c = r 71 c := by
            intro c hc
            rw [hx50 51 (by decide)]
            exact (hr_48 c).trans (if_pos hc)
          exact W.zret hx hb hr rfl (fun t ht hW => ⟨⟨_, (upd (upd i 51 (i 79)) 1 (i 80), r50), rfl, ⟨hRi, hRr, hEi, hEr, ⟨mE_undo hE (by have h9 : (i 79).toInt ≤ 30 := (hRi0 79).2; exact h9) rfl rfl rfl rfl ha hb9 (hx50 4 (by decide)) (hx50 10 (by decide)) (hx50 14 (by decide)) (hx50 27 (by decide)) (hx50 28 (by decide)) (hx50 29 (by decide)) (hx50 30 (by decide)) (hx50 31 (by decide)) (hx50 63 (by decide)) (hx50 64 (by decide)), ⟨Or.inl ⟨rfl, by omega⟩, fun _ => ⟨rfl, rfl, hc40, hc41, hc42, hc43, hc44, hc45, hc46, hc50, hc51⟩, fun h9 => absurd (by omega) h9⟩⟩⟩, by rw [ht]; exact hP, va_K.moved hW.alike hK, hD⟩, hS.F ht⟩) hS.2.2 dX12_undo_169
        · have c_51 : x50_1.toInt < 30 := b_nle c_51
          refine lv_aload_n hx hb dX12_undo_150 rfl (lv_at hl 1 rfl) ?_
          refine va_get (D := D) (ci := 12) (v := .ref (a 47)) (C := RX12) (T := TX12) (N := 91) hx hb hT iX12 hown hK hP 0 rfl rfl 59 (by decide) (hT _ t_152) (fun _ h9 => h9) rfl dX12_undo_151 ?_
          refine lv_iload_n hx hb dX12_undo_154 rfl (lv_at hl 0 rfl) ?_
          refine lv_aload_n hx hb dX12_undo_155 rfl (lv_at hl 1 rfl) ?_
          refine va_get (D := D) (ci := 12) (v := .ref (a 72)) (C := RX12) (T := TX12) (N := 91) hx hb hT iX12 hown hK hP 0 rfl rfl 90 (by decide) (hT _ t_247) (fun _ h9 => h9) rfl dX12_undo_156 ?_
          refine lv_iload_n hx hb dX12_undo_159 rfl (lv_at hl 0 rfl) ?_
          refine va_zald hx hb hK hP 72 2 rfl rfl (vp_inI (by omega) (by omega)) dX12_undo_160 ?_
          refine lv_topi (fun v_52 ev_52 => ?_)
          refine va_zast hx hb hK hP hD hS 47 2 rfl rfl (vp_inI (by omega) (by omega)) dX12_undo_161 (fun H locs hP hD hS => ?_)
          rw [mS47] at hP hD
          have hRr : mRr (va_up r50 47 (upd (r50 47) x50_1.toNatClampNeg (vp_nar .boolean v_52))) := Rr_upd hRr 47 (x50_1.toNatClampNeg) (vp_nar .boolean v_52) (b_rg _)
          have hEr : mEr [40, 41, 42, 43, 44, 45, 46, 47, 50, 51] _ (va_up r50 47 (upd (r50 47) x50_1.toNatClampNeg (vp_nar .boolean v_52))) := Er_up hEr 47 _ (by decide)
          obtain ⟨x_53, ex_53⟩ : ∃ y : Int32, y = x50_1 + 1 := ⟨_, rfl⟩
          refine lv_iinc (v := x_53) (lv' := [(1, .int x_53), (0, .ref (a 0))]) hx hb dX12_undo_162 hl (k := 0) rfl (by rw [ex_53]; rfl) (by decide) rfl (fun ls hl => ?_)
          have hx_53 : x_53.toInt = x50_1.toInt + 1 := by rw [ex_53]; have := b_rg x50_1; exact i_add (a := x50_1.toInt) (b := 1) rfl rfl (by omega) (by omega)
          refine lv_goto (tgt := 144) hx hb dX12_undo_165 (by decide) ?_
          exact ih50 x_53 (va_up r50 47 (upd (r50 47) x50_1.toNatClampNeg (vp_nar .boolean v_52))) _ _ _ (by first | omega | (simp only [Int.toNat]; omega)) (by first | omega | decide) hRr hEr (Er_up hx50 47 _ (by decide)) hP hD hS (lv_sub hl [0, 1] rfl)
    exact loop_50 _ 0 (va_up (va_up (va_up (va_up (va_up (va_up (va_up (va_up (va_up r 40 u_9) 41 u_14) 42 u_19) 43 u_24) 44 u_29) 45 u_34) 46 u_39) 50 u_44) 51 u_49) _ _ _ (Nat.lt_succ_self _) (by first | omega | decide) hRr hEr (Er_rf) hP hD hS hl
  · have c_2 : (i 78).toInt = 0 := b_nne c_2
    refine lv_iconst (v := 0) hx hb dX12_undo_7 (by decide) ?_
    subst hQ
    exact W.zret hx hb hr rfl (fun t ht hW => ⟨⟨_, (i, r), rfl, ⟨hRi, hRr, hEi, hEr, ⟨hE, ⟨Or.inr ⟨rfl, by omega⟩, fun h9 => absurd h9 (by omega), fun _ => ⟨Ei_rf, Er_rf⟩⟩⟩⟩, by rw [ht]; exact hP, va_K.moved hW.alike hK, hD⟩, hS.F ht⟩) hS.2.2 dX12_undo_8
set_option maxHeartbeats 4000000 in
set_option maxRecDepth 100000 in
theorem c_X1_copyFrom_r409 (l : Launch) (D : va_G) (cy : Nat → ClassId) (a : Nat → Nat) (i : Nat → Int32) (r : Nat → Nat → Int32) (q : Nat → Option Nat) (tl : va_W) (sz : Nat) (hRi : yRi i) (hRr : yRr r) : Met l yX1_copyFrom (Cond.code yX1_copyFrom cX1_copyFrom 3 none :: gT) { frames := 1, cells := 0, slots := 0, locals := 24 } (va_Pc [.ref (a 40), .ref (a 29)] (rQ D cy (xW cy a i r q (a 20) (a 12) ++ tl) sz)) (va_Qv (fun u : (Nat → Int32) × (Nat → Nat → Int32) => yRi u.1 ∧ yRr u.2 ∧ mEi [12, 13] i u.1 ∧ mEr [41, 42, 43, 44, 45, 46, 47, 48, 49, 50] r u.2 ∧ (u.1 12 = i 10 ∧ u.1 13 = i 11 ∧ CP (i 10).toInt (u.2 41) (r 30) ∧ CP (i 10).toInt (u.2 42) (r 31) ∧ CP (i 10).toInt (u.2 43) (r 32) ∧ CP (i 10).toInt (u.2 44) (r 33) ∧ CP (i 10).toInt (u.2 45) (r 34) ∧ CP (i 10).toInt (u.2 46) (r 35) ∧ CP (i 10).toInt (u.2 47) (r 36) ∧ CP 6 (u.2 49) (r 38) ∧ CP 6 (u.2 50) (r 39))) (fun (u : (Nat → Int32) × (Nat → Nat → Int32)) t => va_P D vwCl (xW cy a u.1 u.2 q (a 20) (a 12) ++ tl) t.heap ∧ va_K D vwCl (vT cy) t ∧ va_D (va_A (xW cy a i r q (a 20) (a 12) ++ tl) sz) (xW cy a u.1 u.2 q (a 20) (a 12) ++ tl)) (va_A (xW cy a i r q (a 20) (a 12) ++ tl) sz)) 0 0 (va_A (xW cy a i r q (a 20) (a 12) ++ tl) sz) := by
  refine Met.ofQ (cc := cX1_copyFrom) (maxL := 3) (ret := none) (by decide) rfl ?_
  intro p e s m args below meth c s₁ B hml hv Q hQ
  obtain ⟨rfl, hsz, hP, hK, hD0⟩ := hv
  have hx := B.exec
  have hb := B.bytes
  have hr := B.returns
  have hlocks := B.notSynchronized
  have hT : ∀ w ∈ gT, w.before _ s = true := fun w h => atoms_spec (ws := (Cond.code yX1_copyFrom cX1_copyFrom 3 none :: gT)) B.pre w (List.mem_cons_of_mem _ h)
  have hown : s.vm.findClass RX1 = some m.cls := findClass_of_methodNamed B.named
  subst hsz
  have hD := hD0.self (sz := s.heap.size)
  generalize hAe : va_A (xW cy a i r q (a 20) (a 12) ++ tl) s.heap.size = A at hD hQ
  have hA : ∀ q : Nat, s.heap.size ≤ q → A q := fun q h => by rw [← hAe]; exact Or.inr h
  have hS : va_S A s.heap s.heap [] := va_S.rf
  have hl := lv_entry ([.ref (a 40), .ref (a 29)]) (n := 3) (Nat.le_of_ble_eq_true rfl)
  rw [lg_entry_eq]
  generalize (lg_sl ([.ref (a 40), .ref (a 29)]) ++ List.replicate (3 - (lg_sl ([.ref (a 40), .ref (a 29)])).length) Slot.unset).toArray = ls at hl ⊢
  have hl : lv_has ls 3 [(0, .ref (a 40)), (1, .ref (a 29))] := hl
  have hEi : mEi [12, 13] i i := Ei_rf
  have hEr : mEr [41, 42, 43, 44, 45, 46, 47, 48, 49, 50] r r := Er_rf
  have hgS : 0 ≤ (i 10).toInt ∧ (i 10).toInt ≤ 30 := hRi 10
  refine lv_aload_n hx hb dX1_copyFrom_0 rfl (lv_at hl 0 rfl) ?_
  refine lv_aload_n hx hb dX1_copyFrom_1 rfl (lv_at hl 1 rfl) ?_
  refine va_get (D := D) (ci := 1) (v := .int (i 10)) (C := RX1) (T := TX1) (N := 12) hx hb hT iX1 hown hK hP 29 rfl rfl 0 (by decide) (hT _ t_342) (fun _ h9 => h9) rfl dX1_copyFrom_2 ?_
  have hg_1 : 0 ≤ (i 10).toInt ∧ (i 10).toInt ≤ 30 := hRi 10
  refine va_put (D := D) (ci := 1) (v := .int (i 10)) (ty := .int) (C := RX1) (T := TX1) (N := 12) hx hb hT iX1 tyX1 tyX1_ok nmX1 hown hK hP hD hS 40 rfl rfl 0 (by decide) (hT _ t_342) (fun _ h9 => h9) rfl (by decide +kernel) rfl rfl (Nat.le_of_ble_eq_true rfl) dX1_copyFrom_5 (fun H locs hP hD hS => ?_)
  rw [zP12] at hP hD
  have hRi := Yi_upd hRi 12 (i 10) ⟨by show (0 : Int) ≤ (i 10).toInt; omega, by show (i 10).toInt ≤ (30 : Int); omega⟩
  have hEi := Ei_upd hEi 12 (i 10) (by decide)
  refine lv_aload_n hx hb dX1_copyFrom_8 rfl (lv_at hl 0 rfl) ?_
  refine lv_aload_n hx hb dX1_copyFrom_9 rfl (lv_at hl 1 rfl) ?_
  refine va_get (D := D) (ci := 1) (v := .int (i 11)) (C := RX1) (T := TX1) (N := 12) hx hb hT iX1 hown hK hP 29 rfl rfl 11 (by decide) (hT _ t_353) (fun _ h9 => h9) rfl dX1_copyFrom_10 ?_
  have hg_2 : 0 ≤ (i 11).toInt ∧ (i 11).toInt ≤ 65535 := hRi 11
  refine va_put (D := D) (ci := 1) (v := .int (i 11)) (ty := .int) (C := RX1) (T := TX1) (N := 12) hx hb hT iX1 tyX1 tyX1_ok nmX1 hown hK hP hD hS 40 rfl rfl 11 (by decide) (hT _ t_353) (fun _ h9 => h9) rfl (by decide +kernel) rfl rfl (Nat.le_of_ble_eq_true rfl) dX1_copyFrom_13 (fun H locs hP hD hS => ?_)
  rw [zP13] at hP hD
  have hRi := Yi_upd hRi 13 (i 11) ⟨by show (0 : Int) ≤ (i 11).toInt; omega, by show (i 11).toInt ≤ (65535 : Int); omega⟩
  have hEi := Ei_upd hEi 13 (i 11) (by decide)
  refine lv_iconst (v := 0) hx hb dX1_copyFrom_16 (by decide) ?_
  refine lv_istore_n (lv' := [(2, .int 0), (0, .ref (a 40)), (1, .ref (a 29))]) hx hb dX1_copyFrom_17 rfl hl (by decide) rfl (fun ls hl => ?_)
  have loop_3 : ∀ (n : Nat) (x3_2 : Int32) (r3 : Nat → Nat → Int32) (H : Heap) (locs : List Loc) (ls : Array Slot), (30 - x3_2.toInt).toNat < n → (0 ≤ x3_2.toInt ∧ x3_2.toInt ≤ 30) → yRr r3 → mEr [41, 42, 43, 44, 45, 46, 47, 48, 49, 50] r r3 → (CP x3_2.toInt (r3 41) (r 30) ∧ CP x3_2.toInt (r3 42) (r 31) ∧ CP x3_2.toInt (r3 43) (r 32) ∧ CP x3_2.toInt (r3 44) (r 33) ∧ CP x3_2.toInt (r3 45) (r 34) ∧ CP x3_2.toInt (r3 46) (r 35) ∧ CP x3_2.toInt (r3 47) (r 36)) → va_P D vwCl (xW cy a (upd (upd i 12 (i 10)) 13 (i 11)) r3 q (a 20) (a 12) ++ tl) H → va_D A (xW cy a (upd (upd i 12 (i 10)) 13 (i 11)) r3 q (a 20) (a 12) ++ tl) → va_S A s.heap H locs → lv_has ls 3 [(2, .int x3_2), (0, .ref (a 40)), (1, .ref (a 29))] → W p l e ({ frames := 1, cells := 0, slots := 0, locals := 24 } : Room) s m ([.ref (a 40), .ref (a 29)] : List Value).toArray below meth c H locs 0 0 Q (F0 m 18 ls []) := by
    intro n
    induction n with
    | zero =>
      intro x3_2 r3 H locs ls hm3 hf3_0 hRr hEr hx3 hP hD hS hl
      exact absurd hm3 (by omega)
    | succ n ih3 =>
      intro x3_2 r3 H locs ls hm3 hf3_0 hRr hEr hx3 hP hD hS hl
      refine lv_iload_n hx hb dX1_copyFrom_18 rfl (lv_at hl 0 rfl) ?_
      refine lv_aload_n hx hb dX1_copyFrom_19 rfl (lv_at hl 1 rfl) ?_
      refine va_get (D := D) (ci := 1) (v := .int (i 10)) (C := RX1) (T := TX1) (N := 12) hx hb hT iX1 hown hK hP 40 rfl rfl 0 (by decide) (hT _ t_342) (fun _ h9 => h9) rfl dX1_copyFrom_20 ?_
      refine lv_icmp_ge (tgt := 128) hx hb dX1_copyFrom_23 (by decide) (fun c_4 => ?_) (fun c_4 => ?_)
      · have c_4 : (i 10).toInt ≤ x3_2.toInt := b_le c_4
        have hle : (i 10).toInt ≤ x3_2.toInt := by omega
        refine lv_iconst (v := 0) hx hb dX1_copyFrom_128 (by decide) ?_
        refine lv_istore_n (lv' := [(2, .int 0), (0, .ref (a 40)), (1, .ref (a 29))]) hx hb dX1_copyFrom_129 rfl hl (by decide) rfl (fun ls hl => ?_)
        have loop_5 : ∀ (n : Nat) (x5_2 : Int32) (r5 : Nat → Nat → Int32) (H : Heap) (locs : List Loc) (ls : Array Slot), (6 - x5_2.toInt).toNat < n → (0 ≤ x5_2.toInt ∧ x5_2.toInt ≤ 6) → yRr r5 → mEr [41, 42, 43, 44, 45, 46, 47, 48, 49, 50] r r5 → (mEr [49, 50] r3 r5 ∧ CP x5_2.toInt (r5 49) (r 38) ∧ CP x5_2.toInt (r5 50) (r 39)) → va_P D vwCl (xW cy a (upd (upd i 12 (i 10)) 13 (i 11)) r5 q (a 20) (a 12) ++ tl) H → va_D A (xW cy a (upd (upd i 12 (i 10)) 13 (i 11)) r5 q (a 20) (a 12) ++ tl) → va_S A s.heap H locs → lv_has ls 3 [(2, .int x5_2), (0, .ref (a 40)), (1, .ref (a 29))] → W p l e ({ frames := 1, cells := 0, slots := 0, locals := 24 } : Room) s m ([.ref (a 40), .ref (a 29)] : List Value).toArray below meth c H locs 0 0 Q (F0 m 130 ls []) := by
          intro n
          induction n with
          | zero =>
            intro x5_2 r5 H locs ls hm5 hf5_0 hRr hEr hx5 hP hD hS hl
            exact absurd hm5 (by omega)
          | succ n ih5 =>
            intro x5_2 r5 H locs ls hm5 hf5_0 hRr hEr hx5 hP hD hS hl
            refine lv_iload_n hx hb dX1_copyFrom_130 rfl (lv_at hl 0 rfl) ?_
            refine lv_bipush (v := 6) hx hb dX1_copyFrom_131 (by decide) ?_
            refine lv_icmp_ge (tgt := 166) hx hb dX1_copyFrom_133 (by decide) (fun c_6 => ?_) (fun c_6 => ?_)
            · have c_6 : 6 ≤ x5_2.toInt := b_le c_6
              subst hQ
              have h6 : CP 6 (r5 49) (r 38) := CP_le hx5.2.1 (by omega)
              have h7 : CP 6 (r5 50) (r 39) := CP_le hx5.2.2 (by omega)
              have hq41 : CP (i 10).toInt (r5 41) (r 30) := by rw [hx5.1 41 (by decide)]; exact CP_le (hx3.1) hle
              have hq42 : CP (i 10).toInt (r5 42) (r 31) := by rw [hx5.1 42 (by decide)]; exact CP_le (hx3.2.1) hle
              have hq43 : CP (i 10).toInt (r5 43) (r 32) := by rw [hx5.1 43 (by decide)]; exact CP_le (hx3.2.2.1) hle
              have hq44 : CP (i 10).toInt (r5 44) (r 33) := by rw [hx5.1 44 (by decide)]; exact CP_le (hx3.2.2.2.1) hle
              have hq45 : CP (i 10).toInt (r5 45) (r 34) := by rw [hx5.1 45 (by decide)]; exact CP_le (hx3.2.2.2.2.1) hle
              have hq46 : CP (i 10).toInt (r5 46) (r 35) := by rw [hx5.1 46 (by decide)]; exact CP_le (hx3.2.2.2.2.2.1) hle
              have hq47 : CP (i 10).toInt (r5 47) (r 36) := by rw [hx5.1 47 (by decide)]; exact CP_le (hx3.2.2.2.2.2.2) hle
              exact W.vret hx hb hr (fun t ht hW => ⟨⟨(upd (upd i 12 (i 10)) 13 (i 11), r5), rfl, ⟨hRi, hRr, hEi, hEr, ⟨rfl, rfl, hq41, hq42, hq43, hq44, hq45, hq46, hq47, h6, h7⟩⟩, by rw [ht]; exact hP, va_K.moved hW.alike hK, hD⟩, hS.F ht⟩) hS.2.2 dX1_copyFrom_166
            · have c_6 : x5_2.toInt < 6 := b_nle c_6
              refine lv_aload_n hx hb dX1_copyFrom_136 rfl (lv_at hl 1 rfl) ?_
              refine va_get (D := D) (ci := 1) (v := .ref (a 49)) (C := RX1) (T := TX1) (N := 12) hx hb hT iX1 hown hK hP 40 rfl rfl 9 (by decide) (hT _ t_346) (fun _ h9 => h9) rfl dX1_copyFrom_137 ?_
              refine lv_iload_n hx hb dX1_copyFrom_140 rfl (lv_at hl 0 rfl) ?_
              refine lv_aload_n hx hb dX1_copyFrom_141 rfl (lv_at hl 2 rfl) ?_
              refine va_get (D := D) (ci := 1) (v := .ref (a 38)) (C := RX1) (T := TX1) (N := 12) hx hb hT iX1 hown hK hP 29 rfl rfl 9 (by decide) (hT _ t_346) (fun _ h9 => h9) rfl dX1_copyFrom_142 ?_
              refine lv_iload_n hx hb dX1_copyFrom_145 rfl (lv_at hl 0 rfl) ?_
              refine va_iald hx hb hK hP 38 0 rfl rfl (vp_inI (by omega) (by omega)) dX1_copyFrom_146 ?_
              refine lv_topi (fun v_7 ev_7 => ?_)
              have hgv_7 : -1 ≤ v_7.toInt ∧ v_7.toInt ≤ 999999 := by rw [ev_7]; exact hRr 38 _
              refine va_iast hx hb hK hP hD hS 49 0 rfl rfl (vp_inI (by omega) (by omega)) dX1_copyFrom_147 (fun H locs hP hD hS => ?_)
              rw [zS49] at hP hD
              have hRr : yRr (va_up r5 49 (upd (r5 49) x5_2.toNatClampNeg v_7)) := Yr_upd hRr 49 (x5_2.toNatClampNeg) v_7 ⟨by show (-1 : Int) ≤ v_7.toInt; omega, by show v_7.toInt ≤ (999999 : Int); omega⟩
              have hEr : mEr [41, 42, 43, 44, 45, 46, 47, 48, 49, 50] _ (va_up r5 49 (upd (r5 49) x5_2.toNatClampNeg v_7)) := Er_up hEr 49 _ (by decide)
              refine lv_aload_n hx hb dX1_copyFrom_148 rfl (lv_at hl 1 rfl) ?_
              refine va_get (D := D) (ci := 1) (v := .ref (a 50)) (C := RX1) (T := TX1) (N := 12) hx hb hT iX1 hown hK hP 40 rfl rfl 10 (by decide) (hT _ t_347) (fun _ h9 => h9) rfl dX1_copyFrom_149 ?_
              refine lv_iload_n hx hb dX1_copyFrom_152 rfl (lv_at hl 0 rfl) ?_
              refine lv_aload_n hx hb dX1_copyFrom_153 rfl (lv_at hl 2 rfl) ?_
              refine va_get (D := D) (ci := 1) (v := .ref (a 39)) (C := RX1) (T := TX1) (N := 12) hx hb hT iX1 hown hK hP 29 rfl rfl 10 (by decide) (hT _ t_347) (fun _ h9 => h9) rfl dX1_copyFrom_154 ?_
              refine lv_iload_n hx hb dX1_copyFrom_157 rfl (lv_at hl 0 rfl) ?_
              refine va_iald hx hb hK hP 39 0 rfl rfl (vp_inI (by omega) (by omega)) dX1_copyFrom_158 ?_
              refine lv_topi (fun v_8 ev_8 => ?_)
              have hgv_8 : -1 ≤ v_8.toInt ∧ v_8.toInt ≤ 999999 := by rw [ev_8]; exact hRr 39 _
              refine va_iast hx hb hK hP hD hS 50 0 rfl rfl (vp_inI (by omega) (by omega)) dX1_copyFrom_159 (fun H locs hP hD hS => ?_)
              rw [zS50] at hP hD
              have hRr : yRr (va_up (va_up r5 49 (upd (r5 49) x5_2.toNatClampNeg v_7)) 50 (upd (r5 50) x5_2.toNatClampNeg v_8)) := Yr_upd hRr 50 (x5_2.toNatClampNeg) v_8 ⟨by show (-1 : Int) ≤ v_8.toInt; omega, by show v_8.toInt ≤ (999999 : Int); omega⟩
              have hEr : mEr [41, 42, 43, 44, 45, 46, 47, 48, 49, 50] _ (va_up (va_up r5 49 (upd (r5 49) x5_2.toNatClampNeg v_7)) 50 (upd (r5 50) x5_2.toNatClampNeg v_8)) := Er_up hEr 50 _ (by decide)
              obtain ⟨x_9, ex_9⟩ : ∃ y : Int32, y = x5_2 + 1 := ⟨_, rfl⟩
              refine lv_iinc (v := x_9) (lv' := [(2, .int x_9), (0, .ref (a 40)), (1, .ref (a 29))]) hx hb dX1_copyFrom_160 hl (k := 0) rfl (by rw [ex_9]; rfl) (by decide) rfl (fun ls hl => ?_)
              have hx_9 : x_9.toInt = x5_2.toInt + 1 := by rw [ex_9]; have := b_rg x5_2; exact i_add (a := x5_2.toInt) (b := 1) rfl rfl (by omega) (by omega)
              refine lv_goto (tgt := 130) hx hb dX1_copyFrom_163 (by decide) ?_
              exact ih5 x_9 (va_up (va_up r5 49 (upd (r5 49) x5_2.toNatClampNeg v_7)) 50 (upd (r5 50) x5_2.toNatClampNeg v_8)) _ _ _ (by first | omega | (simp only [Int.toNat]; omega)) (by first | omega | decide) hRr hEr ⟨Er_up (Er_up hx5.1 49 _ (by decide)) 50 _ (by decide), CP_s hx5.2.1 hx_9 (by omega) (ev_7.trans (congrFun (hEr 38 (by decide)) _)), CP_s hx5.2.2 hx_9 (by omega) (ev_8.trans (congrFun (hEr 39 (by decide)) _))⟩ hP hD hS (lv_sub hl [0, 1, 2] rfl)
        exact loop_5 _ 0 r3 _ _ _ (Nat.lt_succ_self _) (by first | omega | decide) hRr hEr ⟨Er_rf, CP_0, CP_0⟩ hP hD hS hl
      · have c_4 : x3_2.toInt < (i 10).toInt := b_nle c_4
        refine lv_aload_n hx hb dX1_copyFrom_26 rfl (lv_at hl 1 rfl) ?_
        refine va_get (D := D) (ci := 1) (v := .ref (a 41)) (C := RX1) (T := TX1) (N := 12) hx hb hT iX1 hown hK hP 40 rfl rfl 1 (by decide) (hT _ t_343) (fun _ h9 => h9) rfl dX1_copyFrom_27 ?_
        refine lv_iload_n hx hb dX1_copyFrom_30 rfl (lv_at hl 0 rfl) ?_
        refine lv_aload_n hx hb dX1_copyFrom_31 rfl (lv_at hl 2 rfl) ?_
        refine va_get (D := D) (ci := 1) (v := .ref (a 30)) (C := RX1) (T := TX1) (N := 12) hx hb hT iX1 hown hK hP 29 rfl rfl 1 (by decide) (hT _ t_343) (fun _ h9 => h9) rfl dX1_copyFrom_32 ?_
        refine lv_iload_n hx hb dX1_copyFrom_35 rfl (lv_at hl 0 rfl) ?_
        refine va_iald hx hb hK hP 30 0 rfl rfl (vp_inI (by omega) (by omega)) dX1_copyFrom_36 ?_
        refine lv_topi (fun v_10 ev_10 => ?_)
        have hgv_10 : 0 ≤ v_10.toInt ∧ v_10.toInt ≤ 5 := by rw [ev_10]; exact hRr 30 _
        refine va_iast hx hb hK hP hD hS 41 0 rfl rfl (vp_inI (by omega) (by omega)) dX1_copyFrom_37 (fun H locs hP hD hS => ?_)
        rw [zS41] at hP hD
        have hRr : yRr (va_up r3 41 (upd (r3 41) x3_2.toNatClampNeg v_10)) := Yr_upd hRr 41 (x3_2.toNatClampNeg) v_10 ⟨by show (0 : Int) ≤ v_10.toInt; omega, by show v_10.toInt ≤ (5 : Int); omega⟩
        have hEr : mEr [41, 42, 43, 44, 45, 46, 47, 48, 49, 50] _ (va_up r3 41 (upd (r3 41) x3_2.toNatClampNeg v_10)) := Er_up hEr 41 _ (by decide)
        refine lv_aload_n hx hb dX1_copyFrom_38 rfl (lv_at hl 1 rfl) ?_
        refine va_get (D := D) (ci := 1) (v := .ref (a 42)) (C := RX1) (T := TX1) (N := 12) hx hb hT iX1 hown hK hP 40 rfl rfl 2 (by decide) (hT _ t_344) (fun _ h9 => h9) rfl dX1_copyFrom_39 ?_
        refine lv_iload_n hx hb dX1_copyFrom_42 rfl (lv_at hl 0 rfl) ?_
        refine lv_aload_n hx hb dX1_copyFrom_43 rfl (lv_at hl 2 rfl) ?_
        refine va_get (D := D) (ci := 1) (v := .ref (a 31)) (C := RX1) (T := TX1) (N := 12) hx hb hT iX1 hown hK hP 29 rfl rfl 2 (by decide) (hT _ t_344) (fun _ h9 => h9) rfl dX1_copyFrom_44 ?_
        refine lv_iload_n hx hb dX1_copyFrom_47 rfl (lv_at hl 0 rfl) ?_
        refine va_iald hx hb hK hP 31 0 rfl rfl (vp_inI (by omega) (by omega)) dX1_copyFrom_48 ?_
        refine lv_topi (fun v_11 ev_11 => ?_)
        have hgv_11 : 0 ≤ v_11.toInt ∧ v_11.toInt ≤ 19 := by rw [ev_11]; exact hRr 31 _
        refine va_iast hx hb hK hP hD hS 42 0 rfl rfl (vp_inI (by omega) (by omega)) dX1_copyFrom_49 (fun H locs hP hD hS => ?_)
        rw [zS42] at hP hD
        have hRr : yRr (va_up (va_up r3 41 (upd (r3 41) x3_2.toNatClampNeg v_10)) 42 (upd (r3 42) x3_2.toNatClampNeg v_11)) := Yr_upd hRr 42 (x3_2.toNatClampNeg) v_11 ⟨by show (0 : Int) ≤ v_11.toInt; omega, by show v_11.toInt ≤ (19 : Int); omega⟩
        have hEr : mEr [41, 42, 43, 44, 45, 46, 47, 48, 49, 50] _ (va_up (va_up r3 41 (upd (r3 41) x3_2.toNatClampNeg v_10)) 42 (upd (r3 42) x3_2.toNatClampNeg v_11)) := Er_up hEr 42 _ (by decide)
        refine lv_aload_n hx hb dX1_copyFrom_50 rfl (lv_at hl 1 rfl) ?_
        refine va_get (D := D) (ci := 1) (v := .ref (a 43)) (C := RX1) (T := TX1) (N := 12) hx hb hT iX1 hown hK hP 40 rfl rfl 3 (by decide) (hT _ t_348) (fun _ h9 => h9) rfl dX1_copyFrom_51 ?_
        refine lv_iload_n hx hb dX1_copyFrom_54 rfl (lv_at hl 0 rfl) ?_
        refine lv_aload_n hx hb dX1_copyFrom_55 rfl (lv_at hl 2 rfl) ?_
        refine va_get (D := D) (ci := 1) (v := .ref (a 32)) (C := RX1) (T := TX1) (N := 12) hx hb hT iX1 hown hK hP 29 rfl rfl 3 (by decide) (hT _ t_348) (fun _ h9 => h9) rfl dX1_copyFrom_56 ?_
        refine lv_iload_n hx hb dX1_copyFrom_59 rfl (lv_at hl 0 rfl) ?_
        refine va_iald hx hb hK hP 32 0 rfl rfl (vp_inI (by omega) (by omega)) dX1_copyFrom_60 ?_
        refine lv_topi (fun v_12 ev_12 => ?_)
        have hgv_12 : 0 ≤ v_12.toInt ∧ v_12.toInt ≤ 9 := by rw [ev_12]; exact hRr 32 _
        refine va_iast hx hb hK hP hD hS 43 0 rfl rfl (vp_inI (by omega) (by omega)) dX1_copyFrom_61 (fun H locs hP hD hS => ?_)
        rw [zS43] at hP hD
        have hRr : yRr (va_up (va_up (va_up r3 41 (upd (r3 41) x3_2.toNatClampNeg v_10)) 42 (upd (r3 42) x3_2.toNatClampNeg v_11)) 43 (upd (r3 43) x3_2.toNatClampNeg v_12)) := Yr_upd hRr 43 (x3_2.toNatClampNeg) v_12 ⟨by show (0 : Int) ≤ v_12.toInt; omega, by show v_12.toInt ≤ (9 : Int); omega⟩
        have hEr : mEr [41, 42, 43, 44, 45, 46, 47, 48, 49, 50] _ (va_up (va_up (va_up r3 41 (upd (r3 41) x3_2.toNatClampNeg v_10)) 42 (upd (r3 42) x3_2.toNatClampNeg v_11)) 43 (upd (r3 43) x3_2.toNatClampNeg v_12)) := Er_up hEr 43 _ (by decide)
        refine lv_aload_n hx hb dX1_copyFrom_62 rfl (lv_at hl 1 rfl) ?_
        refine va_get (D := D) (ci := 1) (v := .ref (a 44)) (C := RX1) (T := TX1) (N := 12) hx hb hT iX1 hown hK hP 40 rfl rfl 4 (by decide) (hT _ t_349) (fun _ h9 => h9) rfl dX1_copyFrom_63 ?_
        refine lv_iload_n hx hb dX1_copyFrom_66 rfl (lv_at hl 0 rfl) ?_
        refine lv_aload_n hx hb dX1_copyFrom_67 rfl (lv_at hl 2 rfl) ?_
        refine va_get (D := D) (ci := 1) (v := .ref (a 33)) (C := RX1) (T := TX1) (N := 12) hx hb hT iX1 hown hK hP 29 rfl rfl 4 (by decide) (hT _ t_349) (fun _ h9 => h9) rfl dX1_copyFrom_68 ?_
        refine lv_iload_n hx hb dX1_copyFrom_71 rfl (lv_at hl 0 rfl) ?_
        refine va_iald hx hb hK hP 33 0 rfl rfl (vp_inI (by omega) (by omega)) dX1_copyFrom_72 ?_
        refine lv_topi (fun v_13 ev_13 => ?_)
        have hgv_13 : 0 ≤ v_13.toInt ∧ v_13.toInt ≤ 7 := by rw [ev_13]; exact hRr 33 _
        refine va_iast hx hb hK hP hD hS 44 0 rfl rfl (vp_inI (by omega) (by omega)) dX1_copyFrom_73 (fun H locs hP hD hS => ?_)
        rw [zS44] at hP hD
        have hRr : yRr (va_up (va_up (va_up (va_up r3 41 (upd (r3 41) x3_2.toNatClampNeg v_10)) 42 (upd (r3 42) x3_2.toNatClampNeg v_11)) 43 (upd (r3 43) x3_2.toNatClampNeg v_12)) 44 (upd (r3 44) x3_2.toNatClampNeg v_13)) := Yr_upd hRr 44 (x3_2.toNatClampNeg) v_13 ⟨by show (0 : Int) ≤ v_13.toInt; omega, by show v_13.toInt ≤ (7 : Int); omega⟩
        have hEr : mEr [41, 42, 43, 44, 45, 46, 47, 48, 49, 50] _ (va_up (va_up (va_up (va_up r3 41 (upd (r3 41) x3_2.toNatClampNeg v_10)) 42 (upd (r3 42) x3_2.toNatClampNeg v_11)) 43 (upd (r3 43) x3_2.toNatClampNeg v_12)) 44 (upd (r3 44) x3_2.toNatClampNeg v_13)) := Er_up hEr 44 _ (by decide)
        refine lv_aload_n hx hb dX1_copyFrom_74 rfl (lv_at hl 1 rfl) ?_
        refine va_get (D := D) (ci := 1) (v := .ref (a 45)) (C := RX1) (T := TX1) (N := 12) hx hb hT iX1 hown hK hP 40 rfl rfl 5 (by decide) (hT _ t_350) (fun _ h9 => h9) rfl dX1_copyFrom_75 ?_
        refine lv_iload_n hx hb dX1_copyFrom_78 rfl (lv_at hl 0 rfl) ?_
        refine lv_aload_n hx hb dX1_copyFrom_79 rfl (lv_at hl 2 rfl) ?_
        refine va_get (D := D) (ci := 1) (v := .ref (a 34)) (C := RX1) (T := TX1) (N := 12) hx hb hT iX1 hown hK hP 29 rfl rfl 5 (by decide) (hT _ t_350) (fun _ h9 => h9) rfl dX1_copyFrom_80 ?_
        refine lv_iload_n hx hb dX1_copyFrom_83 rfl (lv_at hl 0 rfl) ?_
        refine va_iald hx hb hK hP 34 0 rfl rfl (vp_inI (by omega) (by omega)) dX1_copyFrom_84 ?_
        refine lv_topi (fun v_14 ev_14 => ?_)
        have hgv_14 : 0 ≤ v_14.toInt ∧ v_14.toInt ≤ 9999 := by rw [ev_14]; exact hRr 34 _
        refine va_iast hx hb hK hP hD hS 45 0 rfl rfl (vp_inI (by omega) (by omega)) dX1_copyFrom_85 (fun H locs hP hD hS => ?_)
        rw [zS45] at hP hD
        have hRr : yRr (va_up (va_up (va_up (va_up (va_up r3 41 (upd (r3 41) x3_2.toNatClampNeg v_10)) 42 (upd (r3 42) x3_2.toNatClampNeg v_11)) 43 (upd (r3 43) x3_2.toNatClampNeg v_12)) 44 (upd (r3 44) x3_2.toNatClampNeg v_13)) 45 (upd (r3 45) x3_2.toNatClampNeg v_14)) := Yr_upd hRr 45 (x3_2.toNatClampNeg) v_14 ⟨by show (0 : Int) ≤ v_14.toInt; omega, by show v_14.toInt ≤ (9999 : Int); omega⟩
        have hEr : mEr [41, 42, 43, 44, 45, 46, 47, 48, 49, 50] _ (va_up (va_up (va_up (va_up (va_up r3 41 (upd (r3 41) x3_2.toNatClampNeg v_10)) 42 (upd (r3 42) x3_2.toNatClampNeg v_11)) 43 (upd (r3 43) x3_2.toNatClampNeg v_12)) 44 (upd (r3 44) x3_2.toNatClampNeg v_13)) 45 (upd (r3 45) x3_2.toNatClampNeg v_14)) := Er_up hEr 45 _ (by decide)
        refine lv_aload_n hx hb dX1_copyFrom_86 rfl (lv_at hl 1 rfl) ?_
        refine va_get (D := D) (ci := 1) (v := .ref (a 46)) (C := RX1) (T := TX1) (N := 12) hx hb hT iX1 hown hK hP 40 rfl rfl 6 (by decide) (hT _ t_351) (fun _ h9 => h9) rfl dX1_copyFrom_87 ?_
        refine lv_iload_n hx hb dX1_copyFrom_90 rfl (lv_at hl 0 rfl) ?_
        refine lv_aload_n hx hb dX1_copyFrom_91 rfl (lv_at hl 2 rfl) ?_
        refine va_get (D := D) (ci := 1) (v := .ref (a 35)) (C := RX1) (T := TX1) (N := 12) hx hb hT iX1 hown hK hP 29 rfl rfl 6 (by decide) (hT _ t_351) (fun _ h9 => h9) rfl dX1_copyFrom_92 ?_
        refine lv_iload_n hx hb dX1_copyFrom_95 rfl (lv_at hl 0 rfl) ?_
        refine va_iald hx hb hK hP 35 0 rfl rfl (vp_inI (by omega) (by omega)) dX1_copyFrom_96 ?_
        refine lv_topi (fun v_15 ev_15 => ?_)
        have hgv_15 : 0 ≤ v_15.toInt ∧ v_15.toInt ≤ 999999 := by rw [ev_15]; exact hRr 35 _
        refine va_iast hx hb hK hP hD hS 46 0 rfl rfl (vp_inI (by omega) (by omega)) dX1_copyFrom_97 (fun H locs hP hD hS => ?_)
        rw [zS46] at hP hD
        have hRr : yRr (va_up (va_up (va_up (va_up (va_up (va_up r3 41 (upd (r3 41) x3_2.toNatClampNeg v_10)) 42 (upd (r3 42) x3_2.toNatClampNeg v_11)) 43 (upd (r3 43) x3_2.toNatClampNeg v_12)) 44 (upd (r3 44) x3_2.toNatClampNeg v_13)) 45 (upd (r3 45) x3_2.toNatClampNeg v_14)) 46 (upd (r3 46) x3_2.toNatClampNeg v_15)) := Yr_upd hRr 46 (x3_2.toNatClampNeg) v_15 ⟨by show (0 : Int) ≤ v_15.toInt; omega, by show v_15.toInt ≤ (999999 : Int); omega⟩
        have hEr : mEr [41, 42, 43, 44, 45, 46, 47, 48, 49, 50] _ (va_up (va_up (va_up (va_up (va_up (va_up r3 41 (upd (r3 41) x3_2.toNatClampNeg v_10)) 42 (upd (r3 42) x3_2.toNatClampNeg v_11)) 43 (upd (r3 43) x3_2.toNatClampNeg v_12)) 44 (upd (r3 44) x3_2.toNatClampNeg v_13)) 45 (upd (r3 45) x3_2.toNatClampNeg v_14)) 46 (upd (r3 46) x3_2.toNatClampNeg v_15)) := Er_up hEr 46 _ (by decide)
        refine lv_aload_n hx hb dX1_copyFrom_98 rfl (lv_at hl 1 rfl) ?_
        refine va_get (D := D) (ci := 1) (v := .ref (a 47)) (C := RX1) (T := TX1) (N := 12) hx hb hT iX1 hown hK hP 40 rfl rfl 7 (by decide) (hT _ t_345) (fun _ h9 => h9) rfl dX1_copyFrom_99 ?_
        refine lv_iload_n hx hb dX1_copyFrom_102 rfl (lv_at hl 0 rfl) ?_
        refine lv_aload_n hx hb dX1_copyFrom_103 rfl (lv_at hl 2 rfl) ?_
        refine va_get (D := D) (ci := 1) (v := .ref (a 36)) (C := RX1) (T := TX1) (N := 12) hx hb hT iX1 hown hK hP 29 rfl rfl 7 (by decide) (hT _ t_345) (fun _ h9 => h9) rfl dX1_copyFrom_104 ?_
        refine lv_iload_n hx hb dX1_copyFrom_107 rfl (lv_at hl 0 rfl) ?_
        refine va_iald hx hb hK hP 36 0 rfl rfl (vp_inI (by omega) (by omega)) dX1_copyFrom_108 ?_
        refine lv_topi (fun v_16 ev_16 => ?_)
        have hgv_16 : -1 ≤ v_16.toInt ∧ v_16.toInt ≤ 9999 := by rw [ev_16]; exact hRr 36 _
        refine va_iast hx hb hK hP hD hS 47 0 rfl rfl (vp_inI (by omega) (by omega)) dX1_copyFrom_109 (fun H locs hP hD hS => ?_)
        rw [zS47] at hP hD
        have hRr : yRr (va_up (va_up (va_up (va_up (va_up (va_up (va_up r3 41 (upd (r3 41) x3_2.toNatClampNeg v_10)) 42 (upd (r3 42) x3_2.toNatClampNeg v_11)) 43 (upd (r3 43) x3_2.toNatClampNeg v_12)) 44 (upd (r3 44) x3_2.toNatClampNeg v_13)) 45 (upd (r3 45) x3_2.toNatClampNeg v_14)) 46 (upd (r3 46) x3_2.toNatClampNeg v_15)) 47 (upd (r3 47) x3_2.toNatClampNeg v_16)) := Yr_upd hRr 47 (x3_2.toNatClampNeg) v_16 ⟨by show (-1 : Int) ≤ v_16.toInt; omega, by show v_16.toInt ≤ (9999 : Int); omega⟩
        have hEr : mEr [41, 42, 43, 44, 45, 46, 47, 48, 49, 50] _ (va_up (va_up (va_up (va_up (va_up (va_up (va_up r3 41 (upd (r3 41) x3_2.toNatClampNeg v_10)) 42 (upd (r3 42) x3_2.toNatClampNeg v_11)) 43 (upd (r3 43) x3_2.toNatClampNeg v_12)) 44 (upd (r3 44) x3_2.toNatClampNeg v_13)) 45 (upd (r3 45) x3_2.toNatClampNeg v_14)) 46 (upd (r3 46) x3_2.toNatClampNeg v_15)) 47 (upd (r3 47) x3_2.toNatClampNeg v_16)) := Er_up hEr 47 _ (by decide)
        refine lv_aload_n hx hb dX1_copyFrom_110 rfl (lv_at hl 1 rfl) ?_
        refine va_get (D := D) (ci := 1) (v := .ref (a 48)) (C := RX1) (T := TX1) (N := 12) hx hb hT iX1 hown hK hP 40 rfl rfl 8 (by decide) (hT _ t_352) (fun _ h9 => h9) rfl dX1_copyFrom_111 ?_
        refine lv_iload_n hx hb dX1_copyFrom_114 rfl (lv_at hl 0 rfl) ?_
        refine lv_aload_n hx hb dX1_copyFrom_115 rfl (lv_at hl 2 rfl) ?_
        refine va_get (D := D) (ci := 1) (v := .ref (a 37)) (C := RX1) (T := TX1) (N := 12) hx hb hT iX1 hown hK hP 29 rfl rfl 8 (by decide) (hT _ t_352) (fun _ h9 => h9) rfl dX1_copyFrom_116 ?_
        refine lv_iload_n hx hb dX1_copyFrom_119 rfl (lv_at hl 0 rfl) ?_
        refine va_zald hx hb hK hP 37 2 rfl rfl (vp_inI (by omega) (by omega)) dX1_copyFrom_120 ?_
        refine lv_topi (fun v_17 ev_17 => ?_)
        refine va_zast hx hb hK hP hD hS 48 2 rfl rfl (vp_inI (by omega) (by omega)) dX1_copyFrom_121 (fun H locs hP hD hS => ?_)
        rw [zS48] at hP hD
        have hRr : yRr (va_up (va_up (va_up (va_up (va_up (va_up (va_up (va_up r3 41 (upd (r3 41) x3_2.toNatClampNeg v_10)) 42 (upd (r3 42) x3_2.toNatClampNeg v_11)) 43 (upd (r3 43) x3_2.toNatClampNeg v_12)) 44 (upd (r3 44) x3_2.toNatClampNeg v_13)) 45 (upd (r3 45) x3_2.toNatClampNeg v_14)) 46 (upd (r3 46) x3_2.toNatClampNeg v_15)) 47 (upd (r3 47) x3_2.toNatClampNeg v_16)) 48 (upd (r3 48) x3_2.toNatClampNeg (vp_nar .boolean v_17))) := Yr_upd hRr 48 (x3_2.toNatClampNeg) (vp_nar .boolean v_17) (b_rg _)
        have hEr : mEr [41, 42, 43, 44, 45, 46, 47, 48, 49, 50] _ (va_up (va_up (va_up (va_up (va_up (va_up (va_up (va_up r3 41 (upd (r3 41) x3_2.toNatClampNeg v_10)) 42 (upd (r3 42) x3_2.toNatClampNeg v_11)) 43 (upd (r3 43) x3_2.toNatClampNeg v_12)) 44 (upd (r3 44) x3_2.toNatClampNeg v_13)) 45 (upd (r3 45) x3_2.toNatClampNeg v_14)) 46 (upd (r3 46) x3_2.toNatClampNeg v_15)) 47 (upd (r3 47) x3_2.toNatClampNeg v_16)) 48 (upd (r3 48) x3_2.toNatClampNeg (vp_nar .boolean v_17))) := Er_up hEr 48 _ (by decide)
        obtain ⟨x_18, ex_18⟩ : ∃ y : Int32, y = x3_2 + 1 := ⟨_, rfl⟩
        refine lv_iinc (v := x_18) (lv' := [(2, .int x_18), (0, .ref (a 40)), (1, .ref (a 29))]) hx hb dX1_copyFrom_122 hl (k := 0) rfl (by rw [ex_18]; rfl) (by decide) rfl (fun ls hl => ?_)
        have hx_18 : x_18.toInt = x3_2.toInt + 1 := by rw [ex_18]; have := b_rg x3_2; exact i_add (a := x3_2.toInt) (b := 1) rfl rfl (by omega) (by omega)
        refine lv_goto (tgt := 18) hx hb dX1_copyFrom_125 (by decide) ?_
        exact ih3 x_18 (va_up (va_up (va_up (va_up (va_up (va_up (va_up (va_up r3 41 (upd (r3 41) x3_2.toNatClampNeg v_10)) 42 (upd (r3 42) x3_2.toNatClampNeg v_11)) 43 (upd (r3 43) x3_2.toNatClampNeg v_12)) 44 (upd (r3 44) x3_2.toNatClampNeg v_13)) 45 (upd (r3 45) x3_2.toNatClampNeg v_14)) 46 (upd (r3 46) x3_2.toNatClampNeg v_15)) 47 (upd (r3 47) x3_2.toNatClampNeg v_16)) 48 (upd (r3 48) x3_2.toNatClampNeg (vp_nar .boolean v_17))) _ _ _ (by first | omega | (simp only [Int.toNat]; omega)) (by first | omega | decide) hRr hEr ⟨CP_s (hx3.1) hx_18 (by omega) (ev_10.trans (congrFun (hEr 30 (by decide)) _)), CP_s (hx3.2.1) hx_18 (by omega) (ev_11.trans (congrFun (hEr 31 (by decide)) _)), CP_s (hx3.2.2.1) hx_18 (by omega) (ev_12.trans (congrFun (hEr 32 (by decide)) _)), CP_s (hx3.2.2.2.1) hx_18 (by omega) (ev_13.trans (congrFun (hEr 33 (by decide)) _)), CP_s (hx3.2.2.2.2.1) hx_18 (by omega) (ev_14.trans (congrFun (hEr 34 (by decide)) _)), CP_s (hx3.2.2.2.2.2.1) hx_18 (by omega) (ev_15.trans (congrFun (hEr 35 (by decide)) _)), CP_s (hx3.2.2.2.2.2.2) hx_18 (by omega) (ev_16.trans (congrFun (hEr 36 (by decide)) _))⟩ hP hD hS (lv_sub hl [0, 1, 2] rfl)
  exact loop_3 _ 0 r _ _ _ (Nat.lt_succ_self _) (by first | omega | decide) hRr hEr ⟨CP_0, CP_0, CP_0, CP_0, CP_0, CP_0, CP_0⟩ hP hD hS hl
set_option maxHeartbeats 4000000 in
set_option maxRecDepth 100000 in
theorem c_X1_copyFrom_r299 (l : Launch) (D : va_G) (cy : Nat → ClassId) (a : Nat → Nat) (i : Nat → Int32) (r : Nat → Nat → Int32) (q : Nat → Option Nat) (tl : va_W) (sz : Nat) (hRi : yRi i) (hRr : yRr r) : Met l yX1_copyFrom (Cond.code yX1_copyFrom cX1_copyFrom 3 none :: gT) { frames := 1, cells := 0, slots := 0, locals := 24 } (va_Pc [.ref (a 29), .ref (a 40)] (rQ D cy (xW cy a i r q (a 20) (a 12) ++ tl) sz)) (va_Qv (fun u : (Nat → Int32) × (Nat → Nat → Int32) => yRi u.1 ∧ yRr u.2 ∧ mEi [10, 11] i u.1 ∧ mEr [30, 31, 32, 33, 34, 35, 36, 37, 38, 39] r u.2 ∧ (u.1 10 = i 12 ∧ u.1 11 = i 13 ∧ CP (i 12).toInt (u.2 30) (r 41) ∧ CP (i 12).toInt (u.2 31) (r 42) ∧ CP (i 12).toInt (u.2 32) (r 43) ∧ CP (i 12).toInt (u.2 33) (r 44) ∧ CP (i 12).toInt (u.2 34) (r 45) ∧ CP (i 12).toInt (u.2 35) (r 46) ∧ CP (i 12).toInt (u.2 36) (r 47) ∧ CP 6 (u.2 38) (r 49) ∧ CP 6 (u.2 39) (r 50))) (fun (u : (Nat → Int32) × (Nat → Nat → Int32)) t => va_P D vwCl (xW cy a u.1 u.2 q (a 20) (a 12) ++ tl) t.heap ∧ va_K D vwCl (vT cy) t ∧ va_D (va_A (xW cy a i r q (a 20) (a 12) ++ tl) sz) (xW cy a u.1 u.2 q (a 20) (a 12) ++ tl)) (va_A (xW cy a i r q (a 20) (a 12) ++ tl) sz)) 0 0 (va_A (xW cy a i r q (a 20) (a 12) ++ tl) sz) := by
  refine Met.ofQ (cc := cX1_copyFrom) (maxL := 3) (ret := none) (by decide) rfl ?_
  intro p e s m args below meth c s₁ B hml hv Q hQ
  obtain ⟨rfl, hsz, hP, hK, hD0⟩ := hv
  have hx := B.exec
  have hb := B.bytes
  have hr := B.returns
  have hlocks := B.notSynchronized
  have hT : ∀ w ∈ gT, w.before _ s = true := fun w h => atoms_spec (ws := (Cond.code yX1_copyFrom cX1_copyFrom 3 none :: gT)) B.pre w (List.mem_cons_of_mem _ h)
  have hown : s.vm.findClass RX1 = some m.cls := findClass_of_methodNamed B.named
  subst hsz
  have hD := hD0.self (sz := s.heap.size)
  generalize hAe : va_A (xW cy a i r q (a 20) (a 12) ++ tl) s.heap.size = A at hD hQ
  have hA : ∀ q : Nat, s.heap.size ≤ q → A q := fun q h => by rw [← hAe]; exact Or.inr h
  have hS : va_S A s.heap s.heap [] := va_S.rf
  have hl := lv_entry ([.ref (a 29), .ref (a 40)]) (n := 3) (Nat.le_of_ble_eq_true rfl)
  rw [lg_entry_eq]
  generalize (lg_sl ([.ref (a 29), .ref (a 40)]) ++ List.replicate (3 - (lg_sl ([.ref (a 29), .ref (a 40)])).length) Slot.unset).toArray = ls at hl ⊢
  have hl : lv_has ls 3 [(0, .ref (a 29)), (1, .ref (a 40))] := hl
  have hEi : mEi [10, 11] i i := Ei_rf
  have hEr : mEr [30, 31, 32, 33, 34, 35, 36, 37, 38, 39] r r := Er_rf
  have hgS : 0 ≤ (i 12).toInt ∧ (i 12).toInt ≤ 30 := hRi 12
  refine lv_aload_n hx hb dX1_copyFrom_0 rfl (lv_at hl 0 rfl) ?_
  refine lv_aload_n hx hb dX1_copyFrom_1 rfl (lv_at hl 1 rfl) ?_
  refine va_get (D := D) (ci := 1) (v := .int (i 12)) (C := RX1) (T := TX1) (N := 12) hx hb hT iX1 hown hK hP 40 rfl rfl 0 (by decide) (hT _ t_342) (fun _ h9 => h9) rfl dX1_copyFrom_2 ?_
  have hg_1 : 0 ≤ (i 12).toInt ∧ (i 12).toInt ≤ 30 := hRi 12
  refine va_put (D := D) (ci := 1) (v := .int (i 12)) (ty := .int) (C := RX1) (T := TX1) (N := 12) hx hb hT iX1 tyX1 tyX1_ok nmX1 hown hK hP hD hS 29 rfl rfl 0 (by decide) (hT _ t_342) (fun _ h9 => h9) rfl (by decide +kernel) rfl rfl (Nat.le_of_ble_eq_true rfl) dX1_copyFrom_5 (fun H locs hP hD hS => ?_)
  rw [zP10] at hP hD
  have hRi := Yi_upd hRi 10 (i 12) ⟨by show (0 : Int) ≤ (i 12).toInt; omega, by show (i 12).toInt ≤ (30 : Int); omega⟩
  have hEi := Ei_upd hEi 10 (i 12) (by decide)
  refine lv_aload_n hx hb dX1_copyFrom_8 rfl (lv_at hl 0 rfl) ?_
  refine lv_aload_n hx hb dX1_copyFrom_9 rfl (lv_at hl 1 rfl) ?_
  refine va_get (D := D) (ci := 1) (v := .int (i 13)) (C := RX1) (T := TX1) (N := 12) hx hb hT iX1 hown hK hP 40 rfl rfl 11 (by decide) (hT _ t_353) (fun _ h9 => h9) rfl dX1_copyFrom_10 ?_
  have hg_2 : 0 ≤ (i 13).toInt ∧ (i 13).toInt ≤ 65535 := hRi 13
  refine va_put (D := D) (ci := 1) (v := .int (i 13)) (ty := .int) (C := RX1) (T := TX1) (N := 12) hx hb hT iX1 tyX1 tyX1_ok nmX1 hown hK hP hD hS 29 rfl rfl 11 (by decide) (hT _ t_353) (fun _ h9 => h9) rfl (by decide +kernel) rfl rfl (Nat.le_of_ble_eq_true rfl) dX1_copyFrom_13 (fun H locs hP hD hS => ?_)
  rw [zP11] at hP hD
  have hRi := Yi_upd hRi 11 (i 13) ⟨by show (0 : Int) ≤ (i 13).toInt; omega, by show (i 13).toInt ≤ (65535 : Int); omega⟩
  have hEi := Ei_upd hEi 11 (i 13) (by decide)
  refine lv_iconst (v := 0) hx hb dX1_copyFrom_16 (by decide) ?_
  refine lv_istore_n (lv' := [(2, .int 0), (0, .ref (a 29)), (1, .ref (a 40))]) hx hb dX1_copyFrom_17 rfl hl (by decide) rfl (fun ls hl => ?_)
  have loop_3 : ∀ (n : Nat) (x3_2 : Int32) (r3 : Nat → Nat → Int32) (H : Heap) (locs : List Loc) (ls : Array Slot), (30 - x3_2.toInt).toNat < n → (0 ≤ x3_2.toInt ∧ x3_2.toInt ≤ 30) → yRr r3 → mEr [30, 31, 32, 33, 34, 35, 36, 37, 38, 39] r r3 → (CP x3_2.toInt (r3 30) (r 41) ∧ CP x3_2.toInt (r3 31) (r 42) ∧ CP x3_2.toInt (r3 32) (r 43) ∧ CP x3_2.toInt (r3 33) (r 44) ∧ CP x3_2.toInt (r3 34) (r 45) ∧ CP x3_2.toInt (r3 35) (r 46) ∧ CP x3_2.toInt (r3 36) (r 47)) → va_P D vwCl (xW cy a (upd (upd i 10 (i 12)) 11 (i 13)) r3 q (a 20) (a 12) ++ tl) H → va_D A (xW cy a (upd (upd i 10 (i 12)) 11 (i 13)) r3 q (a 20) (a 12) ++ tl) → va_S A s.heap H locs → lv_has ls 3 [(2, .int x3_2), (0, .ref (a 29)), (1, .ref (a 40))] → W p l e ({ frames := 1, cells := 0, slots := 0, locals := 24 } : Room) s m ([.ref (a 29), .ref (a 40)] : List Value).toArray below meth c H locs 0 0 Q (F0 m 18 ls []) := by
    intro n
    induction n with
    | zero =>
      intro x3_2 r3 H locs ls hm3 hf3_0 hRr hEr hx3 hP hD hS hl
      exact absurd hm3 (by omega)
    | succ n ih3 =>
      intro x3_2 r3 H locs ls hm3 hf3_0 hRr hEr hx3 hP hD hS hl
      refine lv_iload_n hx hb dX1_copyFrom_18 rfl (lv_at hl 0 rfl) ?_
      refine lv_aload_n hx hb dX1_copyFrom_19 rfl (lv_at hl 1 rfl) ?_
      refine va_get (D := D) (ci := 1) (v := .int (i 12)) (C := RX1) (T := TX1) (N := 12) hx hb hT iX1 hown hK hP 29 rfl rfl 0 (by decide) (hT _ t_342) (fun _ h9 => h9) rfl dX1_copyFrom_20 ?_
      refine lv_icmp_ge (tgt := 128) hx hb dX1_copyFrom_23 (by decide) (fun c_4 => ?_) (fun c_4 => ?_)
      · have c_4 : (i 12).toInt ≤ x3_2.toInt := b_le c_4
        have hle : (i 12).toInt ≤ x3_2.toInt := by omega
        refine lv_iconst (v := 0) hx hb dX1_copyFrom_128 (by decide) ?_
        refine lv_istore_n (lv' := [(2, .int 0), (0, .ref (a 29)), (1, .ref (a 40))]) hx hb dX1_copyFrom_129 rfl hl (by decide) rfl (fun ls hl => ?_)
        have loop_5 : ∀ (n : Nat) (x5_2 : Int32) (r5 : Nat → Nat → Int32) (H : Heap) (locs : List Loc) (ls : Array Slot), (6 - x5_2.toInt).toNat < n → (0 ≤ x5_2.toInt ∧ x5_2.toInt ≤ 6) → yRr r5 → mEr [30, 31, 32, 33, 34, 35, 36, 37, 38, 39] r r5 → (mEr [38, 39] r3 r5 ∧ CP x5_2.toInt (r5 38) (r 49) ∧ CP x5_2.toInt (r5 39) (r 50)) → va_P D vwCl (xW cy a (upd (upd i 10 (i 12)) 11 (i 13)) r5 q (a 20) (a 12) ++ tl) H → va_D A (xW cy a (upd (upd i 10 (i 12)) 11 (i 13)) r5 q (a 20) (a 12) ++ tl) → va_S A s.heap H locs → lv_has ls 3 [(2, .int x5_2), (0, .ref (a 29)), (1, .ref (a 40))] → W p l e ({ frames := 1, cells := 0, slots := 0, locals := 24 } : Room) s m ([.ref (a 29), .ref (a 40)] : List Value).toArray below meth c H locs 0 0 Q (F0 m 130 ls []) := by
          intro n
          induction n with
          | zero =>
            intro x5_2 r5 H locs ls hm5 hf5_0 hRr hEr hx5 hP hD hS hl
            exact absurd hm5 (by omega)
          | succ n ih5 =>
            intro x5_2 r5 H locs ls hm5 hf5_0 hRr hEr hx5 hP hD hS hl
            refine lv_iload_n hx hb dX1_copyFrom_130 rfl (lv_at hl 0 rfl) ?_
            refine lv_bipush (v := 6) hx hb dX1_copyFrom_131 (by decide) ?_
            refine lv_icmp_ge (tgt := 166) hx hb dX1_copyFrom_133 (by decide) (fun c_6 => ?_) (fun c_6 => ?_)
            · have c_6 : 6 ≤ x5_2.toInt := b_le c_6
              subst hQ
              have h6 : CP 6 (r5 38) (r 49) := CP_le hx5.2.1 (by omega)
              have h7 : CP 6 (r5 39) (r 50) := CP_le hx5.2.2 (by omega)
              have hq30 : CP (i 12).toInt (r5 30) (r 41) := by rw [hx5.1 30 (by decide)]; exact CP_le (hx3.1) hle
              have hq31 : CP (i 12).toInt (r5 31) (r 42) := by rw [hx5.1 31 (by decide)]; exact CP_le (hx3.2.1) hle
              have hq32 : CP (i 12).toInt (r5 32) (r 43) := by rw [hx5.1 32 (by decide)]; exact CP_le (hx3.2.2.1) hle
              have hq33 : CP (i 12).toInt (r5 33) (r 44) := by rw [hx5.1 33 (by decide)]; exact CP_le (hx3.2.2.2.1) hle
              have hq34 : CP (i 12).toInt (r5 34) (r 45) := by rw [hx5.1 34 (by decide)]; exact CP_le (hx3.2.2.2.2.1) hle
              have hq35 : CP (i 12).toInt (r5 35) (r 46) := by rw [hx5.1 35 (by decide)]; exact CP_le (hx3.2.2.2.2.2.1) hle
              have hq36 : CP (i 12).toInt (r5 36) (r 47) := by rw [hx5.1 36 (by decide)]; exact CP_le (hx3.2.2.2.2.2.2) hle
              exact W.vret hx hb hr (fun t ht hW => ⟨⟨(upd (upd i 10 (i 12)) 11 (i 13), r5), rfl, ⟨hRi, hRr, hEi, hEr, ⟨rfl, rfl, hq30, hq31, hq32, hq33, hq34, hq35, hq36, h6, h7⟩⟩, by rw [ht]; exact hP, va_K.moved hW.alike hK, hD⟩, hS.F ht⟩) hS.2.2 dX1_copyFrom_166
            · have c_6 : x5_2.toInt < 6 := b_nle c_6
              refine lv_aload_n hx hb dX1_copyFrom_136 rfl (lv_at hl 1 rfl) ?_
              refine va_get (D := D) (ci := 1) (v := .ref (a 38)) (C := RX1) (T := TX1) (N := 12) hx hb hT iX1 hown hK hP 29 rfl rfl 9 (by decide) (hT _ t_346) (fun _ h9 => h9) rfl dX1_copyFrom_137 ?_
              refine lv_iload_n hx hb dX1_copyFrom_140 rfl (lv_at hl 0 rfl) ?_
              refine lv_aload_n hx hb dX1_copyFrom_141 rfl (lv_at hl 2 rfl) ?_
              refine va_get (D := D) (ci := 1) (v := .ref (a 49)) (C := RX1) (T := TX1) (N := 12) hx hb hT iX1 hown hK hP 40 rfl rfl 9 (by decide) (hT _ t_346) (fun _ h9 => h9) rfl dX1_copyFrom_142 ?_
              refine lv_iload_n hx hb dX1_copyFrom_145 rfl (lv_at hl 0 rfl) ?_
              refine va_iald hx hb hK hP 49 0 rfl rfl (vp_inI (by omega) (by omega)) dX1_copyFrom_146 ?_
              refine lv_topi (fun v_7 ev_7 => ?_)
              have hgv_7 : -1 ≤ v_7.toInt ∧ v_7.toInt ≤ 999999 := by rw [ev_7]; exact hRr 49 _
              refine va_iast hx hb hK hP hD hS 38 0 rfl rfl (vp_inI (by omega) (by omega)) dX1_copyFrom_147 (fun H locs hP hD hS => ?_)
              rw [zS38] at hP hD
              have hRr : yRr (va_up r5 38 (upd (r5 38) x5_2.toNatClampNeg v_7)) := Yr_upd hRr 38 (x5_2.toNatClampNeg) v_7 ⟨by show (-1 : Int) ≤ v_7.toInt; omega, by show v_7.toInt ≤ (999999 : Int); omega⟩
              have hEr : mEr [30, 31, 32, 33, 34, 35, 36, 37, 38, 39] _ (va_up r5 38 (upd (r5 38) x5_2.toNatClampNeg v_7)) := Er_up hEr 38 _ (by decide)
              refine lv_aload_n hx hb dX1_copyFrom_148 rfl (lv_at hl 1 rfl) ?_
              refine va_get (D := D) (ci := 1) (v := .ref (a 39)) (C := RX1) (T := TX1) (N := 12) hx hb hT iX1 hown hK hP 29 rfl rfl 10 (by decide) (hT _ t_347) (fun _ h9 => h9) rfl dX1_copyFrom_149 ?_
              refine lv_iload_n hx hb dX1_copyFrom_152 rfl (lv_at hl 0 rfl) ?_
              refine lv_aload_n hx hb dX1_copyFrom_153 rfl (lv_at hl 2 rfl) ?_
              refine va_get (D := D) (ci := 1) (v := .ref (a 50)) (C := RX1) (T := TX1) (N := 12) hx hb hT iX1 hown hK hP 40 rfl rfl 10 (by decide) (hT _ t_347) (fun _ h9 => h9) rfl dX1_copyFrom_154 ?_
              refine lv_iload_n hx hb dX1_copyFrom_157 rfl (lv_at hl 0 rfl) ?_
              refine va_iald hx hb hK hP 50 0 rfl rfl (vp_inI (by omega) (by omega)) dX1_copyFrom_158 ?_
              refine lv_topi (fun v_8 ev_8 => ?_)
              have hgv_8 : -1 ≤ v_8.toInt ∧ v_8.toInt ≤ 999999 := by rw [ev_8]; exact hRr 50 _
              refine va_iast hx hb hK hP hD hS 39 0 rfl rfl (vp_inI (by omega) (by omega)) dX1_copyFrom_159 (fun H locs hP hD hS => ?_)
              rw [zS39] at hP hD
              have hRr : yRr (va_up (va_up r5 38 (upd (r5 38) x5_2.toNatClampNeg v_7)) 39 (upd (r5 39) x5_2.toNatClampNeg v_8)) := Yr_upd hRr 39 (x5_2.toNatClampNeg) v_8 ⟨by show (-1 : Int) ≤ v_8.toInt; omega, by show v_8.toInt ≤ (999999 : Int); omega⟩
              have hEr : mEr [30, 31, 32, 33, 34, 35, 36, 37, 38, 39] _ (va_up (va_up r5 38 (upd (r5 38) x5_2.toNatClampNeg v_7)) 39 (upd (r5 39) x5_2.toNatClampNeg v_8)) := Er_up hEr 39 _ (by decide)
              obtain ⟨x_9, ex_9⟩ : ∃ y : Int32, y = x5_2 + 1 := ⟨_, rfl⟩
              refine lv_iinc (v := x_9) (lv' := [(2, .int x_9), (0, .ref (a 29)), (1, .ref (a 40))]) hx hb dX1_copyFrom_160 hl (k := 0) rfl (by rw [ex_9]; rfl) (by decide) rfl (fun ls hl => ?_)
              have hx_9 : x_9.toInt = x5_2.toInt + 1 := by rw [ex_9]; have := b_rg x5_2; exact i_add (a := x5_2.toInt) (b := 1) rfl rfl (by omega) (by omega)
              refine lv_goto (tgt := 130) hx hb dX1_copyFrom_163 (by decide) ?_
              exact ih5 x_9 (va_up (va_up r5 38 (upd (r5 38) x5_2.toNatClampNeg v_7)) 39 (upd (r5 39) x5_2.toNatClampNeg v_8)) _ _ _ (by first | omega | (simp only [Int.toNat]; omega)) (by first | omega | decide) hRr hEr ⟨Er_up (Er_up hx5.1 38 _ (by decide)) 39 _ (by decide), CP_s hx5.2.1 hx_9 (by omega) (ev_7.trans (congrFun (hEr 49 (by decide)) _)), CP_s hx5.2.2 hx_9 (by omega) (ev_8.trans (congrFun (hEr 50 (by decide)) _))⟩ hP hD hS (lv_sub hl [0, 1, 2] rfl)
        exact loop_5 _ 0 r3 _ _ _ (Nat.lt_succ_self _) (by first | omega | decide) hRr hEr ⟨Er_rf, CP_0, CP_0⟩ hP hD hS hl
      · have c_4 : x3_2.toInt < (i 12).toInt := b_nle c_4
        refine lv_aload_n hx hb dX1_copyFrom_26 rfl (lv_at hl 1 rfl) ?_
        refine va_get (D := D) (ci := 1) (v := .ref (a 30)) (C := RX1) (T := TX1) (N := 12) hx hb hT iX1 hown hK hP 29 rfl rfl 1 (by decide) (hT _ t_343) (fun _ h9 => h9) rfl dX1_copyFrom_27 ?_
        refine lv_iload_n hx hb dX1_copyFrom_30 rfl (lv_at hl 0 rfl) ?_
        refine lv_aload_n hx hb dX1_copyFrom_31 rfl (lv_at hl 2 rfl) ?_
        refine va_get (D := D) (ci := 1) (v := .ref (a 41)) (C := RX1) (T := TX1) (N := 12) hx hb hT iX1 hown hK hP 40 rfl rfl 1 (by decide) (hT _ t_343) (fun _ h9 => h9) rfl dX1_copyFrom_32 ?_
        refine lv_iload_n hx hb dX1_copyFrom_35 rfl (lv_at hl 0 rfl) ?_
        refine va_iald hx hb hK hP 41 0 rfl rfl (vp_inI (by omega) (by omega)) dX1_copyFrom_36 ?_
        refine lv_topi (fun v_10 ev_10 => ?_)
        have hgv_10 : 0 ≤ v_10.toInt ∧ v_10.toInt ≤ 5 := by rw [ev_10]; exact hRr 41 _
        refine va_iast hx hb hK hP hD hS 30 0 rfl rfl (vp_inI (by omega) (by omega)) dX1_copyFrom_37 (fun H locs hP hD hS => ?_)
        rw [zS30] at hP hD
        have hRr : yRr (va_up r3 30 (upd (r3 30) x3_2.toNatClampNeg v_10)) := Yr_upd hRr 30 (x3_2.toNatClampNeg) v_10 ⟨by show (0 : Int) ≤ v_10.toInt; omega, by show v_10.toInt ≤ (5 : Int); omega⟩
        have hEr : mEr [30, 31, 32, 33, 34, 35, 36, 37, 38, 39] _ (va_up r3 30 (upd (r3 30) x3_2.toNatClampNeg v_10)) := Er_up hEr 30 _ (by decide)
        refine lv_aload_n hx hb dX1_copyFrom_38 rfl (lv_at hl 1 rfl) ?_
        refine va_get (D := D) (ci := 1) (v := .ref (a 31)) (C := RX1) (T := TX1) (N := 12) hx hb hT iX1 hown hK hP 29 rfl rfl 2 (by decide) (hT _ t_344) (fun _ h9 => h9) rfl dX1_copyFrom_39 ?_
        refine lv_iload_n hx hb dX1_copyFrom_42 rfl (lv_at hl 0 rfl) ?_
        refine lv_aload_n hx hb dX1_copyFrom_43 rfl (lv_at hl 2 rfl) ?_
        refine va_get (D := D) (ci := 1) (v := .ref (a 42)) (C := RX1) (T := TX1) (N := 12) hx hb hT iX1 hown hK hP 40 rfl rfl 2 (by decide) (hT _ t_344) (fun _ h9 => h9) rfl dX1_copyFrom_44 ?_
        refine lv_iload_n hx hb dX1_copyFrom_47 rfl (lv_at hl 0 rfl) ?_
        refine va_iald hx hb hK hP 42 0 rfl rfl (vp_inI (by omega) (by omega)) dX1_copyFrom_48 ?_
        refine lv_topi (fun v_11 ev_11 => ?_)
        have hgv_11 : 0 ≤ v_11.toInt ∧ v_11.toInt ≤ 19 := by rw [ev_11]; exact hRr 42 _
        refine va_iast hx hb hK hP hD hS 31 0 rfl rfl (vp_inI (by omega) (by omega)) dX1_copyFrom_49 (fun H locs hP hD hS => ?_)
        rw [zS31] at hP hD
        have hRr : yRr (va_up (va_up r3 30 (upd (r3 30) x3_2.toNatClampNeg v_10)) 31 (upd (r3 31) x3_2.toNatClampNeg v_11)) := Yr_upd hRr 31 (x3_2.toNatClampNeg) v_11 ⟨by show (0 : Int) ≤ v_11.toInt; omega, by show v_11.toInt ≤ (19 : Int); omega⟩
        have hEr : mEr [30, 31, 32, 33, 34, 35, 36, 37, 38, 39] _ (va_up (va_up r3 30 (upd (r3 30) x3_2.toNatClampNeg v_10)) 31 (upd (r3 31) x3_2.toNatClampNeg v_11)) := Er_up hEr 31 _ (by decide)
        refine lv_aload_n hx hb dX1_copyFrom_50 rfl (lv_at hl 1 rfl) ?_
        refine va_get (D := D) (ci := 1) (v := .ref (a 32)) (C := RX1) (T := TX1) (N := 12) hx hb hT iX1 hown hK hP 29 rfl rfl 3 (by decide) (hT _ t_348) (fun _ h9 => h9) rfl dX1_copyFrom_51 ?_
        refine lv_iload_n hx hb dX1_copyFrom_54 rfl (lv_at hl 0 rfl) ?_
        refine lv_aload_n hx hb dX1_copyFrom_55 rfl (lv_at hl 2 rfl) ?_
        refine va_get (D := D) (ci := 1) (v := .ref (a 43)) (C := RX1) (T := TX1) (N := 12) hx hb hT iX1 hown hK hP 40 rfl rfl 3 (by decide) (hT _ t_348) (fun _ h9 => h9) rfl dX1_copyFrom_56 ?_
        refine lv_iload_n hx hb dX1_copyFrom_59 rfl (lv_at hl 0 rfl) ?_
        refine va_iald hx hb hK hP 43 0 rfl rfl (vp_inI (by omega) (by omega)) dX1_copyFrom_60 ?_
        refine lv_topi (fun v_12 ev_12 => ?_)
        have hgv_12 : 0 ≤ v_12.toInt ∧ v_12.toInt ≤ 9 := by rw [ev_12]; exact hRr 43 _
        refine va_iast hx hb hK hP hD hS 32 0 rfl rfl (vp_inI (by omega) (by omega)) dX1_copyFrom_61 (fun H locs hP hD hS => ?_)
        rw [zS32] at hP hD
        have hRr : yRr (va_up (va_up (va_up r3 30 (upd (r3 30) x3_2.toNatClampNeg v_10)) 31 (upd (r3 31) x3_2.toNatClampNeg v_11)) 32 (upd (r3 32) x3_2.toNatClampNeg v_12)) := Yr_upd hRr 32 (x3_2.toNatClampNeg) v_12 ⟨by show (0 : Int) ≤ v_12.toInt; omega, by show v_12.toInt ≤ (9 : Int); omega⟩
        have hEr : mEr [30, 31, 32, 33, 34, 35, 36, 37, 38, 39] _ (va_up (va_up (va_up r3 30 (upd (r3 30) x3_2.toNatClampNeg v_10)) 31 (upd (r3 31) x3_2.toNatClampNeg v_11)) 32 (upd (r3 32) x3_2.toNatClampNeg v_12)) := Er_up hEr 32 _ (by decide)
        refine lv_aload_n hx hb dX1_copyFrom_62 rfl (lv_at hl 1 rfl) ?_
        refine va_get (D := D) (ci := 1) (v := .ref (a 33)) (C := RX1) (T := TX1) (N := 12) hx hb hT iX1 hown hK hP 29 rfl rfl 4 (by decide) (hT _ t_349) (fun _ h9 => h9) rfl dX1_copyFrom_63 ?_
        refine lv_iload_n hx hb dX1_copyFrom_66 rfl (lv_at hl 0 rfl) ?_
        refine lv_aload_n hx hb dX1_copyFrom_67 rfl (lv_at hl 2 rfl) ?_
        refine va_get (D := D) (ci := 1) (v := .ref (a 44)) (C := RX1) (T := TX1) (N := 12) hx hb hT iX1 hown hK hP 40 rfl rfl 4 (by decide) (hT _ t_349) (fun _ h9 => h9) rfl dX1_copyFrom_68 ?_
        refine lv_iload_n hx hb dX1_copyFrom_71 rfl (lv_at hl 0 rfl) ?_
        refine va_iald hx hb hK hP 44 0 rfl rfl (vp_inI (by omega) (by omega)) dX1_copyFrom_72 ?_
        refine lv_topi (fun v_13 ev_13 => ?_)
        have hgv_13 : 0 ≤ v_13.toInt ∧ v_13.toInt ≤ 7 := by rw [ev_13]; exact hRr 44 _
        refine va_iast hx hb hK hP hD hS 33 0 rfl rfl (vp_inI (by omega) (by omega)) dX1_copyFrom_73 (fun H locs hP hD hS => ?_)
        rw [zS33] at hP hD
        have hRr : yRr (va_up (va_up (va_up (va_up r3 30 (upd (r3 30) x3_2.toNatClampNeg v_10)) 31 (upd (r3 31) x3_2.toNatClampNeg v_11)) 32 (upd (r3 32) x3_2.toNatClampNeg v_12)) 33 (upd (r3 33) x3_2.toNatClampNeg v_13)) := Yr_upd hRr 33 (x3_2.toNatClampNeg) v_13 ⟨by show (0 : Int) ≤ v_13.toInt; omega, by show v_13.toInt ≤ (7 : Int); omega⟩
        have hEr : mEr [30, 31, 32, 33, 34, 35, 36, 37, 38, 39] _ (va_up (va_up (va_up (va_up r3 30 (upd (r3 30) x3_2.toNatClampNeg v_10)) 31 (upd (r3 31) x3_2.toNatClampNeg v_11)) 32 (upd (r3 32) x3_2.toNatClampNeg v_12)) 33 (upd (r3 33) x3_2.toNatClampNeg v_13)) := Er_up hEr 33 _ (by decide)
        refine lv_aload_n hx hb dX1_copyFrom_74 rfl (lv_at hl 1 rfl) ?_
        refine va_get (D := D) (ci := 1) (v := .ref (a 34)) (C := RX1) (T := TX1) (N := 12) hx hb hT iX1 hown hK hP 29 rfl rfl 5 (by decide) (hT _ t_350) (fun _ h9 => h9) rfl dX1_copyFrom_75 ?_
        refine lv_iload_n hx hb dX1_copyFrom_78 rfl (lv_at hl 0 rfl) ?_
        refine lv_aload_n hx hb dX1_copyFrom_79 rfl (lv_at hl 2 rfl) ?_
        refine va_get (D := D) (ci := 1) (v := .ref (a 45)) (C := RX1) (T := TX1) (N := 12) hx hb hT iX1 hown hK hP 40 rfl rfl 5 (by decide) (hT _ t_350) (fun _ h9 => h9) rfl dX1_copyFrom_80 ?_
        refine lv_iload_n hx hb dX1_copyFrom_83 rfl (lv_at hl 0 rfl) ?_
        refine va_iald hx hb hK hP 45 0 rfl rfl (vp_inI (by omega) (by omega)) dX1_copyFrom_84 ?_
        refine lv_topi (fun v_14 ev_14 => ?_)
        have hgv_14 : 0 ≤ v_14.toInt ∧ v_14.toInt ≤ 9999 := by rw [ev_14]; exact hRr 45 _
        refine va_iast hx hb hK hP hD hS 34 0 rfl rfl (vp_inI (by omega) (by omega)) dX1_copyFrom_85 (fun H locs hP hD hS => ?_)
        rw [zS34] at hP hD
        have hRr : yRr (va_up (va_up (va_up (va_up (va_up r3 30 (upd (r3 30) x3_2.toNatClampNeg v_10)) 31 (upd (r3 31) x3_2.toNatClampNeg v_11)) 32 (upd (r3 32) x3_2.toNatClampNeg v_12)) 33 (upd (r3 33) x3_2.toNatClampNeg v_13)) 34 (upd (r3 34) x3_2.toNatClampNeg v_14)) := Yr_upd hRr 34 (x3_2.toNatClampNeg) v_14 ⟨by show (0 : Int) ≤ v_14.toInt; omega, by show v_14.toInt ≤ (9999 : Int); omega⟩
        have hEr : mEr [30, 31, 32, 33, 34, 35, 36, 37, 38, 39] _ (va_up (va_up (va_up (va_up (va_up r3 30 (upd (r3 30) x3_2.toNatClampNeg v_10)) 31 (upd (r3 31) x3_2.toNatClampNeg v_11)) 32 (upd (r3 32) x3_2.toNatClampNeg v_12)) 33 (upd (r3 33) x3_2.toNatClampNeg v_13)) 34 (upd (r3 34) x3_2.toNatClampNeg v_14)) := Er_up hEr 34 _ (by decide)
        refine lv_aload_n hx hb dX1_copyFrom_86 rfl (lv_at hl 1 rfl) ?_
        refine va_get (D := D) (ci := 1) (v := .ref (a 35)) (C := RX1) (T := TX1) (N := 12) hx hb hT iX1 hown hK hP 29 rfl rfl 6 (by decide) (hT _ t_351) (fun _ h9 => h9) rfl dX1_copyFrom_87 ?_
        refine lv_iload_n hx hb dX1_copyFrom_90 rfl (lv_at hl 0 rfl) ?_
        refine lv_aload_n hx hb dX1_copyFrom_91 rfl (lv_at hl 2 rfl) ?_
        refine va_get (D := D) (ci := 1) (v := .ref (a 46)) (C := RX1) (T := TX1) (N := 12) hx hb hT iX1 hown hK hP 40 rfl rfl 6 (by decide) (hT _ t_351) (fun _ h9 => h9) rfl dX1_copyFrom_92 ?_
        refine lv_iload_n hx hb dX1_copyFrom_95 rfl (lv_at hl 0 rfl) ?_
        refine va_iald hx hb hK hP 46 0 rfl rfl (vp_inI (by omega) (by omega)) dX1_copyFrom_96 ?_
        refine lv_topi (fun v_15 ev_15 => ?_)
        have hgv_15 : 0 ≤ v_15.toInt ∧ v_15.toInt ≤ 999999 := by rw [ev_15]; exact hRr 46 _
        refine va_iast hx hb hK hP hD hS 35 0 rfl rfl (vp_inI (by omega) (by omega)) dX1_copyFrom_97 (fun H locs hP hD hS => ?_)
        rw [zS35] at hP hD
        have hRr : yRr (va_up (va_up (va_up (va_up (va_up (va_up r3 30 (upd (r3 30) x3_2.toNatClampNeg v_10)) 31 (upd (r3 31) x3_2.toNatClampNeg v_11)) 32 (upd (r3 32) x3_2.toNatClampNeg v_12)) 33 (upd (r3 33) x3_2.toNatClampNeg v_13)) 34 (upd (r3 34) x3_2.toNatClampNeg v_14)) 35 (upd (r3 35) x3_2.toNatClampNeg v_15)) := Yr_upd hRr 35 (x3_2.toNatClampNeg) v_15 ⟨by show (0 : Int) ≤ v_15.toInt; omega, by show v_15.toInt ≤ (999999 : Int); omega⟩
        have hEr : mEr [30, 31, 32, 33, 34, 35, 36, 37, 38, 39] _ (va_up (va_up (va_up (va_up (va_up (va_up r3 30 (upd (r3 30) x3_2.toNatClampNeg v_10)) 31 (upd (r3 31) x3_2.toNatClampNeg v_11)) 32 (upd (r3 32) x3_2.toNatClampNeg v_12)) 33 (upd (r3 33) x3_2.toNatClampNeg v_13)) 34 (upd (r3 34) x3_2.toNatClampNeg v_14)) 35 (upd (r3 35) x3_2.toNatClampNeg v_15)) := Er_up hEr 35 _ (by decide)
        refine lv_aload_n hx hb dX1_copyFrom_98 rfl (lv_at hl 1 rfl) ?_
        refine va_get (D := D) (ci := 1) (v := .ref (a 36)) (C := RX1) (T := TX1) (N := 12) hx hb hT iX1 hown hK hP 29 rfl rfl 7 (by decide) (hT _ t_345) (fun _ h9 => h9) rfl dX1_copyFrom_99 ?_
        refine lv_iload_n hx hb dX1_copyFrom_102 rfl (lv_at hl 0 rfl) ?_
        refine lv_aload_n hx hb dX1_copyFrom_103 rfl (lv_at hl 2 rfl) ?_
        refine va_get (D := D) (ci := 1) (v := .ref (a 47)) (C := RX1) (T := TX1) (N := 12) hx hb hT iX1 hown hK hP 40 rfl rfl 7 (by decide) (hT _ t_345) (fun _ h9 => h9) rfl dX1_copyFrom_104 ?_
        refine lv_iload_n hx hb dX1_copyFrom_107 rfl (lv_at hl 0 rfl) ?_
        refine va_iald hx hb hK hP 47 0 rfl rfl (vp_inI (by omega) (by omega)) dX1_copyFrom_108 ?_
        refine lv_topi (fun v_16 ev_16 => ?_)
        have hgv_16 : -1 ≤ v_16.toInt ∧ v_16.toInt ≤ 9999 := by rw [ev_16]; exact hRr 47 _
        refine va_iast hx hb hK hP hD hS 36 0 rfl rfl (vp_inI (by omega) (by omega)) dX1_copyFrom_109 (fun H locs hP hD hS => ?_)
        rw [zS36] at hP hD
        have hRr : yRr (va_up (va_up (va_up (va_up (va_up (va_up (va_up r3 30 (upd (r3 30) x3_2.toNatClampNeg v_10)) 31 (upd (r3 31) x3_2.toNatClampNeg v_11)) 32 (upd (r3 32) x3_2.toNatClampNeg v_12)) 33 (upd (r3 33) x3_2.toNatClampNeg v_13)) 34 (upd (r3 34) x3_2.toNatClampNeg v_14)) 35 (upd (r3 35) x3_2.toNatClampNeg v_15)) 36 (upd (r3 36) x3_2.toNatClampNeg v_16)) := Yr_upd hRr 36 (x3_2.toNatClampNeg) v_16 ⟨by show (-1 : Int) ≤ v_16.toInt; omega, by show v_16.toInt ≤ (9999 : Int); omega⟩
        have hEr : mEr [30, 31, 32, 33, 34, 35, 36, 37, 38, 39] _ (va_up (va_up (va_up (va_up (va_up (va_up (va_up r3 30 (upd (r3 30) x3_2.toNatClampNeg v_10)) 31 (upd (r3 31) x3_2.toNatClampNeg v_11)) 32 (upd (r3 32) x3_2.toNatClampNeg v_12)) 33 (upd (r3 33) x3_2.toNatClampNeg v_13)) 34 (upd (r3 34) x3_2.toNatClampNeg v_14)) 35 (upd (r3 35) x3_2.toNatClampNeg v_15)) 36 (upd (r3 36) x3_2.toNatClampNeg v_16)) := Er_up hEr 36 _ (by decide)
        refine lv_aload_n hx hb dX1_copyFrom_110 rfl (lv_at hl 1 rfl) ?_
        refine va_get (D := D) (ci := 1) (v := .ref (a 37)) (C := RX1) (T := TX1) (N := 12) hx hb hT iX1 hown hK hP 29 rfl rfl 8 (by decide) (hT _ t_352) (fun _ h9 => h9) rfl dX1_copyFrom_111 ?_
        refine lv_iload_n hx hb dX1_copyFrom_114 rfl (lv_at hl 0 rfl) ?_
        refine lv_aload_n hx hb dX1_copyFrom_115 rfl (lv_at hl 2 rfl) ?_
        refine va_get (D := D) (ci := 1) (v := .ref (a 48)) (C := RX1) (T := TX1) (N := 12) hx hb hT iX1 hown hK hP 40 rfl rfl 8 (by decide) (hT _ t_352) (fun _ h9 => h9) rfl dX1_copyFrom_116 ?_
        refine lv_iload_n hx hb dX1_copyFrom_119 rfl (lv_at hl 0 rfl) ?_
        refine va_zald hx hb hK hP 48 2 rfl rfl (vp_inI (by omega) (by omega)) dX1_copyFrom_120 ?_
        refine lv_topi (fun v_17 ev_17 => ?_)
        refine va_zast hx hb hK hP hD hS 37 2 rfl rfl (vp_inI (by omega) (by omega)) dX1_copyFrom_121 (fun H locs hP hD hS => ?_)
        rw [zS37] at hP hD
        have hRr : yRr (va_up (va_up (va_up (va_up (va_up (va_up (va_up (va_up r3 30 (upd (r3 30) x3_2.toNatClampNeg v_10)) 31 (upd (r3 31) x3_2.toNatClampNeg v_11)) 32 (upd (r3 32) x3_2.toNatClampNeg v_12)) 33 (upd (r3 33) x3_2.toNatClampNeg v_13)) 34 (upd (r3 34) x3_2.toNatClampNeg v_14)) 35 (upd (r3 35) x3_2.toNatClampNeg v_15)) 36 (upd (r3 36) x3_2.toNatClampNeg v_16)) 37 (upd (r3 37) x3_2.toNatClampNeg (vp_nar .boolean v_17))) := Yr_upd hRr 37 (x3_2.toNatClampNeg) (vp_nar .boolean v_17) (b_rg _)
        have hEr : mEr [30, 31, 32, 33, 34, 35, 36, 37, 38, 39] _ (va_up (va_up (va_up (va_up (va_up (va_up (va_up (va_up r3 30 (upd (r3 30) x3_2.toNatClampNeg v_10)) 31 (upd (r3 31) x3_2.toNatClampNeg v_11)) 32 (upd (r3 32) x3_2.toNatClampNeg v_12)) 33 (upd (r3 33) x3_2.toNatClampNeg v_13)) 34 (upd (r3 34) x3_2.toNatClampNeg v_14)) 35 (upd (r3 35) x3_2.toNatClampNeg v_15)) 36 (upd (r3 36) x3_2.toNatClampNeg v_16)) 37 (upd (r3 37) x3_2.toNatClampNeg (vp_nar .boolean v_17))) := Er_up hEr 37 _ (by decide)
        obtain ⟨x_18, ex_18⟩ : ∃ y : Int32, y = x3_2 + 1 := ⟨_, rfl⟩
        refine lv_iinc (v := x_18) (lv' := [(2, .int x_18), (0, .ref (a 29)), (1, .ref (a 40))]) hx hb dX1_copyFrom_122 hl (k := 0) rfl (by rw [ex_18]; rfl) (by decide) rfl (fun ls hl => ?_)
        have hx_18 : x_18.toInt = x3_2.toInt + 1 := by rw [ex_18]; have := b_rg x3_2; exact i_add (a := x3_2.toInt) (b := 1) rfl rfl (by omega) (by omega)
        refine lv_goto (tgt := 18) hx hb dX1_copyFrom_125 (by decide) ?_
        exact ih3 x_18 (va_up (va_up (va_up (va_up (va_up (va_up (va_up (va_up r3 30 (upd (r3 30) x3_2.toNatClampNeg v_10)) 31 (upd (r3 31) x3_2.toNatClampNeg v_11)) 32 (upd (r3 32) x3_2.toNatClampNeg v_12)) 33 (upd (r3 33) x3_2.toNatClampNeg v_13)) 34 (upd (r3 34) x3_2.toNatClampNeg v_14)) 35 (upd (r3 35) x3_2.toNatClampNeg v_15)) 36 (upd (r3 36) x3_2.toNatClampNeg v_16)) 37 (upd (r3 37) x3_2.toNatClampNeg (vp_nar .boolean v_17))) _ _ _ (by first | omega | (simp only [Int.toNat]; omega)) (by first | omega | decide) hRr hEr ⟨CP_s (hx3.1) hx_18 (by omega) (ev_10.trans (congrFun (hEr 41 (by decide)) _)), CP_s (hx3.2.1) hx_18 (by omega) (ev_11.trans (congrFun (hEr 42 (by decide)) _)), CP_s (hx3.2.2.1) hx_18 (by omega) (ev_12.trans (congrFun (hEr 43 (by decide)) _)), CP_s (hx3.2.2.2.1) hx_18 (by omega) (ev_13.trans (congrFun (hEr 44 (by decide)) _)), CP_s (hx3.2.2.2.2.1) hx_18 (by omega) (ev_14.trans (congrFun (hEr 45 (by decide)) _)), CP_s (hx3.2.2.2.2.2.1) hx_18 (by omega) (ev_15.trans (congrFun (hEr 46 (by decide)) _)), CP_s (hx3.2.2.2.2.2.2) hx_18 (by omega) (ev_16.trans (congrFun (hEr 47 (by decide)) _))⟩ hP hD hS (lv_sub hl [0, 1, 2] rfl)
  exact loop_3 _ 0 r _ _ _ (Nat.lt_succ_self _) (by first | omega | decide) hRr hEr ⟨CP_0, CP_0, CP_0, CP_0, CP_0, CP_0, CP_0⟩ hP hD hS hl
set_option maxHeartbeats 4000000 in
set_option maxRecDepth 100000 in
theorem c_X11_keep9 (l : Launch) (D : va_G) (cy : Nat → ClassId) (a : Nat → Nat) (i : Nat → Int32) (r : Nat → Nat → Int32) (q : Nat → Option Nat) (tl : va_W) (sz : Nat) (hRi : yRi i) (hRr : yRr r) : Met l yX11_keep (Cond.code yX11_keep cX11_keep 1 (some .int) :: gT) { frames := 2, cells := 0, slots := 0, locals := 46 } (va_Pc [.ref (a 0)] (rQ D cy (xW cy a i r q (a 20) (a 12) ++ tl) sz)) (va_Qi (fun (z : Int32) (u : (Nat → Int32) × (Nat → Nat → Int32)) => yRi u.1 ∧ yRr u.2 ∧ mEi [1, 12, 13] i u.1 ∧ mEr [41, 42, 43, 44, 45, 46, 47, 48, 49, 50] r u.2 ∧ (z = i 10 ∧ u.1 1 = 1 ∧ u.1 12 = i 10 ∧ u.1 13 = i 11 ∧ CP (i 10).toInt (u.2 41) (r 30) ∧ CP (i 10).toInt (u.2 42) (r 31) ∧ CP (i 10).toInt (u.2 43) (r 32) ∧ CP (i 10).toInt (u.2 44) (r 33) ∧ CP (i 10).toInt (u.2 45) (r 34) ∧ CP (i 10).toInt (u.2 46) (r 35) ∧ CP (i 10).toInt (u.2 47) (r 36) ∧ CP 6 (u.2 49) (r 38) ∧ CP 6 (u.2 50) (r 39))) (fun (u : (Nat → Int32) × (Nat → Nat → Int32)) t => va_P D vwCl (xW cy a u.1 u.2 q (a 20) (a 12) ++ tl) t.heap ∧ va_K D vwCl (vT cy) t ∧ va_D (va_A (xW cy a i r q (a 20) (a 12) ++ tl) sz) (xW cy a u.1 u.2 q (a 20) (a 12) ++ tl)) (va_A (xW cy a i r q (a 20) (a 12) ++ tl) sz)) 0 0 (va_A (xW cy a i r q (a 20) (a 12) ++ tl) sz) := by
  refine Met.ofQ (cc := cX11_keep) (maxL := 1) (ret := (some .int)) (by decide) rfl ?_
  intro p e s m args below meth c s₁ B hml hv Q hQ
  obtain ⟨rfl, hsz, hP, hK, hD0⟩ := hv
  have hx := B.exec
  have hb := B.bytes
  have hr := B.returns
  have hlocks := B.notSynchronized
  have hT : ∀ w ∈ gT, w.before _ s = true := fun w h => atoms_spec (ws := (Cond.code yX11_keep cX11_keep 1 (some .int) :: gT)) B.pre w (List.mem_cons_of_mem _ h)
  have hown : s.vm.findClass RX11 = some m.cls := findClass_of_methodNamed B.named
  subst hsz
  have hD := hD0.self (sz := s.heap.size)
  generalize hAe : va_A (xW cy a i r q (a 20) (a 12) ++ tl) s.heap.size = A at hD hQ
  have hA : ∀ q : Nat, s.heap.size ≤ q → A q := fun q h => by rw [← hAe]; exact Or.inr h
  have hS : va_S A s.heap s.heap [] := va_S.rf
  have hl := lv_entry ([.ref (a 0)]) (n := 1) (Nat.le_of_ble_eq_true rfl)
  rw [lg_entry_eq]
  generalize (lg_sl ([.ref (a 0)]) ++ List.replicate (1 - (lg_sl ([.ref (a 0)])).length) Slot.unset).toArray = ls at hl ⊢
  have hl : lv_has ls 1 [(0, .ref (a 0))] := hl
  have hEi : mEi [1, 12, 13] i i := Ei_rf
  have hEr : mEr [41, 42, 43, 44, 45, 46, 47, 48, 49, 50] r r := Er_rf
  refine lv_aload_n hx hb dX11_keep_0 rfl (lv_at hl 0 rfl) ?_
  refine va_get (D := D) (ci := 11) (v := .ref (a 40)) (C := RX11) (T := TX11) (N := 14) hx hb hT iX11 hown hK hP 0 rfl rfl 9 (by decide) (hT _ t_354) (fun _ h9 => h9) rfl dX11_keep_1 ?_
  refine lv_aload_n hx hb dX11_keep_4 rfl (lv_at hl 0 rfl) ?_
  refine va_get (D := D) (ci := 11) (v := .ref (a 29)) (C := RX11) (T := TX11) (N := 14) hx hb hT iX11 hown hK hP 0 rfl rfl 8 (by decide) (hT _ t_265) (fun _ h9 => h9) rfl dX11_keep_5 ?_
  have hF_1 := rF hD hS hA
  refine va_callv (va_runV (As := [.ref (a 29)]) (rest := []) ⟨hx, hb, hml, hown, hT⟩ (c_X1_copyFrom_r409 l D cy a i r q tl _ hRi hRr) (cwV 1 hT (gV t_355 t_357 t_358 t_359 t_356) rfl rfl rfl (by decide +kernel) ⟨Nat.le_of_ble_eq_true rfl, Nat.le_of_ble_eq_true rfl⟩) (rQ_v hP hK hD (va_recv hK hP (ci := 1) (q0 := 40) rfl rfl)) rfl rfl hl.1 rfl (lv_room (Nat.le_of_ble_eq_true rfl)) dX11_keep_8 ⟨Nat.le_of_ble_eq_true rfl, Nat.le_of_ble_eq_true rfl⟩) hS (fun q _ h => hF_1 q h) hF_1 (fun u_3 t H1 locs ht hvm hr_2 hB hz1 hk1 hS => ?_)
  obtain ⟨i3, r3⟩ := u_3
  obtain ⟨hP, hK1, hD1⟩ := hB
  rw [ht] at hP
  have hD := hD1.weaken (fun k q _ h => hF_1 q.1 h)
  obtain ⟨hRi, hRr, hE1, hE2, hr_2⟩ := hr_2
  have hRi : yRi i3 := hRi
  have hE1 : mEi [12, 13] i i3 := hE1
  have hRr : yRr r3 := hRr
  have hE2 : mEr [41, 42, 43, 44, 45, 46, 47, 48, 49, 50] r r3 := hE2
  have hP : va_P D vwCl (xW cy a i3 r3 q (a 20) (a 12) ++ tl) H1 := hP
  have hD : va_D A (xW cy a i3 r3 q (a 20) (a 12) ++ tl) := hD
  have hEi : mEi [1, 12, 13] _ i3 := Ei_tr hEi hE1 (by decide)
  have hEr : mEr [41, 42, 43, 44, 45, 46, 47, 48, 49, 50] _ r3 := Er_tr hEr hE2 (by decide)
  have hr_2 : i3 12 = i 10 ∧ i3 13 = i 11 ∧ CP (i 10).toInt (r3 41) (r 30) ∧ CP (i 10).toInt (r3 42) (r 31) ∧ CP (i 10).toInt (r3 43) (r 32) ∧ CP (i 10).toInt (r3 44) (r 33) ∧ CP (i 10).toInt (r3 45) (r 34) ∧ CP (i 10).toInt (r3 46) (r 35) ∧ CP (i 10).toInt (r3 47) (r 36) ∧ CP 6 (r3 49) (r 38) ∧ CP 6 (r3 50) (r 39) := hr_2
  refine lv_aload_n hx hb dX11_keep_11 rfl (lv_at hl 0 rfl) ?_
  refine lv_iconst (v := 1) hx hb dX11_keep_12 (by decide) ?_
  refine va_put (D := D) (ci := 11) (v := .int 1) (ty := .boolean) (C := RX11) (T := TX11) (N := 14) hx hb hT iX11 tyX11 tyX11_ok nmX11 hown hK hP hD hS 0 rfl rfl 10 (by decide) (hT _ t_360) (fun _ h9 => h9) rfl (by decide +kernel) rfl rfl (Nat.le_of_ble_eq_true rfl) dX11_keep_13 (fun H locs hP hD hS => ?_)
  rw [zP1] at hP hD
  have hRi := Yi_upd hRi 1 1 ⟨by decide, by decide⟩
  have hEi := Ei_upd hEi 1 1 (by decide)
  refine lv_aload_n hx hb dX11_keep_16 rfl (lv_at hl 0 rfl) ?_
  refine va_get (D := D) (ci := 11) (v := .ref (a 29)) (C := RX11) (T := TX11) (N := 14) hx hb hT iX11 hown hK hP 0 rfl rfl 8 (by decide) (hT _ t_265) (fun _ h9 => h9) rfl dX11_keep_17 ?_
  refine va_get (D := D) (ci := 1) (v := .int (i3 10)) (C := RX1) (T := TX1) (N := 12) hx hb hT iX1 hown hK hP 29 rfl rfl 0 (by decide) (hT _ t_266) (fun _ h9 => h9) rfl dX11_keep_20 ?_
  have hg_4 : 0 ≤ (i3 10).toInt ∧ (i3 10).toInt ≤ 30 := hRi 10
  subst hQ
  exact W.iret (v := i3 10) hx hb hr (fun t ht hW => ⟨⟨_, (upd i3 1 1, r3), rfl, ⟨hRi, hRr, hEi, hEr, ⟨hE1 10 (by decide), rfl, hr_2⟩⟩, by rw [ht]; exact hP, va_K.moved hW.alike hK, hD⟩, hS.F ht⟩) hS.2.2 dX11_keep_23
set_option maxHeartbeats 4000000 in
set_option maxRecDepth 100000 in
theorem c_X11_undo9 (l : Launch) (D : va_G) (cy : Nat → ClassId) (a : Nat → Nat) (i : Nat → Int32) (r : Nat → Nat → Int32) (q : Nat → Option Nat) (tl : va_W) (sz : Nat) (hRi : yRi i) (hRr : yRr r) : Met l yX11_undo (Cond.code yX11_undo cX11_undo 1 (some .boolean) :: gT) { frames := 2, cells := 0, slots := 0, locals := 46 } (va_Pc [.ref (a 0)] (rQ D cy (xW cy a i r q (a 20) (a 12) ++ tl) sz)) (va_Qi (fun (z : Int32) (u : (Nat → Int32) × (Nat → Nat → Int32)) => yRi u.1 ∧ yRr u.2 ∧ mEi [10, 11] i u.1 ∧ mEr [30, 31, 32, 33, 34, 35, 36, 37, 38, 39] r u.2 ∧ (BR z ((i 1).toInt ≠ 0) 1 0 ∧ ((i 1).toInt ≠ 0 → u.1 10 = i 12 ∧ u.1 11 = i 13 ∧ CP (i 12).toInt (u.2 30) (r 41) ∧ CP (i 12).toInt (u.2 31) (r 42) ∧ CP (i 12).toInt (u.2 32) (r 43) ∧ CP (i 12).toInt (u.2 33) (r 44) ∧ CP (i 12).toInt (u.2 34) (r 45) ∧ CP (i 12).toInt (u.2 35) (r 46) ∧ CP (i 12).toInt (u.2 36) (r 47) ∧ CP 6 (u.2 38) (r 49) ∧ CP 6 (u.2 39) (r 50)) ∧ (¬ (i 1).toInt ≠ 0 → mEi [] i u.1 ∧ mEr [] r u.2))) (fun (u : (Nat → Int32) × (Nat → Nat → Int32)) t => va_P D vwCl (xW cy a u.1 u.2 q (a 20) (a 12) ++ tl) t.heap ∧ va_K D vwCl (vT cy) t ∧ va_D (va_A (xW cy a i r q (a 20) (a 12) ++ tl) sz) (xW cy a u.1 u.2 q (a 20) (a 12) ++ tl)) (va_A (xW cy a i r q (a 20) (a 12) ++ tl) sz)) 0 0 (va_A (xW cy a i r q (a 20) (a 12) ++ tl) sz) := by
  refine Met.ofQ (cc := cX11_undo) (maxL := 1) (ret := (some .boolean)) (by decide) rfl ?_
  intro p e s m args below meth c s₁ B hml hv Q hQ
  obtain ⟨rfl, hsz, hP, hK, hD0⟩ := hv
  have hx := B.exec
  have hb := B.bytes
  have hr := B.returns
  have hlocks := B.notSynchronized
  have hT : ∀ w ∈ gT, w.before _ s = true := fun w h => atoms_spec (ws := (Cond.code yX11_undo cX11_undo 1 (some .boolean) :: gT)) B.pre w (List.mem_cons_of_mem _ h)
  have hown : s.vm.findClass RX11 = some m.cls := findClass_of_methodNamed B.named
  subst hsz
  have hD := hD0.self (sz := s.heap.size)
  generalize hAe : va_A (xW cy a i r q (a 20) (a 12) ++ tl) s.heap.size = A at hD hQ
  have hA : ∀ q : Nat, s.heap.size ≤ q → A q := fun q h => by rw [← hAe]; exact Or.inr h
  have hS : va_S A s.heap s.heap [] := va_S.rf
  have hl := lv_entry ([.ref (a 0)]) (n := 1) (Nat.le_of_ble_eq_true rfl)
  rw [lg_entry_eq]
  generalize (lg_sl ([.ref (a 0)]) ++ List.replicate (1 - (lg_sl ([.ref (a 0)])).length) Slot.unset).toArray = ls at hl ⊢
  have hl : lv_has ls 1 [(0, .ref (a 0))] := hl
  have hEi : mEi [10, 11] i i := Ei_rf
  have hEr : mEr [30, 31, 32, 33, 34, 35, 36, 37, 38, 39] r r := Er_rf
  refine lv_aload_n hx hb dX11_undo_0 rfl (lv_at hl 0 rfl) ?_
  refine va_get (D := D) (ci := 11) (v := .int (i 1)) (C := RX11) (T := TX11) (N := 14) hx hb hT iX11 hown hK hP 0 rfl rfl 10 (by decide) (hT _ t_360) (fun _ h9 => h9) rfl dX11_undo_1 ?_
  have hg_1 : 0 ≤ (i 1).toInt ∧ (i 1).toInt ≤ 1 := hRi 1
  refine lv_if_ne (tgt := 9) hx hb dX11_undo_4 (by decide) (fun c_2 => ?_) (fun c_2 => ?_)
  · have c_2 : (i 1).toInt ≠ 0 := b_ne c_2
    refine lv_aload_n hx hb dX11_undo_9 rfl (lv_at hl 0 rfl) ?_
    refine va_get (D := D) (ci := 11) (v := .ref (a 29)) (C := RX11) (T := TX11) (N := 14) hx hb hT iX11 hown hK hP 0 rfl rfl 8 (by decide) (hT _ t_265) (fun _ h9 => h9) rfl dX11_undo_10 ?_
    refine lv_aload_n hx hb dX11_undo_13 rfl (lv_at hl 0 rfl) ?_
    refine va_get (D := D) (ci := 11) (v := .ref (a 40)) (C := RX11) (T := TX11) (N := 14) hx hb hT iX11 hown hK hP 0 rfl rfl 9 (by decide) (hT _ t_354) (fun _ h9 => h9) rfl dX11_undo_14 ?_
    have hF_3 := rF hD hS hA
    refine va_callv (va_runV (As := [.ref (a 40)]) (rest := []) ⟨hx, hb, hml, hown, hT⟩ (c_X1_copyFrom_r299 l D cy a i r q tl _ hRi hRr) (cwV 1 hT (gV t_355 t_357 t_358 t_359 t_356) rfl rfl rfl (by decide +kernel) ⟨Nat.le_of_ble_eq_true rfl, Nat.le_of_ble_eq_true rfl⟩) (rQ_v hP hK hD (va_recv hK hP (ci := 1) (q0 := 29) rfl rfl)) rfl rfl hl.1 rfl (lv_room (Nat.le_of_ble_eq_true rfl)) dX11_undo_17 ⟨Nat.le_of_ble_eq_true rfl, Nat.le_of_ble_eq_true rfl⟩) hS (fun q _ h => hF_3 q h) hF_3 (fun u_5 t H1 locs ht hvm hr_4 hB hz1 hk1 hS => ?_)
    obtain ⟨i5, r5⟩ := u_5
    obtain ⟨hP, hK1, hD1⟩ := hB
    rw [ht] at hP
    have hD := hD1.weaken (fun k q _ h => hF_3 q.1 h)
    obtain ⟨hRi, hRr, hE1, hE2, hr_4⟩ := hr_4
    have hRi : yRi i5 := hRi
    have hE1 : mEi [10, 11] i i5 := hE1
    have hRr : yRr r5 := hRr
    have hE2 : mEr [30, 31, 32, 33, 34, 35, 36, 37, 38, 39] r r5 := hE2
    have hP : va_P D vwCl (xW cy a i5 r5 q (a 20) (a 12) ++ tl) H1 := hP
    have hD : va_D A (xW cy a i5 r5 q (a 20) (a 12) ++ tl) := hD
    have hEi : mEi [10, 11] _ i5 := Ei_tr hEi hE1 (by decide)
    have hEr : mEr [30, 31, 32, 33, 34, 35, 36, 37, 38, 39] _ r5 := Er_tr hEr hE2 (by decide)
    have hr_4 : i5 10 = i 12 ∧ i5 11 = i 13 ∧ CP (i 12).toInt (r5 30) (r 41) ∧ CP (i 12).toInt (r5 31) (r 42) ∧ CP (i 12).toInt (r5 32) (r 43) ∧ CP (i 12).toInt (r5 33) (r 44) ∧ CP (i 12).toInt (r5 34) (r 45) ∧ CP (i 12).toInt (r5 35) (r 46) ∧ CP (i 12).toInt (r5 36) (r 47) ∧ CP 6 (r5 38) (r 49) ∧ CP 6 (r5 39) (r 50) := hr_4
    refine lv_iconst (v := 1) hx hb dX11_undo_20 (by decide) ?_
    subst hQ
    exact W.zret hx hb hr rfl (fun t ht hW => ⟨⟨_, (i5, r5), rfl, ⟨hRi, hRr, hEi, hEr, ⟨Or.inl ⟨rfl, by omega⟩, fun _ => hr_4, fun h9 => absurd (by omega) h9⟩⟩, by rw [ht]; exact hP, va_K.moved hW.alike hK, hD⟩, hS.F ht⟩) hS.2.2 dX11_undo_21
  · have c_2 : (i 1).toInt = 0 := b_nne c_2
    refine lv_iconst (v := 0) hx hb dX11_undo_7 (by decide) ?_
    subst hQ
    exact W.zret hx hb hr rfl (fun t ht hW => ⟨⟨_, (i, r), rfl, ⟨hRi, hRr, hEi, hEr, ⟨Or.inr ⟨rfl, by omega⟩, fun h9 => absurd h9 (by omega), fun _ => ⟨Ei_rf, Er_rf⟩⟩⟩, by rw [ht]; exact hP, va_K.moved hW.alike hK, hD⟩, hS.F ht⟩) hS.2.2 dX11_undo_8
