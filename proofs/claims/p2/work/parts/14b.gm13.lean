theorem t_252 : Cond.fieldLink RX12 262 "DepositJudgeModel" "place0" "I" ∈ gT := tm (List.mem_of_getElem? (i := 940) (by decide +kernel)) (by decide +kernel)
theorem t_253 : Cond.fieldLink RX12 265 "DepositJudgeModel" "length0" "I" ∈ gT := tm (List.mem_of_getElem? (i := 941) (by decide +kernel)) (by decide +kernel)
theorem t_254 : Cond.code yX12_here cX12_here 1 (some .int) ∈ gT := tm (List.mem_of_getElem? (i := 1257) (by decide +kernel)) (by decide +kernel)
theorem t_255 : Cond.methodLink RX12 268 yX12_here ∈ gT := tm (List.mem_of_getElem? (i := 1254) (by decide +kernel)) (by decide +kernel)
theorem t_256 : Cond.instanceMethod yX12_here ∈ gT := tm (List.mem_of_getElem? (i := 1256) (by decide +kernel)) (by decide +kernel)
theorem t_257 : Cond.selects RX12 yX12_here yX12_here ∈ gT := tmp (List.mem_of_getElem? (i := 35) (by decide +kernel)) (by decide +kernel)
theorem dX12_here_0 : decode cX12_here 0 = .ok (.aload_n 0, 1) := by decide +kernel
theorem dX12_here_1 : decode cX12_here 1 = .ok (.getfield 262, 3) := by decide +kernel
theorem dX12_here_4 : decode cX12_here 4 = .ok (.aload_n 0, 1) := by decide +kernel
theorem dX12_here_5 : decode cX12_here 5 = .ok (.getfield 265, 3) := by decide +kernel
theorem dX12_here_8 : decode cX12_here 8 = .ok (.if_icmp .ge 19, 3) := by decide +kernel
theorem dX12_here_11 : decode cX12_here 11 = .ok (.aload_n 0, 1) := by decide +kernel
theorem dX12_here_12 : decode cX12_here 12 = .ok (.getfield 68, 3) := by decide +kernel
theorem dX12_here_15 : decode cX12_here 15 = .ok (.aload_n 0, 1) := by decide +kernel
theorem dX12_here_16 : decode cX12_here 16 = .ok (.getfield 262, 3) := by decide +kernel
theorem dX12_here_19 : decode cX12_here 19 = .ok (.baload, 1) := by decide +kernel
theorem dX12_here_20 : decode cX12_here 20 = .ok (.sipush 255, 3) := by decide +kernel
theorem dX12_here_23 : decode cX12_here 23 = .ok (.iand, 1) := by decide +kernel
theorem dX12_here_24 : decode cX12_here 24 = .ok (.goto 4, 3) := by decide +kernel
theorem dX12_here_27 : decode cX12_here 27 = .ok (.iconst (-1), 1) := by decide +kernel
theorem dX12_here_28 : decode cX12_here 28 = .ok (.ireturn, 1) := by decide +kernel
theorem dX12_isDigit_0 : decode cX12_isDigit 0 = .ok (.aload_n 0, 1) := by decide +kernel
theorem dX12_isDigit_1 : decode cX12_isDigit 1 = .ok (.invokevirtual 268, 3) := by decide +kernel
theorem dX12_isDigit_4 : decode cX12_isDigit 4 = .ok (.bipush 48, 2) := by decide +kernel
theorem dX12_isDigit_6 : decode cX12_isDigit 6 = .ok (.if_icmp .lt 16, 3) := by decide +kernel
theorem dX12_isDigit_9 : decode cX12_isDigit 9 = .ok (.aload_n 0, 1) := by decide +kernel
theorem dX12_isDigit_10 : decode cX12_isDigit 10 = .ok (.invokevirtual 268, 3) := by decide +kernel
theorem dX12_isDigit_13 : decode cX12_isDigit 13 = .ok (.bipush 57, 2) := by decide +kernel
theorem dX12_isDigit_15 : decode cX12_isDigit 15 = .ok (.if_icmp .gt 7, 3) := by decide +kernel
theorem dX12_isDigit_18 : decode cX12_isDigit 18 = .ok (.iconst 1, 1) := by decide +kernel
theorem dX12_isDigit_19 : decode cX12_isDigit 19 = .ok (.goto 4, 3) := by decide +kernel
theorem dX12_isDigit_22 : decode cX12_isDigit 22 = .ok (.iconst 0, 1) := by decide +kernel
theorem dX12_isDigit_23 : decode cX12_isDigit 23 = .ok (.ireturn, 1) := by decide +kernel
/-- what 'here' answers -/
def mHere (i : Nat → Int32) (r : Nat → Nat → Int32) : Int32 := if (i 23).toInt < (i 24).toInt then r 20 (i 23).toNatClampNeg &&& 255 else -1
theorem mHere_rg (i : Nat → Int32) (r : Nat → Nat → Int32) : -1 ≤ (mHere i r).toInt ∧ (mHere i r).toInt ≤ 255 := by
  unfold mHere
  by_cases h : (i 23).toInt < (i 24).toInt
  · rw [if_pos h]; have := b_and255 (r 20 (i 23).toNatClampNeg); omega
  · rw [if_neg h]; decide
set_option maxHeartbeats 4000000 in
set_option maxRecDepth 100000 in
theorem c_X12_here (l : Launch) (D : va_G) (cy : Nat → ClassId) (a : Nat → Nat) (i : Nat → Int32) (r : Nat → Nat → Int32) (rl : Nat → Int64) (hRi : mRi i) (hRr : mRr r) : Met l yX12_here (Cond.code yX12_here cX12_here 1 (some .int) :: gT) { frames := 1, cells := 0, slots := 0, locals := 24 } (va_Pc [.ref (a 0)] (rP D cy (mW cy a i r rl))) (vp_Si (fun z => z = mHere i r)) 0 0 (fun _ => False) := by
  refine Met.ofQ (cc := cX12_here) (maxL := 1) (ret := (some .int)) (by decide) rfl ?_
  intro p e s m args below meth c s₁ B hml hv Q hQ
  obtain ⟨rfl, hP, hK⟩ := hv
  have hx := B.exec
  have hb := B.bytes
  have hr := B.returns
  have hlocks := B.notSynchronized
  have hT : ∀ w ∈ gT, w.before _ s = true := fun w h => atoms_spec (ws := (Cond.code yX12_here cX12_here 1 (some .int) :: gT)) B.pre w (List.mem_cons_of_mem _ h)
  have hown : s.vm.findClass RX12 = some m.cls := findClass_of_methodNamed B.named
  have hl := lv_entry ([.ref (a 0)]) (n := 1) (Nat.le_of_ble_eq_true rfl)
  rw [lg_entry_eq]
  generalize (lg_sl ([.ref (a 0)]) ++ List.replicate (1 - (lg_sl ([.ref (a 0)])).length) Slot.unset).toArray = ls at hl ⊢
  have hl : lv_has ls 1 [(0, .ref (a 0))] := hl
  have hEi : mEi [23, 24, 25, 26, 27, 28, 29, 30, 60] i i := Ei_rf
  have hEr : mEr [21, 22, 23, 24, 25, 26, 32, 33, 34, 35, 36, 37, 38, 39, 48, 49, 57, 61, 62] r r := Er_rf
  refine lv_aload_n hx hb dX12_here_0 rfl (lv_at hl 0 rfl) ?_
  refine va_get (D := D) (ci := 12) (v := .int (i 23)) (C := RX12) (T := TX12) (N := 91) hx hb hT iX12 hown hK hP 0 rfl rfl 23 (by decide) (hT _ t_252) (fun _ h9 => h9) rfl dX12_here_1 ?_
  have hg_1 : 0 ≤ (i 23).toInt ∧ (i 23).toInt ≤ 200 := hRi 23
  refine lv_aload_n hx hb dX12_here_4 rfl (lv_at hl 0 rfl) ?_
  refine va_get (D := D) (ci := 12) (v := .int (i 24)) (C := RX12) (T := TX12) (N := 91) hx hb hT iX12 hown hK hP 0 rfl rfl 24 (by decide) (hT _ t_253) (fun _ h9 => h9) rfl dX12_here_5 ?_
  have hg_2 : 0 ≤ (i 24).toInt ∧ (i 24).toInt ≤ 200 := hRi 24
  refine lv_icmp_ge (tgt := 27) hx hb dX12_here_8 (by decide) (fun c_3 => ?_) (fun c_3 => ?_)
  · have c_3 : (i 24).toInt ≤ (i 23).toInt := b_le c_3
    refine lv_iconst (v := (-1)) hx hb dX12_here_27 (by decide) ?_
    subst hQ
    exact W.iret (v := (-1)) hx hb hr (fun t ht hW => ⟨_, rfl, (by unfold mHere; rw [if_neg (by omega)]), ht⟩) (fun q hq => absurd hq List.not_mem_nil) dX12_here_28
  · have c_3 : (i 23).toInt < (i 24).toInt := b_nle c_3
    refine lv_aload_n hx hb dX12_here_11 rfl (lv_at hl 0 rfl) ?_
    refine va_get (D := D) (ci := 12) (v := .ref (a 20)) (C := RX12) (T := TX12) (N := 91) hx hb hT iX12 hown hK hP 0 rfl rfl 21 (by decide) (hT _ t_200) (fun _ h9 => h9) rfl dX12_here_12 ?_
    refine lv_aload_n hx hb dX12_here_15 rfl (lv_at hl 0 rfl) ?_
    refine va_get (D := D) (ci := 12) (v := .int (i 23)) (C := RX12) (T := TX12) (N := 91) hx hb hT iX12 hown hK hP 0 rfl rfl 23 (by decide) (hT _ t_252) (fun _ h9 => h9) rfl dX12_here_16 ?_
    refine va_bald hx hb hK hP 20 1 rfl rfl (vp_inI (by omega) (by omega)) dX12_here_19 ?_
    refine lv_topi (fun v_4 ev_4 => ?_)
    refine lv_sipush (v := 255) hx hb dX12_here_20 (by decide) ?_
    refine lv_iand hx hb dX12_here_23 ?_
    refine lv_topi (fun v_5 ev_5 => ?_)
    refine lv_goto (tgt := 28) hx hb dX12_here_24 (by decide) ?_
    subst hQ
    exact W.iret (v := v_5) hx hb hr (fun t ht hW => ⟨_, rfl, (by unfold mHere; rw [if_pos (by omega), ev_5, ev_4]), ht⟩) (fun q hq => absurd hq List.not_mem_nil) dX12_here_28
set_option maxHeartbeats 4000000 in
set_option maxRecDepth 100000 in
theorem c_X12_isDigit (l : Launch) (D : va_G) (cy : Nat → ClassId) (a : Nat → Nat) (i : Nat → Int32) (r : Nat → Nat → Int32) (rl : Nat → Int64) (hRi : mRi i) (hRr : mRr r) : Met l yX12_isDigit (Cond.code yX12_isDigit cX12_isDigit 1 (some .boolean) :: gT) { frames := 2, cells := 0, slots := 0, locals := 44 } (va_Pc [.ref (a 0)] (rP D cy (mW cy a i r rl))) (vp_Si (fun z => BR z (48 ≤ (mHere i r).toInt ∧ (mHere i r).toInt ≤ 57) 1 0)) 0 0 (fun _ => False) := by
  refine Met.ofQ (cc := cX12_isDigit) (maxL := 1) (ret := (some .boolean)) (by decide) rfl ?_
  intro p e s m args below meth c s₁ B hml hv Q hQ
  obtain ⟨rfl, hP, hK⟩ := hv
  have hx := B.exec
  have hb := B.bytes
  have hr := B.returns
  have hlocks := B.notSynchronized
  have hT : ∀ w ∈ gT, w.before _ s = true := fun w h => atoms_spec (ws := (Cond.code yX12_isDigit cX12_isDigit 1 (some .boolean) :: gT)) B.pre w (List.mem_cons_of_mem _ h)
  have hown : s.vm.findClass RX12 = some m.cls := findClass_of_methodNamed B.named
  have hl := lv_entry ([.ref (a 0)]) (n := 1) (Nat.le_of_ble_eq_true rfl)
  rw [lg_entry_eq]
  generalize (lg_sl ([.ref (a 0)]) ++ List.replicate (1 - (lg_sl ([.ref (a 0)])).length) Slot.unset).toArray = ls at hl ⊢
  have hl : lv_has ls 1 [(0, .ref (a 0))] := hl
  have hEi : mEi [23, 24, 25, 26, 27, 28, 29, 30, 60] i i := Ei_rf
  have hEr : mEr [21, 22, 23, 24, 25, 26, 32, 33, 34, 35, 36, 37, 38, 39, 48, 49, 57, 61, 62] r r := Er_rf
  refine lv_aload_n hx hb dX12_isDigit_0 rfl (lv_at hl 0 rfl) ?_
  refine vp_callSi (W.runV (As := []) (rest := []) ⟨hx, hb, hml, hown, hT⟩ (c_X12_here l D cy a i r rl hRi hRr) (cwV 0 hT (gV t_254 t_255 t_256 t_257 t_6) rfl rfl rfl (by decide +kernel) ⟨Nat.le_of_ble_eq_true rfl, Nat.le_of_ble_eq_true rfl⟩) (rP_v hP hK (va_recv hK hP (ci := 12) (q0 := 0) rfl rfl)) rfl rfl hl.1 rfl (lv_room (Nat.le_of_ble_eq_true rfl)) dX12_isDigit_1 ⟨Nat.le_of_ble_eq_true rfl, Nat.le_of_ble_eq_true rfl⟩) (fun r_1 hr_1 => ?_)
  have hqr_1 : -1 ≤ r_1.toInt ∧ r_1.toInt ≤ 255 := by rw [hr_1]; exact mHere_rg _ _
  have hwr_1 : r_1.toInt = (mHere i r).toInt := congrArg Int32.toInt hr_1
  refine lv_bipush (v := 48) hx hb dX12_isDigit_4 (by decide) ?_
  refine lv_icmp_lt (tgt := 22) hx hb dX12_isDigit_6 (by decide) (fun c_2 => ?_) (fun c_2 => ?_)
  · have c_2 : r_1.toInt < 48 := b_lt c_2
    refine lv_iconst (v := 0) hx hb dX12_isDigit_22 (by decide) ?_
    subst hQ
    exact W.zret hx hb hr rfl (fun t ht hW => ⟨_, rfl, Or.inr ⟨rfl, by omega⟩, ht⟩) (fun q hq => absurd hq List.not_mem_nil) dX12_isDigit_23
  · have c_2 : 48 ≤ r_1.toInt := b_nlt c_2
    refine lv_aload_n hx hb dX12_isDigit_9 rfl (lv_at hl 0 rfl) ?_
    refine vp_callSi (W.runV (As := []) (rest := []) ⟨hx, hb, hml, hown, hT⟩ (c_X12_here l D cy a i r rl hRi hRr) (cwV 0 hT (gV t_254 t_255 t_256 t_257 t_6) rfl rfl rfl (by decide +kernel) ⟨Nat.le_of_ble_eq_true rfl, Nat.le_of_ble_eq_true rfl⟩) (rP_v hP hK (va_recv hK hP (ci := 12) (q0 := 0) rfl rfl)) rfl rfl hl.1 rfl (lv_room (Nat.le_of_ble_eq_true rfl)) dX12_isDigit_10 ⟨Nat.le_of_ble_eq_true rfl, Nat.le_of_ble_eq_true rfl⟩) (fun r_3 hr_3 => ?_)
    have hqr_3 : -1 ≤ r_3.toInt ∧ r_3.toInt ≤ 255 := by rw [hr_3]; exact mHere_rg _ _
    have hwr_3 : r_3.toInt = (mHere i r).toInt := congrArg Int32.toInt hr_3
    refine lv_bipush (v := 57) hx hb dX12_isDigit_13 (by decide) ?_
    refine lv_icmp_gt (tgt := 22) hx hb dX12_isDigit_15 (by decide) (fun c_4 => ?_) (fun c_4 => ?_)
    · have c_4 : 57 < r_3.toInt := b_lt c_4
      refine lv_iconst (v := 0) hx hb dX12_isDigit_22 (by decide) ?_
      subst hQ
      exact W.zret hx hb hr rfl (fun t ht hW => ⟨_, rfl, Or.inr ⟨rfl, by omega⟩, ht⟩) (fun q hq => absurd hq List.not_mem_nil) dX12_isDigit_23
    · have c_4 : r_3.toInt ≤ 57 := b_nlt c_4
      refine lv_iconst (v := 1) hx hb dX12_isDigit_18 (by decide) ?_
      refine lv_goto (tgt := 23) hx hb dX12_isDigit_19 (by decide) ?_
      subst hQ
      exact W.zret hx hb hr rfl (fun t ht hW => ⟨_, rfl, Or.inl ⟨rfl, by omega⟩, ht⟩) (fun q hq => absurd hq List.not_mem_nil) dX12_isDigit_23
