set_option maxRecDepth 100000 in
theorem t_252 : Cond.fieldLink RX12 262 "DepositJudgeModel" "place0" "I" ∈ gT := tm (tb4 (List.mem_of_getElem? (i := 220) (by rfl))) (by decide +kernel)
set_option maxRecDepth 100000 in
theorem t_253 : Cond.fieldLink RX12 265 "DepositJudgeModel" "length0" "I" ∈ gT := tm (tb4 (List.mem_of_getElem? (i := 221) (by rfl))) (by decide +kernel)
set_option maxRecDepth 100000 in
theorem t_254 : Cond.code yX12_here cX12_here 1 (some .int) ∈ gT := tm (tb6 (List.mem_of_getElem? (i := 57) (by rfl))) (by decide +kernel)
set_option maxRecDepth 100000 in
theorem t_255 : Cond.methodLink RX12 268 yX12_here ∈ gT := tm (tb6 (List.mem_of_getElem? (i := 54) (by rfl))) (by decide +kernel)
set_option maxRecDepth 100000 in
theorem t_256 : Cond.instanceMethod yX12_here ∈ gT := tm (tb6 (List.mem_of_getElem? (i := 56) (by rfl))) (by decide +kernel)
theorem t_257 : Cond.selects RX12 yX12_here yX12_here ∈ gT := tmp (List.mem_of_getElem? (i := 35) (by decide +kernel)) (by decide +kernel)
set_option maxRecDepth 100000 in
theorem t_258 : Cond.fieldLink RX12 272 "DepositJudgeModel" "fault" "I" ∈ gT := tm (tb4 (List.mem_of_getElem? (i := 222) (by rfl))) (by decide +kernel)
set_option maxRecDepth 100000 in
theorem t_259 : Cond.code yX12_wrongAt cX12_wrongAt 3 (some .boolean) ∈ gT := tm (tb6 (List.mem_of_getElem? (i := 61) (by rfl))) (by decide +kernel)
set_option maxRecDepth 100000 in
theorem t_260 : Cond.methodLink RX12 275 yX12_wrongAt ∈ gT := tm (tb6 (List.mem_of_getElem? (i := 58) (by rfl))) (by decide +kernel)
set_option maxRecDepth 100000 in
theorem t_261 : Cond.instanceMethod yX12_wrongAt ∈ gT := tm (tb6 (List.mem_of_getElem? (i := 60) (by rfl))) (by decide +kernel)
theorem t_262 : Cond.selects RX12 yX12_wrongAt yX12_wrongAt ∈ gT := tmp (List.mem_of_getElem? (i := 36) (by decide +kernel)) (by decide +kernel)
def dl_198 : List (Nat × (Instr × Nat)) := [(0, (.aload_n 0, 1)), (1, (.getfield 262, 3)), (4, (.aload_n 0, 1)), (5, (.getfield 265, 3)), (8, (.if_icmp .ge 19, 3)), (11, (.aload_n 0, 1)), (12, (.getfield 68, 3)), (15, (.aload_n 0, 1)), (16, (.getfield 262, 3)), (19, (.baload, 1)), (20, (.sipush 255, 3)), (23, (.iand, 1)), (24, (.goto 4, 3)), (27, (.iconst (-1), 1)), (28, (.ireturn, 1))]
theorem dh_198 : dchk cX12_here dl_198 = true := by decide +kernel
theorem dX12_here_0 : decode cX12_here 0 = .ok (.aload_n 0, 1) := dget dh_198 (k := 0) rfl
theorem dX12_here_1 : decode cX12_here 1 = .ok (.getfield 262, 3) := dget dh_198 (k := 1) rfl
theorem dX12_here_4 : decode cX12_here 4 = .ok (.aload_n 0, 1) := dget dh_198 (k := 2) rfl
theorem dX12_here_5 : decode cX12_here 5 = .ok (.getfield 265, 3) := dget dh_198 (k := 3) rfl
theorem dX12_here_8 : decode cX12_here 8 = .ok (.if_icmp .ge 19, 3) := dget dh_198 (k := 4) rfl
theorem dX12_here_11 : decode cX12_here 11 = .ok (.aload_n 0, 1) := dget dh_198 (k := 5) rfl
theorem dX12_here_12 : decode cX12_here 12 = .ok (.getfield 68, 3) := dget dh_198 (k := 6) rfl
theorem dX12_here_15 : decode cX12_here 15 = .ok (.aload_n 0, 1) := dget dh_198 (k := 7) rfl
theorem dX12_here_16 : decode cX12_here 16 = .ok (.getfield 262, 3) := dget dh_198 (k := 8) rfl
theorem dX12_here_19 : decode cX12_here 19 = .ok (.baload, 1) := dget dh_198 (k := 9) rfl
theorem dX12_here_20 : decode cX12_here 20 = .ok (.sipush 255, 3) := dget dh_198 (k := 10) rfl
theorem dX12_here_23 : decode cX12_here 23 = .ok (.iand, 1) := dget dh_198 (k := 11) rfl
theorem dX12_here_24 : decode cX12_here 24 = .ok (.goto 4, 3) := dget dh_198 (k := 12) rfl
theorem dX12_here_27 : decode cX12_here 27 = .ok (.iconst (-1), 1) := dget dh_198 (k := 13) rfl
theorem dX12_here_28 : decode cX12_here 28 = .ok (.ireturn, 1) := dget dh_198 (k := 14) rfl
def dl_199 : List (Nat × (Instr × Nat)) := [(0, (.aload_n 0, 1)), (1, (.invokevirtual 268, 3)), (4, (.bipush 48, 2)), (6, (.if_icmp .lt 16, 3)), (9, (.aload_n 0, 1)), (10, (.invokevirtual 268, 3)), (13, (.bipush 57, 2)), (15, (.if_icmp .gt 7, 3)), (18, (.iconst 1, 1)), (19, (.goto 4, 3)), (22, (.iconst 0, 1)), (23, (.ireturn, 1))]
theorem dh_199 : dchk cX12_isDigit dl_199 = true := by decide +kernel
theorem dX12_isDigit_0 : decode cX12_isDigit 0 = .ok (.aload_n 0, 1) := dget dh_199 (k := 0) rfl
theorem dX12_isDigit_1 : decode cX12_isDigit 1 = .ok (.invokevirtual 268, 3) := dget dh_199 (k := 1) rfl
theorem dX12_isDigit_4 : decode cX12_isDigit 4 = .ok (.bipush 48, 2) := dget dh_199 (k := 2) rfl
theorem dX12_isDigit_6 : decode cX12_isDigit 6 = .ok (.if_icmp .lt 16, 3) := dget dh_199 (k := 3) rfl
theorem dX12_isDigit_9 : decode cX12_isDigit 9 = .ok (.aload_n 0, 1) := dget dh_199 (k := 4) rfl
theorem dX12_isDigit_10 : decode cX12_isDigit 10 = .ok (.invokevirtual 268, 3) := dget dh_199 (k := 5) rfl
theorem dX12_isDigit_13 : decode cX12_isDigit 13 = .ok (.bipush 57, 2) := dget dh_199 (k := 6) rfl
theorem dX12_isDigit_15 : decode cX12_isDigit 15 = .ok (.if_icmp .gt 7, 3) := dget dh_199 (k := 7) rfl
theorem dX12_isDigit_18 : decode cX12_isDigit 18 = .ok (.iconst 1, 1) := dget dh_199 (k := 8) rfl
theorem dX12_isDigit_19 : decode cX12_isDigit 19 = .ok (.goto 4, 3) := dget dh_199 (k := 9) rfl
theorem dX12_isDigit_22 : decode cX12_isDigit 22 = .ok (.iconst 0, 1) := dget dh_199 (k := 10) rfl
theorem dX12_isDigit_23 : decode cX12_isDigit 23 = .ok (.ireturn, 1) := dget dh_199 (k := 11) rfl
def dl_200 : List (Nat × (Instr × Nat)) := [(0, (.aload_n 0, 1)), (1, (.invokevirtual 268, 3)), (4, (.iload_n 1, 1)), (5, (.if_icmp .eq 13, 3)), (8, (.aload_n 0, 1)), (9, (.iconst 1, 1)), (10, (.aload_n 0, 1)), (11, (.getfield 262, 3)), (14, (.invokevirtual 275, 3)), (17, (.ireturn, 1)), (18, (.aload_n 0, 1)), (19, (.aload_n 0, 1)), (20, (.getfield 262, 3)), (23, (.iconst 1, 1)), (24, (.iadd, 1)), (25, (.putfield 262, 3)), (28, (.iconst 1, 1)), (29, (.ireturn, 1))]
theorem dh_200 : dchk cX12_takes dl_200 = true := by decide +kernel
theorem dX12_takes_0 : decode cX12_takes 0 = .ok (.aload_n 0, 1) := dget dh_200 (k := 0) rfl
theorem dX12_takes_1 : decode cX12_takes 1 = .ok (.invokevirtual 268, 3) := dget dh_200 (k := 1) rfl
theorem dX12_takes_4 : decode cX12_takes 4 = .ok (.iload_n 1, 1) := dget dh_200 (k := 2) rfl
theorem dX12_takes_5 : decode cX12_takes 5 = .ok (.if_icmp .eq 13, 3) := dget dh_200 (k := 3) rfl
theorem dX12_takes_8 : decode cX12_takes 8 = .ok (.aload_n 0, 1) := dget dh_200 (k := 4) rfl
theorem dX12_takes_9 : decode cX12_takes 9 = .ok (.iconst 1, 1) := dget dh_200 (k := 5) rfl
theorem dX12_takes_10 : decode cX12_takes 10 = .ok (.aload_n 0, 1) := dget dh_200 (k := 6) rfl
theorem dX12_takes_11 : decode cX12_takes 11 = .ok (.getfield 262, 3) := dget dh_200 (k := 7) rfl
theorem dX12_takes_14 : decode cX12_takes 14 = .ok (.invokevirtual 275, 3) := dget dh_200 (k := 8) rfl
theorem dX12_takes_17 : decode cX12_takes 17 = .ok (.ireturn, 1) := dget dh_200 (k := 9) rfl
theorem dX12_takes_18 : decode cX12_takes 18 = .ok (.aload_n 0, 1) := dget dh_200 (k := 10) rfl
theorem dX12_takes_19 : decode cX12_takes 19 = .ok (.aload_n 0, 1) := dget dh_200 (k := 11) rfl
theorem dX12_takes_20 : decode cX12_takes 20 = .ok (.getfield 262, 3) := dget dh_200 (k := 12) rfl
theorem dX12_takes_23 : decode cX12_takes 23 = .ok (.iconst 1, 1) := dget dh_200 (k := 13) rfl
theorem dX12_takes_24 : decode cX12_takes 24 = .ok (.iadd, 1) := dget dh_200 (k := 14) rfl
theorem dX12_takes_25 : decode cX12_takes 25 = .ok (.putfield 262, 3) := dget dh_200 (k := 15) rfl
theorem dX12_takes_28 : decode cX12_takes 28 = .ok (.iconst 1, 1) := dget dh_200 (k := 16) rfl
theorem dX12_takes_29 : decode cX12_takes 29 = .ok (.ireturn, 1) := dget dh_200 (k := 17) rfl
def dl_201 : List (Nat × (Instr × Nat)) := [(0, (.aload_n 0, 1)), (1, (.sipush (-1000), 3)), (4, (.iload_n 1, 1)), (5, (.imul, 1)), (6, (.iload_n 2, 1)), (7, (.isub, 1)), (8, (.putfield 272, 3)), (11, (.iconst 0, 1)), (12, (.ireturn, 1))]
theorem dh_201 : dchk cX12_wrongAt dl_201 = true := by decide +kernel
theorem dX12_wrongAt_0 : decode cX12_wrongAt 0 = .ok (.aload_n 0, 1) := dget dh_201 (k := 0) rfl
theorem dX12_wrongAt_1 : decode cX12_wrongAt 1 = .ok (.sipush (-1000), 3) := dget dh_201 (k := 1) rfl
theorem dX12_wrongAt_4 : decode cX12_wrongAt 4 = .ok (.iload_n 1, 1) := dget dh_201 (k := 2) rfl
theorem dX12_wrongAt_5 : decode cX12_wrongAt 5 = .ok (.imul, 1) := dget dh_201 (k := 3) rfl
theorem dX12_wrongAt_6 : decode cX12_wrongAt 6 = .ok (.iload_n 2, 1) := dget dh_201 (k := 4) rfl
theorem dX12_wrongAt_7 : decode cX12_wrongAt 7 = .ok (.isub, 1) := dget dh_201 (k := 5) rfl
theorem dX12_wrongAt_8 : decode cX12_wrongAt 8 = .ok (.putfield 272, 3) := dget dh_201 (k := 6) rfl
theorem dX12_wrongAt_11 : decode cX12_wrongAt 11 = .ok (.iconst 0, 1) := dget dh_201 (k := 7) rfl
theorem dX12_wrongAt_12 : decode cX12_wrongAt 12 = .ok (.ireturn, 1) := dget dh_201 (k := 8) rfl
/-- what 'here' answers -/
def mHere (i : Nat → Int32) (r : Nat → Nat → Int32) : Int32 := if (i 23).toInt < (i 24).toInt then r 20 (i 23).toNatClampNeg &&& 255 else -1
theorem mHere_rg (i : Nat → Int32) (r : Nat → Nat → Int32) : -1 ≤ (mHere i r).toInt ∧ (mHere i r).toInt ≤ 255 := by
  unfold mHere
  by_cases h : (i 23).toInt < (i 24).toInt
  · rw [if_pos h]; have := b_and255 (r 20 (i 23).toNatClampNeg); omega
  · rw [if_neg h]; decide
set_option maxHeartbeats 4000000 in
set_option maxRecDepth 100000 in
theorem c_X12_here (l : Launch) (D : va_G) (cy : Nat → ClassId) (a : Nat → Nat) (i : Nat → Int32) (r : Nat → Nat → Int32) (rl : Nat → Int64) (hRi : mRi i) (hRr : mRr r) : Met l yX12_here (Cond.code yX12_here cX12_here 1 (some .int) :: gT) { frames := 1, cells := 0, slots := 0, locals := 24 } (va_Pc [.ref (a 0)] (rP D cy (mW cy a i r rl))) (vp_Si (fun z => z = mHere i r)) 0 0 (fun _ => False) := by
  refine Met.ofQ (cc := cX12_here) (maxL := 1) (ret := (some .int)) (by decide) rfl ?_
  intro p e s m args below meth c s₁ B hml hv Q hQ
  obtain ⟨rfl, hP, hK⟩ := hv
  have hx := B.exec
  have hb := B.bytes
  have hr := B.returns
  have hlocks := B.notSynchronized
  have hT : ∀ w ∈ gT, w.before _ s = true := fun w h => atoms_spec (ws := (Cond.code yX12_here cX12_here 1 (some .int) :: gT)) B.pre w (List.mem_cons_of_mem _ h)
  have hown : s.vm.findClass RX12 = some m.cls := findClass_of_methodNamed B.named
  have hl := lv_entry ([.ref (a 0)]) (n := 1) (Nat.le_of_ble_eq_true rfl)
  rw [lg_entry_eq]
  generalize (lg_sl ([.ref (a 0)]) ++ List.replicate (1 - (lg_sl ([.ref (a 0)])).length) Slot.unset).toArray = ls at hl ⊢
  have hl : lv_has ls 1 [(0, .ref (a 0))] := hl
  have hEi : mEi [23, 24, 25, 26, 27, 28, 29, 30, 60] i i := Ei_rf
  have hEr : mEr [21, 22, 23, 24, 25, 26, 32, 33, 34, 35, 36, 37, 38, 39, 48, 49, 57, 61, 62] r r := Er_rf
  refine lv_aload_n hx hb dX12_here_0 rfl (lv_at hl 0 rfl) ?_
  refine va_get (D := D) (ci := 12) (v := .int (i 23)) (C := RX12) (T := TX12) (N := 91) hx hb hT iX12 hown hK hP 0 rfl rfl 23 (by decide) (hT _ t_252) (fun _ h9 => h9) rfl dX12_here_1 ?_
  have hg_1 : 0 ≤ (i 23).toInt ∧ (i 23).toInt ≤ 200 := hRi 23
  refine lv_aload_n hx hb dX12_here_4 rfl (lv_at hl 0 rfl) ?_
  refine va_get (D := D) (ci := 12) (v := .int (i 24)) (C := RX12) (T := TX12) (N := 91) hx hb hT iX12 hown hK hP 0 rfl rfl 24 (by decide) (hT _ t_253) (fun _ h9 => h9) rfl dX12_here_5 ?_
  have hg_2 : 0 ≤ (i 24).toInt ∧ (i 24).toInt ≤ 200 := hRi 24
  refine lv_icmp_ge (tgt := 27) hx hb dX12_here_8 (by decide) (fun c_3 => ?_) (fun c_3 => ?_)
  · have c_3 : (i 24).toInt ≤ (i 23).toInt := b_le c_3
    refine lv_iconst (v := (-1)) hx hb dX12_here_27 (by decide) ?_
    subst hQ
    exact W.iret (v := (-1)) hx hb hr (fun t ht hW => ⟨_, rfl, (by unfold mHere; rw [if_neg (by omega)]), ht⟩) (fun q hq => absurd hq List.not_mem_nil) dX12_here_28
  · have c_3 : (i 23).toInt < (i 24).toInt := b_nle c_3
    refine lv_aload_n hx hb dX12_here_11 rfl (lv_at hl 0 rfl) ?_
    refine va_get (D := D) (ci := 12) (v := .ref (a 20)) (C := RX12) (T := TX12) (N := 91) hx hb hT iX12 hown hK hP 0 rfl rfl 21 (by decide) (hT _ t_200) (fun _ h9 => h9) rfl dX12_here_12 ?_
    refine lv_aload_n hx hb dX12_here_15 rfl (lv_at hl 0 rfl) ?_
    refine va_get (D := D) (ci := 12) (v := .int (i 23)) (C := RX12) (T := TX12) (N := 91) hx hb hT iX12 hown hK hP 0 rfl rfl 23 (by decide) (hT _ t_252) (fun _ h9 => h9) rfl dX12_here_16 ?_
    refine va_bald hx hb hK hP 20 1 rfl rfl (vp_inI (by omega) (by omega)) dX12_here_19 ?_
    refine lv_topi (fun v_4 ev_4 => ?_)
    refine lv_sipush (v := 255) hx hb dX12_here_20 (by decide) ?_
    refine lv_iand hx hb dX12_here_23 ?_
    refine lv_topi (fun v_5 ev_5 => ?_)
    refine lv_goto (tgt := 28) hx hb dX12_here_24 (by decide) ?_
    subst hQ
    exact W.iret (v := v_5) hx hb hr (fun t ht hW => ⟨_, rfl, (by unfold mHere; rw [if_pos (by omega), ev_5, ev_4]), ht⟩) (fun q hq => absurd hq List.not_mem_nil) dX12_here_28
set_option maxHeartbeats 4000000 in
set_option maxRecDepth 100000 in
theorem c_X12_isDigit (l : Launch) (D : va_G) (cy : Nat → ClassId) (a : Nat → Nat) (i : Nat → Int32) (r : Nat → Nat → Int32) (rl : Nat → Int64) (hRi : mRi i) (hRr : mRr r) : Met l yX12_isDigit (Cond.code yX12_isDigit cX12_isDigit 1 (some .boolean) :: gT) { frames := 2, cells := 0, slots := 0, locals := 44 } (va_Pc [.ref (a 0)] (rP D cy (mW cy a i r rl))) (vp_Si (fun z => BR z (48 ≤ (mHere i r).toInt ∧ (mHere i r).toInt ≤ 57) 1 0)) 0 0 (fun _ => False) := by
  refine Met.ofQ (cc := cX12_isDigit) (maxL := 1) (ret := (some .boolean)) (by decide) rfl ?_
  intro p e s m args below meth c s₁ B hml hv Q hQ
  obtain ⟨rfl, hP, hK⟩ := hv
  have hx := B.exec
  have hb := B.bytes
  have hr := B.returns
  have hlocks := B.notSynchronized
  have hT : ∀ w ∈ gT, w.before _ s = true := fun w h => atoms_spec (ws := (Cond.code yX12_isDigit cX12_isDigit 1 (some .boolean) :: gT)) B.pre w (List.mem_cons_of_mem _ h)
  have hown : s.vm.findClass RX12 = some m.cls := findClass_of_methodNamed B.named
  have hl := lv_entry ([.ref (a 0)]) (n := 1) (Nat.le_of_ble_eq_true rfl)
  rw [lg_entry_eq]
  generalize (lg_sl ([.ref (a 0)]) ++ List.replicate (1 - (lg_sl ([.ref (a 0)])).length) Slot.unset).toArray = ls at hl ⊢
  have hl : lv_has ls 1 [(0, .ref (a 0))] := hl
  have hEi : mEi [23, 24, 25, 26, 27, 28, 29, 30, 60] i i := Ei_rf
  have hEr : mEr [21, 22, 23, 24, 25, 26, 32, 33, 34, 35, 36, 37, 38, 39, 48, 49, 57, 61, 62] r r := Er_rf
  refine lv_aload_n hx hb dX12_isDigit_0 rfl (lv_at hl 0 rfl) ?_
  refine vp_callSi (W.runV (As := []) (rest := []) ⟨hx, hb, hml, hown, hT⟩ (c_X12_here l D cy a i r rl hRi hRr) (cwV 0 hT (gV t_254 t_255 t_256 t_257 t_6) rfl rfl rfl (by decide +kernel) ⟨Nat.le_of_ble_eq_true rfl, Nat.le_of_ble_eq_true rfl⟩) (rP_v hP hK (va_recv hK hP (ci := 12) (q0 := 0) rfl rfl)) rfl rfl hl.1 rfl (lv_room (Nat.le_of_ble_eq_true rfl)) dX12_isDigit_1 ⟨Nat.le_of_ble_eq_true rfl, Nat.le_of_ble_eq_true rfl⟩) (fun r_1 hr_1 => ?_)
  have hqr_1 : -1 ≤ r_1.toInt ∧ r_1.toInt ≤ 255 := by rw [hr_1]; exact mHere_rg _ _
  have hwr_1 : r_1.toInt = (mHere i r).toInt := congrArg Int32.toInt hr_1
  refine lv_bipush (v := 48) hx hb dX12_isDigit_4 (by decide) ?_
  refine lv_icmp_lt (tgt := 22) hx hb dX12_isDigit_6 (by decide) (fun c_2 => ?_) (fun c_2 => ?_)
  · have c_2 : r_1.toInt < 48 := b_lt c_2
    refine lv_iconst (v := 0) hx hb dX12_isDigit_22 (by decide) ?_
    subst hQ
    exact W.zret hx hb hr rfl (fun t ht hW => ⟨_, rfl, Or.inr ⟨rfl, by omega⟩, ht⟩) (fun q hq => absurd hq List.not_mem_nil) dX12_isDigit_23
  · have c_2 : 48 ≤ r_1.toInt := b_nlt c_2
    refine lv_aload_n hx hb dX12_isDigit_9 rfl (lv_at hl 0 rfl) ?_
    refine vp_callSi (W.runV (As := []) (rest := []) ⟨hx, hb, hml, hown, hT⟩ (c_X12_here l D cy a i r rl hRi hRr) (cwV 0 hT (gV t_254 t_255 t_256 t_257 t_6) rfl rfl rfl (by decide +kernel) ⟨Nat.le_of_ble_eq_true rfl, Nat.le_of_ble_eq_true rfl⟩) (rP_v hP hK (va_recv hK hP (ci := 12) (q0 := 0) rfl rfl)) rfl rfl hl.1 rfl (lv_room (Nat.le_of_ble_eq_true rfl)) dX12_isDigit_10 ⟨Nat.le_of_ble_eq_true rfl, Nat.le_of_ble_eq_true rfl⟩) (fun r_3 hr_3 => ?_)
    have hqr_3 : -1 ≤ r_3.toInt ∧ r_3.toInt ≤ 255 := by rw [hr_3]; exact mHere_rg _ _
    have hwr_3 : r_3.toInt = (mHere i r).toInt := congrArg Int32.toInt hr_3
    refine lv_bipush (v := 57) hx hb dX12_isDigit_13 (by decide) ?_
    refine lv_icmp_gt (tgt := 22) hx hb dX12_isDigit_15 (by decide) (fun c_4 => ?_) (fun c_4 => ?_)
    · have c_4 : 57 < r_3.toInt := b_lt c_4
      refine lv_iconst (v := 0) hx hb dX12_isDigit_22 (by decide) ?_
      subst hQ
      exact W.zret hx hb hr rfl (fun t ht hW => ⟨_, rfl, Or.inr ⟨rfl, by omega⟩, ht⟩) (fun q hq => absurd hq List.not_mem_nil) dX12_isDigit_23
    · have c_4 : r_3.toInt ≤ 57 := b_nlt c_4
      refine lv_iconst (v := 1) hx hb dX12_isDigit_18 (by decide) ?_
      refine lv_goto (tgt := 23) hx hb dX12_isDigit_19 (by decide) ?_
      subst hQ
      exact W.zret hx hb hr rfl (fun t ht hW => ⟨_, rfl, Or.inl ⟨rfl, by omega⟩, ht⟩) (fun q hq => absurd hq List.not_mem_nil) dX12_isDigit_23
theorem mHere_lt {i : Nat → Int32} {r : Nat → Nat → Int32} (h : (mHere i r).toInt ≠ -1) : (i 23).toInt < (i 24).toInt := by
  by_cases h2 : (i 23).toInt < (i 24).toInt
  · exact h2
  · exact absurd (by unfold mHere; rw [if_neg h2]; rfl) h
set_option maxHeartbeats 4000000 in
set_option maxRecDepth 100000 in
theorem c_X12_wrongAt (l : Launch) (D : va_G) (cy : Nat → ClassId) (a : Nat → Nat) (i : Nat → Int32) (r : Nat → Nat → Int32) (rl : Nat → Int64) (p0 p1 : Int32) (sz : Nat) (hRi : mRi i) (hRr : mRr r) : Met l yX12_wrongAt (Cond.code yX12_wrongAt cX12_wrongAt 3 (some .boolean) :: gT) { frames := 1, cells := 0, slots := 0, locals := 24 } (va_Pc [.ref (a 0), .int p0, .int p1] (rQ D cy (mW cy a i r rl) sz)) (va_Qi (fun (z : Int32) (u : (Nat → Int32) × (Nat → Nat → Int32)) => mRi u.1 ∧ mRr u.2 ∧ mEi [25] i u.1 ∧ mEr [] r u.2 ∧ (z = 0)) (fun (u : (Nat → Int32) × (Nat → Nat → Int32)) t => va_P D vwCl (mW cy a u.1 u.2 rl) t.heap ∧ va_K D vwCl (vT cy) t ∧ va_D (va_A (mW cy a i r rl) sz) (mW cy a u.1 u.2 rl)) (va_A (mW cy a i r rl) sz)) 0 0 (va_A (mW cy a i r rl) sz) := by
  refine Met.ofQ (cc := cX12_wrongAt) (maxL := 3) (ret := (some .boolean)) (by decide) rfl ?_
  intro p e s m args below meth c s₁ B hml hv Q hQ
  obtain ⟨rfl, hsz, hP, hK, hD0⟩ := hv
  have hx := B.exec
  have hb := B.bytes
  have hr := B.returns
  have hlocks := B.notSynchronized
  have hT : ∀ w ∈ gT, w.before _ s = true := fun w h => atoms_spec (ws := (Cond.code yX12_wrongAt cX12_wrongAt 3 (some .boolean) :: gT)) B.pre w (List.mem_cons_of_mem _ h)
  have hown : s.vm.findClass RX12 = some m.cls := findClass_of_methodNamed B.named
  subst hsz
  have hD := hD0.self (sz := s.heap.size)
  generalize hAe : va_A (mW cy a i r rl) s.heap.size = A at hD hQ
  have hA : ∀ q : Nat, s.heap.size ≤ q → A q := fun q h => by rw [← hAe]; exact Or.inr h
  have hS : va_S A s.heap s.heap [] := va_S.rf
  have hl := lv_entry ([.ref (a 0), .int p0, .int p1]) (n := 3) (Nat.le_of_ble_eq_true rfl)
  rw [lg_entry_eq]
  generalize (lg_sl ([.ref (a 0), .int p0, .int p1]) ++ List.replicate (3 - (lg_sl ([.ref (a 0), .int p0, .int p1])).length) Slot.unset).toArray = ls at hl ⊢
  have hl : lv_has ls 3 [(0, .ref (a 0)), (1, .int p0), (2, .int p1)] := hl
  have hEi : mEi [25] i i := Ei_rf
  have hEr : mEr [] r r := Er_rf
  refine lv_aload_n hx hb dX12_wrongAt_0 rfl (lv_at hl 0 rfl) ?_
  refine lv_sipush (v := (-1000)) hx hb dX12_wrongAt_1 (by decide) ?_
  refine lv_iload_n hx hb dX12_wrongAt_4 rfl (lv_at hl 1 rfl) ?_
  refine lv_imul hx hb dX12_wrongAt_5 ?_
  refine lv_topi (fun v_1 ev_1 => ?_)
  refine lv_iload_n hx hb dX12_wrongAt_6 rfl (lv_at hl 2 rfl) ?_
  refine lv_isub hx hb dX12_wrongAt_7 ?_
  refine lv_topi (fun v_2 ev_2 => ?_)
  refine va_put (D := D) (ci := 12) (v := .int v_2) (ty := .int) (C := RX12) (T := TX12) (N := 91) hx hb hT iX12 tyX12 tyX12_ok nmX12 hown hK hP hD hS 0 rfl rfl 25 (by decide) (hT _ t_258) (fun _ h9 => h9) rfl (by decide +kernel) rfl rfl (Nat.le_of_ble_eq_true rfl) dX12_wrongAt_8 (fun H locs hP hD hS => ?_)
  rw [mP25] at hP hD
  have hRi := Ri_upd hRi 25 v_2 (b_rg _)
  have hEi := Ei_upd hEi 25 v_2 (by decide)
  refine lv_iconst (v := 0) hx hb dX12_wrongAt_11 (by decide) ?_
  subst hQ
  exact W.zret hx hb hr rfl (fun t ht hW => ⟨⟨_, (upd i 25 v_2, r), rfl, ⟨hRi, hRr, hEi, hEr, rfl⟩, by rw [ht]; exact hP, va_K.moved hW.alike hK, hD⟩, hS.F ht⟩) hS.2.2 dX12_wrongAt_12
set_option maxHeartbeats 4000000 in
set_option maxRecDepth 100000 in
theorem c_X12_takes (l : Launch) (D : va_G) (cy : Nat → ClassId) (a : Nat → Nat) (i : Nat → Int32) (r : Nat → Nat → Int32) (rl : Nat → Int64) (p0 : Int32) (sz : Nat) (hRi : mRi i) (hRr : mRr r) (q0 : 0 ≤ p0.toInt) : Met l yX12_takes (Cond.code yX12_takes cX12_takes 2 (some .boolean) :: gT) { frames := 2, cells := 0, slots := 0, locals := 46 } (va_Pc [.ref (a 0), .int p0] (rQ D cy (mW cy a i r rl) sz)) (va_Qi (fun (z : Int32) (u : (Nat → Int32) × (Nat → Nat → Int32)) => mRi u.1 ∧ mRr u.2 ∧ mEi [23, 25] i u.1 ∧ mEr [] r u.2 ∧ ((z = 1 ∧ (u.1 23).toInt = (i 23).toInt + 1 ∧ (i 23).toInt < (i 24).toInt) ∨ (z = 0 ∧ u.1 23 = i 23))) (fun (u : (Nat → Int32) × (Nat → Nat → Int32)) t => va_P D vwCl (mW cy a u.1 u.2 rl) t.heap ∧ va_K D vwCl (vT cy) t ∧ va_D (va_A (mW cy a i r rl) sz) (mW cy a u.1 u.2 rl)) (va_A (mW cy a i r rl) sz)) 0 0 (va_A (mW cy a i r rl) sz) := by
  refine Met.ofQ (cc := cX12_takes) (maxL := 2) (ret := (some .boolean)) (by decide) rfl ?_
  intro p e s m args below meth c s₁ B hml hv Q hQ
  obtain ⟨rfl, hsz, hP, hK, hD0⟩ := hv
  have hx := B.exec
  have hb := B.bytes
  have hr := B.returns
  have hlocks := B.notSynchronized
  have hT : ∀ w ∈ gT, w.before _ s = true := fun w h => atoms_spec (ws := (Cond.code yX12_takes cX12_takes 2 (some .boolean) :: gT)) B.pre w (List.mem_cons_of_mem _ h)
  have hown : s.vm.findClass RX12 = some m.cls := findClass_of_methodNamed B.named
  subst hsz
  have hD := hD0.self (sz := s.heap.size)
  generalize hAe : va_A (mW cy a i r rl) s.heap.size = A at hD hQ
  have hA : ∀ q : Nat, s.heap.size ≤ q → A q := fun q h => by rw [← hAe]; exact Or.inr h
  have hS : va_S A s.heap s.heap [] := va_S.rf
  have hl := lv_entry ([.ref (a 0), .int p0]) (n := 2) (Nat.le_of_ble_eq_true rfl)
  rw [lg_entry_eq]
  generalize (lg_sl ([.ref (a 0), .int p0]) ++ List.replicate (2 - (lg_sl ([.ref (a 0), .int p0])).length) Slot.unset).toArray = ls at hl ⊢
  have hl : lv_has ls 2 [(0, .ref (a 0)), (1, .int p0)] := hl
  have hEi : mEi [23, 25] i i := Ei_rf
  have hEr : mEr [] r r := Er_rf
  refine lv_aload_n hx hb dX12_takes_0 rfl (lv_at hl 0 rfl) ?_
  refine vp_callSi (W.runV (As := []) (rest := []) ⟨hx, hb, hml, hown, hT⟩ (c_X12_here l D cy a i r rl hRi hRr) (cwV 0 hT (gV t_254 t_255 t_256 t_257 t_6) rfl rfl rfl (by decide +kernel) ⟨Nat.le_of_ble_eq_true rfl, Nat.le_of_ble_eq_true rfl⟩) (rP_v hP hK (va_recv hK hP (ci := 12) (q0 := 0) rfl rfl)) rfl rfl hl.1 rfl (lv_room (Nat.le_of_ble_eq_true rfl)) dX12_takes_1 ⟨Nat.le_of_ble_eq_true rfl, Nat.le_of_ble_eq_true rfl⟩) (fun r_1 hr_1 => ?_)
  have hqr_1 : -1 ≤ r_1.toInt ∧ r_1.toInt ≤ 255 := by rw [hr_1]; exact mHere_rg _ _
  have hwr_1 : r_1.toInt = (mHere i r).toInt := congrArg Int32.toInt hr_1
  refine lv_iload_n hx hb dX12_takes_4 rfl (lv_at hl 1 rfl) ?_
  refine lv_icmp_eq (tgt := 18) hx hb dX12_takes_5 (by decide) (fun c_2 => ?_) (fun c_2 => ?_)
  · have c_2 : r_1.toInt = p0.toInt := b_eq c_2
    have hlt : (i 23).toInt < (i 24).toInt := mHere_lt (r := r) (by omega)
    have hg24 : 0 ≤ (i 24).toInt ∧ (i 24).toInt ≤ 200 := hRi 24
    have hg23 : 0 ≤ (i 23).toInt ∧ (i 23).toInt ≤ 200 := hRi 23
    refine lv_aload_n hx hb dX12_takes_18 rfl (lv_at hl 0 rfl) ?_
    refine lv_aload_n hx hb dX12_takes_19 rfl (lv_at hl 0 rfl) ?_
    refine va_get (D := D) (ci := 12) (v := .int (i 23)) (C := RX12) (T := TX12) (N := 91) hx hb hT iX12 hown hK hP 0 rfl rfl 23 (by decide) (hT _ t_252) (fun _ h9 => h9) rfl dX12_takes_20 ?_
    have hg_3 : 0 ≤ (i 23).toInt ∧ (i 23).toInt ≤ 200 := hRi 23
    refine lv_iconst (v := 1) hx hb dX12_takes_23 (by decide) ?_
    refine lv_iadd hx hb dX12_takes_24 ?_
    refine lv_topi (fun v_4 ev_4 => ?_)
    have hv_4 : v_4.toInt = (i 23).toInt + 1 := by rw [ev_4]; have := b_rg (i 23); exact i_add (a := (i 23).toInt) (b := 1) rfl rfl (by omega) (by omega)
    refine va_put (D := D) (ci := 12) (v := .int v_4) (ty := .int) (C := RX12) (T := TX12) (N := 91) hx hb hT iX12 tyX12 tyX12_ok nmX12 hown hK hP hD hS 0 rfl rfl 23 (by decide) (hT _ t_252) (fun _ h9 => h9) rfl (by decide +kernel) rfl rfl (Nat.le_of_ble_eq_true rfl) dX12_takes_25 (fun H locs hP hD hS => ?_)
    rw [mP23] at hP hD
    have hRi := Ri_upd hRi 23 v_4 ⟨by show (0 : Int) ≤ v_4.toInt; omega, by show v_4.toInt ≤ (200 : Int); omega⟩
    have hEi := Ei_upd hEi 23 v_4 (by decide)
    refine lv_iconst (v := 1) hx hb dX12_takes_28 (by decide) ?_
    subst hQ
    exact W.zret hx hb hr rfl (fun t ht hW => ⟨⟨_, (upd i 23 v_4, r), rfl, ⟨hRi, hRr, hEi, hEr, (Or.inl ⟨rfl, (by show v_4.toInt = _; omega), hlt⟩)⟩, by rw [ht]; exact hP, va_K.moved hW.alike hK, hD⟩, hS.F ht⟩) hS.2.2 dX12_takes_29
  · have c_2 : r_1.toInt ≠ p0.toInt := b_ne c_2
    refine lv_aload_n hx hb dX12_takes_8 rfl (lv_at hl 0 rfl) ?_
    refine lv_iconst (v := 1) hx hb dX12_takes_9 (by decide) ?_
    refine lv_aload_n hx hb dX12_takes_10 rfl (lv_at hl 0 rfl) ?_
    refine va_get (D := D) (ci := 12) (v := .int (i 23)) (C := RX12) (T := TX12) (N := 91) hx hb hT iX12 hown hK hP 0 rfl rfl 23 (by decide) (hT _ t_252) (fun _ h9 => h9) rfl dX12_takes_11 ?_
    have hg_5 : 0 ≤ (i 23).toInt ∧ (i 23).toInt ≤ 200 := hRi 23
    have hF_6 := rF hD hS hA
    refine va_calli (va_runV (As := [.int 1, .int (i 23)]) (rest := []) ⟨hx, hb, hml, hown, hT⟩ (c_X12_wrongAt l D cy a i r rl 1 (i 23) _ hRi hRr) (cwV 2 hT (gV t_259 t_260 t_261 t_262 t_6) rfl rfl rfl (by decide +kernel) ⟨Nat.le_of_ble_eq_true rfl, Nat.le_of_ble_eq_true rfl⟩) (rQ_v hP hK hD (va_recv hK hP (ci := 12) (q0 := 0) rfl rfl)) rfl rfl hl.1 rfl (lv_room (Nat.le_of_ble_eq_true rfl)) dX12_takes_14 ⟨Nat.le_of_ble_eq_true rfl, Nat.le_of_ble_eq_true rfl⟩) hS (fun q _ h => hF_6 q h) hF_6 (fun r_7 u_8 t H1 locs ht hvm hr_7 hB hz1 hk1 hS => ?_)
    obtain ⟨i8, r8⟩ := u_8
    obtain ⟨hP, hK1, hD1⟩ := hB
    rw [ht] at hP
    have hD := hD1.weaken (fun k q _ h => hF_6 q.1 h)
    have hP : va_P D vwCl (mW cy a i8 r8 rl) H1 := hP
    have hD : va_D A (mW cy a i8 r8 rl) := hD
    obtain ⟨hRi, hRr, hE1, hE2, hr_7⟩ := hr_7
    have hRi : mRi i8 := hRi
    have hRr : mRr r8 := hRr
    have hEi : mEi [23, 25] _ i8 := Ei_tr hEi hE1 (by decide)
    have hEr : mEr [] _ r8 := Er_tr hEr hE2 (by decide)
    subst hr_7
    subst hQ
    exact W.zret hx hb hr rfl (fun t ht hW => ⟨⟨_, (i8, r8), rfl, ⟨hRi, hRr, hEi, hEr, (Or.inr ⟨rfl, hE1 23 (by decide)⟩)⟩, by rw [ht]; exact hP, va_K.moved hW.alike hK, hD⟩, hS.F ht⟩) hS.2.2 dX12_takes_17
