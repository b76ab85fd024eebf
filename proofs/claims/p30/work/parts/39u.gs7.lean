-- an award: its reason, its pence
def awP (d : lwT) (fa : Nat → Int32) (lost ag : Int32) : Int32 := if (lost * byL d fa 112 100 100 / 100).toInt < ag.toInt then ag else lost * byL d fa 112 100 100 / 100
def awR (d : lwT) (fa : Nat → Int32) (lost ag cd ad pf ev day : Int32) : Int32 := if lost.toInt = 0 then 1 else if lost.toInt ≤ ag.toInt then 2 else if ad.toInt = -1 ∨ day.toInt < ad.toInt then (if (byL d fa 100 999 999).toInt < (day - cd).toInt then 3 else 4) else if anB d fa = 1 then (if pf.toInt = 0 then 5 else 6) else if ev.toInt % 2 = 1 ∧ 1 < ev.toInt then 7 else 8
def awV (d : lwT) (fa : Nat → Int32) (lost ag R : Int32) : Int32 := if R.toInt = 1 then 0 else if R.toInt = 2 ∨ R.toInt = 3 then lost else if R.toInt = 5 ∨ R.toInt = 7 then awP d fa lost ag else ag
def mFa (r : Nat → Nat → Int32) (J : Nat → Int32) (c : Nat) : Nat → Int32 := faL (mTh r J (r 40 c).toNatClampNeg (r 41 c).toNatClampNeg (r 42 c) (r 43 c))
def mLc (d : lwT) (r : Nat → Nat → Int32) (J : Nat → Int32) (c : Nat) : Int32 := mLs d r J (r 40 c).toNatClampNeg (r 41 c).toNatClampNeg
def mAR (d : lwT) (r : Nat → Nat → Int32) (J : Nat → Int32) (c : Nat) (day : Int32) : Int32 := awR d (mFa r J c) (mLc d r J c) (r 45 c) (r 44 c) (r 46 c) (r 47 c) (r 43 c) day
def mAV (d : lwT) (r : Nat → Nat → Int32) (J : Nat → Int32) (c : Nat) (day : Int32) : Int32 := awV d (mFa r J c) (mLc d r J c) (r 45 c) (mAR d r J c day)
def xFa (i : Nat → Int32) (r : Nat → Nat → Int32) (c : Nat) : Nat → Int32 := faL (xTh i r (r 31 c).toNatClampNeg (r 32 c) (r 33 c))
def xLc (d : lwT) (i : Nat → Int32) (r : Nat → Nat → Int32) (c : Nat) : Int32 := xLs d i r (r 31 c).toNatClampNeg
def xAR (d : lwT) (i : Nat → Int32) (r : Nat → Nat → Int32) (c : Nat) (day : Int32) : Int32 := awR d (xFa i r c) (xLc d i r c) (r 35 c) (r 34 c) (r 36 c) (r 37 c) (r 33 c) day
def xAV (d : lwT) (i : Nat → Int32) (r : Nat → Nat → Int32) (c : Nat) (day : Int32) : Int32 := awV d (xFa i r c) (xLc d i r c) (r 35 c) (xAR d i r c day)
section AWARD
variable {d : lwT} {fa : Nat → Int32} {lost ag cd ad pf ev day R n : Int32}
theorem awR_1 (h : lost.toInt = 0) : awR d fa lost ag cd ad pf ev day = 1 := if_pos h
theorem awR_2 (h : lost.toInt ≠ 0) (h2 : lost.toInt ≤ ag.toInt) : awR d fa lost ag cd ad pf ev day = 2 := by unfold awR; rw [if_neg h, if_pos h2]
theorem awR_3 (h : lost.toInt ≠ 0) (h2 : ¬ lost.toInt ≤ ag.toInt) (h3 : ad.toInt = -1 ∨ day.toInt < ad.toInt) (h4 : (byL d fa 100 999 999).toInt < (day - cd).toInt) : awR d fa lost ag cd ad pf ev day = 3 := by unfold awR; rw [if_neg h, if_neg h2, if_pos h3, if_pos h4]
theorem awR_4 (h : lost.toInt ≠ 0) (h2 : ¬ lost.toInt ≤ ag.toInt) (h3 : ad.toInt = -1 ∨ day.toInt < ad.toInt) (h4 : ¬ (byL d fa 100 999 999).toInt < (day - cd).toInt) : awR d fa lost ag cd ad pf ev day = 4 := by unfold awR; rw [if_neg h, if_neg h2, if_pos h3, if_neg h4]
theorem awR_5 (h : lost.toInt ≠ 0) (h2 : ¬ lost.toInt ≤ ag.toInt) (h3 : ¬ (ad.toInt = -1 ∨ day.toInt < ad.toInt)) (h4 : anB d fa = 1) (h5 : pf.toInt = 0) : awR d fa lost ag cd ad pf ev day = 5 := by unfold awR; rw [if_neg h, if_neg h2, if_neg h3, if_pos h4, if_pos h5]
theorem awR_6 (h : lost.toInt ≠ 0) (h2 : ¬ lost.toInt ≤ ag.toInt) (h3 : ¬ (ad.toInt = -1 ∨ day.toInt < ad.toInt)) (h4 : anB d fa = 1) (h5 : ¬ pf.toInt = 0) : awR d fa lost ag cd ad pf ev day = 6 := by unfold awR; rw [if_neg h, if_neg h2, if_neg h3, if_pos h4, if_neg h5]
theorem awR_7 (h : lost.toInt ≠ 0) (h2 : ¬ lost.toInt ≤ ag.toInt) (h3 : ¬ (ad.toInt = -1 ∨ day.toInt < ad.toInt)) (h4 : ¬ anB d fa = 1) (h5 : ev.toInt % 2 = 1 ∧ 1 < ev.toInt) : awR d fa lost ag cd ad pf ev day = 7 := by unfold awR; rw [if_neg h, if_neg h2, if_neg h3, if_neg h4, if_pos h5]
theorem awR_8 (h : lost.toInt ≠ 0) (h2 : ¬ lost.toInt ≤ ag.toInt) (h3 : ¬ (ad.toInt = -1 ∨ day.toInt < ad.toInt)) (h4 : ¬ anB d fa = 1) (h5 : ¬ (ev.toInt % 2 = 1 ∧ 1 < ev.toInt)) : awR d fa lost ag cd ad pf ev day = 8 := by unfold awR; rw [if_neg h, if_neg h2, if_neg h3, if_neg h4, if_neg h5]
theorem awV_1 (h : R.toInt = 1) : awV d fa lost ag R = 0 := if_pos h
theorem awV_23 (h : R.toInt = 2 ∨ R.toInt = 3) : awV d fa lost ag R = lost := by unfold awV; rw [if_neg (by omega), if_pos h]
theorem awV_57 (h : R.toInt = 5 ∨ R.toInt = 7) : awV d fa lost ag R = awP d fa lost ag := by unfold awV; rw [if_neg (by omega), if_neg (by omega), if_pos h]
theorem awV_o (h : R.toInt = 4 ∨ R.toInt = 6 ∨ R.toInt = 8) : awV d fa lost ag R = ag := by unfold awV; rw [if_neg (by omega), if_neg (by omega), if_neg (by omega)]
theorem awP_g {x : Int32} (e1 : x = lost * byL d fa 112 100 100) (e2 : n = x / 100) (h : n.toInt < ag.toInt) : ag = awP d fa lost ag := by
  subst e1 e2; exact (if_pos h).symm
theorem awP_n {x : Int32} (e1 : x = lost * byL d fa 112 100 100) (e2 : n = x / 100) (h : ¬ n.toInt < ag.toInt) : n = awP d fa lost ag := by
  subst e1 e2; exact (if_neg h).symm
end AWARD
theorem mFa_E {T : List Nat} {r R : Nat → Nat → Int32} {J : Nat → Int32} {c : Nat} (h : mEr T r R) (hT : ∀ p ∈ ([3, 4, 6, 7, 12, 13, 14, 15, 18, 40, 41, 42, 43] : List Nat), p ∉ T) : mFa R J c = mFa r J c := by
  unfold mFa
  rw [mTh_E h (fun p hp => hT p (by revert p; decide)), h 40 (hT _ (by decide)), h 41 (hT _ (by decide)), h 42 (hT _ (by decide)), h 43 (hT _ (by decide))]
theorem mLc_E {T : List Nat} {d : lwT} {r R : Nat → Nat → Int32} {J : Nat → Int32} {c : Nat} (h : mEr T r R) (hT : ∀ p ∈ ([1, 2, 3, 4, 6, 7, 12, 13, 14, 15, 18, 40, 41] : List Nat), p ∉ T) : mLc d R J c = mLc d r J c := by
  unfold mLc
  rw [mLs_E h (fun p hp => hT p (by revert p; decide)), h 40 (hT _ (by decide)), h 41 (hT _ (by decide))]
theorem mAR_E {T : List Nat} {d : lwT} {r R : Nat → Nat → Int32} {J : Nat → Int32} {c : Nat} {day : Int32} (h : mEr T r R) (hT : ∀ p ∈ ([1, 2, 3, 4, 6, 7, 12, 13, 14, 15, 18, 40, 41, 42, 43, 44, 45, 46, 47] : List Nat), p ∉ T) : mAR d R J c day = mAR d r J c day := by
  unfold mAR
  rw [mFa_E h (fun p hp => hT p (by revert p; decide)), mLc_E h (fun p hp => hT p (by revert p; decide)), h 43 (hT _ (by decide)), h 44 (hT _ (by decide)), h 45 (hT _ (by decide)), h 46 (hT _ (by decide)), h 47 (hT _ (by decide))]
theorem mAV_E {T : List Nat} {d : lwT} {r R : Nat → Nat → Int32} {J : Nat → Int32} {c : Nat} {day : Int32} (h : mEr T r R) (hT : ∀ p ∈ ([1, 2, 3, 4, 6, 7, 12, 13, 14, 15, 18, 40, 41, 42, 43, 44, 45, 46, 47] : List Nat), p ∉ T) : mAV d R J c day = mAV d r J c day := by
  unfold mAV
  rw [mAR_E h hT, mFa_E h (fun p hp => hT p (by revert p; decide)), mLc_E h (fun p hp => hT p (by revert p; decide)), h 45 (hT _ (by decide))]
set_option maxHeartbeats 4000000 in
set_option maxRecDepth 100000 in
theorem c_X12_awards9 (l : Launch) (D : va_G) (cy : Nat → ClassId) (a : Nat → Nat) (i : Nat → Int32) (r : Nat → Nat → Int32) (rl : Nat → Int64) (p0 p1 : Int32) (sz : Nat) (hRi : mRi i) (hRr : mRr r) : Met l yX12_awards (Cond.code yX12_awards cX12_awards 3 (some .int) :: gT) { frames := 1, cells := 0, slots := 0, locals := 24 } (va_Pc [.ref (a 0), .int p0, .int p1] (rQ D cy (mW cy a i r rl) sz)) (va_Qi (fun (z : Int32) (u : (Nat → Int32) × (Nat → Nat → Int32)) => mRi u.1 ∧ mRr u.2 ∧ mEi [60] i u.1 ∧ mEr [] r u.2 ∧ (z = p1 ∧ u.1 60 = p0)) (fun (u : (Nat → Int32) × (Nat → Nat → Int32)) t => va_P D vwCl (mW cy a u.1 u.2 rl) t.heap ∧ va_K D vwCl (vT cy) t ∧ va_D (va_A (mW cy a i r rl) sz) (mW cy a u.1 u.2 rl)) (va_A (mW cy a i r rl) sz)) 0 0 (va_A (mW cy a i r rl) sz) := by
  refine Met.ofQ (cc := cX12_awards) (maxL := 3) (ret := (some .int)) (by decide) rfl ?_
  intro p e s m args below meth c s₁ B hml hv Q hQ
  obtain ⟨rfl, hsz, hP, hK, hD0⟩ := hv
  have hx := B.exec
  have hb := B.bytes
  have hr := B.returns
  have hlocks := B.notSynchronized
  have hT : ∀ w ∈ gT, w.before _ s = true := fun w h => atoms_spec (ws := (Cond.code yX12_awards cX12_awards 3 (some .int) :: gT)) B.pre w (List.mem_cons_of_mem _ h)
  have hown : s.vm.findClass RX12 = some m.cls := findClass_of_methodNamed B.named
  subst hsz
  have hD := hD0.self (sz := s.heap.size)
  generalize hAe : va_A (mW cy a i r rl) s.heap.size = A at hD hQ
  have hA : ∀ q : Nat, s.heap.size ≤ q → A q := fun q h => by rw [← hAe]; exact Or.inr h
  have hS : va_S A s.heap s.heap [] := va_S.rf
  have hl := lv_entry ([.ref (a 0), .int p0, .int p1]) (n := 3) (Nat.le_of_ble_eq_true rfl)
  rw [lg_entry_eq]
  generalize (lg_sl ([.ref (a 0), .int p0, .int p1]) ++ List.replicate (3 - (lg_sl ([.ref (a 0), .int p0, .int p1])).length) Slot.unset).toArray = ls at hl ⊢
  have hl : lv_has ls 3 [(0, .ref (a 0)), (1, .int p0), (2, .int p1)] := hl
  have hEi : mEi [60] i i := Ei_rf
  have hEr : mEr [] r r := Er_rf
  refine lv_aload_n hx hb dX12_awards_0 rfl (lv_at hl 0 rfl) ?_
  refine lv_iload_n hx hb dX12_awards_1 rfl (lv_at hl 1 rfl) ?_
  refine va_put (D := D) (ci := 12) (v := .int p0) (ty := .int) (C := RX12) (T := TX12) (N := 91) hx hb hT iX12 tyX12 tyX12_ok nmX12 hown hK hP hD hS 0 rfl rfl 60 (by decide) (hT _ t_128) (fun _ h9 => h9) rfl (by decide +kernel) rfl rfl (Nat.le_of_ble_eq_true rfl) dX12_awards_2 (fun H locs hP hD hS => ?_)
  rw [mP60] at hP hD
  have hRi := Ri_upd hRi 60 p0 (b_rg _)
  have hEi := Ei_upd hEi 60 p0 (by decide)
  refine lv_iload_n hx hb dX12_awards_5 rfl (lv_at hl 2 rfl) ?_
  subst hQ
  exact W.iret (v := p1) hx hb hr (fun t ht hW => ⟨⟨_, (upd i 60 p0, r), rfl, ⟨hRi, hRr, hEi, hEr, ⟨rfl, rfl⟩⟩, by rw [ht]; exact hP, va_K.moved hW.alike hK, hD⟩, hS.F ht⟩) hS.2.2 dX12_awards_6
set_option maxHeartbeats 4000000 in
set_option maxRecDepth 100000 in
theorem c_X12_hasEvidence9 (l : Launch) (D : va_G) (cy : Nat → ClassId) (a : Nat → Nat) (i : Nat → Int32) (r : Nat → Nat → Int32) (rl : Nat → Int64) (p0 : Int32) (hRi : mRi i) (hRr : mRr r) (q0 : 0 ≤ p0.toInt ∧ p0.toInt ≤ 29) : Met l yX12_hasEvidence (Cond.code yX12_hasEvidence cX12_hasEvidence 2 (some .boolean) :: gT) { frames := 1, cells := 0, slots := 0, locals := 24 } (va_Pc [.ref (a 0), .int p0] (rP D cy (mW cy a i r rl))) (vp_Si (fun z => BR z ((r 43 p0.toNatClampNeg).toInt % 2 = 1 ∧ 1 < (r 43 p0.toNatClampNeg).toInt) 1 0)) 0 0 (fun _ => False) := by
  refine Met.ofQ (cc := cX12_hasEvidence) (maxL := 2) (ret := (some .boolean)) (by decide) rfl ?_
  intro p e s m args below meth c s₁ B hml hv Q hQ
  obtain ⟨rfl, hP, hK⟩ := hv
  have hx := B.exec
  have hb := B.bytes
  have hr := B.returns
  have hlocks := B.notSynchronized
  have hT : ∀ w ∈ gT, w.before _ s = true := fun w h => atoms_spec (ws := (Cond.code yX12_hasEvidence cX12_hasEvidence 2 (some .boolean) :: gT)) B.pre w (List.mem_cons_of_mem _ h)
  have hown : s.vm.findClass RX12 = some m.cls := findClass_of_methodNamed B.named
  have hl := lv_entry ([.ref (a 0), .int p0]) (n := 2) (Nat.le_of_ble_eq_true rfl)
  rw [lg_entry_eq]
  generalize (lg_sl ([.ref (a 0), .int p0]) ++ List.replicate (2 - (lg_sl ([.ref (a 0), .int p0])).length) Slot.unset).toArray = ls at hl ⊢
  have hl : lv_has ls 2 [(0, .ref (a 0)), (1, .int p0)] := hl
  have hEi : mEi [23, 24, 25, 26, 27, 28, 29, 30, 60] i i := Ei_rf
  have hEr : mEr [21, 22, 23, 24, 25, 26, 32, 33, 34, 35, 36, 37, 38, 39, 48, 49, 57, 61, 62] r r := Er_rf
  refine lv_aload_n hx hb dX12_hasEvidence_0 rfl (lv_at hl 0 rfl) ?_
  refine va_get (D := D) (ci := 12) (v := .ref (a 43)) (C := RX12) (T := TX12) (N := 91) hx hb hT iX12 hown hK hP 0 rfl rfl 55 (by decide) (hT _ t_31) (fun _ h9 => h9) rfl dX12_hasEvidence_1 ?_
  refine lv_iload_n hx hb dX12_hasEvidence_4 rfl (lv_at hl 1 rfl) ?_
  refine va_iald hx hb hK hP 43 0 rfl rfl (vp_inI (by omega) (by omega)) dX12_hasEvidence_5 ?_
  refine lv_topi (fun v_1 ev_1 => ?_)
  have hgv_1 : 0 ≤ v_1.toInt ∧ v_1.toInt ≤ 7 := by rw [ev_1]; exact hRr 43 _
  have hwv_1 : v_1.toInt = (r 43 (p0.toNatClampNeg)).toInt := congrArg Int32.toInt ev_1
  refine lv_iconst (v := 2) hx hb dX12_hasEvidence_6 (by decide) ?_
  refine lv_irem hx hb dX12_hasEvidence_7 (by decide) ?_
  refine lv_topi (fun v_2 ev_2 => ?_)
  have hrm9 : v_2.toInt = (r 43 p0.toNatClampNeg).toInt % 2 := by rw [ev_2, rem_toInt, hwv_1]; exact Int.tmod_eq_emod_of_nonneg (by omega)
  refine lv_iconst (v := 1) hx hb dX12_hasEvidence_8 (by decide) ?_
  refine lv_icmp_ne (tgt := 26) hx hb dX12_hasEvidence_9 (by decide) (fun c_3 => ?_) (fun c_3 => ?_)
  · have c_3 : v_2.toInt ≠ 1 := b_ne c_3
    refine lv_iconst (v := 0) hx hb dX12_hasEvidence_26 (by decide) ?_
    subst hQ
    exact W.zret hx hb hr rfl (fun t ht hW => ⟨_, rfl, Or.inr ⟨rfl, by omega⟩, ht⟩) (fun q hq => absurd hq List.not_mem_nil) dX12_hasEvidence_27
  · have c_3 : v_2.toInt = 1 := b_nne c_3
    refine lv_aload_n hx hb dX12_hasEvidence_12 rfl (lv_at hl 0 rfl) ?_
    refine va_get (D := D) (ci := 12) (v := .ref (a 43)) (C := RX12) (T := TX12) (N := 91) hx hb hT iX12 hown hK hP 0 rfl rfl 55 (by decide) (hT _ t_31) (fun _ h9 => h9) rfl dX12_hasEvidence_13 ?_
    refine lv_iload_n hx hb dX12_hasEvidence_16 rfl (lv_at hl 1 rfl) ?_
    refine va_iald hx hb hK hP 43 0 rfl rfl (vp_inI (by omega) (by omega)) dX12_hasEvidence_17 ?_
    refine lv_topi (fun v_4 ev_4 => ?_)
    have hgv_4 : 0 ≤ v_4.toInt ∧ v_4.toInt ≤ 7 := by rw [ev_4]; exact hRr 43 _
    have hwv_4 : v_4.toInt = (r 43 (p0.toNatClampNeg)).toInt := congrArg Int32.toInt ev_4
    refine lv_iconst (v := 1) hx hb dX12_hasEvidence_18 (by decide) ?_
    refine lv_icmp_le (tgt := 26) hx hb dX12_hasEvidence_19 (by decide) (fun c_5 => ?_) (fun c_5 => ?_)
    · have c_5 : v_4.toInt ≤ 1 := b_le c_5
      refine lv_iconst (v := 0) hx hb dX12_hasEvidence_26 (by decide) ?_
      subst hQ
      exact W.zret hx hb hr rfl (fun t ht hW => ⟨_, rfl, Or.inr ⟨rfl, by omega⟩, ht⟩) (fun q hq => absurd hq List.not_mem_nil) dX12_hasEvidence_27
    · have c_5 : 1 < v_4.toInt := b_nle c_5
      refine lv_iconst (v := 1) hx hb dX12_hasEvidence_22 (by decide) ?_
      refine lv_goto (tgt := 27) hx hb dX12_hasEvidence_23 (by decide) ?_
      subst hQ
      exact W.zret hx hb hr rfl (fun t ht hW => ⟨_, rfl, Or.inl ⟨rfl, by omega⟩, ht⟩) (fun q hq => absurd hq List.not_mem_nil) dX12_hasEvidence_27
set_option maxHeartbeats 4000000 in
set_option maxRecDepth 100000 in
theorem c_X12_feelsClaim9 (l : Launch) (D : va_G) (cy : Nat → ClassId) (a : Nat → Nat) (i : Nat → Int32) (r : Nat → Nat → Int32) (rl : Nat → Int64) (p0 : Int32) (sz : Nat) (hRi : mRi i) (hRr : mRr r) (q0 : 0 ≤ p0.toInt ∧ p0.toInt ≤ 29) (qj : jOK r (r 41 p0.toNatClampNeg).toNatClampNeg) : Met l yX12_feelsClaim (Cond.code yX12_feelsClaim cX12_feelsClaim 2 none :: gT) { frames := 4, cells := 0, slots := 0, locals := 89 } (va_Pc [.ref (a 0), .int p0] (rQ D cy (mW cy a i r rl) sz)) (va_Qv (fun u : Nat → Nat → Int32 => mRr u ∧ mEr [33] r u ∧ (∀ k9, k9 < 10 → u 33 k9 = mFa r (r 34) p0.toNatClampNeg k9)) (fun (u : Nat → Nat → Int32) t => va_P D vwCl (mW cy a i u rl) t.heap ∧ va_K D vwCl (vT cy) t ∧ va_D (va_A (mW cy a i r rl) sz) (mW cy a i u rl)) (va_A (mW cy a i r rl) sz)) 0 0 (va_A (mW cy a i r rl) sz) := by
  refine Met.ofQ (cc := cX12_feelsClaim) (maxL := 2) (ret := none) (by decide) rfl ?_
  intro p e s m args below meth c s₁ B hml hv Q hQ
  obtain ⟨rfl, hsz, hP, hK, hD0⟩ := hv
  have hx := B.exec
  have hb := B.bytes
  have hr := B.returns
  have hlocks := B.notSynchronized
  have hT : ∀ w ∈ gT, w.before _ s = true := fun w h => atoms_spec (ws := (Cond.code yX12_feelsClaim cX12_feelsClaim 2 none :: gT)) B.pre w (List.mem_cons_of_mem _ h)
  have hown : s.vm.findClass RX12 = some m.cls := findClass_of_methodNamed B.named
  subst hsz
  have hD := hD0.self (sz := s.heap.size)
  generalize hAe : va_A (mW cy a i r rl) s.heap.size = A at hD hQ
  have hA : ∀ q : Nat, s.heap.size ≤ q → A q := fun q h => by rw [← hAe]; exact Or.inr h
  have hS : va_S A s.heap s.heap [] := va_S.rf
  have hl := lv_entry ([.ref (a 0), .int p0]) (n := 2) (Nat.le_of_ble_eq_true rfl)
  rw [lg_entry_eq]
  generalize (lg_sl ([.ref (a 0), .int p0]) ++ List.replicate (2 - (lg_sl ([.ref (a 0), .int p0])).length) Slot.unset).toArray = ls at hl ⊢
  have hl : lv_has ls 2 [(0, .ref (a 0)), (1, .int p0)] := hl
  have hEi : mEi [23, 24, 25, 26, 27, 28, 29, 30, 60] i i := Ei_rf
  have hEr : mEr [33] r r := Er_rf
  refine lv_aload_n hx hb dX12_feelsClaim_0 rfl (lv_at hl 0 rfl) ?_
  refine lv_aload_n hx hb dX12_feelsClaim_1 rfl (lv_at hl 0 rfl) ?_
  refine va_get (D := D) (ci := 12) (v := .ref (a 40)) (C := RX12) (T := TX12) (N := 91) hx hb hT iX12 hown hK hP 0 rfl rfl 52 (by decide) (hT _ t_75) (fun _ h9 => h9) rfl dX12_feelsClaim_2 ?_
  refine lv_iload_n hx hb dX12_feelsClaim_5 rfl (lv_at hl 1 rfl) ?_
  refine va_iald hx hb hK hP 40 0 rfl rfl (vp_inI (by omega) (by omega)) dX12_feelsClaim_6 ?_
  refine lv_topi (fun v_1 ev_1 => ?_)
  have hgv_1 : 0 ≤ v_1.toInt ∧ v_1.toInt ≤ 5 := by rw [ev_1]; exact hRr 40 _
  refine lv_aload_n hx hb dX12_feelsClaim_7 rfl (lv_at hl 0 rfl) ?_
  refine va_get (D := D) (ci := 12) (v := .ref (a 41)) (C := RX12) (T := TX12) (N := 91) hx hb hT iX12 hown hK hP 0 rfl rfl 53 (by decide) (hT _ t_76) (fun _ h9 => h9) rfl dX12_feelsClaim_8 ?_
  refine lv_iload_n hx hb dX12_feelsClaim_11 rfl (lv_at hl 1 rfl) ?_
  refine va_iald hx hb hK hP 41 0 rfl rfl (vp_inI (by omega) (by omega)) dX12_feelsClaim_12 ?_
  refine lv_topi (fun v_2 ev_2 => ?_)
  have hgv_2 : 0 ≤ v_2.toInt ∧ v_2.toInt ≤ 19 := by rw [ev_2]; exact hRr 41 _
  have hF_3 := rF hD hS hA
  refine va_callv (va_runV (As := [.int v_1, .int v_2]) (rest := []) ⟨hx, hb, hml, hown, hT⟩ (c_X12_feelsThing9 l D cy a i r rl v_1 v_2 _ hRi hRr (by omega) (by omega) (by rw [ev_2]; exact qj)) (cwV 2 hT (gV t_77 t_78 t_79 t_80 t_6) rfl rfl rfl (by decide +kernel) ⟨Nat.le_of_ble_eq_true rfl, Nat.le_of_ble_eq_true rfl⟩) (rQ_v hP hK hD (va_recv hK hP (ci := 12) (q0 := 0) rfl rfl)) rfl rfl hl.1 rfl (lv_room (Nat.le_of_ble_eq_true rfl)) dX12_feelsClaim_13 ⟨Nat.le_of_ble_eq_true rfl, Nat.le_of_ble_eq_true rfl⟩) hS (fun q _ h => hF_3 q h) hF_3 (fun u_5 t H1 locs ht hvm hr_4 hB hz1 hk1 hS => ?_)
  obtain ⟨r5, rfl⟩ : ∃ z, z = u_5 := ⟨_, rfl⟩
  obtain ⟨hP, hK1, hD1⟩ := hB
  rw [ht] at hP
  have hD := hD1.weaken (fun k q _ h => hF_3 q.1 h)
  have hP : va_P D vwCl (mW cy a i r5 rl) H1 := hP
  have hD : va_D A (mW cy a i r5 rl) := hD
  obtain ⟨hRr, hE2, hr_4⟩ := hr_4
  have hRr : mRr r5 := hRr
  have hEr : mEr [33] _ r5 := Er_tr hEr hE2 (by decide)
  have hqr_4 : ∀ k9, k9 < 10 → r5 33 k9 = faL (mTh r (r 34) v_1.toNatClampNeg v_2.toNatClampNeg 0 0) k9 := hr_4
  have hfc : ∀ k9, k9 < 10 → r5 33 k9 = faL (mTh r (r 34) (r 40 p0.toNatClampNeg).toNatClampNeg (r 41 p0.toNatClampNeg).toNatClampNeg 0 0) k9 := by have h9 := hqr_4; rw [ev_1, ev_2] at h9; exact h9
  refine lv_aload_n hx hb dX12_feelsClaim_16 rfl (lv_at hl 0 rfl) ?_
  refine va_get (D := D) (ci := 12) (v := .ref (a 33)) (C := RX12) (T := TX12) (N := 91) hx hb hT iX12 hown hK hP 0 rfl rfl 44 (by decide) (hT _ t_65) (fun _ h9 => h9) rfl dX12_feelsClaim_17 ?_
  refine lv_bipush (v := 8) hx hb dX12_feelsClaim_20 (by decide) ?_
  refine lv_aload_n hx hb dX12_feelsClaim_22 rfl (lv_at hl 0 rfl) ?_
  refine va_get (D := D) (ci := 12) (v := .ref (a 42)) (C := RX12) (T := TX12) (N := 91) hx hb hT iX12 hown hK hP 0 rfl rfl 54 (by decide) (hT _ t_81) (fun _ h9 => h9) rfl dX12_feelsClaim_23 ?_
  refine lv_iload_n hx hb dX12_feelsClaim_26 rfl (lv_at hl 1 rfl) ?_
  refine va_iald hx hb hK hP 42 0 rfl rfl (vp_inI (by omega) (by omega)) dX12_feelsClaim_27 ?_
  refine lv_topi (fun v_6 ev_6 => ?_)
  have hgv_6 : 0 ≤ v_6.toInt ∧ v_6.toInt ≤ 9 := by rw [ev_6]; exact hRr 42 _
  have hsv_6 : v_6 = r 42 p0.toNatClampNeg := ev_6.trans (congrFun (hEr 42 (by decide)) _)
  have htv_6 : v_6.toInt = (r 42 p0.toNatClampNeg).toInt := congrArg Int32.toInt hsv_6
  refine va_iast hx hb hK hP hD hS 33 0 rfl rfl (vp_inI (by decide) (by decide)) dX12_feelsClaim_28 (fun H locs hP hD hS => ?_)
  rw [mS33] at hP hD
  have hRr : mRr (va_up r5 33 (upd (r5 33) ((8 : Int32).toNatClampNeg) v_6)) := Rr_upd hRr 33 ((8 : Int32).toNatClampNeg) v_6 (b_rg _)
  have hEr : mEr [33] _ (va_up r5 33 (upd (r5 33) ((8 : Int32).toNatClampNeg) v_6)) := Er_up hEr 33 _ (by decide)
  refine lv_aload_n hx hb dX12_feelsClaim_29 rfl (lv_at hl 0 rfl) ?_
  refine va_get (D := D) (ci := 12) (v := .ref (a 33)) (C := RX12) (T := TX12) (N := 91) hx hb hT iX12 hown hK hP 0 rfl rfl 44 (by decide) (hT _ t_65) (fun _ h9 => h9) rfl dX12_feelsClaim_30 ?_
  refine lv_bipush (v := 9) hx hb dX12_feelsClaim_33 (by decide) ?_
  refine lv_aload_n hx hb dX12_feelsClaim_35 rfl (lv_at hl 0 rfl) ?_
  refine va_get (D := D) (ci := 12) (v := .ref (a 43)) (C := RX12) (T := TX12) (N := 91) hx hb hT iX12 hown hK hP 0 rfl rfl 55 (by decide) (hT _ t_31) (fun _ h9 => h9) rfl dX12_feelsClaim_36 ?_
  refine lv_iload_n hx hb dX12_feelsClaim_39 rfl (lv_at hl 1 rfl) ?_
  refine va_iald hx hb hK hP 43 0 rfl rfl (vp_inI (by omega) (by omega)) dX12_feelsClaim_40 ?_
  refine lv_topi (fun v_7 ev_7 => ?_)
  have hgv_7 : 0 ≤ v_7.toInt ∧ v_7.toInt ≤ 7 := by rw [ev_7]; exact hRr 43 _
  have hsv_7 : v_7 = r 43 p0.toNatClampNeg := ev_7.trans (congrFun (hEr 43 (by decide)) _)
  have htv_7 : v_7.toInt = (r 43 p0.toNatClampNeg).toInt := congrArg Int32.toInt hsv_7
  refine va_iast hx hb hK hP hD hS 33 0 rfl rfl (vp_inI (by decide) (by decide)) dX12_feelsClaim_41 (fun H locs hP hD hS => ?_)
  rw [mS33] at hP hD
  have hRr : mRr (va_up (va_up r5 33 (upd (r5 33) ((8 : Int32).toNatClampNeg) v_6)) 33 (upd (upd (r5 33) ((8 : Int32).toNatClampNeg) v_6) ((9 : Int32).toNatClampNeg) v_7)) := Rr_upd hRr 33 ((9 : Int32).toNatClampNeg) v_7 (b_rg _)
  have hEr : mEr [33] _ (va_up (va_up r5 33 (upd (r5 33) ((8 : Int32).toNatClampNeg) v_6)) 33 (upd (upd (r5 33) ((8 : Int32).toNatClampNeg) v_6) ((9 : Int32).toNatClampNeg) v_7)) := Er_up hEr 33 _ (by decide)
  subst hQ
  have h9 := faL_8 (c := v_6) (e := v_7) hfc rfl
  exact W.vret hx hb hr (fun t ht hW => ⟨⟨(va_up (va_up r5 33 (upd (r5 33) ((8 : Int32).toNatClampNeg) v_6)) 33 (upd (upd (r5 33) ((8 : Int32).toNatClampNeg) v_6) ((9 : Int32).toNatClampNeg) v_7)), rfl, ⟨hRr, hEr, (fun k9 hk9 => (h9 k9 hk9).trans (by rw [hsv_6, hsv_7]; rfl))⟩, by rw [ht]; exact hP, va_K.moved hW.alike hK, hD⟩, hS.F ht⟩) hS.2.2 dX12_feelsClaim_42
set_option maxHeartbeats 4000000 in
set_option maxRecDepth 100000 in
theorem c_X12_partOfLost9 (l : Launch) (D : va_G) (cy : Nat → ClassId) (a : Nat → Nat) (i : Nat → Int32) (r : Nat → Nat → Int32) (rl : Nat → Int64) (p0 p1 p2 : Int32) (sz : Nat) (hRi : mRi i) (hRr : mRr r) (hE : mE i r) (q0 : 0 ≤ p0.toInt ∧ p0.toInt ≤ 29) (qj : jOK r (r 41 p0.toNatClampNeg).toNatClampNeg) : Met l yX12_partOfLost (Cond.code yX12_partOfLost cX12_partOfLost 5 (some .int) :: gT) { frames := 5, cells := 0, slots := 0, locals := 110 } (va_Pc [.ref (a 0), .int p0, .int p1, .int p2] (rQ D cy (mW cy a i r rl) sz)) (va_Qi (fun (z : Int32) (u : (Nat → Int32) × (Nat → Nat → Int32)) => mRi u.1 ∧ mRr u.2 ∧ mEi [23, 24, 25, 26, 27, 28, 29, 30, 60] i u.1 ∧ mEr [32, 33] r u.2 ∧ (z = awP (mD i r) (mFa r (r 34) p0.toNatClampNeg) p1 (r 45 p0.toNatClampNeg) ∧ u.1 60 = p2)) (fun (u : (Nat → Int32) × (Nat → Nat → Int32)) t => va_P D vwCl (mW cy a u.1 u.2 rl) t.heap ∧ va_K D vwCl (vT cy) t ∧ va_D (va_A (mW cy a i r rl) sz) (mW cy a u.1 u.2 rl)) (va_A (mW cy a i r rl) sz)) 0 0 (va_A (mW cy a i r rl) sz) := by
  refine Met.ofQ (cc := cX12_partOfLost) (maxL := 5) (ret := (some .int)) (by decide) rfl ?_
  intro p e s m args below meth c s₁ B hml hv Q hQ
  obtain ⟨rfl, hsz, hP, hK, hD0⟩ := hv
  have hx := B.exec
  have hb := B.bytes
  have hr := B.returns
  have hlocks := B.notSynchronized
  have hT : ∀ w ∈ gT, w.before _ s = true := fun w h => atoms_spec (ws := (Cond.code yX12_partOfLost cX12_partOfLost 5 (some .int) :: gT)) B.pre w (List.mem_cons_of_mem _ h)
  have hown : s.vm.findClass RX12 = some m.cls := findClass_of_methodNamed B.named
  subst hsz
  have hD := hD0.self (sz := s.heap.size)
  generalize hAe : va_A (mW cy a i r rl) s.heap.size = A at hD hQ
  have hA : ∀ q : Nat, s.heap.size ≤ q → A q := fun q h => by rw [← hAe]; exact Or.inr h
  have hS : va_S A s.heap s.heap [] := va_S.rf
  have hl := lv_entry ([.ref (a 0), .int p0, .int p1, .int p2]) (n := 5) (Nat.le_of_ble_eq_true rfl)
  rw [lg_entry_eq]
  generalize (lg_sl ([.ref (a 0), .int p0, .int p1, .int p2]) ++ List.replicate (5 - (lg_sl ([.ref (a 0), .int p0, .int p1, .int p2])).length) Slot.unset).toArray = ls at hl ⊢
  have hl : lv_has ls 5 [(0, .ref (a 0)), (1, .int p0), (2, .int p1), (3, .int p2)] := hl
  have hEi : mEi [23, 24, 25, 26, 27, 28, 29, 30, 60] i i := Ei_rf
  have hEr : mEr [32, 33] r r := Er_rf
  refine lv_aload_n hx hb dX12_partOfLost_0 rfl (lv_at hl 0 rfl) ?_
  refine lv_iload_n hx hb dX12_partOfLost_1 rfl (lv_at hl 1 rfl) ?_
  have hF_1 := rF hD hS hA
  refine va_callv (va_runV (As := [.int p0]) (rest := []) ⟨hx, hb, hml, hown, hT⟩ (c_X12_feelsClaim9 l D cy a i r rl p0 _ hRi hRr (by omega) qj) (cwV 1 hT (gV t_129 t_130 t_131 t_132 t_6) rfl rfl rfl (by decide +kernel) ⟨Nat.le_of_ble_eq_true rfl, Nat.le_of_ble_eq_true rfl⟩) (rQ_v hP hK hD (va_recv hK hP (ci := 12) (q0 := 0) rfl rfl)) rfl rfl hl.1 rfl (lv_room (Nat.le_of_ble_eq_true rfl)) dX12_partOfLost_2 ⟨Nat.le_of_ble_eq_true rfl, Nat.le_of_ble_eq_true rfl⟩) hS (fun q _ h => hF_1 q h) hF_1 (fun u_3 t H1 locs ht hvm hr_2 hB hz1 hk1 hS => ?_)
  obtain ⟨r3, rfl⟩ : ∃ z, z = u_3 := ⟨_, rfl⟩
  obtain ⟨hP, hK1, hD1⟩ := hB
  rw [ht] at hP
  have hD := hD1.weaken (fun k q _ h => hF_1 q.1 h)
  have hP : va_P D vwCl (mW cy a i r3 rl) H1 := hP
  have hD : va_D A (mW cy a i r3 rl) := hD
  obtain ⟨hRr, hE2, hr_2⟩ := hr_2
  have hRr : mRr r3 := hRr
  have hEr : mEr [32, 33] _ r3 := Er_tr hEr hE2 (by decide)
  have hqr_2 : ∀ k9, k9 < 10 → r3 33 k9 = mFa r (r 34) p0.toNatClampNeg k9 := hr_2
  have hfc : ∀ k9, k9 < 10 → r3 33 k9 = mFa r (r 34) p0.toNatClampNeg k9 := hqr_2
  have hD9 : mD i r3 = mD i r := mD_E rfl hEr (by decide)
  refine lv_iload_n hx hb dX12_partOfLost_5 rfl (lv_at hl 2 rfl) ?_
  refine lv_aload_n hx hb dX12_partOfLost_6 rfl (lv_at hl 0 rfl) ?_
  refine lv_bipush (v := 112) hx hb dX12_partOfLost_7 (by decide) ?_
  refine lv_bipush (v := 100) hx hb dX12_partOfLost_9 (by decide) ?_
  refine lv_bipush (v := 100) hx hb dX12_partOfLost_11 (by decide) ?_
  have hF_4 := rF hD hS hA
  refine va_calli (va_runV (As := [.int 112, .int 100, .int 100]) (rest := [.int p1]) ⟨hx, hb, hml, hown, hT⟩ (c_X12_byLaw9 l D cy a i r3 rl 112 100 100 _ hRi hRr (mE_same hEi hEr (by decide) (by decide) hE) (by first | omega | decide)) (cwV 3 hT (gV t_97 t_98 t_99 t_100 t_6) rfl rfl rfl (by decide +kernel) ⟨Nat.le_of_ble_eq_true rfl, Nat.le_of_ble_eq_true rfl⟩) (rQ_v hP hK hD (va_recv hK hP (ci := 12) (q0 := 0) rfl rfl)) rfl rfl hl.1 rfl (lv_room (Nat.le_of_ble_eq_true rfl)) dX12_partOfLost_13 ⟨Nat.le_of_ble_eq_true rfl, Nat.le_of_ble_eq_true rfl⟩) hS (fun q _ h => hF_4 q h) hF_4 (fun r_5 u_6 t H1 locs ht hvm hr_5 hB hz1 hk1 hS => ?_)
  obtain ⟨r6, rfl⟩ : ∃ z, z = u_6 := ⟨_, rfl⟩
  obtain ⟨hP, hK1, hD1⟩ := hB
  rw [ht] at hP
  have hD := hD1.weaken (fun k q _ h => hF_4 q.1 h)
  have hP : va_P D vwCl (mW cy a i r6 rl) H1 := hP
  have hD : va_D A (mW cy a i r6 rl) := hD
  obtain ⟨hRr, hE2, hr_5⟩ := hr_5
  have hRr : mRr r6 := hRr
  have hEr : mEr [32, 33] _ r6 := Er_tr hEr hE2 (by decide)
  have hqr_5 : r_5 = byL (mD i r3) (r3 33) (112 : Int32) (100 : Int32) (100 : Int32) := hr_5
  have hb9 : r_5 = byL (mD i r) (mFa r (r 34) p0.toNatClampNeg) 112 100 100 := by have h9 := hqr_5; rw [hD9] at h9; exact h9.trans (byL_co (mE_gl hE) (by decide) hfc)
  refine lv_imul hx hb dX12_partOfLost_16 ?_
  refine lv_topi (fun v_7 ev_7 => ?_)
  refine lv_bipush (v := 100) hx hb dX12_partOfLost_17 (by decide) ?_
  refine lv_idiv hx hb dX12_partOfLost_19 (by decide) ?_
  refine lv_topi (fun v_8 ev_8 => ?_)
  refine lv_istore (lv' := [(4, .int v_8), (0, .ref (a 0)), (1, .int p0), (2, .int p1), (3, .int p2)]) hx hb dX12_partOfLost_20 hl (by decide) rfl (fun ls hl => ?_)
  refine lv_aload_n hx hb dX12_partOfLost_22 rfl (lv_at hl 1 rfl) ?_
  refine lv_iload_n hx hb dX12_partOfLost_23 rfl (lv_at hl 4 rfl) ?_
  refine lv_iload hx hb dX12_partOfLost_24 (lv_at hl 0 rfl) ?_
  refine lv_aload_n hx hb dX12_partOfLost_26 rfl (lv_at hl 1 rfl) ?_
  refine va_get (D := D) (ci := 12) (v := .ref (a 45)) (C := RX12) (T := TX12) (N := 91) hx hb hT iX12 hown hK hP 0 rfl rfl 57 (by decide) (hT _ t_133) (fun _ h9 => h9) rfl dX12_partOfLost_27 ?_
  refine lv_iload_n hx hb dX12_partOfLost_30 rfl (lv_at hl 2 rfl) ?_
  refine va_iald hx hb hK hP 45 0 rfl rfl (vp_inI (by omega) (by omega)) dX12_partOfLost_31 ?_
  refine lv_topi (fun v_9 ev_9 => ?_)
  have hgv_9 : 0 ≤ v_9.toInt ∧ v_9.toInt ≤ 999999 := by rw [ev_9]; exact hRr 45 _
  have hsv_9 : v_9 = r 45 p0.toNatClampNeg := ev_9.trans (congrFun (hEr 45 (by decide)) _)
  have htv_9 : v_9.toInt = (r 45 p0.toNatClampNeg).toInt := congrArg Int32.toInt hsv_9
  refine lv_icmp_ge (tgt := 44) hx hb dX12_partOfLost_32 (by decide) (fun c_10 => ?_) (fun c_10 => ?_)
  · have c_10 : v_9.toInt ≤ v_8.toInt := b_le c_10
    refine lv_iload hx hb dX12_partOfLost_44 (lv_at hl 0 rfl) ?_
    have hF_11 := rF hD hS hA
    refine va_calli (va_runV (As := [.int p2, .int v_8]) (rest := []) ⟨hx, hb, hml, hown, hT⟩ (c_X12_awards9 l D cy a i r6 rl p2 v_8 _ hRi hRr) (cwV 2 hT (gV t_134 t_135 t_136 t_137 t_6) rfl rfl rfl (by decide +kernel) ⟨Nat.le_of_ble_eq_true rfl, Nat.le_of_ble_eq_true rfl⟩) (rQ_v hP hK hD (va_recv hK hP (ci := 12) (q0 := 0) rfl rfl)) rfl rfl hl.1 rfl (lv_room (Nat.le_of_ble_eq_true rfl)) dX12_partOfLost_46 ⟨Nat.le_of_ble_eq_true rfl, Nat.le_of_ble_eq_true rfl⟩) hS (fun q _ h => hF_11 q h) hF_11 (fun r_12 u_13 t H1 locs ht hvm hr_12 hB hz1 hk1 hS => ?_)
    obtain ⟨i13, r13⟩ := u_13
    obtain ⟨hP, hK1, hD1⟩ := hB
    rw [ht] at hP
    have hD := hD1.weaken (fun k q _ h => hF_11 q.1 h)
    have hP : va_P D vwCl (mW cy a i13 r13 rl) H1 := hP
    have hD : va_D A (mW cy a i13 r13 rl) := hD
    obtain ⟨hRi, hRr, hE1, hE2, hr_12⟩ := hr_12
    have hRi : mRi i13 := hRi
    have hRr : mRr r13 := hRr
    have hEi : mEi [23, 24, 25, 26, 27, 28, 29, 30, 60] _ i13 := Ei_tr hEi hE1 (by decide)
    have hEr : mEr [32, 33] _ r13 := Er_tr hEr hE2 (by decide)
    have hqr_12 : r_12 = v_8 ∧ i13 60 = p2 := hr_12
    subst hQ
    have hx9 : v_7 = p1 * byL (mD i r) (mFa r (r 34) p0.toNatClampNeg) 112 100 100 := by rw [ev_7, hb9]
    exact W.iret (v := r_12) hx hb hr (fun t ht hW => ⟨⟨_, (i13, r13), rfl, ⟨hRi, hRr, hEi, hEr, ⟨(by have h9 := hqr_12.1; rw [h9]; exact awP_n hx9 ev_8 (by omega)), hqr_12.2⟩⟩, by rw [ht]; exact hP, va_K.moved hW.alike hK, hD⟩, hS.F ht⟩) hS.2.2 dX12_partOfLost_49
  · have c_10 : v_8.toInt < v_9.toInt := b_nle c_10
    refine lv_aload_n hx hb dX12_partOfLost_35 rfl (lv_at hl 1 rfl) ?_
    refine va_get (D := D) (ci := 12) (v := .ref (a 45)) (C := RX12) (T := TX12) (N := 91) hx hb hT iX12 hown hK hP 0 rfl rfl 57 (by decide) (hT _ t_133) (fun _ h9 => h9) rfl dX12_partOfLost_36 ?_
    refine lv_iload_n hx hb dX12_partOfLost_39 rfl (lv_at hl 2 rfl) ?_
    refine va_iald hx hb hK hP 45 0 rfl rfl (vp_inI (by omega) (by omega)) dX12_partOfLost_40 ?_
    refine lv_topi (fun v_14 ev_14 => ?_)
    have hgv_14 : 0 ≤ v_14.toInt ∧ v_14.toInt ≤ 999999 := by rw [ev_14]; exact hRr 45 _
    have hsv_14 : v_14 = r 45 p0.toNatClampNeg := ev_14.trans (congrFun (hEr 45 (by decide)) _)
    have htv_14 : v_14.toInt = (r 45 p0.toNatClampNeg).toInt := congrArg Int32.toInt hsv_14
    refine lv_goto (tgt := 46) hx hb dX12_partOfLost_41 (by decide) ?_
    have hF_15 := rF hD hS hA
    refine va_calli (va_runV (As := [.int p2, .int v_14]) (rest := []) ⟨hx, hb, hml, hown, hT⟩ (c_X12_awards9 l D cy a i r6 rl p2 v_14 _ hRi hRr) (cwV 2 hT (gV t_134 t_135 t_136 t_137 t_6) rfl rfl rfl (by decide +kernel) ⟨Nat.le_of_ble_eq_true rfl, Nat.le_of_ble_eq_true rfl⟩) (rQ_v hP hK hD (va_recv hK hP (ci := 12) (q0 := 0) rfl rfl)) rfl rfl hl.1 rfl (lv_room (Nat.le_of_ble_eq_true rfl)) dX12_partOfLost_46 ⟨Nat.le_of_ble_eq_true rfl, Nat.le_of_ble_eq_true rfl⟩) hS (fun q _ h => hF_15 q h) hF_15 (fun r_16 u_17 t H1 locs ht hvm hr_16 hB hz1 hk1 hS => ?_)
    obtain ⟨i17, r17⟩ := u_17
    obtain ⟨hP, hK1, hD1⟩ := hB
    rw [ht] at hP
    have hD := hD1.weaken (fun k q _ h => hF_15 q.1 h)
    have hP : va_P D vwCl (mW cy a i17 r17 rl) H1 := hP
    have hD : va_D A (mW cy a i17 r17 rl) := hD
    obtain ⟨hRi, hRr, hE1, hE2, hr_16⟩ := hr_16
    have hRi : mRi i17 := hRi
    have hRr : mRr r17 := hRr
    have hEi : mEi [23, 24, 25, 26, 27, 28, 29, 30, 60] _ i17 := Ei_tr hEi hE1 (by decide)
    have hEr : mEr [32, 33] _ r17 := Er_tr hEr hE2 (by decide)
    have hqr_16 : r_16 = v_14 ∧ i17 60 = p2 := hr_16
    subst hQ
    have hx9 : v_7 = p1 * byL (mD i r) (mFa r (r 34) p0.toNatClampNeg) 112 100 100 := by rw [ev_7, hb9]
    exact W.iret (v := r_16) hx hb hr (fun t ht hW => ⟨⟨_, (i17, r17), rfl, ⟨hRi, hRr, hEi, hEr, ⟨(by have h9 := hqr_16.1; rw [h9, hsv_14]; exact awP_g hx9 ev_8 (by omega)), hqr_16.2⟩⟩, by rw [ht]; exact hP, va_K.moved hW.alike hK, hD⟩, hS.F ht⟩) hS.2.2 dX12_partOfLost_49
set_option maxHeartbeats 4000000 in
set_option maxRecDepth 100000 in
theorem c_X12_awardOf9 (l : Launch) (D : va_G) (cy : Nat → ClassId) (a : Nat → Nat) (i : Nat → Int32) (r : Nat → Nat → Int32) (rl : Nat → Int64) (p0 p1 : Int32) (sz : Nat) (hRi : mRi i) (hRr : mRr r) (hE : mE i r) (q0 : 0 ≤ p0.toInt ∧ p0.toInt < (i 51).toInt) (hs9 : gjSt (gjH (r 14) (r 40 p0.toNatClampNeg).toNatClampNeg) (r 10 (r 40 p0.toNatClampNeg).toNatClampNeg).toNatClampNeg ∧ gjSt (gjH (r 18) (r 40 p0.toNatClampNeg).toNatClampNeg) (r 11 (r 40 p0.toNatClampNeg).toNatClampNeg).toNatClampNeg) : Met l yX12_awardOf (Cond.code yX12_awardOf cX12_awardOf 4 (some .int) :: gT) { frames := 6, cells := 0, slots := 0, locals := 145 } (va_Pc [.ref (a 0), .int p0, .int p1] (rQ D cy (mW cy a i r rl) sz)) (va_Qi (fun (z : Int32) (u : (Nat → Int32) × (Nat → Nat → Int32)) => mRi u.1 ∧ mRr u.2 ∧ mEi [23, 24, 25, 26, 27, 28, 29, 30, 60] i u.1 ∧ mEr [32, 33, 34, 35, 36, 37, 38, 39] r u.2 ∧ ((∃ J9 : Nat → Int32, gjJ (gjH (r 12) ((r 40 p0.toNatClampNeg).toNatClampNeg)) (gjH (r 13) ((r 40 p0.toNatClampNeg).toNatClampNeg)) (gjH (r 14) ((r 40 p0.toNatClampNeg).toNatClampNeg)) (r 10 ((r 40 p0.toNatClampNeg).toNatClampNeg)).toNatClampNeg (gjH (r 16) ((r 40 p0.toNatClampNeg).toNatClampNeg)) (gjH (r 17) ((r 40 p0.toNatClampNeg).toNatClampNeg)) (gjH (r 18) ((r 40 p0.toNatClampNeg).toNatClampNeg)) (r 11 ((r 40 p0.toNatClampNeg).toNatClampNeg)).toNatClampNeg 99 J9 ∧ z = mAV (mD i r) r J9 p0.toNatClampNeg p1 ∧ u.1 60 = mAR (mD i r) r J9 p0.toNatClampNeg p1))) (fun (u : (Nat → Int32) × (Nat → Nat → Int32)) t => va_P D vwCl (mW cy a u.1 u.2 rl) t.heap ∧ va_K D vwCl (vT cy) t ∧ va_D (va_A (mW cy a i r rl) sz) (mW cy a u.1 u.2 rl)) (va_A (mW cy a i r rl) sz)) 0 0 (va_A (mW cy a i r rl) sz) := by
  refine Met.ofQ (cc := cX12_awardOf) (maxL := 4) (ret := (some .int)) (by decide) rfl ?_
  intro p e s m args below meth c s₁ B hml hv Q hQ
  obtain ⟨rfl, hsz, hP, hK, hD0⟩ := hv
  have hx := B.exec
  have hb := B.bytes
  have hr := B.returns
  have hlocks := B.notSynchronized
  have hT : ∀ w ∈ gT, w.before _ s = true := fun w h => atoms_spec (ws := (Cond.code yX12_awardOf cX12_awardOf 4 (some .int) :: gT)) B.pre w (List.mem_cons_of_mem _ h)
  have hown : s.vm.findClass RX12 = some m.cls := findClass_of_methodNamed B.named
  subst hsz
  have hD := hD0.self (sz := s.heap.size)
  generalize hAe : va_A (mW cy a i r rl) s.heap.size = A at hD hQ
  have hA : ∀ q : Nat, s.heap.size ≤ q → A q := fun q h => by rw [← hAe]; exact Or.inr h
  have hS : va_S A s.heap s.heap [] := va_S.rf
  have hl := lv_entry ([.ref (a 0), .int p0, .int p1]) (n := 4) (Nat.le_of_ble_eq_true rfl)
  rw [lg_entry_eq]
  generalize (lg_sl ([.ref (a 0), .int p0, .int p1]) ++ List.replicate (4 - (lg_sl ([.ref (a 0), .int p0, .int p1])).length) Slot.unset).toArray = ls at hl ⊢
  have hl : lv_has ls 4 [(0, .ref (a 0)), (1, .int p0), (2, .int p1)] := hl
  have hEi : mEi [23, 24, 25, 26, 27, 28, 29, 30, 60] i i := Ei_rf
  have hEr : mEr [32, 33, 34, 35, 36, 37, 38, 39] r r := Er_rf
  have hRr0 : mRr r := hRr
  have hg51 : 0 ≤ (i 51).toInt ∧ (i 51).toInt ≤ 30 := hRi 51
  have hg0 : 0 ≤ (i 0).toInt ∧ (i 0).toInt ≤ 6 := hRi 0
  have hc := hE.2.2.1 p0.toNatClampNeg (by have h9_p0 : p0.toNatClampNeg = p0.toInt.toNat := rfl; omega)
  have hg40 : 0 ≤ (r 40 p0.toNatClampNeg).toInt := (hRr0 40 _).1
  have hg41 : 0 ≤ (r 41 p0.toNatClampNeg).toInt := (hRr0 41 _).1
  refine lv_aload_n hx hb dX12_awardOf_0 rfl (lv_at hl 0 rfl) ?_
  refine lv_aload_n hx hb dX12_awardOf_1 rfl (lv_at hl 0 rfl) ?_
  refine va_get (D := D) (ci := 12) (v := .ref (a 40)) (C := RX12) (T := TX12) (N := 91) hx hb hT iX12 hown hK hP 0 rfl rfl 52 (by decide) (hT _ t_75) (fun _ h9 => h9) rfl dX12_awardOf_2 ?_
  refine lv_iload_n hx hb dX12_awardOf_5 rfl (lv_at hl 1 rfl) ?_
  refine va_iald hx hb hK hP 40 0 rfl rfl (vp_inI (by omega) (by omega)) dX12_awardOf_6 ?_
  refine lv_topi (fun v_1 ev_1 => ?_)
  have hgv_1 : 0 ≤ v_1.toInt ∧ v_1.toInt ≤ 5 := by rw [ev_1]; exact hRr 40 _
  have hvv_1 : v_1 = r 40 p0.toNatClampNeg := by rw [ev_1]
  have hF_2 := rF hD hS hA
  refine va_callv (va_runV (As := [.int v_1]) (rest := []) ⟨hx, hb, hml, hown, hT⟩ (c_X12_laysJoined9 l D cy a i r rl v_1 _ hRi hRr (by omega) (by rw [hvv_1]; exact hs9.1) (by rw [hvv_1]; exact hs9.2)) (cwV 1 hT (gV t_116 t_117 t_118 t_119 t_6) rfl rfl rfl (by decide +kernel) ⟨Nat.le_of_ble_eq_true rfl, Nat.le_of_ble_eq_true rfl⟩) (rQ_v hP hK hD (va_recv hK hP (ci := 12) (q0 := 0) rfl rfl)) rfl rfl hl.1 rfl (lv_room (Nat.le_of_ble_eq_true rfl)) dX12_awardOf_7 ⟨Nat.le_of_ble_eq_true rfl, Nat.le_of_ble_eq_true rfl⟩) hS (fun q _ h => hF_2 q h) hF_2 (fun u_4 t H1 locs ht hvm hr_3 hB hz1 hk1 hS => ?_)
  obtain ⟨r4, rfl⟩ : ∃ z, z = u_4 := ⟨_, rfl⟩
  obtain ⟨hP, hK1, hD1⟩ := hB
  rw [ht] at hP
  have hD := hD1.weaken (fun k q _ h => hF_2 q.1 h)
  have hP : va_P D vwCl (mW cy a i r4 rl) H1 := hP
  have hD : va_D A (mW cy a i r4 rl) := hD
  obtain ⟨hRr, hE2, hr_3⟩ := hr_3
  have hRr : mRr r4 := hRr
  have hEr : mEr [32, 33, 34, 35, 36, 37, 38, 39] _ r4 := Er_tr hEr hE2 (by decide)
  have hJ8 : gjJ (gjH (r 12) v_1.toNatClampNeg) (gjH (r 13) v_1.toNatClampNeg) (gjH (r 14) v_1.toNatClampNeg) (r 10 v_1.toNatClampNeg).toNatClampNeg (gjH (r 16) v_1.toNatClampNeg) (gjH (r 17) v_1.toNatClampNeg) (gjH (r 18) v_1.toNatClampNeg) (r 11 v_1.toNatClampNeg).toNatClampNeg 99 (r4 34) ∧ ∀ k : Nat, k < 20 → ((r4 39 k).toInt = 0 ↔ ∀ q, q < (r 10 v_1.toNatClampNeg).toNatClampNeg → (r4 34 q).toInt ≠ (k : Int)) := hr_3
  rw [hvv_1] at hJ8
  have hJ7 := hJ8.1
  clear hJ8
  have hnl9 : (r 11 (r 40 p0.toNatClampNeg).toNatClampNeg).toNatClampNeg ≤ 20 := by have h9 : (r 11 (r 40 p0.toNatClampNeg).toNatClampNeg).toInt ≤ 20 := (hRr0 11 _).2; show (r 11 (r 40 p0.toNatClampNeg).toNatClampNeg).toInt.toNat ≤ 20; omega
  have hkk : (r 41 p0.toNatClampNeg).toNatClampNeg < (r 10 (r 40 p0.toNatClampNeg).toNatClampNeg).toNatClampNeg := by have h7 := hc.2; show (r 41 p0.toNatClampNeg).toInt.toNat < (r 10 (r 40 p0.toNatClampNeg).toNatClampNeg).toInt.toNat; omega
  have qj : jOK r4 (r 41 p0.toNatClampNeg).toNatClampNeg := gjJ_okJ hJ7 rfl hnl9 hkk
  have hJ : r4 34 = r4 34 := rfl
  have hEr3 : mEr [34, 35, 36, 37, 38, 39] r r4 := hE2
  obtain ⟨J9, hJ9⟩ : ∃ f : Nat → Int32, f = r4 34 := ⟨_, rfl⟩
  rw [← hJ9] at hJ7
  have hDj : mD i r4 = mD i r := mD_E rfl hEr3 (by decide)
  refine lv_aload_n hx hb dX12_awardOf_10 rfl (lv_at hl 0 rfl) ?_
  refine lv_aload_n hx hb dX12_awardOf_11 rfl (lv_at hl 0 rfl) ?_
  refine va_get (D := D) (ci := 12) (v := .ref (a 40)) (C := RX12) (T := TX12) (N := 91) hx hb hT iX12 hown hK hP 0 rfl rfl 52 (by decide) (hT _ t_75) (fun _ h9 => h9) rfl dX12_awardOf_12 ?_
  refine lv_iload_n hx hb dX12_awardOf_15 rfl (lv_at hl 1 rfl) ?_
  refine va_iald hx hb hK hP 40 0 rfl rfl (vp_inI (by omega) (by omega)) dX12_awardOf_16 ?_
  refine lv_topi (fun v_5 ev_5 => ?_)
  have hgv_5 : 0 ≤ v_5.toInt ∧ v_5.toInt ≤ 5 := by rw [ev_5]; exact hRr 40 _
  have hvv_5 : v_5 = r 40 p0.toNatClampNeg := by rw [ev_5, hEr 40 (by decide)]
  refine lv_aload_n hx hb dX12_awardOf_17 rfl (lv_at hl 0 rfl) ?_
  refine va_get (D := D) (ci := 12) (v := .ref (a 41)) (C := RX12) (T := TX12) (N := 91) hx hb hT iX12 hown hK hP 0 rfl rfl 53 (by decide) (hT _ t_76) (fun _ h9 => h9) rfl dX12_awardOf_18 ?_
  refine lv_iload_n hx hb dX12_awardOf_21 rfl (lv_at hl 1 rfl) ?_
  refine va_iald hx hb hK hP 41 0 rfl rfl (vp_inI (by omega) (by omega)) dX12_awardOf_22 ?_
  refine lv_topi (fun v_6 ev_6 => ?_)
  have hgv_6 : 0 ≤ v_6.toInt ∧ v_6.toInt ≤ 19 := by rw [ev_6]; exact hRr 41 _
  have hvv_6 : v_6 = r 41 p0.toNatClampNeg := by rw [ev_6, hEr 41 (by decide)]
  have hF_7 := rF hD hS hA
  refine va_calli (va_runV (As := [.int v_5, .int v_6]) (rest := []) ⟨hx, hb, hml, hown, hT⟩ (c_X12_lostOf9 l D cy a i r4 rl v_5 v_6 _ hRi hRr (mE_same hEi hEr (by decide) (by decide) hE) (by omega) (by omega) (by rw [hvv_6]; exact jOK_ee (congrFun (hJ : (r4) 34 = r4 34) _) qj) (by rw [hEr 14 (by decide), show (20 * v_5.toInt + v_6.toInt).toNat = 20 * v_5.toNatClampNeg + v_6.toNatClampNeg from by have h9_v_5 : v_5.toNatClampNeg = v_5.toInt.toNat := rfl; have h9_v_6 : v_6.toNatClampNeg = v_6.toInt.toNat := rfl; omega]; exact hE.2.1 _ _ (by have h9_v_5 : v_5.toNatClampNeg = v_5.toInt.toNat := rfl; omega) (by have h7 := hc.2; rw [← hvv_5, ← hvv_6] at h7; have h9_v_6 : v_6.toNatClampNeg = v_6.toInt.toNat := rfl; omega))) (cwV 2 hT (gV t_120 t_121 t_122 t_123 t_6) rfl rfl rfl (by decide +kernel) ⟨Nat.le_of_ble_eq_true rfl, Nat.le_of_ble_eq_true rfl⟩) (rQ_v hP hK hD (va_recv hK hP (ci := 12) (q0 := 0) rfl rfl)) rfl rfl hl.1 rfl (lv_room (Nat.le_of_ble_eq_true rfl)) dX12_awardOf_23 ⟨Nat.le_of_ble_eq_true rfl, Nat.le_of_ble_eq_true rfl⟩) hS (fun q _ h => hF_7 q h) hF_7 (fun r_8 u_9 t H1 locs ht hvm hr_8 hB hz1 hk1 hS => ?_)
  obtain ⟨r9, rfl⟩ : ∃ z, z = u_9 := ⟨_, rfl⟩
  obtain ⟨hP, hK1, hD1⟩ := hB
  rw [ht] at hP
  have hD := hD1.weaken (fun k q _ h => hF_7 q.1 h)
  have hP : va_P D vwCl (mW cy a i r9 rl) H1 := hP
  have hD : va_D A (mW cy a i r9 rl) := hD
  obtain ⟨hRr, hE2, hr_8⟩ := hr_8
  have hRr : mRr r9 := hRr
  have hEr : mEr [32, 33, 34, 35, 36, 37, 38, 39] _ r9 := Er_tr hEr hE2 (by decide)
  have hqr_8 : r_8 = mLs (mD i r4) r4 (r4 34) v_5.toNatClampNeg v_6.toNatClampNeg := hr_8
  have hJ : r9 34 = r4 34 := (hE2 34 (by decide)).trans hJ
  have hL9 : r_8 = (mLc (mD i r) r J9 p0.toNatClampNeg) := by have h9 := hqr_8; rw [hvv_5, hvv_6, ← hJ9, hDj, mLs_E hEr3 (by decide)] at h9; exact h9
  refine lv_istore_n (lv' := [(3, .int r_8), (0, .ref (a 0)), (1, .int p0), (2, .int p1)]) hx hb dX12_awardOf_26 rfl hl (by decide) rfl (fun ls hl => ?_)
  refine lv_iload_n hx hb dX12_awardOf_27 rfl (lv_at hl 0 rfl) ?_
  refine lv_if_ne (tgt := 38) hx hb dX12_awardOf_28 (by decide) (fun c_10 => ?_) (fun c_10 => ?_)
  · have c_10 : r_8.toInt ≠ 0 := b_ne c_10
    refine lv_aload_n hx hb dX12_awardOf_38 rfl (lv_at hl 1 rfl) ?_
    refine va_get (D := D) (ci := 12) (v := .ref (a 45)) (C := RX12) (T := TX12) (N := 91) hx hb hT iX12 hown hK hP 0 rfl rfl 57 (by decide) (hT _ t_133) (fun _ h9 => h9) rfl dX12_awardOf_39 ?_
    refine lv_iload_n hx hb dX12_awardOf_42 rfl (lv_at hl 2 rfl) ?_
    refine va_iald hx hb hK hP 45 0 rfl rfl (vp_inI (by omega) (by omega)) dX12_awardOf_43 ?_
    refine lv_topi (fun v_11 ev_11 => ?_)
    have hgv_11 : 0 ≤ v_11.toInt ∧ v_11.toInt ≤ 999999 := by rw [ev_11]; exact hRr 45 _
    have hsv_11 : v_11 = r 45 p0.toNatClampNeg := ev_11.trans (congrFun (hEr 45 (by decide)) _)
    have htv_11 : v_11.toInt = (r 45 p0.toNatClampNeg).toInt := congrArg Int32.toInt hsv_11
    refine lv_iload_n hx hb dX12_awardOf_44 rfl (lv_at hl 0 rfl) ?_
    refine lv_icmp_lt (tgt := 55) hx hb dX12_awardOf_45 (by decide) (fun c_12 => ?_) (fun c_12 => ?_)
    · have c_12 : v_11.toInt < r_8.toInt := b_lt c_12
      have hErO := hEr
      refine lv_aload_n hx hb dX12_awardOf_55 rfl (lv_at hl 1 rfl) ?_
      refine lv_iload_n hx hb dX12_awardOf_56 rfl (lv_at hl 2 rfl) ?_
      have hF_13 := rF hD hS hA
      refine va_callv (va_runV (As := [.int p0]) (rest := []) ⟨hx, hb, hml, hown, hT⟩ (c_X12_feelsClaim9 l D cy a i r9 rl p0 _ hRi hRr (by omega) (by rw [hEr 41 (by decide)]; exact jOK_ee (congrFun (hJ : (r9) 34 = r4 34) _) qj)) (cwV 1 hT (gV t_129 t_130 t_131 t_132 t_6) rfl rfl rfl (by decide +kernel) ⟨Nat.le_of_ble_eq_true rfl, Nat.le_of_ble_eq_true rfl⟩) (rQ_v hP hK hD (va_recv hK hP (ci := 12) (q0 := 0) rfl rfl)) rfl rfl hl.1 rfl (lv_room (Nat.le_of_ble_eq_true rfl)) dX12_awardOf_57 ⟨Nat.le_of_ble_eq_true rfl, Nat.le_of_ble_eq_true rfl⟩) hS (fun q _ h => hF_13 q h) hF_13 (fun u_15 t H1 locs ht hvm hr_14 hB hz1 hk1 hS => ?_)
      obtain ⟨r15, rfl⟩ : ∃ z, z = u_15 := ⟨_, rfl⟩
      obtain ⟨hP, hK1, hD1⟩ := hB
      rw [ht] at hP
      have hD := hD1.weaken (fun k q _ h => hF_13 q.1 h)
      have hP : va_P D vwCl (mW cy a i r15 rl) H1 := hP
      have hD : va_D A (mW cy a i r15 rl) := hD
      obtain ⟨hRr, hE2, hr_14⟩ := hr_14
      have hRr : mRr r15 := hRr
      have hEr : mEr [32, 33, 34, 35, 36, 37, 38, 39] _ r15 := Er_tr hEr hE2 (by decide)
      have hqr_14 : ∀ k9, k9 < 10 → r15 33 k9 = mFa r9 (r9 34) p0.toNatClampNeg k9 := hr_14
      have hJ : r15 34 = r4 34 := (hE2 34 (by decide)).trans hJ
      have hJr : r15 34 = J9 := (hJ : r15 34 = r4 34).trans hJ9.symm
      have hJo : r9 34 = J9 := by rw [← hJr]; exact (hE2 34 (by decide)).symm
      have hfc : ∀ k9, k9 < 10 → r15 33 k9 = (mFa r J9 p0.toNatClampNeg) k9 := by have h9 := hqr_14; rw [hJo] at h9; have h8 : mFa r9 J9 p0.toNatClampNeg = mFa r J9 p0.toNatClampNeg := mFa_E hErO (by decide); rw [h8] at h9; exact h9
      have hD9 : mD i r15 = mD i r := mD_E rfl hEr (by decide)
      refine lv_aload_n hx hb dX12_awardOf_60 rfl (lv_at hl 1 rfl) ?_
      refine va_get (D := D) (ci := 12) (v := .ref (a 46)) (C := RX12) (T := TX12) (N := 91) hx hb hT iX12 hown hK hP 0 rfl rfl 58 (by decide) (hT _ t_138) (fun _ h9 => h9) rfl dX12_awardOf_61 ?_
      refine lv_iload_n hx hb dX12_awardOf_64 rfl (lv_at hl 2 rfl) ?_
      refine va_iald hx hb hK hP 46 0 rfl rfl (vp_inI (by omega) (by omega)) dX12_awardOf_65 ?_
      refine lv_topi (fun v_16 ev_16 => ?_)
      have hgv_16 : -1 ≤ v_16.toInt ∧ v_16.toInt ≤ 9999 := by rw [ev_16]; exact hRr 46 _
      have hsv_16 : v_16 = r 46 p0.toNatClampNeg := ev_16.trans (congrFun (hEr 46 (by decide)) _)
      have htv_16 : v_16.toInt = (r 46 p0.toNatClampNeg).toInt := congrArg Int32.toInt hsv_16
      refine lv_iconst (v := (-1)) hx hb dX12_awardOf_66 (by decide) ?_
      refine lv_icmp_eq (tgt := 80) hx hb dX12_awardOf_67 (by decide) (fun c_17 => ?_) (fun c_17 => ?_)
      · have c_17 : v_16.toInt = (-1) := b_eq c_17
        refine lv_iload_n hx hb dX12_awardOf_80 rfl (lv_at hl 3 rfl) ?_
        refine lv_aload_n hx hb dX12_awardOf_81 rfl (lv_at hl 1 rfl) ?_
        refine va_get (D := D) (ci := 12) (v := .ref (a 44)) (C := RX12) (T := TX12) (N := 91) hx hb hT iX12 hown hK hP 0 rfl rfl 56 (by decide) (hT _ t_139) (fun _ h9 => h9) rfl dX12_awardOf_82 ?_
        refine lv_iload_n hx hb dX12_awardOf_85 rfl (lv_at hl 2 rfl) ?_
        refine va_iald hx hb hK hP 44 0 rfl rfl (vp_inI (by omega) (by omega)) dX12_awardOf_86 ?_
        refine lv_topi (fun v_18 ev_18 => ?_)
        have hgv_18 : 0 ≤ v_18.toInt ∧ v_18.toInt ≤ 9999 := by rw [ev_18]; exact hRr 44 _
        have hsv_18 : v_18 = r 44 p0.toNatClampNeg := ev_18.trans (congrFun (hEr 44 (by decide)) _)
        have htv_18 : v_18.toInt = (r 44 p0.toNatClampNeg).toInt := congrArg Int32.toInt hsv_18
        refine lv_isub hx hb dX12_awardOf_87 ?_
        refine lv_topi (fun v_19 ev_19 => ?_)
        refine lv_aload_n hx hb dX12_awardOf_88 rfl (lv_at hl 1 rfl) ?_
        refine lv_bipush (v := 100) hx hb dX12_awardOf_89 (by decide) ?_
        refine lv_sipush (v := 999) hx hb dX12_awardOf_91 (by decide) ?_
        refine lv_sipush (v := 999) hx hb dX12_awardOf_94 (by decide) ?_
        have hF_20 := rF hD hS hA
        refine va_calli (va_runV (As := [.int 100, .int 999, .int 999]) (rest := [.int v_19]) ⟨hx, hb, hml, hown, hT⟩ (c_X12_byLaw9 l D cy a i r15 rl 100 999 999 _ hRi hRr (mE_same hEi hEr (by decide) (by decide) hE) (by first | omega | decide)) (cwV 3 hT (gV t_97 t_98 t_99 t_100 t_6) rfl rfl rfl (by decide +kernel) ⟨Nat.le_of_ble_eq_true rfl, Nat.le_of_ble_eq_true rfl⟩) (rQ_v hP hK hD (va_recv hK hP (ci := 12) (q0 := 0) rfl rfl)) rfl rfl hl.1 rfl (lv_room (Nat.le_of_ble_eq_true rfl)) dX12_awardOf_97 ⟨Nat.le_of_ble_eq_true rfl, Nat.le_of_ble_eq_true rfl⟩) hS (fun q _ h => hF_20 q h) hF_20 (fun r_21 u_22 t H1 locs ht hvm hr_21 hB hz1 hk1 hS => ?_)
        obtain ⟨r22, rfl⟩ : ∃ z, z = u_22 := ⟨_, rfl⟩
        obtain ⟨hP, hK1, hD1⟩ := hB
        rw [ht] at hP
        have hD := hD1.weaken (fun k q _ h => hF_20 q.1 h)
        have hP : va_P D vwCl (mW cy a i r22 rl) H1 := hP
        have hD : va_D A (mW cy a i r22 rl) := hD
        obtain ⟨hRr, hE2, hr_21⟩ := hr_21
        have hRr : mRr r22 := hRr
        have hEr : mEr [32, 33, 34, 35, 36, 37, 38, 39] _ r22 := Er_tr hEr hE2 (by decide)
        have hqr_21 : r_21 = byL (mD i r15) (r15 33) (100 : Int32) (999 : Int32) (999 : Int32) := hr_21
        have hJ : r22 34 = r4 34 := (hE2 34 (by decide)).trans hJ
        have hb9 : r_21 = byL (mD i r) (mFa r J9 p0.toNatClampNeg) 100 999 999 := by have h9 := hqr_21; rw [hD9] at h9; exact h9.trans (byL_co (mE_gl hE) (by decide) hfc)
        refine lv_icmp_le (tgt := 112) hx hb dX12_awardOf_100 (by decide) (fun c_23 => ?_) (fun c_23 => ?_)
        · have c_23 : v_19.toInt ≤ r_21.toInt := b_le c_23
          refine lv_aload_n hx hb dX12_awardOf_112 rfl (lv_at hl 1 rfl) ?_
          refine lv_iconst (v := 4) hx hb dX12_awardOf_113 (by decide) ?_
          refine lv_aload_n hx hb dX12_awardOf_114 rfl (lv_at hl 1 rfl) ?_
          refine va_get (D := D) (ci := 12) (v := .ref (a 45)) (C := RX12) (T := TX12) (N := 91) hx hb hT iX12 hown hK hP 0 rfl rfl 57 (by decide) (hT _ t_133) (fun _ h9 => h9) rfl dX12_awardOf_115 ?_
          refine lv_iload_n hx hb dX12_awardOf_118 rfl (lv_at hl 2 rfl) ?_
          refine va_iald hx hb hK hP 45 0 rfl rfl (vp_inI (by omega) (by omega)) dX12_awardOf_119 ?_
          refine lv_topi (fun v_24 ev_24 => ?_)
          have hgv_24 : 0 ≤ v_24.toInt ∧ v_24.toInt ≤ 999999 := by rw [ev_24]; exact hRr 45 _
          have hsv_24 : v_24 = r 45 p0.toNatClampNeg := ev_24.trans (congrFun (hEr 45 (by decide)) _)
          have htv_24 : v_24.toInt = (r 45 p0.toNatClampNeg).toInt := congrArg Int32.toInt hsv_24
          have hF_25 := rF hD hS hA
          refine va_calli (va_runV (As := [.int 4, .int v_24]) (rest := []) ⟨hx, hb, hml, hown, hT⟩ (c_X12_awards9 l D cy a i r22 rl 4 v_24 _ hRi hRr) (cwV 2 hT (gV t_134 t_135 t_136 t_137 t_6) rfl rfl rfl (by decide +kernel) ⟨Nat.le_of_ble_eq_true rfl, Nat.le_of_ble_eq_true rfl⟩) (rQ_v hP hK hD (va_recv hK hP (ci := 12) (q0 := 0) rfl rfl)) rfl rfl hl.1 rfl (lv_room (Nat.le_of_ble_eq_true rfl)) dX12_awardOf_120 ⟨Nat.le_of_ble_eq_true rfl, Nat.le_of_ble_eq_true rfl⟩) hS (fun q _ h => hF_25 q h) hF_25 (fun r_26 u_27 t H1 locs ht hvm hr_26 hB hz1 hk1 hS => ?_)
          obtain ⟨i27, r27⟩ := u_27
          obtain ⟨hP, hK1, hD1⟩ := hB
          rw [ht] at hP
          have hD := hD1.weaken (fun k q _ h => hF_25 q.1 h)
          have hP : va_P D vwCl (mW cy a i27 r27 rl) H1 := hP
          have hD : va_D A (mW cy a i27 r27 rl) := hD
          obtain ⟨hRi, hRr, hE1, hE2, hr_26⟩ := hr_26
          have hRi : mRi i27 := hRi
          have hRr : mRr r27 := hRr
          have hEi : mEi [23, 24, 25, 26, 27, 28, 29, 30, 60] _ i27 := Ei_tr hEi hE1 (by decide)
          have hEr : mEr [32, 33, 34, 35, 36, 37, 38, 39] _ r27 := Er_tr hEr hE2 (by decide)
          have hqr_26 : r_26 = v_24 ∧ i27 60 = (4 : Int32) := hr_26
          have hJ : r27 34 = r4 34 := (hE2 34 (by decide)).trans hJ
          subst hQ
          have hR9 : mAR (mD i r) r J9 p0.toNatClampNeg p1 = 4 := by unfold mAR; rw [← hL9]; exact awR_4 (show r_8.toInt ≠ 0 by omega) (show ¬ r_8.toInt ≤ (r 45 p0.toNatClampNeg).toInt by rw [← htv_11]; omega) (show (r 46 p0.toNatClampNeg).toInt = -1 ∨ p1.toInt < (r 46 p0.toNatClampNeg).toInt by rw [← htv_16]; omega) (by rw [← hb9, ← hsv_18, ← ev_19]; omega)
          have hV9 : mAV (mD i r) r J9 p0.toNatClampNeg p1 = awV (mD i r) (mFa r J9 p0.toNatClampNeg) r_8 (r 45 p0.toNatClampNeg) 4 := by unfold mAV; rw [hR9, ← hL9]
          have hW9 : mAV (mD i r) r J9 p0.toNatClampNeg p1 = r 45 p0.toNatClampNeg := hV9.trans (awV_o (Or.inl rfl))
          exact W.iret (v := r_26) hx hb hr (fun t ht hW => ⟨⟨_, (i27, r27), rfl, ⟨hRi, hRr, hEi, hEr, ⟨J9, hJ7, (hqr_26.1.trans hsv_24).trans hW9.symm, hqr_26.2.trans hR9.symm⟩⟩, by rw [ht]; exact hP, va_K.moved hW.alike hK, hD⟩, hS.F ht⟩) hS.2.2 dX12_awardOf_123
        · have c_23 : r_21.toInt < v_19.toInt := b_nle c_23
          refine lv_aload_n hx hb dX12_awardOf_103 rfl (lv_at hl 1 rfl) ?_
          refine lv_iconst (v := 3) hx hb dX12_awardOf_104 (by decide) ?_
          refine lv_iload_n hx hb dX12_awardOf_105 rfl (lv_at hl 0 rfl) ?_
          have hF_28 := rF hD hS hA
          refine va_calli (va_runV (As := [.int 3, .int r_8]) (rest := []) ⟨hx, hb, hml, hown, hT⟩ (c_X12_awards9 l D cy a i r22 rl 3 r_8 _ hRi hRr) (cwV 2 hT (gV t_134 t_135 t_136 t_137 t_6) rfl rfl rfl (by decide +kernel) ⟨Nat.le_of_ble_eq_true rfl, Nat.le_of_ble_eq_true rfl⟩) (rQ_v hP hK hD (va_recv hK hP (ci := 12) (q0 := 0) rfl rfl)) rfl rfl hl.1 rfl (lv_room (Nat.le_of_ble_eq_true rfl)) dX12_awardOf_106 ⟨Nat.le_of_ble_eq_true rfl, Nat.le_of_ble_eq_true rfl⟩) hS (fun q _ h => hF_28 q h) hF_28 (fun r_29 u_30 t H1 locs ht hvm hr_29 hB hz1 hk1 hS => ?_)
          obtain ⟨i30, r30⟩ := u_30
          obtain ⟨hP, hK1, hD1⟩ := hB
          rw [ht] at hP
          have hD := hD1.weaken (fun k q _ h => hF_28 q.1 h)
          have hP : va_P D vwCl (mW cy a i30 r30 rl) H1 := hP
          have hD : va_D A (mW cy a i30 r30 rl) := hD
          obtain ⟨hRi, hRr, hE1, hE2, hr_29⟩ := hr_29
          have hRi : mRi i30 := hRi
          have hRr : mRr r30 := hRr
          have hEi : mEi [23, 24, 25, 26, 27, 28, 29, 30, 60] _ i30 := Ei_tr hEi hE1 (by decide)
          have hEr : mEr [32, 33, 34, 35, 36, 37, 38, 39] _ r30 := Er_tr hEr hE2 (by decide)
          have hqr_29 : r_29 = r_8 ∧ i30 60 = (3 : Int32) := hr_29
          have hJ : r30 34 = r4 34 := (hE2 34 (by decide)).trans hJ
          refine lv_goto (tgt := 123) hx hb dX12_awardOf_109 (by decide) ?_
          subst hQ
          have hR9 : mAR (mD i r) r J9 p0.toNatClampNeg p1 = 3 := by unfold mAR; rw [← hL9]; exact awR_3 (show r_8.toInt ≠ 0 by omega) (show ¬ r_8.toInt ≤ (r 45 p0.toNatClampNeg).toInt by rw [← htv_11]; omega) (show (r 46 p0.toNatClampNeg).toInt = -1 ∨ p1.toInt < (r 46 p0.toNatClampNeg).toInt by rw [← htv_16]; omega) (by rw [← hb9, ← hsv_18, ← ev_19]; omega)
          have hV9 : mAV (mD i r) r J9 p0.toNatClampNeg p1 = awV (mD i r) (mFa r J9 p0.toNatClampNeg) r_8 (r 45 p0.toNatClampNeg) 3 := by unfold mAV; rw [hR9, ← hL9]
          have hW9 : mAV (mD i r) r J9 p0.toNatClampNeg p1 = r_8 := hV9.trans (awV_23 (Or.inr rfl))
          exact W.iret (v := r_29) hx hb hr (fun t ht hW => ⟨⟨_, (i30, r30), rfl, ⟨hRi, hRr, hEi, hEr, ⟨J9, hJ7, hqr_29.1.trans hW9.symm, hqr_29.2.trans hR9.symm⟩⟩, by rw [ht]; exact hP, va_K.moved hW.alike hK, hD⟩, hS.F ht⟩) hS.2.2 dX12_awardOf_123
      · have c_17 : v_16.toInt ≠ (-1) := b_ne c_17
        refine lv_aload_n hx hb dX12_awardOf_70 rfl (lv_at hl 1 rfl) ?_
        refine va_get (D := D) (ci := 12) (v := .ref (a 46)) (C := RX12) (T := TX12) (N := 91) hx hb hT iX12 hown hK hP 0 rfl rfl 58 (by decide) (hT _ t_138) (fun _ h9 => h9) rfl dX12_awardOf_71 ?_
        refine lv_iload_n hx hb dX12_awardOf_74 rfl (lv_at hl 2 rfl) ?_
        refine va_iald hx hb hK hP 46 0 rfl rfl (vp_inI (by omega) (by omega)) dX12_awardOf_75 ?_
        refine lv_topi (fun v_31 ev_31 => ?_)
        have hgv_31 : -1 ≤ v_31.toInt ∧ v_31.toInt ≤ 9999 := by rw [ev_31]; exact hRr 46 _
        have hsv_31 : v_31 = r 46 p0.toNatClampNeg := ev_31.trans (congrFun (hEr 46 (by decide)) _)
        have htv_31 : v_31.toInt = (r 46 p0.toNatClampNeg).toInt := congrArg Int32.toInt hsv_31
        refine lv_iload_n hx hb dX12_awardOf_76 rfl (lv_at hl 3 rfl) ?_
        refine lv_icmp_le (tgt := 124) hx hb dX12_awardOf_77 (by decide) (fun c_32 => ?_) (fun c_32 => ?_)
        · have c_32 : v_31.toInt ≤ p1.toInt := b_le c_32
          refine lv_aload_n hx hb dX12_awardOf_124 rfl (lv_at hl 1 rfl) ?_
          have hF_33 := rF hD hS hA
          refine va_calli (va_runV (As := []) (rest := []) ⟨hx, hb, hml, hown, hT⟩ (c_X12_anyB9 l D cy a i r15 rl _ hRi hRr (mE_same hEi hEr (by decide) (by decide) hE)) (cwV 0 hT (gV t_140 t_141 t_142 t_143 t_6) rfl rfl rfl (by decide +kernel) ⟨Nat.le_of_ble_eq_true rfl, Nat.le_of_ble_eq_true rfl⟩) (rQ_v hP hK hD (va_recv hK hP (ci := 12) (q0 := 0) rfl rfl)) rfl rfl hl.1 rfl (lv_room (Nat.le_of_ble_eq_true rfl)) dX12_awardOf_125 ⟨Nat.le_of_ble_eq_true rfl, Nat.le_of_ble_eq_true rfl⟩) hS (fun q _ h => hF_33 q h) hF_33 (fun r_34 u_35 t H1 locs ht hvm hr_34 hB hz1 hk1 hS => ?_)
          obtain ⟨r35, rfl⟩ : ∃ z, z = u_35 := ⟨_, rfl⟩
          obtain ⟨hP, hK1, hD1⟩ := hB
          rw [ht] at hP
          have hD := hD1.weaken (fun k q _ h => hF_33 q.1 h)
          have hP : va_P D vwCl (mW cy a i r35 rl) H1 := hP
          have hD : va_D A (mW cy a i r35 rl) := hD
          obtain ⟨hRr, hE2, hr_34⟩ := hr_34
          have hRr : mRr r35 := hRr
          have hEr : mEr [32, 33, 34, 35, 36, 37, 38, 39] _ r35 := Er_tr hEr hE2 (by decide)
          have hqr_34 : r_34 = anB (mD i r15) (r15 33) := hr_34
          have hJ : r35 34 = r4 34 := (hE2 34 (by decide)).trans hJ
          have ha9 : r_34 = anB (mD i r) (mFa r J9 p0.toNatClampNeg) := by have h9 := hqr_34; rw [hD9] at h9; exact h9.trans (anB_co (mE_gl hE) hfc)
          refine lv_if_eq (tgt := 163) hx hb dX12_awardOf_128 (by decide) (fun c_36 => ?_) (fun c_36 => ?_)
          · have c_36 : r_34.toInt = 0 := b_eq c_36
            refine lv_aload_n hx hb dX12_awardOf_163 rfl (lv_at hl 1 rfl) ?_
            refine lv_iload_n hx hb dX12_awardOf_164 rfl (lv_at hl 2 rfl) ?_
            refine vp_callSi (W.runV (As := [.int p0]) (rest := []) ⟨hx, hb, hml, hown, hT⟩ (c_X12_hasEvidence9 l D cy a i r35 rl p0 hRi hRr (by omega)) (cwV 1 hT (gV t_144 t_145 t_146 t_147 t_6) rfl rfl rfl (by decide +kernel) ⟨Nat.le_of_ble_eq_true rfl, Nat.le_of_ble_eq_true rfl⟩) (rP_v hP hK (va_recv hK hP (ci := 12) (q0 := 0) rfl rfl)) rfl rfl hl.1 rfl (lv_room (Nat.le_of_ble_eq_true rfl)) dX12_awardOf_165 ⟨Nat.le_of_ble_eq_true rfl, Nat.le_of_ble_eq_true rfl⟩) (fun r_37 hr_37 => ?_)
            have hr_37 : BR r_37 ((r35 43 p0.toNatClampNeg).toInt % 2 = 1 ∧ 1 < (r35 43 p0.toNatClampNeg).toInt) 1 0 := hr_37
            rw [hEr 43 (by decide)] at hr_37
            rcases hr_37 with ⟨rfl, hevr_37⟩ | ⟨rfl, hevr_37⟩
            · skip
              have hEr4 := hEr
              have hJ34 : r35 34 = J9 := (hJ : r35 34 = r4 34).trans hJ9.symm
              refine lv_if_eq (tgt := 182) hx hb dX12_awardOf_168 (by decide) (fun c_38 => absurd c_38 (by decide)) (fun c_38 => ?_)
              refine lv_aload_n hx hb dX12_awardOf_171 rfl (lv_at hl 1 rfl) ?_
              refine lv_iload_n hx hb dX12_awardOf_172 rfl (lv_at hl 2 rfl) ?_
              refine lv_iload_n hx hb dX12_awardOf_173 rfl (lv_at hl 0 rfl) ?_
              refine lv_bipush (v := 7) hx hb dX12_awardOf_174 (by decide) ?_
              have hF_39 := rF hD hS hA
              refine va_calli (va_runV (As := [.int p0, .int r_8, .int 7]) (rest := []) ⟨hx, hb, hml, hown, hT⟩ (c_X12_partOfLost9 l D cy a i r35 rl p0 r_8 7 _ hRi hRr (mE_same hEi hEr (by decide) (by decide) hE) (by omega) (by rw [hEr 41 (by decide)]; exact jOK_ee (congrFun (hJ : (r35) 34 = r4 34) _) qj)) (cwV 3 hT (gV t_148 t_149 t_150 t_151 t_6) rfl rfl rfl (by decide +kernel) ⟨Nat.le_of_ble_eq_true rfl, Nat.le_of_ble_eq_true rfl⟩) (rQ_v hP hK hD (va_recv hK hP (ci := 12) (q0 := 0) rfl rfl)) rfl rfl hl.1 rfl (lv_room (Nat.le_of_ble_eq_true rfl)) dX12_awardOf_176 ⟨Nat.le_of_ble_eq_true rfl, Nat.le_of_ble_eq_true rfl⟩) hS (fun q _ h => hF_39 q h) hF_39 (fun r_40 u_41 t H1 locs ht hvm hr_40 hB hz1 hk1 hS => ?_)
              obtain ⟨i41, r41⟩ := u_41
              obtain ⟨hP, hK1, hD1⟩ := hB
              rw [ht] at hP
              have hD := hD1.weaken (fun k q _ h => hF_39 q.1 h)
              have hP : va_P D vwCl (mW cy a i41 r41 rl) H1 := hP
              have hD : va_D A (mW cy a i41 r41 rl) := hD
              obtain ⟨hRi, hRr, hE1, hE2, hr_40⟩ := hr_40
              have hRi : mRi i41 := hRi
              have hRr : mRr r41 := hRr
              have hEi : mEi [23, 24, 25, 26, 27, 28, 29, 30, 60] _ i41 := Ei_tr hEi hE1 (by decide)
              have hEr : mEr [32, 33, 34, 35, 36, 37, 38, 39] _ r41 := Er_tr hEr hE2 (by decide)
              have hqr_40 : r_40 = awP (mD i r35) (mFa r35 (r35 34) p0.toNatClampNeg) r_8 (r35 45 p0.toNatClampNeg) ∧ i41 60 = (7 : Int32) := hr_40
              have hJ : r41 34 = r4 34 := (hE2 34 (by decide)).trans hJ
              have hpl9 : r_40 = awP (mD i r) (mFa r J9 p0.toNatClampNeg) r_8 (r 45 p0.toNatClampNeg) := by have h9 := hqr_40.1; rw [show r35 34 = J9 from hJ34] at h9; rw [show mD i r35 = mD i r from mD_E (by rfl) hEr4 (by decide), mFa_E hEr4 (by decide), hEr4 45 (by decide)] at h9; exact h9
              refine lv_goto (tgt := 194) hx hb dX12_awardOf_179 (by decide) ?_
              subst hQ
              have ha1 : ¬ anB (mD i r) (mFa r J9 p0.toNatClampNeg) = 1 := fun h9 => by rw [← ha9] at h9; have h8 : r_34.toInt = 1 := (by rw [h9]; rfl); omega
              have hR9 : mAR (mD i r) r J9 p0.toNatClampNeg p1 = 7 := by unfold mAR; rw [← hL9]; exact awR_7 (show r_8.toInt ≠ 0 by omega) (show ¬ r_8.toInt ≤ (r 45 p0.toNatClampNeg).toInt by rw [← htv_11]; omega) (show ¬ ((r 46 p0.toNatClampNeg).toInt = -1 ∨ p1.toInt < (r 46 p0.toNatClampNeg).toInt) by have h8 := htv_16; have h7 := htv_31; omega) ha1 hevr_37
              have hV9 : mAV (mD i r) r J9 p0.toNatClampNeg p1 = awV (mD i r) (mFa r J9 p0.toNatClampNeg) r_8 (r 45 p0.toNatClampNeg) 7 := by unfold mAV; rw [hR9, ← hL9]
              have hW9 : mAV (mD i r) r J9 p0.toNatClampNeg p1 = awP (mD i r) (mFa r J9 p0.toNatClampNeg) r_8 (r 45 p0.toNatClampNeg) := hV9.trans (awV_57 (Or.inr rfl))
              exact W.iret (v := r_40) hx hb hr (fun t ht hW => ⟨⟨_, (i41, r41), rfl, ⟨hRi, hRr, hEi, hEr, ⟨J9, hJ7, hpl9.trans hW9.symm, hqr_40.2.trans hR9.symm⟩⟩, by rw [ht]; exact hP, va_K.moved hW.alike hK, hD⟩, hS.F ht⟩) hS.2.2 dX12_awardOf_194
            · skip
              refine lv_if_eq (tgt := 182) hx hb dX12_awardOf_168 (by decide) (fun c_42 => ?_) (fun c_42 => absurd (by decide) c_42)
              refine lv_aload_n hx hb dX12_awardOf_182 rfl (lv_at hl 1 rfl) ?_
              refine lv_bipush (v := 8) hx hb dX12_awardOf_183 (by decide) ?_
              refine lv_aload_n hx hb dX12_awardOf_185 rfl (lv_at hl 1 rfl) ?_
              refine va_get (D := D) (ci := 12) (v := .ref (a 45)) (C := RX12) (T := TX12) (N := 91) hx hb hT iX12 hown hK hP 0 rfl rfl 57 (by decide) (hT _ t_133) (fun _ h9 => h9) rfl dX12_awardOf_186 ?_
              refine lv_iload_n hx hb dX12_awardOf_189 rfl (lv_at hl 2 rfl) ?_
              refine va_iald hx hb hK hP 45 0 rfl rfl (vp_inI (by omega) (by omega)) dX12_awardOf_190 ?_
              refine lv_topi (fun v_43 ev_43 => ?_)
              have hgv_43 : 0 ≤ v_43.toInt ∧ v_43.toInt ≤ 999999 := by rw [ev_43]; exact hRr 45 _
              have hsv_43 : v_43 = r 45 p0.toNatClampNeg := ev_43.trans (congrFun (hEr 45 (by decide)) _)
              have htv_43 : v_43.toInt = (r 45 p0.toNatClampNeg).toInt := congrArg Int32.toInt hsv_43
              have hF_44 := rF hD hS hA
              refine va_calli (va_runV (As := [.int 8, .int v_43]) (rest := []) ⟨hx, hb, hml, hown, hT⟩ (c_X12_awards9 l D cy a i r35 rl 8 v_43 _ hRi hRr) (cwV 2 hT (gV t_134 t_135 t_136 t_137 t_6) rfl rfl rfl (by decide +kernel) ⟨Nat.le_of_ble_eq_true rfl, Nat.le_of_ble_eq_true rfl⟩) (rQ_v hP hK hD (va_recv hK hP (ci := 12) (q0 := 0) rfl rfl)) rfl rfl hl.1 rfl (lv_room (Nat.le_of_ble_eq_true rfl)) dX12_awardOf_191 ⟨Nat.le_of_ble_eq_true rfl, Nat.le_of_ble_eq_true rfl⟩) hS (fun q _ h => hF_44 q h) hF_44 (fun r_45 u_46 t H1 locs ht hvm hr_45 hB hz1 hk1 hS => ?_)
              obtain ⟨i46, r46⟩ := u_46
              obtain ⟨hP, hK1, hD1⟩ := hB
              rw [ht] at hP
              have hD := hD1.weaken (fun k q _ h => hF_44 q.1 h)
              have hP : va_P D vwCl (mW cy a i46 r46 rl) H1 := hP
              have hD : va_D A (mW cy a i46 r46 rl) := hD
              obtain ⟨hRi, hRr, hE1, hE2, hr_45⟩ := hr_45
              have hRi : mRi i46 := hRi
              have hRr : mRr r46 := hRr
              have hEi : mEi [23, 24, 25, 26, 27, 28, 29, 30, 60] _ i46 := Ei_tr hEi hE1 (by decide)
              have hEr : mEr [32, 33, 34, 35, 36, 37, 38, 39] _ r46 := Er_tr hEr hE2 (by decide)
              have hqr_45 : r_45 = v_43 ∧ i46 60 = (8 : Int32) := hr_45
              have hJ : r46 34 = r4 34 := (hE2 34 (by decide)).trans hJ
              subst hQ
              have ha1 : ¬ anB (mD i r) (mFa r J9 p0.toNatClampNeg) = 1 := fun h9 => by rw [← ha9] at h9; have h8 : r_34.toInt = 1 := (by rw [h9]; rfl); omega
              have hR9 : mAR (mD i r) r J9 p0.toNatClampNeg p1 = 8 := by unfold mAR; rw [← hL9]; exact awR_8 (show r_8.toInt ≠ 0 by omega) (show ¬ r_8.toInt ≤ (r 45 p0.toNatClampNeg).toInt by rw [← htv_11]; omega) (show ¬ ((r 46 p0.toNatClampNeg).toInt = -1 ∨ p1.toInt < (r 46 p0.toNatClampNeg).toInt) by have h8 := htv_16; have h7 := htv_31; omega) ha1 hevr_37
              have hV9 : mAV (mD i r) r J9 p0.toNatClampNeg p1 = awV (mD i r) (mFa r J9 p0.toNatClampNeg) r_8 (r 45 p0.toNatClampNeg) 8 := by unfold mAV; rw [hR9, ← hL9]
              have hW9 : mAV (mD i r) r J9 p0.toNatClampNeg p1 = r 45 p0.toNatClampNeg := hV9.trans (awV_o (Or.inr (Or.inr rfl)))
              exact W.iret (v := r_45) hx hb hr (fun t ht hW => ⟨⟨_, (i46, r46), rfl, ⟨hRi, hRr, hEi, hEr, ⟨J9, hJ7, (hqr_45.1.trans hsv_43).trans hW9.symm, hqr_45.2.trans hR9.symm⟩⟩, by rw [ht]; exact hP, va_K.moved hW.alike hK, hD⟩, hS.F ht⟩) hS.2.2 dX12_awardOf_194
          · have c_36 : r_34.toInt ≠ 0 := b_ne c_36
            refine lv_aload_n hx hb dX12_awardOf_131 rfl (lv_at hl 1 rfl) ?_
            refine va_get (D := D) (ci := 12) (v := .ref (a 47)) (C := RX12) (T := TX12) (N := 91) hx hb hT iX12 hown hK hP 0 rfl rfl 59 (by decide) (hT _ t_152) (fun _ h9 => h9) rfl dX12_awardOf_132 ?_
            refine lv_iload_n hx hb dX12_awardOf_135 rfl (lv_at hl 2 rfl) ?_
            refine va_zald hx hb hK hP 47 2 rfl rfl (vp_inI (by omega) (by omega)) dX12_awardOf_136 ?_
            refine lv_topi (fun v_47 ev_47 => ?_)
            have hsv_47 : v_47 = r 47 p0.toNatClampNeg := ev_47.trans (congrFun (hEr 47 (by decide)) _)
            have htv_47 : v_47.toInt = (r 47 p0.toNatClampNeg).toInt := congrArg Int32.toInt hsv_47
            refine lv_if_eq (tgt := 155) hx hb dX12_awardOf_137 (by decide) (fun c_48 => ?_) (fun c_48 => ?_)
            · have c_48 : v_47.toInt = 0 := b_eq c_48
              have hEr4 := hEr
              have hJ34 : r35 34 = J9 := (hJ : r35 34 = r4 34).trans hJ9.symm
              refine lv_aload_n hx hb dX12_awardOf_155 rfl (lv_at hl 1 rfl) ?_
              refine lv_iload_n hx hb dX12_awardOf_156 rfl (lv_at hl 2 rfl) ?_
              refine lv_iload_n hx hb dX12_awardOf_157 rfl (lv_at hl 0 rfl) ?_
              refine lv_iconst (v := 5) hx hb dX12_awardOf_158 (by decide) ?_
              have hF_49 := rF hD hS hA
              refine va_calli (va_runV (As := [.int p0, .int r_8, .int 5]) (rest := []) ⟨hx, hb, hml, hown, hT⟩ (c_X12_partOfLost9 l D cy a i r35 rl p0 r_8 5 _ hRi hRr (mE_same hEi hEr (by decide) (by decide) hE) (by omega) (by rw [hEr 41 (by decide)]; exact jOK_ee (congrFun (hJ : (r35) 34 = r4 34) _) qj)) (cwV 3 hT (gV t_148 t_149 t_150 t_151 t_6) rfl rfl rfl (by decide +kernel) ⟨Nat.le_of_ble_eq_true rfl, Nat.le_of_ble_eq_true rfl⟩) (rQ_v hP hK hD (va_recv hK hP (ci := 12) (q0 := 0) rfl rfl)) rfl rfl hl.1 rfl (lv_room (Nat.le_of_ble_eq_true rfl)) dX12_awardOf_159 ⟨Nat.le_of_ble_eq_true rfl, Nat.le_of_ble_eq_true rfl⟩) hS (fun q _ h => hF_49 q h) hF_49 (fun r_50 u_51 t H1 locs ht hvm hr_50 hB hz1 hk1 hS => ?_)
              obtain ⟨i51, r51⟩ := u_51
              obtain ⟨hP, hK1, hD1⟩ := hB
              rw [ht] at hP
              have hD := hD1.weaken (fun k q _ h => hF_49 q.1 h)
              have hP : va_P D vwCl (mW cy a i51 r51 rl) H1 := hP
              have hD : va_D A (mW cy a i51 r51 rl) := hD
              obtain ⟨hRi, hRr, hE1, hE2, hr_50⟩ := hr_50
              have hRi : mRi i51 := hRi
              have hRr : mRr r51 := hRr
              have hEi : mEi [23, 24, 25, 26, 27, 28, 29, 30, 60] _ i51 := Ei_tr hEi hE1 (by decide)
              have hEr : mEr [32, 33, 34, 35, 36, 37, 38, 39] _ r51 := Er_tr hEr hE2 (by decide)
              have hqr_50 : r_50 = awP (mD i r35) (mFa r35 (r35 34) p0.toNatClampNeg) r_8 (r35 45 p0.toNatClampNeg) ∧ i51 60 = (5 : Int32) := hr_50
              have hJ : r51 34 = r4 34 := (hE2 34 (by decide)).trans hJ
              have hpl9 : r_50 = awP (mD i r) (mFa r J9 p0.toNatClampNeg) r_8 (r 45 p0.toNatClampNeg) := by have h9 := hqr_50.1; rw [show r35 34 = J9 from hJ34] at h9; rw [show mD i r35 = mD i r from mD_E (by rfl) hEr4 (by decide), mFa_E hEr4 (by decide), hEr4 45 (by decide)] at h9; exact h9
              subst hQ
              have ha1 : anB (mD i r) (mFa r J9 p0.toNatClampNeg) = 1 := anB_01.resolve_left (fun h9 => by rw [← ha9] at h9; have h8 : r_34.toInt = 0 := (by rw [h9]; rfl); omega)
              have hR9 : mAR (mD i r) r J9 p0.toNatClampNeg p1 = 5 := by unfold mAR; rw [← hL9]; exact awR_5 (show r_8.toInt ≠ 0 by omega) (show ¬ r_8.toInt ≤ (r 45 p0.toNatClampNeg).toInt by rw [← htv_11]; omega) (show ¬ ((r 46 p0.toNatClampNeg).toInt = -1 ∨ p1.toInt < (r 46 p0.toNatClampNeg).toInt) by have h8 := htv_16; have h7 := htv_31; omega) ha1 (by rw [← htv_47]; omega)
              have hV9 : mAV (mD i r) r J9 p0.toNatClampNeg p1 = awV (mD i r) (mFa r J9 p0.toNatClampNeg) r_8 (r 45 p0.toNatClampNeg) 5 := by unfold mAV; rw [hR9, ← hL9]
              have hW9 : mAV (mD i r) r J9 p0.toNatClampNeg p1 = awP (mD i r) (mFa r J9 p0.toNatClampNeg) r_8 (r 45 p0.toNatClampNeg) := hV9.trans (awV_57 (Or.inl rfl))
              exact W.iret (v := r_50) hx hb hr (fun t ht hW => ⟨⟨_, (i51, r51), rfl, ⟨hRi, hRr, hEi, hEr, ⟨J9, hJ7, hpl9.trans hW9.symm, hqr_50.2.trans hR9.symm⟩⟩, by rw [ht]; exact hP, va_K.moved hW.alike hK, hD⟩, hS.F ht⟩) hS.2.2 dX12_awardOf_162
            · have c_48 : v_47.toInt ≠ 0 := b_ne c_48
              refine lv_aload_n hx hb dX12_awardOf_140 rfl (lv_at hl 1 rfl) ?_
              refine lv_bipush (v := 6) hx hb dX12_awardOf_141 (by decide) ?_
              refine lv_aload_n hx hb dX12_awardOf_143 rfl (lv_at hl 1 rfl) ?_
              refine va_get (D := D) (ci := 12) (v := .ref (a 45)) (C := RX12) (T := TX12) (N := 91) hx hb hT iX12 hown hK hP 0 rfl rfl 57 (by decide) (hT _ t_133) (fun _ h9 => h9) rfl dX12_awardOf_144 ?_
              refine lv_iload_n hx hb dX12_awardOf_147 rfl (lv_at hl 2 rfl) ?_
              refine va_iald hx hb hK hP 45 0 rfl rfl (vp_inI (by omega) (by omega)) dX12_awardOf_148 ?_
              refine lv_topi (fun v_52 ev_52 => ?_)
              have hgv_52 : 0 ≤ v_52.toInt ∧ v_52.toInt ≤ 999999 := by rw [ev_52]; exact hRr 45 _
              have hsv_52 : v_52 = r 45 p0.toNatClampNeg := ev_52.trans (congrFun (hEr 45 (by decide)) _)
              have htv_52 : v_52.toInt = (r 45 p0.toNatClampNeg).toInt := congrArg Int32.toInt hsv_52
              have hF_53 := rF hD hS hA
              refine va_calli (va_runV (As := [.int 6, .int v_52]) (rest := []) ⟨hx, hb, hml, hown, hT⟩ (c_X12_awards9 l D cy a i r35 rl 6 v_52 _ hRi hRr) (cwV 2 hT (gV t_134 t_135 t_136 t_137 t_6) rfl rfl rfl (by decide +kernel) ⟨Nat.le_of_ble_eq_true rfl, Nat.le_of_ble_eq_true rfl⟩) (rQ_v hP hK hD (va_recv hK hP (ci := 12) (q0 := 0) rfl rfl)) rfl rfl hl.1 rfl (lv_room (Nat.le_of_ble_eq_true rfl)) dX12_awardOf_149 ⟨Nat.le_of_ble_eq_true rfl, Nat.le_of_ble_eq_true rfl⟩) hS (fun q _ h => hF_53 q h) hF_53 (fun r_54 u_55 t H1 locs ht hvm hr_54 hB hz1 hk1 hS => ?_)
              obtain ⟨i55, r55⟩ := u_55
              obtain ⟨hP, hK1, hD1⟩ := hB
              rw [ht] at hP
              have hD := hD1.weaken (fun k q _ h => hF_53 q.1 h)
              have hP : va_P D vwCl (mW cy a i55 r55 rl) H1 := hP
              have hD : va_D A (mW cy a i55 r55 rl) := hD
              obtain ⟨hRi, hRr, hE1, hE2, hr_54⟩ := hr_54
              have hRi : mRi i55 := hRi
              have hRr : mRr r55 := hRr
              have hEi : mEi [23, 24, 25, 26, 27, 28, 29, 30, 60] _ i55 := Ei_tr hEi hE1 (by decide)
              have hEr : mEr [32, 33, 34, 35, 36, 37, 38, 39] _ r55 := Er_tr hEr hE2 (by decide)
              have hqr_54 : r_54 = v_52 ∧ i55 60 = (6 : Int32) := hr_54
              have hJ : r55 34 = r4 34 := (hE2 34 (by decide)).trans hJ
              refine lv_goto (tgt := 162) hx hb dX12_awardOf_152 (by decide) ?_
              subst hQ
              have ha1 : anB (mD i r) (mFa r J9 p0.toNatClampNeg) = 1 := anB_01.resolve_left (fun h9 => by rw [← ha9] at h9; have h8 : r_34.toInt = 0 := (by rw [h9]; rfl); omega)
              have hR9 : mAR (mD i r) r J9 p0.toNatClampNeg p1 = 6 := by unfold mAR; rw [← hL9]; exact awR_6 (show r_8.toInt ≠ 0 by omega) (show ¬ r_8.toInt ≤ (r 45 p0.toNatClampNeg).toInt by rw [← htv_11]; omega) (show ¬ ((r 46 p0.toNatClampNeg).toInt = -1 ∨ p1.toInt < (r 46 p0.toNatClampNeg).toInt) by have h8 := htv_16; have h7 := htv_31; omega) ha1 (by rw [← htv_47]; omega)
              have hV9 : mAV (mD i r) r J9 p0.toNatClampNeg p1 = awV (mD i r) (mFa r J9 p0.toNatClampNeg) r_8 (r 45 p0.toNatClampNeg) 6 := by unfold mAV; rw [hR9, ← hL9]
              have hW9 : mAV (mD i r) r J9 p0.toNatClampNeg p1 = r 45 p0.toNatClampNeg := hV9.trans (awV_o (Or.inr (Or.inl rfl)))
              exact W.iret (v := r_54) hx hb hr (fun t ht hW => ⟨⟨_, (i55, r55), rfl, ⟨hRi, hRr, hEi, hEr, ⟨J9, hJ7, (hqr_54.1.trans hsv_52).trans hW9.symm, hqr_54.2.trans hR9.symm⟩⟩, by rw [ht]; exact hP, va_K.moved hW.alike hK, hD⟩, hS.F ht⟩) hS.2.2 dX12_awardOf_162
        · have c_32 : p1.toInt < v_31.toInt := b_nle c_32
          refine lv_iload_n hx hb dX12_awardOf_80 rfl (lv_at hl 3 rfl) ?_
          refine lv_aload_n hx hb dX12_awardOf_81 rfl (lv_at hl 1 rfl) ?_
          refine va_get (D := D) (ci := 12) (v := .ref (a 44)) (C := RX12) (T := TX12) (N := 91) hx hb hT iX12 hown hK hP 0 rfl rfl 56 (by decide) (hT _ t_139) (fun _ h9 => h9) rfl dX12_awardOf_82 ?_
          refine lv_iload_n hx hb dX12_awardOf_85 rfl (lv_at hl 2 rfl) ?_
          refine va_iald hx hb hK hP 44 0 rfl rfl (vp_inI (by omega) (by omega)) dX12_awardOf_86 ?_
          refine lv_topi (fun v_56 ev_56 => ?_)
          have hgv_56 : 0 ≤ v_56.toInt ∧ v_56.toInt ≤ 9999 := by rw [ev_56]; exact hRr 44 _
          have hsv_56 : v_56 = r 44 p0.toNatClampNeg := ev_56.trans (congrFun (hEr 44 (by decide)) _)
          have htv_56 : v_56.toInt = (r 44 p0.toNatClampNeg).toInt := congrArg Int32.toInt hsv_56
          refine lv_isub hx hb dX12_awardOf_87 ?_
          refine lv_topi (fun v_57 ev_57 => ?_)
          refine lv_aload_n hx hb dX12_awardOf_88 rfl (lv_at hl 1 rfl) ?_
          refine lv_bipush (v := 100) hx hb dX12_awardOf_89 (by decide) ?_
          refine lv_sipush (v := 999) hx hb dX12_awardOf_91 (by decide) ?_
          refine lv_sipush (v := 999) hx hb dX12_awardOf_94 (by decide) ?_
          have hF_58 := rF hD hS hA
          refine va_calli (va_runV (As := [.int 100, .int 999, .int 999]) (rest := [.int v_57]) ⟨hx, hb, hml, hown, hT⟩ (c_X12_byLaw9 l D cy a i r15 rl 100 999 999 _ hRi hRr (mE_same hEi hEr (by decide) (by decide) hE) (by first | omega | decide)) (cwV 3 hT (gV t_97 t_98 t_99 t_100 t_6) rfl rfl rfl (by decide +kernel) ⟨Nat.le_of_ble_eq_true rfl, Nat.le_of_ble_eq_true rfl⟩) (rQ_v hP hK hD (va_recv hK hP (ci := 12) (q0 := 0) rfl rfl)) rfl rfl hl.1 rfl (lv_room (Nat.le_of_ble_eq_true rfl)) dX12_awardOf_97 ⟨Nat.le_of_ble_eq_true rfl, Nat.le_of_ble_eq_true rfl⟩) hS (fun q _ h => hF_58 q h) hF_58 (fun r_59 u_60 t H1 locs ht hvm hr_59 hB hz1 hk1 hS => ?_)
          obtain ⟨r60, rfl⟩ : ∃ z, z = u_60 := ⟨_, rfl⟩
          obtain ⟨hP, hK1, hD1⟩ := hB
          rw [ht] at hP
          have hD := hD1.weaken (fun k q _ h => hF_58 q.1 h)
          have hP : va_P D vwCl (mW cy a i r60 rl) H1 := hP
          have hD : va_D A (mW cy a i r60 rl) := hD
          obtain ⟨hRr, hE2, hr_59⟩ := hr_59
          have hRr : mRr r60 := hRr
          have hEr : mEr [32, 33, 34, 35, 36, 37, 38, 39] _ r60 := Er_tr hEr hE2 (by decide)
          have hqr_59 : r_59 = byL (mD i r15) (r15 33) (100 : Int32) (999 : Int32) (999 : Int32) := hr_59
          have hJ : r60 34 = r4 34 := (hE2 34 (by decide)).trans hJ
          have hb9 : r_59 = byL (mD i r) (mFa r J9 p0.toNatClampNeg) 100 999 999 := by have h9 := hqr_59; rw [hD9] at h9; exact h9.trans (byL_co (mE_gl hE) (by decide) hfc)
          refine lv_icmp_le (tgt := 112) hx hb dX12_awardOf_100 (by decide) (fun c_61 => ?_) (fun c_61 => ?_)
          · have c_61 : v_57.toInt ≤ r_59.toInt := b_le c_61
            refine lv_aload_n hx hb dX12_awardOf_112 rfl (lv_at hl 1 rfl) ?_
            refine lv_iconst (v := 4) hx hb dX12_awardOf_113 (by decide) ?_
            refine lv_aload_n hx hb dX12_awardOf_114 rfl (lv_at hl 1 rfl) ?_
            refine va_get (D := D) (ci := 12) (v := .ref (a 45)) (C := RX12) (T := TX12) (N := 91) hx hb hT iX12 hown hK hP 0 rfl rfl 57 (by decide) (hT _ t_133) (fun _ h9 => h9) rfl dX12_awardOf_115 ?_
            refine lv_iload_n hx hb dX12_awardOf_118 rfl (lv_at hl 2 rfl) ?_
            refine va_iald hx hb hK hP 45 0 rfl rfl (vp_inI (by omega) (by omega)) dX12_awardOf_119 ?_
            refine lv_topi (fun v_62 ev_62 => ?_)
            have hgv_62 : 0 ≤ v_62.toInt ∧ v_62.toInt ≤ 999999 := by rw [ev_62]; exact hRr 45 _
            have hsv_62 : v_62 = r 45 p0.toNatClampNeg := ev_62.trans (congrFun (hEr 45 (by decide)) _)
            have htv_62 : v_62.toInt = (r 45 p0.toNatClampNeg).toInt := congrArg Int32.toInt hsv_62
            have hF_63 := rF hD hS hA
            refine va_calli (va_runV (As := [.int 4, .int v_62]) (rest := []) ⟨hx, hb, hml, hown, hT⟩ (c_X12_awards9 l D cy a i r60 rl 4 v_62 _ hRi hRr) (cwV 2 hT (gV t_134 t_135 t_136 t_137 t_6) rfl rfl rfl (by decide +kernel) ⟨Nat.le_of_ble_eq_true rfl, Nat.le_of_ble_eq_true rfl⟩) (rQ_v hP hK hD (va_recv hK hP (ci := 12) (q0 := 0) rfl rfl)) rfl rfl hl.1 rfl (lv_room (Nat.le_of_ble_eq_true rfl)) dX12_awardOf_120 ⟨Nat.le_of_ble_eq_true rfl, Nat.le_of_ble_eq_true rfl⟩) hS (fun q _ h => hF_63 q h) hF_63 (fun r_64 u_65 t H1 locs ht hvm hr_64 hB hz1 hk1 hS => ?_)
            obtain ⟨i65, r65⟩ := u_65
            obtain ⟨hP, hK1, hD1⟩ := hB
            rw [ht] at hP
            have hD := hD1.weaken (fun k q _ h => hF_63 q.1 h)
            have hP : va_P D vwCl (mW cy a i65 r65 rl) H1 := hP
            have hD : va_D A (mW cy a i65 r65 rl) := hD
            obtain ⟨hRi, hRr, hE1, hE2, hr_64⟩ := hr_64
            have hRi : mRi i65 := hRi
            have hRr : mRr r65 := hRr
            have hEi : mEi [23, 24, 25, 26, 27, 28, 29, 30, 60] _ i65 := Ei_tr hEi hE1 (by decide)
            have hEr : mEr [32, 33, 34, 35, 36, 37, 38, 39] _ r65 := Er_tr hEr hE2 (by decide)
            have hqr_64 : r_64 = v_62 ∧ i65 60 = (4 : Int32) := hr_64
            have hJ : r65 34 = r4 34 := (hE2 34 (by decide)).trans hJ
            subst hQ
            have hR9 : mAR (mD i r) r J9 p0.toNatClampNeg p1 = 4 := by unfold mAR; rw [← hL9]; exact awR_4 (show r_8.toInt ≠ 0 by omega) (show ¬ r_8.toInt ≤ (r 45 p0.toNatClampNeg).toInt by rw [← htv_11]; omega) (show (r 46 p0.toNatClampNeg).toInt = -1 ∨ p1.toInt < (r 46 p0.toNatClampNeg).toInt by rw [← htv_31]; omega) (by rw [← hb9, ← hsv_56, ← ev_57]; omega)
            have hV9 : mAV (mD i r) r J9 p0.toNatClampNeg p1 = awV (mD i r) (mFa r J9 p0.toNatClampNeg) r_8 (r 45 p0.toNatClampNeg) 4 := by unfold mAV; rw [hR9, ← hL9]
            have hW9 : mAV (mD i r) r J9 p0.toNatClampNeg p1 = r 45 p0.toNatClampNeg := hV9.trans (awV_o (Or.inl rfl))
            exact W.iret (v := r_64) hx hb hr (fun t ht hW => ⟨⟨_, (i65, r65), rfl, ⟨hRi, hRr, hEi, hEr, ⟨J9, hJ7, (hqr_64.1.trans hsv_62).trans hW9.symm, hqr_64.2.trans hR9.symm⟩⟩, by rw [ht]; exact hP, va_K.moved hW.alike hK, hD⟩, hS.F ht⟩) hS.2.2 dX12_awardOf_123
          · have c_61 : r_59.toInt < v_57.toInt := b_nle c_61
            refine lv_aload_n hx hb dX12_awardOf_103 rfl (lv_at hl 1 rfl) ?_
            refine lv_iconst (v := 3) hx hb dX12_awardOf_104 (by decide) ?_
            refine lv_iload_n hx hb dX12_awardOf_105 rfl (lv_at hl 0 rfl) ?_
            have hF_66 := rF hD hS hA
            refine va_calli (va_runV (As := [.int 3, .int r_8]) (rest := []) ⟨hx, hb, hml, hown, hT⟩ (c_X12_awards9 l D cy a i r60 rl 3 r_8 _ hRi hRr) (cwV 2 hT (gV t_134 t_135 t_136 t_137 t_6) rfl rfl rfl (by decide +kernel) ⟨Nat.le_of_ble_eq_true rfl, Nat.le_of_ble_eq_true rfl⟩) (rQ_v hP hK hD (va_recv hK hP (ci := 12) (q0 := 0) rfl rfl)) rfl rfl hl.1 rfl (lv_room (Nat.le_of_ble_eq_true rfl)) dX12_awardOf_106 ⟨Nat.le_of_ble_eq_true rfl, Nat.le_of_ble_eq_true rfl⟩) hS (fun q _ h => hF_66 q h) hF_66 (fun r_67 u_68 t H1 locs ht hvm hr_67 hB hz1 hk1 hS => ?_)
            obtain ⟨i68, r68⟩ := u_68
            obtain ⟨hP, hK1, hD1⟩ := hB
            rw [ht] at hP
            have hD := hD1.weaken (fun k q _ h => hF_66 q.1 h)
            have hP : va_P D vwCl (mW cy a i68 r68 rl) H1 := hP
            have hD : va_D A (mW cy a i68 r68 rl) := hD
            obtain ⟨hRi, hRr, hE1, hE2, hr_67⟩ := hr_67
            have hRi : mRi i68 := hRi
            have hRr : mRr r68 := hRr
            have hEi : mEi [23, 24, 25, 26, 27, 28, 29, 30, 60] _ i68 := Ei_tr hEi hE1 (by decide)
            have hEr : mEr [32, 33, 34, 35, 36, 37, 38, 39] _ r68 := Er_tr hEr hE2 (by decide)
            have hqr_67 : r_67 = r_8 ∧ i68 60 = (3 : Int32) := hr_67
            have hJ : r68 34 = r4 34 := (hE2 34 (by decide)).trans hJ
            refine lv_goto (tgt := 123) hx hb dX12_awardOf_109 (by decide) ?_
            subst hQ
            have hR9 : mAR (mD i r) r J9 p0.toNatClampNeg p1 = 3 := by unfold mAR; rw [← hL9]; exact awR_3 (show r_8.toInt ≠ 0 by omega) (show ¬ r_8.toInt ≤ (r 45 p0.toNatClampNeg).toInt by rw [← htv_11]; omega) (show (r 46 p0.toNatClampNeg).toInt = -1 ∨ p1.toInt < (r 46 p0.toNatClampNeg).toInt by rw [← htv_31]; omega) (by rw [← hb9, ← hsv_56, ← ev_57]; omega)
            have hV9 : mAV (mD i r) r J9 p0.toNatClampNeg p1 = awV (mD i r) (mFa r J9 p0.toNatClampNeg) r_8 (r 45 p0.toNatClampNeg) 3 := by unfold mAV; rw [hR9, ← hL9]
            have hW9 : mAV (mD i r) r J9 p0.toNatClampNeg p1 = r_8 := hV9.trans (awV_23 (Or.inr rfl))
            exact W.iret (v := r_67) hx hb hr (fun t ht hW => ⟨⟨_, (i68, r68), rfl, ⟨hRi, hRr, hEi, hEr, ⟨J9, hJ7, hqr_67.1.trans hW9.symm, hqr_67.2.trans hR9.symm⟩⟩, by rw [ht]; exact hP, va_K.moved hW.alike hK, hD⟩, hS.F ht⟩) hS.2.2 dX12_awardOf_123
    · have c_12 : r_8.toInt ≤ v_11.toInt := b_nlt c_12
      refine lv_aload_n hx hb dX12_awardOf_48 rfl (lv_at hl 1 rfl) ?_
      refine lv_iconst (v := 2) hx hb dX12_awardOf_49 (by decide) ?_
      refine lv_iload_n hx hb dX12_awardOf_50 rfl (lv_at hl 0 rfl) ?_
      have hF_69 := rF hD hS hA
      refine va_calli (va_runV (As := [.int 2, .int r_8]) (rest := []) ⟨hx, hb, hml, hown, hT⟩ (c_X12_awards9 l D cy a i r9 rl 2 r_8 _ hRi hRr) (cwV 2 hT (gV t_134 t_135 t_136 t_137 t_6) rfl rfl rfl (by decide +kernel) ⟨Nat.le_of_ble_eq_true rfl, Nat.le_of_ble_eq_true rfl⟩) (rQ_v hP hK hD (va_recv hK hP (ci := 12) (q0 := 0) rfl rfl)) rfl rfl hl.1 rfl (lv_room (Nat.le_of_ble_eq_true rfl)) dX12_awardOf_51 ⟨Nat.le_of_ble_eq_true rfl, Nat.le_of_ble_eq_true rfl⟩) hS (fun q _ h => hF_69 q h) hF_69 (fun r_70 u_71 t H1 locs ht hvm hr_70 hB hz1 hk1 hS => ?_)
      obtain ⟨i71, r71⟩ := u_71
      obtain ⟨hP, hK1, hD1⟩ := hB
      rw [ht] at hP
      have hD := hD1.weaken (fun k q _ h => hF_69 q.1 h)
      have hP : va_P D vwCl (mW cy a i71 r71 rl) H1 := hP
      have hD : va_D A (mW cy a i71 r71 rl) := hD
      obtain ⟨hRi, hRr, hE1, hE2, hr_70⟩ := hr_70
      have hRi : mRi i71 := hRi
      have hRr : mRr r71 := hRr
      have hEi : mEi [23, 24, 25, 26, 27, 28, 29, 30, 60] _ i71 := Ei_tr hEi hE1 (by decide)
      have hEr : mEr [32, 33, 34, 35, 36, 37, 38, 39] _ r71 := Er_tr hEr hE2 (by decide)
      have hqr_70 : r_70 = r_8 ∧ i71 60 = (2 : Int32) := hr_70
      have hJ : r71 34 = r4 34 := (hE2 34 (by decide)).trans hJ
      subst hQ
      have hR9 : mAR (mD i r) r J9 p0.toNatClampNeg p1 = 2 := by unfold mAR; rw [← hL9]; exact awR_2 (show r_8.toInt ≠ 0 by omega) (show r_8.toInt ≤ (r 45 p0.toNatClampNeg).toInt by rw [← htv_11]; omega)
      have hV9 : mAV (mD i r) r J9 p0.toNatClampNeg p1 = awV (mD i r) (mFa r J9 p0.toNatClampNeg) r_8 (r 45 p0.toNatClampNeg) 2 := by unfold mAV; rw [hR9, ← hL9]
      have hW9 : mAV (mD i r) r J9 p0.toNatClampNeg p1 = r_8 := hV9.trans (awV_23 (Or.inl rfl))
      exact W.iret (v := r_70) hx hb hr (fun t ht hW => ⟨⟨_, (i71, r71), rfl, ⟨hRi, hRr, hEi, hEr, ⟨J9, hJ7, hqr_70.1.trans hW9.symm, hqr_70.2.trans hR9.symm⟩⟩, by rw [ht]; exact hP, va_K.moved hW.alike hK, hD⟩, hS.F ht⟩) hS.2.2 dX12_awardOf_54
  · have c_10 : r_8.toInt = 0 := b_nne c_10
    refine lv_aload_n hx hb dX12_awardOf_31 rfl (lv_at hl 1 rfl) ?_
    refine lv_iconst (v := 1) hx hb dX12_awardOf_32 (by decide) ?_
    refine lv_iconst (v := 0) hx hb dX12_awardOf_33 (by decide) ?_
    have hF_72 := rF hD hS hA
    refine va_calli (va_runV (As := [.int 1, .int 0]) (rest := []) ⟨hx, hb, hml, hown, hT⟩ (c_X12_awards9 l D cy a i r9 rl 1 0 _ hRi hRr) (cwV 2 hT (gV t_134 t_135 t_136 t_137 t_6) rfl rfl rfl (by decide +kernel) ⟨Nat.le_of_ble_eq_true rfl, Nat.le_of_ble_eq_true rfl⟩) (rQ_v hP hK hD (va_recv hK hP (ci := 12) (q0 := 0) rfl rfl)) rfl rfl hl.1 rfl (lv_room (Nat.le_of_ble_eq_true rfl)) dX12_awardOf_34 ⟨Nat.le_of_ble_eq_true rfl, Nat.le_of_ble_eq_true rfl⟩) hS (fun q _ h => hF_72 q h) hF_72 (fun r_73 u_74 t H1 locs ht hvm hr_73 hB hz1 hk1 hS => ?_)
    obtain ⟨i74, r74⟩ := u_74
    obtain ⟨hP, hK1, hD1⟩ := hB
    rw [ht] at hP
    have hD := hD1.weaken (fun k q _ h => hF_72 q.1 h)
    have hP : va_P D vwCl (mW cy a i74 r74 rl) H1 := hP
    have hD : va_D A (mW cy a i74 r74 rl) := hD
    obtain ⟨hRi, hRr, hE1, hE2, hr_73⟩ := hr_73
    have hRi : mRi i74 := hRi
    have hRr : mRr r74 := hRr
    have hEi : mEi [23, 24, 25, 26, 27, 28, 29, 30, 60] _ i74 := Ei_tr hEi hE1 (by decide)
    have hEr : mEr [32, 33, 34, 35, 36, 37, 38, 39] _ r74 := Er_tr hEr hE2 (by decide)
    have hqr_73 : r_73 = (0 : Int32) ∧ i74 60 = (1 : Int32) := hr_73
    have hJ : r74 34 = r4 34 := (hE2 34 (by decide)).trans hJ
    subst hQ
    have hR9 : mAR (mD i r) r J9 p0.toNatClampNeg p1 = 1 := by unfold mAR; rw [← hL9]; exact awR_1 (show r_8.toInt = 0 by omega)
    have hV9 : mAV (mD i r) r J9 p0.toNatClampNeg p1 = awV (mD i r) (mFa r J9 p0.toNatClampNeg) r_8 (r 45 p0.toNatClampNeg) 1 := by unfold mAV; rw [hR9, ← hL9]
    have hW9 : mAV (mD i r) r J9 p0.toNatClampNeg p1 = 0 := hV9.trans (awV_1 rfl)
    exact W.iret (v := r_73) hx hb hr (fun t ht hW => ⟨⟨_, (i74, r74), rfl, ⟨hRi, hRr, hEi, hEr, ⟨J9, hJ7, hqr_73.1.trans hW9.symm, hqr_73.2.trans hR9.symm⟩⟩, by rw [ht]; exact hP, va_K.moved hW.alike hK, hD⟩, hS.F ht⟩) hS.2.2 dX12_awardOf_37
