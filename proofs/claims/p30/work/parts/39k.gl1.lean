/-- like ones: the state at last, by the class and by the reference; how many of a kind are worse or gone -/
def lkX (J ls : Nat → Int32) (nl : Int) (k : Nat) : Int := if (J k).toInt < 0 ∨ nl ≤ (J k).toInt then 0 else (ls (J k).toNatClampNeg).toInt
def lkM (J ls : Nat → Int32) (k : Nat) : Int := if (J k).toInt = 99 then 0 else (ls (J k).toNatClampNeg).toInt
def lkW (S : Nat → Int) (fk fs : Nat → Int32) (kd : Int) : Nat → Int
  | 0 => 0
  | n + 1 => lkW S fk fs kd n + (if (fk n).toInt = kd ∧ S n < (fs n).toInt then 1 else 0)
def lkA (x : Int) : Int := if x < 0 then -x else x
def lkS (u v : Nat → Int) : Nat → Int
  | 0 => 0
  | n + 1 => lkS u v n + 10 * lkA (u n - v n)
def lkD (m1 m2 : Int) (u v : Nat → Int) : Int := lkA (m1 - m2) / 12 + lkS u v 8
theorem lkA_r {x y : Int} (h1 : -y ≤ x) (h2 : x ≤ y) : 0 ≤ lkA x ∧ lkA x ≤ y := by
  unfold lkA
  by_cases h : x < 0
  · rw [if_pos h]; omega
  · rw [if_neg h]; omega
theorem ABS_A {x : Int32} (h : -2147483648 < x.toInt) : (ABS x).toInt = lkA x.toInt := by
  have hr := b_rg x
  unfold lkA
  by_cases e : x.toInt < 0
  · rw [if_pos e]
    have hn : ¬ (0 : Int32) ≤ x := fun h9 => by have h8 := Int32.le_iff_toInt_le.mp h9; have h7 : (0 : Int32).toInt = 0 := rfl; omega
    unfold ABS
    rw [if_neg hn, i_sub (x := 0) (a := 0) (b := x.toInt) rfl rfl (by omega) (by omega)]; omega
  · rw [if_neg e, ← ABS_p (by omega)]
theorem lkW_r {S : Nat → Int} {fk fs : Nat → Int32} {kd : Int} : ∀ n, 0 ≤ lkW S fk fs kd n ∧ lkW S fk fs kd n ≤ (n : Int) := by
  intro n
  induction n with
  | zero => exact ⟨Int.le_refl _, Int.le_refl _⟩
  | succ n ih =>
    rw [lkW]
    by_cases h : (fk n).toInt = kd ∧ S n < (fs n).toInt
    · rw [if_pos h]; omega
    · rw [if_neg h]; omega
theorem lkW_y {S : Nat → Int} {fk fs : Nat → Int32} {kd : Int} {n : Nat} (h : (fk n).toInt = kd ∧ S n < (fs n).toInt) : lkW S fk fs kd (n + 1) = lkW S fk fs kd n + 1 := by rw [lkW, if_pos h]
theorem lkW_n {S : Nat → Int} {fk fs : Nat → Int32} {kd : Int} {n : Nat} (h : ¬ ((fk n).toInt = kd ∧ S n < (fs n).toInt)) : lkW S fk fs kd (n + 1) = lkW S fk fs kd n := by rw [lkW, if_neg h]; omega
theorem lkS_r {u v : Nat → Int} : ∀ n, (∀ k, k < n → (0 ≤ u k ∧ u k ≤ 20) ∧ (0 ≤ v k ∧ v k ≤ 20)) → 0 ≤ lkS u v n ∧ lkS u v n ≤ 200 * (n : Int) := by
  intro n
  induction n with
  | zero => intro _; exact ⟨Int.le_refl _, Int.le_refl _⟩
  | succ n ih =>
    intro h
    have h1 := ih (fun k hk => h k (by omega))
    have h2 := h n (by omega)
    have h3 := lkA_r (x := u n - v n) (y := 20) (by omega) (by omega)
    rw [lkS]; omega
/-- the nearest one so far -/
def lkB (d : Nat → Int) (h n b : Nat) : Prop := b < n ∧ b ≠ h ∧ (∀ g, g < n → g ≠ h → d b ≤ d g) ∧ ∀ g, g < b → g ≠ h → d b < d g
section BEST
variable {d d2 : Nat → Int} {h n b b2 : Nat}
theorem lkB_k (h1 : lkB d h n b) (h2 : n = h ∨ d b ≤ d n) : lkB d h (n + 1) b := by
  obtain ⟨a1, a2, a3, a4⟩ := h1
  refine ⟨by omega, a2, fun g g1 g2 => ?_, a4⟩
  by_cases e : g = n
  · rcases h2 with h2 | h2
    · exact absurd (e.trans h2) g2
    · rw [e]; exact h2
  · exact a3 g (by omega) g2
theorem lkB_s (h1 : lkB d h n b) (hn : n ≠ h) (h2 : d n < d b) : lkB d h (n + 1) n := by
  obtain ⟨a1, a2, a3, a4⟩ := h1
  refine ⟨by omega, hn, fun g g1 g2 => ?_, fun g g1 g2 => by have := a3 g g1 g2; omega⟩
  by_cases e : g = n
  · rw [e]; exact Int.le_refl _
  · have := a3 g (by omega) g2; omega
theorem lkB_0 (h1 : ∀ g, g < n → g = h) (hn : n ≠ h) : lkB d h (n + 1) n := by
  refine ⟨by omega, hn, fun g g1 g2 => ?_, fun g g1 g2 => absurd (h1 g g1) g2⟩
  by_cases e : g = n
  · rw [e]; exact Int.le_refl _
  · exact absurd (h1 g (by omega)) g2
end BEST
/-- the answer -/
def lkZ1 (d : Nat → Int) (h n : Nat) (what z : Int32) : Prop := ∃ b, lkB d h n b ∧ (what.toInt = 0 → z.toInt = (b : Int)) ∧ (what.toInt ≠ 0 → z.toInt = d b)
/-- the class's and the reference's states at last are the same -/
theorem lkX_M {fr fk fs lr lk ls J J2 ls2 : Nat → Int32} {nf nl : Nat} (h : gjJ fr fk fs nf lr lk ls nl (-2) J) (h2 : gjJ fr fk fs nf lr lk ls nl 99 J2) (hn : nl ≤ 20) (e : ∀ k, k < nl → ls2 k = ls k) : ∀ k, k < nf → lkX J ls (nl : Int) k = lkM J2 ls2 k := by
  intro k hk
  unfold lkX lkM
  rcases gjJ_un h h2 (by decide) (fun j hj => by omega) nf (Nat.le_refl _) k hk with ⟨a, b⟩ | ⟨a, b, c⟩
  · rw [if_pos (Or.inl (by omega)), if_pos b]
  · have e1 : (J k).toNatClampNeg = (J2 k).toNatClampNeg := by show (J k).toInt.toNat = (J2 k).toInt.toNat; rw [a]
    have e2 : (J2 k).toNatClampNeg = (J2 k).toInt.toNat := rfl
    rw [if_neg (by omega), if_neg (by omega), e1, e (J2 k).toNatClampNeg (by omega)]
section HARM
variable {Lj : Nat → (Nat → Int32) → Prop} {Wf : Nat → (Nat → Int32) → Nat → Int} {f : Nat → Int32} {n n2 : Nat} {w w2 : Nat → Int}
end HARM
theorem idiv12 {x : Int32} (h : 0 ≤ x.toInt) : (x / 12).toInt = x.toInt / 12 := by
  obtain ⟨j, hj, rfl⟩ := nI_of (x := x) (fun h2 => by have := b_lt h2; have h3 : (0 : Int32).toInt = 0 := rfl; omega)
  rw [show (12 : Int32) = nI 12 from rfl, pk_div (by omega) (by omega) (by omega), nI_toInt (by omega), nI_toInt (by omega)]
  omega
theorem gjJ_okJ {fr fk fs lr lk ls J : Nat → Int32} {r : Nat → Nat → Int32} {nf nl k : Nat} (h : gjJ fr fk fs nf lr lk ls nl 99 J) (e : r 34 = J) (hn : nl ≤ 20) (hk : k < nf) : jOK r k := by
  unfold jOK
  rw [e]
  rcases h k hk with ⟨j, j1, j2, _⟩ | ⟨z1, _⟩
  · exact Or.inr (by omega)
  · exact Or.inl z1
theorem bk6 {a b c : Int} {n : Nat} (h : (6 - a).toNat < n + 1) (h1 : b = a + 1) (h2 : a < c) (h3 : c ≤ 6) : (6 - b).toNat < n := by omega
set_option maxHeartbeats 4000000 in
set_option maxRecDepth 100000 in
theorem c_X12_monthsOf9 (l : Launch) (D : va_G) (cy : Nat → ClassId) (a : Nat → Nat) (i : Nat → Int32) (r : Nat → Nat → Int32) (rl : Nat → Int64) (p0 : Int32) (hRi : mRi i) (hRr : mRr r) (q0 : 0 ≤ p0.toInt ∧ p0.toInt ≤ 5) : Met l yX12_monthsOf (Cond.code yX12_monthsOf cX12_monthsOf 2 (some .int) :: gT) { frames := 1, cells := 0, slots := 0, locals := 24 } (va_Pc [.ref (a 0), .int p0] (rP D cy (mW cy a i r rl))) (vp_Si (fun z => z.toInt = ((r 7 p0.toNatClampNeg).toInt - (r 6 p0.toNatClampNeg).toInt) ∧ (-999 ≤ z.toInt ∧ z.toInt ≤ 999))) 0 0 (fun _ => False) := by
  refine Met.ofQ (cc := cX12_monthsOf) (maxL := 2) (ret := (some .int)) (by decide) rfl ?_
  intro p e s m args below meth c s₁ B hml hv Q hQ
  obtain ⟨rfl, hP, hK⟩ := hv
  have hx := B.exec
  have hb := B.bytes
  have hr := B.returns
  have hlocks := B.notSynchronized
  have hT : ∀ w ∈ gT, w.before _ s = true := fun w h => atoms_spec (ws := (Cond.code yX12_monthsOf cX12_monthsOf 2 (some .int) :: gT)) B.pre w (List.mem_cons_of_mem _ h)
  have hown : s.vm.findClass RX12 = some m.cls := findClass_of_methodNamed B.named
  have hl := lv_entry ([.ref (a 0), .int p0]) (n := 2) (Nat.le_of_ble_eq_true rfl)
  rw [lg_entry_eq]
  generalize (lg_sl ([.ref (a 0), .int p0]) ++ List.replicate (2 - (lg_sl ([.ref (a 0), .int p0])).length) Slot.unset).toArray = ls at hl ⊢
  have hl : lv_has ls 2 [(0, .ref (a 0)), (1, .int p0)] := hl
  have hEi : mEi [23, 24, 25, 26, 27, 28, 29, 30, 60] i i := Ei_rf
  have hEr : mEr [21, 22, 23, 24, 25, 26, 32, 33, 34, 35, 36, 37, 38, 39, 48, 49, 57, 61, 62] r r := Er_rf
  refine lv_aload_n hx hb dX12_monthsOf_0 rfl (lv_at hl 0 rfl) ?_
  refine va_get (D := D) (ci := 12) (v := .ref (a 7)) (C := RX12) (T := TX12) (N := 91) hx hb hT iX12 hown hK hP 0 rfl rfl 8 (by decide) (hT _ t_17) (fun _ h9 => h9) rfl dX12_monthsOf_1 ?_
  refine lv_iload_n hx hb dX12_monthsOf_4 rfl (lv_at hl 1 rfl) ?_
  refine va_iald hx hb hK hP 7 0 rfl rfl (vp_inI (by omega) (by omega)) dX12_monthsOf_5 ?_
  refine lv_topi (fun v_1 ev_1 => ?_)
  have hgv_1 : 0 ≤ v_1.toInt ∧ v_1.toInt ≤ 999 := by rw [ev_1]; exact hRr 7 _
  have hwv_1 : v_1.toInt = (r 7 (p0.toNatClampNeg)).toInt := congrArg Int32.toInt ev_1
  refine lv_aload_n hx hb dX12_monthsOf_6 rfl (lv_at hl 0 rfl) ?_
  refine va_get (D := D) (ci := 12) (v := .ref (a 6)) (C := RX12) (T := TX12) (N := 91) hx hb hT iX12 hown hK hP 0 rfl rfl 7 (by decide) (hT _ t_18) (fun _ h9 => h9) rfl dX12_monthsOf_7 ?_
  refine lv_iload_n hx hb dX12_monthsOf_10 rfl (lv_at hl 1 rfl) ?_
  refine va_iald hx hb hK hP 6 0 rfl rfl (vp_inI (by omega) (by omega)) dX12_monthsOf_11 ?_
  refine lv_topi (fun v_2 ev_2 => ?_)
  have hgv_2 : 0 ≤ v_2.toInt ∧ v_2.toInt ≤ 999 := by rw [ev_2]; exact hRr 6 _
  have hwv_2 : v_2.toInt = (r 6 (p0.toNatClampNeg)).toInt := congrArg Int32.toInt ev_2
  refine lv_isub hx hb dX12_monthsOf_12 ?_
  refine lv_topi (fun v_3 ev_3 => ?_)
  have hv_3 : v_3.toInt = v_1.toInt - v_2.toInt := by rw [ev_3]; have := b_rg v_1; have := b_rg v_2; exact i_sub (a := v_1.toInt) (b := v_2.toInt) rfl rfl (by omega) (by omega)
  subst hQ
  exact W.iret (v := v_3) hx hb hr (fun t ht hW => ⟨_, rfl, ⟨by omega, by omega⟩, ht⟩) (fun q hq => absurd hq List.not_mem_nil) dX12_monthsOf_13
set_option maxHeartbeats 4000000 in
set_option maxRecDepth 100000 in
theorem c_X12_stateAtLast9 (l : Launch) (D : va_G) (cy : Nat → ClassId) (a : Nat → Nat) (i : Nat → Int32) (r : Nat → Nat → Int32) (rl : Nat → Int64) (p0 p1 : Int32) (hRi : mRi i) (hRr : mRr r) (q0 : 0 ≤ p0.toInt ∧ p0.toInt ≤ 5) (q1 : 0 ≤ p1.toInt ∧ p1.toInt ≤ 19) (qj : jOK r p1.toNatClampNeg) : Met l yX12_stateAtLast (Cond.code yX12_stateAtLast cX12_stateAtLast 3 (some .int) :: gT) { frames := 1, cells := 0, slots := 0, locals := 24 } (va_Pc [.ref (a 0), .int p0, .int p1] (rP D cy (mW cy a i r rl))) (vp_Si (fun z => z.toInt = lkM (r 34) (gjH (r 18) p0.toNatClampNeg) p1.toNatClampNeg ∧ (0 ≤ z.toInt ∧ z.toInt ≤ 9))) 0 0 (fun _ => False) := by
  refine Met.ofQ (cc := cX12_stateAtLast) (maxL := 3) (ret := (some .int)) (by decide) rfl ?_
  intro p e s m args below meth c s₁ B hml hv Q hQ
  obtain ⟨rfl, hP, hK⟩ := hv
  have hx := B.exec
  have hb := B.bytes
  have hr := B.returns
  have hlocks := B.notSynchronized
  have hT : ∀ w ∈ gT, w.before _ s = true := fun w h => atoms_spec (ws := (Cond.code yX12_stateAtLast cX12_stateAtLast 3 (some .int) :: gT)) B.pre w (List.mem_cons_of_mem _ h)
  have hown : s.vm.findClass RX12 = some m.cls := findClass_of_methodNamed B.named
  have hl := lv_entry ([.ref (a 0), .int p0, .int p1]) (n := 3) (Nat.le_of_ble_eq_true rfl)
  rw [lg_entry_eq]
  generalize (lg_sl ([.ref (a 0), .int p0, .int p1]) ++ List.replicate (3 - (lg_sl ([.ref (a 0), .int p0, .int p1])).length) Slot.unset).toArray = ls at hl ⊢
  have hl : lv_has ls 3 [(0, .ref (a 0)), (1, .int p0), (2, .int p1)] := hl
  have hEi : mEi [23, 24, 25, 26, 27, 28, 29, 30, 60] i i := Ei_rf
  have hEr : mEr [21, 22, 23, 24, 25, 26, 32, 33, 34, 35, 36, 37, 38, 39, 48, 49, 57, 61, 62] r r := Er_rf
  refine lv_aload_n hx hb dX12_stateAtLast_0 rfl (lv_at hl 0 rfl) ?_
  refine va_get (D := D) (ci := 12) (v := .ref (a 34)) (C := RX12) (T := TX12) (N := 91) hx hb hT iX12 hown hK hP 0 rfl rfl 45 (by decide) (hT _ t_32) (fun _ h9 => h9) rfl dX12_stateAtLast_1 ?_
  refine lv_iload_n hx hb dX12_stateAtLast_4 rfl (lv_at hl 2 rfl) ?_
  refine va_iald hx hb hK hP 34 0 rfl rfl (vp_inI (by omega) (by omega)) dX12_stateAtLast_5 ?_
  refine lv_topi (fun v_1 ev_1 => ?_)
  have hgv_1 : -1 ≤ v_1.toInt ∧ v_1.toInt ≤ 99 := by rw [ev_1]; exact hRr 34 _
  have hwv_1 : v_1.toInt = (r 34 (p1.toNatClampNeg)).toInt := congrArg Int32.toInt ev_1
  refine lv_bipush (v := 99) hx hb dX12_stateAtLast_6 (by decide) ?_
  refine lv_icmp_ne (tgt := 15) hx hb dX12_stateAtLast_8 (by decide) (fun c_2 => ?_) (fun c_2 => ?_)
  · have c_2 : v_1.toInt ≠ 99 := b_ne c_2
    refine lv_aload_n hx hb dX12_stateAtLast_15 rfl (lv_at hl 0 rfl) ?_
    refine va_get (D := D) (ci := 12) (v := .ref (a 18)) (C := RX12) (T := TX12) (N := 91) hx hb hT iX12 hown hK hP 0 rfl rfl 19 (by decide) (hT _ t_33) (fun _ h9 => h9) rfl dX12_stateAtLast_16 ?_
    refine lv_bipush (v := 20) hx hb dX12_stateAtLast_19 (by decide) ?_
    refine lv_iload_n hx hb dX12_stateAtLast_21 rfl (lv_at hl 1 rfl) ?_
    refine lv_imul hx hb dX12_stateAtLast_22 ?_
    refine lv_topi (fun v_3 ev_3 => ?_)
    have hv_3 : v_3.toInt = 20 * p0.toInt := by rw [ev_3]; have := b_rg p0; exact i_mul (a := 20) (b := p0.toInt) rfl rfl (by omega) (by omega)
    refine lv_aload_n hx hb dX12_stateAtLast_23 rfl (lv_at hl 0 rfl) ?_
    refine va_get (D := D) (ci := 12) (v := .ref (a 34)) (C := RX12) (T := TX12) (N := 91) hx hb hT iX12 hown hK hP 0 rfl rfl 45 (by decide) (hT _ t_32) (fun _ h9 => h9) rfl dX12_stateAtLast_24 ?_
    refine lv_iload_n hx hb dX12_stateAtLast_27 rfl (lv_at hl 2 rfl) ?_
    refine va_iald hx hb hK hP 34 0 rfl rfl (vp_inI (by omega) (by omega)) dX12_stateAtLast_28 ?_
    refine lv_topi (fun v_4 ev_4 => ?_)
    have hgv_4 : -1 ≤ v_4.toInt ∧ v_4.toInt ≤ 99 := by rw [ev_4]; exact hRr 34 _
    have hwv_4 : v_4.toInt = (r 34 (p1.toNatClampNeg)).toInt := congrArg Int32.toInt ev_4
    have hqv_4 : 0 ≤ v_4.toInt ∧ v_4.toInt ≤ 19 := by rcases qj with h9 | h9 <;> omega
    refine lv_iadd hx hb dX12_stateAtLast_29 ?_
    refine lv_topi (fun v_5 ev_5 => ?_)
    have hv_5 : v_5.toInt = v_3.toInt + v_4.toInt := by rw [ev_5]; have := b_rg v_3; have := b_rg v_4; exact i_add (a := v_3.toInt) (b := v_4.toInt) rfl rfl (by omega) (by omega)
    refine va_iald hx hb hK hP 18 0 rfl rfl (vp_inI (by omega) (by omega)) dX12_stateAtLast_30 ?_
    refine lv_topi (fun v_6 ev_6 => ?_)
    have hgv_6 : 0 ≤ v_6.toInt ∧ v_6.toInt ≤ 9 := by rw [ev_6]; exact hRr 18 _
    subst hQ
    have hix : v_5.toNatClampNeg = 20 * p0.toNatClampNeg + (r 34 p1.toNatClampNeg).toNatClampNeg := by show v_5.toInt.toNat = 20 * p0.toInt.toNat + (r 34 p1.toNatClampNeg).toInt.toNat; omega
    exact W.iret (v := v_6) hx hb hr (fun t ht hW => ⟨_, rfl, ⟨by unfold lkM; rw [if_neg (by omega), ev_6, hix]; rfl, by omega⟩, ht⟩) (fun q hq => absurd hq List.not_mem_nil) dX12_stateAtLast_31
  · have c_2 : v_1.toInt = 99 := b_nne c_2
    refine lv_iconst (v := 0) hx hb dX12_stateAtLast_11 (by decide) ?_
    refine lv_goto (tgt := 31) hx hb dX12_stateAtLast_12 (by decide) ?_
    subst hQ
    exact W.iret (v := 0) hx hb hr (fun t ht hW => ⟨_, rfl, ⟨by unfold lkM; rw [if_pos (by omega)]; rfl, by decide⟩, ht⟩) (fun q hq => absurd hq List.not_mem_nil) dX12_stateAtLast_31
