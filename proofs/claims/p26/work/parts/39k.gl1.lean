/-- like ones: the state at last, by the class and by the reference; how many of a kind are worse or gone -/
def lkX (J ls : Nat → Int32) (nl : Int) (k : Nat) : Int := if (J k).toInt < 0 ∨ nl ≤ (J k).toInt then 0 else (ls (J k).toNatClampNeg).toInt
def lkM (J ls : Nat → Int32) (k : Nat) : Int := if (J k).toInt = 99 then 0 else (ls (J k).toNatClampNeg).toInt
def lkC (J ls fs : Nat → Int32) (k : Nat) : Int := if (J k).toInt = 99 then 2 else if lkM J ls k = (fs k).toInt then 0 else if lkM J ls k < (fs k).toInt then 1 else 3
def lkW (S : Nat → Int) (fk fs : Nat → Int32) (kd : Int) : Nat → Int
  | 0 => 0
  | n + 1 => lkW S fk fs kd n + (if (fk n).toInt = kd ∧ S n < (fs n).toInt then 1 else 0)
def lkA (x : Int) : Int := if x < 0 then -x else x
def lkS (u v : Nat → Int) : Nat → Int
  | 0 => 0
  | n + 1 => lkS u v n + 10 * lkA (u n - v n)
def lkD (m1 m2 : Int) (u v : Nat → Int) : Int := lkA (m1 - m2) / 12 + lkS u v 8
theorem lkA_r {x y : Int} (h1 : -y ≤ x) (h2 : x ≤ y) : 0 ≤ lkA x ∧ lkA x ≤ y := by
  unfold lkA
  by_cases h : x < 0
  · rw [if_pos h]; omega
  · rw [if_neg h]; omega
theorem ABS_A {x : Int32} (h : -2147483648 < x.toInt) : (ABS x).toInt = lkA x.toInt := by
  have hr := b_rg x
  unfold lkA
  by_cases e : x.toInt < 0
  · rw [if_pos e]
    have hn : ¬ (0 : Int32) ≤ x := fun h9 => by have h8 := Int32.le_iff_toInt_le.mp h9; have h7 : (0 : Int32).toInt = 0 := rfl; omega
    unfold ABS
    rw [if_neg hn, i_sub (x := 0) (a := 0) (b := x.toInt) rfl rfl (by omega) (by omega)]; omega
  · rw [if_neg e, ← ABS_p (by omega)]
theorem lkW_r {S : Nat → Int} {fk fs : Nat → Int32} {kd : Int} : ∀ n, 0 ≤ lkW S fk fs kd n ∧ lkW S fk fs kd n ≤ (n : Int) := by
  intro n
  induction n with
  | zero => exact ⟨Int.le_refl _, Int.le_refl _⟩
  | succ n ih =>
    rw [lkW]
    by_cases h : (fk n).toInt = kd ∧ S n < (fs n).toInt
    · rw [if_pos h]; omega
    · rw [if_neg h]; omega
theorem lkW_y {S : Nat → Int} {fk fs : Nat → Int32} {kd : Int} {n : Nat} (h : (fk n).toInt = kd ∧ S n < (fs n).toInt) : lkW S fk fs kd (n + 1) = lkW S fk fs kd n + 1 := by rw [lkW, if_pos h]
theorem lkW_n {S : Nat → Int} {fk fs : Nat → Int32} {kd : Int} {n : Nat} (h : ¬ ((fk n).toInt = kd ∧ S n < (fs n).toInt)) : lkW S fk fs kd (n + 1) = lkW S fk fs kd n := by rw [lkW, if_neg h]; omega
theorem lkW_co {S S2 : Nat → Int} {fk fs fk2 fs2 : Nat → Int32} {kd : Int} : ∀ n, (∀ k, k < n → S k = S2 k ∧ fk k = fk2 k ∧ fs k = fs2 k) → lkW S fk fs kd n = lkW S2 fk2 fs2 kd n := by
  intro n
  induction n with
  | zero => intro _; rfl
  | succ n ih =>
    intro h
    obtain ⟨h1, h2, h3⟩ := h n (by omega)
    rw [lkW, lkW, ih (fun k hk => h k (by omega)), h1, h2, h3]
theorem lkS_r {u v : Nat → Int} : ∀ n, (∀ k, k < n → (0 ≤ u k ∧ u k ≤ 20) ∧ (0 ≤ v k ∧ v k ≤ 20)) → 0 ≤ lkS u v n ∧ lkS u v n ≤ 200 * (n : Int) := by
  intro n
  induction n with
  | zero => intro _; exact ⟨Int.le_refl _, Int.le_refl _⟩
  | succ n ih =>
    intro h
    have h1 := ih (fun k hk => h k (by omega))
    have h2 := h n (by omega)
    have h3 := lkA_r (x := u n - v n) (y := 20) (by omega) (by omega)
    rw [lkS]; omega
theorem lkS_co {u v u2 v2 : Nat → Int} : ∀ n, (∀ k, k < n → u k = u2 k ∧ v k = v2 k) → lkS u v n = lkS u2 v2 n := by
  intro n
  induction n with
  | zero => intro _; rfl
  | succ n ih =>
    intro h
    rw [lkS, lkS, ih (fun k hk => h k (by omega)), (h n (by omega)).1, (h n (by omega)).2]
theorem lkD_co {m1 m2 m3 m4 : Int} {u v u2 v2 : Nat → Int} (e1 : m1 = m3) (e2 : m2 = m4) (h : ∀ k, k < 8 → u k = u2 k ∧ v k = v2 k) : lkD m1 m2 u v = lkD m3 m4 u2 v2 := by
  unfold lkD; rw [e1, e2, lkS_co 8 h]
/-- the nearest one so far -/
def lkB (d : Nat → Int) (h n b : Nat) : Prop := b < n ∧ b ≠ h ∧ (∀ g, g < n → g ≠ h → d b ≤ d g) ∧ ∀ g, g < b → g ≠ h → d b < d g
section BEST
variable {d d2 : Nat → Int} {h n b b2 : Nat}
theorem lkB_un (h1 : lkB d h n b) (h2 : lkB d h n b2) : b = b2 := by
  obtain ⟨a1, a2, a3, a4⟩ := h1
  obtain ⟨c1, c2, c3, c4⟩ := h2
  rcases Nat.lt_trichotomy b b2 with e | e | e
  · have := c4 b e a2; have := a3 b2 c1 c2; omega
  · exact e
  · have := a4 b2 e c2; have := c3 b a1 a2; omega
theorem lkB_k (h1 : lkB d h n b) (h2 : n = h ∨ d b ≤ d n) : lkB d h (n + 1) b := by
  obtain ⟨a1, a2, a3, a4⟩ := h1
  refine ⟨by omega, a2, fun g g1 g2 => ?_, a4⟩
  by_cases e : g = n
  · rcases h2 with h2 | h2
    · exact absurd (e.trans h2) g2
    · rw [e]; exact h2
  · exact a3 g (by omega) g2
theorem lkB_s (h1 : lkB d h n b) (hn : n ≠ h) (h2 : d n < d b) : lkB d h (n + 1) n := by
  obtain ⟨a1, a2, a3, a4⟩ := h1
  refine ⟨by omega, hn, fun g g1 g2 => ?_, fun g g1 g2 => by have := a3 g g1 g2; omega⟩
  by_cases e : g = n
  · rw [e]; exact Int.le_refl _
  · have := a3 g (by omega) g2; omega
theorem lkB_0 (h1 : ∀ g, g < n → g = h) (hn : n ≠ h) : lkB d h (n + 1) n := by
  refine ⟨by omega, hn, fun g g1 g2 => ?_, fun g g1 g2 => absurd (h1 g g1) g2⟩
  by_cases e : g = n
  · rw [e]; exact Int.le_refl _
  · exact absurd (h1 g (by omega)) g2
theorem lkB_co (h1 : lkB d h n b) (e : ∀ g, g < n → d g = d2 g) : lkB d2 h n b := by
  obtain ⟨a1, a2, a3, a4⟩ := h1
  exact ⟨a1, a2, fun g g1 g2 => by rw [← e b a1, ← e g g1]; exact a3 g g1 g2, fun g g1 g2 => by rw [← e b a1, ← e g (by omega)]; exact a4 g g1 g2⟩
end BEST
/-- the answer -/
def lkZ1 (d : Nat → Int) (h n : Nat) (what z : Int32) : Prop := ∃ b, lkB d h n b ∧ (what.toInt = 0 → z.toInt = (b : Int)) ∧ (what.toInt ≠ 0 → z.toInt = d b)
theorem lkZ1_un {d d2 : Nat → Int} {h n : Nat} {what z y : Int32} (h1 : lkZ1 d h n what z) (h2 : lkZ1 d2 h n what y) (e : ∀ g, g < n → d g = d2 g) : z = y := by
  obtain ⟨b, b1, b2, b3⟩ := h1
  obtain ⟨c, c1, c2, c3⟩ := h2
  have hb := lkB_un (lkB_co b1 e) c1
  subst hb
  by_cases hw : what.toInt = 0
  · exact Int32.toInt_inj.mp ((b2 hw).trans (c2 hw).symm)
  · exact Int32.toInt_inj.mp ((b3 hw).trans ((e b b1.1).trans (c3 hw).symm))
/-- the class's and the reference's states at last are the same -/
theorem lkX_M {fr fk fs lr lk ls J J2 ls2 : Nat → Int32} {nf nl : Nat} (h : gjJ fr fk fs nf lr lk ls nl (-2) J) (h2 : gjJ fr fk fs nf lr lk ls nl 99 J2) (hn : nl ≤ 20) (e : ∀ k, k < nl → ls2 k = ls k) : ∀ k, k < nf → lkX J ls (nl : Int) k = lkM J2 ls2 k := by
  intro k hk
  unfold lkX lkM
  rcases gjJ_un h h2 (by decide) (fun j hj => by omega) nf (Nat.le_refl _) k hk with ⟨a, b⟩ | ⟨a, b, c⟩
  · rw [if_pos (Or.inl (by omega)), if_pos b]
  · have e1 : (J k).toNatClampNeg = (J2 k).toNatClampNeg := by show (J k).toInt.toNat = (J2 k).toInt.toNat; rw [a]
    have e2 : (J2 k).toNatClampNeg = (J2 k).toInt.toNat := rfl
    rw [if_neg (by omega), if_neg (by omega), e1, e (J2 k).toNatClampNeg (by omega)]
/-- the reference's rows of counts, home by home -/
def lkI (Lj : Nat → (Nat → Int32) → Prop) (Wf : Nat → (Nat → Int32) → Nat → Int) (f : Nat → Int32) (n : Nat) : Prop := ∃ J : Nat → Nat → Int32, (∀ h, h < n → Lj h (J h)) ∧ (∀ h, h < n → ∀ kd, kd < 8 → (f (8 * h + kd)).toInt = Wf h (J h) kd) ∧ ∀ k, 8 * n ≤ k → k < 48 → (f k).toInt = 0
def lkI2 (Lj : Nat → (Nat → Int32) → Prop) (Wf : Nat → (Nat → Int32) → Nat → Int) (f : Nat → Int32) (n : Nat) (w : Nat → Int) : Prop := ∃ J : Nat → Nat → Int32, (∀ h, h < n → Lj h (J h)) ∧ (∀ h, h < n → ∀ kd, kd < 8 → (f (8 * h + kd)).toInt = Wf h (J h) kd) ∧ (∀ kd, kd < 8 → (f (8 * n + kd)).toInt = w kd) ∧ ∀ k, 8 * (n + 1) ≤ k → k < 48 → (f k).toInt = 0
section HARM
variable {Lj : Nat → (Nat → Int32) → Prop} {Wf : Nat → (Nat → Int32) → Nat → Int} {f : Nat → Int32} {n n2 : Nat} {w w2 : Nat → Int}
theorem lkI_0 (h : ∀ k, k < 48 → (f k).toInt = 0) : lkI Lj Wf f 0 := ⟨fun _ => f, fun h hh => absurd hh (Nat.not_lt_zero h), fun h hh => absurd hh (Nat.not_lt_zero h), fun k _ hk => h k hk⟩
theorem lkI2_0 (h : lkI Lj Wf f n) (hn : n < 6) (hw : ∀ kd, kd < 8 → w kd = 0) : lkI2 Lj Wf f n w := by
  obtain ⟨J, a, b, c⟩ := h
  exact ⟨J, a, b, fun kd hk => by rw [c (8 * n + kd) (by omega) (by omega), hw kd hk], fun k k1 k2 => c k (by omega) k2⟩
theorem lkI2_n (h : lkI2 Lj Wf f n w) (hw : ∀ kd, kd < 8 → w2 kd = w kd) : lkI2 Lj Wf f n w2 := by
  obtain ⟨J, a, b, c, d⟩ := h
  exact ⟨J, a, b, fun kd hk => by rw [c kd hk, hw kd hk], d⟩
theorem lkI2_y {K p : Nat} {x : Int32} (h : lkI2 Lj Wf f n w) (hK : K < 8) (hp : p = 8 * n + K) (hx : x.toInt = w K + 1) (h1 : w2 K = w K + 1) (h2 : ∀ kd, kd < 8 → kd ≠ K → w2 kd = w kd) : lkI2 Lj Wf (upd f p x) n w2 := by
  subst hp
  obtain ⟨J, a, b, c, d⟩ := h
  refine ⟨J, a, fun g hg kd hk => ?_, fun kd hk => ?_, fun k k1 k2 => ?_⟩
  · unfold upd; rw [if_neg (by omega)]; exact b g hg kd hk
  · unfold upd
    by_cases e : kd = K
    · rw [if_pos (by omega), e, h1]; exact hx
    · rw [if_neg (by omega), h2 kd hk e]; exact c kd hk
  · unfold upd; rw [if_neg (by omega)]; exact d k k1 k2
theorem lkI2_e {J9 : Nat → Int32} (h : lkI2 Lj Wf f n w) (hJ : Lj n J9) (hw : ∀ kd, kd < 8 → w kd = Wf n J9 kd) (hn : n2 = n + 1) : lkI Lj Wf f n2 := by
  subst hn
  obtain ⟨J, a, b, c, d⟩ := h
  refine ⟨fun g => if g = n then J9 else J g, fun g hg => ?_, fun g hg kd hk => ?_, d⟩
  · show Lj g (if g = n then J9 else J g)
    by_cases e : g = n
    · rw [if_pos e, e]; exact hJ
    · rw [if_neg e]; exact a g (by omega)
  · show (f (8 * g + kd)).toInt = Wf g (if g = n then J9 else J g) kd
    by_cases e : g = n
    · rw [if_pos e, e, c kd hk, hw kd hk]
    · rw [if_neg e]; exact b g (by omega) kd hk
end HARM
theorem idiv12 {x : Int32} (h : 0 ≤ x.toInt) : (x / 12).toInt = x.toInt / 12 := by
  obtain ⟨j, hj, rfl⟩ := nI_of (x := x) (fun h2 => by have := b_lt h2; have h3 : (0 : Int32).toInt = 0 := rfl; omega)
  rw [show (12 : Int32) = nI 12 from rfl, pk_div (by omega) (by omega) (by omega), nI_toInt (by omega), nI_toInt (by omega)]
  omega
theorem gjJ_okJ {fr fk fs lr lk ls J : Nat → Int32} {r : Nat → Nat → Int32} {nf nl k : Nat} (h : gjJ fr fk fs nf lr lk ls nl 99 J) (e : r 34 = J) (hn : nl ≤ 20) (hk : k < nf) : jOK r k := by
  unfold jOK
  rw [e]
  rcases h k hk with ⟨j, j1, j2, _⟩ | ⟨z1, _⟩
  · exact Or.inr (by omega)
  · exact Or.inl z1
theorem lkC_iff {J ls fs : Nat → Int32} {k : Nat} (h : 1 ≤ (fs k).toInt) : (lkC J ls fs k = 1 ∨ lkC J ls fs k = 2) ↔ lkM J ls k < (fs k).toInt := by
  by_cases e : (J k).toInt = 99
  · have h1 : lkM J ls k = 0 := by unfold lkM; rw [if_pos e]
    have h2 : lkC J ls fs k = 2 := by unfold lkC; rw [if_pos e]
    rw [h1, h2]; omega
  · have h2 : lkC J ls fs k = (if lkM J ls k = (fs k).toInt then 0 else if lkM J ls k < (fs k).toInt then 1 else 3) := by unfold lkC; rw [if_neg e]
    rw [h2]
    by_cases e2 : lkM J ls k = (fs k).toInt
    · rw [if_pos e2]; omega
    · rw [if_neg e2]
      by_cases e3 : lkM J ls k < (fs k).toInt
      · rw [if_pos e3]; omega
      · rw [if_neg e3]; omega
theorem lkI_b {Lj : Nat → (Nat → Int32) → Prop} {Wf : Nat → (Nat → Int32) → Nat → Int} {f : Nat → Int32} {n : Nat} (h : lkI Lj Wf f n) (hw : ∀ g J kd, 0 ≤ Wf g J kd ∧ Wf g J kd ≤ 20) : ∀ k, k < 48 → 0 ≤ (f k).toInt ∧ (f k).toInt ≤ 20 := by
  obtain ⟨J, a, b, c⟩ := h
  intro k hk
  by_cases e : k < 8 * n
  · have h1 := b (k / 8) (by omega) (k % 8) (by omega)
    rw [show 8 * (k / 8) + k % 8 = k by omega] at h1
    rw [h1]; exact hw _ _ _
  · rw [c k (by omega) hk]; omega
theorem bk6 {a b c : Int} {n : Nat} (h : (6 - a).toNat < n + 1) (h1 : b = a + 1) (h2 : a < c) (h3 : c ≤ 6) : (6 - b).toNat < n := by omega
set_option maxHeartbeats 4000000 in
set_option maxRecDepth 100000 in
theorem c_X12_monthsOf9 (l : Launch) (D : va_G) (cy : Nat → ClassId) (a : Nat → Nat) (i : Nat → Int32) (r : Nat → Nat → Int32) (rl : Nat → Int64) (p0 : Int32) (hRi : mRi i) (hRr : mRr r) (q0 : 0 ≤ p0.toInt ∧ p0.toInt ≤ 5) : Met l yX12_monthsOf (Cond.code yX12_monthsOf cX12_monthsOf 2 (some .int) :: gT) { frames := 1, cells := 0, slots := 0, locals := 24 } (va_Pc [.ref (a 0), .int p0] (rP D cy (mW cy a i r rl))) (vp_Si (fun z => z.toInt = ((r 7 p0.toNatClampNeg).toInt - (r 6 p0.toNatClampNeg).toInt) ∧ (-999 ≤ z.toInt ∧ z.toInt ≤ 999))) 0 0 (fun _ => False) := by
  refine Met.ofQ (cc := cX12_monthsOf) (maxL := 2) (ret := (some .int)) (by decide) rfl ?_
  intro p e s m args below meth c s₁ B hml hv Q hQ
  obtain ⟨rfl, hP, hK⟩ := hv
  have hx := B.exec
  have hb := B.bytes
  have hr := B.returns
  have hlocks := B.notSynchronized
  have hT : ∀ w ∈ gT, w.before _ s = true := fun w h => atoms_spec (ws := (Cond.code yX12_monthsOf cX12_monthsOf 2 (some .int) :: gT)) B.pre w (List.mem_cons_of_mem _ h)
  have hown : s.vm.findClass RX12 = some m.cls := findClass_of_methodNamed B.named
  have hl := lv_entry ([.ref (a 0), .int p0]) (n := 2) (Nat.le_of_ble_eq_true rfl)
  rw [lg_entry_eq]
  generalize (lg_sl ([.ref (a 0), .int p0]) ++ List.replicate (2 - (lg_sl ([.ref (a 0), .int p0])).length) Slot.unset).toArray = ls at hl ⊢
  have hl : lv_has ls 2 [(0, .ref (a 0)), (1, .int p0)] := hl
  have hEi : mEi [23, 24, 25, 26, 27, 28, 29, 30, 60] i i := Ei_rf
  have hEr : mEr [21, 22, 23, 24, 25, 26, 32, 33, 34, 35, 36, 37, 38, 39, 48, 49, 57, 61, 62] r r := Er_rf
  refine lv_aload_n hx hb dX12_monthsOf_0 rfl (lv_at hl 0 rfl) ?_
  refine va_get (D := D) (ci := 12) (v := .ref (a 7)) (C := RX12) (T := TX12) (N := 91) hx hb hT iX12 hown hK hP 0 rfl rfl 8 (by decide) (hT _ t_17) (fun _ h9 => h9) rfl dX12_monthsOf_1 ?_
  refine lv_iload_n hx hb dX12_monthsOf_4 rfl (lv_at hl 1 rfl) ?_
  refine va_iald hx hb hK hP 7 0 rfl rfl (vp_inI (by omega) (by omega)) dX12_monthsOf_5 ?_
  refine lv_topi (fun v_1 ev_1 => ?_)
  have hgv_1 : 0 ≤ v_1.toInt ∧ v_1.toInt ≤ 999 := by rw [ev_1]; exact hRr 7 _
  have hwv_1 : v_1.toInt = (r 7 (p0.toNatClampNeg)).toInt := congrArg Int32.toInt ev_1
  refine lv_aload_n hx hb dX12_monthsOf_6 rfl (lv_at hl 0 rfl) ?_
  refine va_get (D := D) (ci := 12) (v := .ref (a 6)) (C := RX12) (T := TX12) (N := 91) hx hb hT iX12 hown hK hP 0 rfl rfl 7 (by decide) (hT _ t_18) (fun _ h9 => h9) rfl dX12_monthsOf_7 ?_
  refine lv_iload_n hx hb dX12_monthsOf_10 rfl (lv_at hl 1 rfl) ?_
  refine va_iald hx hb hK hP 6 0 rfl rfl (vp_inI (by omega) (by omega)) dX12_monthsOf_11 ?_
  refine lv_topi (fun v_2 ev_2 => ?_)
  have hgv_2 : 0 ≤ v_2.toInt ∧ v_2.toInt ≤ 999 := by rw [ev_2]; exact hRr 6 _
  have hwv_2 : v_2.toInt = (r 6 (p0.toNatClampNeg)).toInt := congrArg Int32.toInt ev_2
  refine lv_isub hx hb dX12_monthsOf_12 ?_
  refine lv_topi (fun v_3 ev_3 => ?_)
  have hv_3 : v_3.toInt = v_1.toInt - v_2.toInt := by rw [ev_3]; have := b_rg v_1; have := b_rg v_2; exact i_sub (a := v_1.toInt) (b := v_2.toInt) rfl rfl (by omega) (by omega)
  subst hQ
  exact W.iret (v := v_3) hx hb hr (fun t ht hW => ⟨_, rfl, ⟨by omega, by omega⟩, ht⟩) (fun q hq => absurd hq List.not_mem_nil) dX12_monthsOf_13
set_option maxHeartbeats 4000000 in
set_option maxRecDepth 100000 in
theorem c_X12_stateAtLast9 (l : Launch) (D : va_G) (cy : Nat → ClassId) (a : Nat → Nat) (i : Nat → Int32) (r : Nat → Nat → Int32) (rl : Nat → Int64) (p0 p1 : Int32) (hRi : mRi i) (hRr : mRr r) (q0 : 0 ≤ p0.toInt ∧ p0.toInt ≤ 5) (q1 : 0 ≤ p1.toInt ∧ p1.toInt ≤ 19) (qj : jOK r p1.toNatClampNeg) : Met l yX12_stateAtLast (Cond.code yX12_stateAtLast cX12_stateAtLast 3 (some .int) :: gT) { frames := 1, cells := 0, slots := 0, locals := 24 } (va_Pc [.ref (a 0), .int p0, .int p1] (rP D cy (mW cy a i r rl))) (vp_Si (fun z => z.toInt = lkM (r 34) (gjH (r 18) p0.toNatClampNeg) p1.toNatClampNeg ∧ (0 ≤ z.toInt ∧ z.toInt ≤ 9))) 0 0 (fun _ => False) := by
  refine Met.ofQ (cc := cX12_stateAtLast) (maxL := 3) (ret := (some .int)) (by decide) rfl ?_
  intro p e s m args below meth c s₁ B hml hv Q hQ
  obtain ⟨rfl, hP, hK⟩ := hv
  have hx := B.exec
  have hb := B.bytes
  have hr := B.returns
  have hlocks := B.notSynchronized
  have hT : ∀ w ∈ gT, w.before _ s = true := fun w h => atoms_spec (ws := (Cond.code yX12_stateAtLast cX12_stateAtLast 3 (some .int) :: gT)) B.pre w (List.mem_cons_of_mem _ h)
  have hown : s.vm.findClass RX12 = some m.cls := findClass_of_methodNamed B.named
  have hl := lv_entry ([.ref (a 0), .int p0, .int p1]) (n := 3) (Nat.le_of_ble_eq_true rfl)
  rw [lg_entry_eq]
  generalize (lg_sl ([.ref (a 0), .int p0, .int p1]) ++ List.replicate (3 - (lg_sl ([.ref (a 0), .int p0, .int p1])).length) Slot.unset).toArray = ls at hl ⊢
  have hl : lv_has ls 3 [(0, .ref (a 0)), (1, .int p0), (2, .int p1)] := hl
  have hEi : mEi [23, 24, 25, 26, 27, 28, 29, 30, 60] i i := Ei_rf
  have hEr : mEr [21, 22, 23, 24, 25, 26, 32, 33, 34, 35, 36, 37, 38, 39, 48, 49, 57, 61, 62] r r := Er_rf
  refine lv_aload_n hx hb dX12_stateAtLast_0 rfl (lv_at hl 0 rfl) ?_
  refine va_get (D := D) (ci := 12) (v := .ref (a 34)) (C := RX12) (T := TX12) (N := 91) hx hb hT iX12 hown hK hP 0 rfl rfl 45 (by decide) (hT _ t_32) (fun _ h9 => h9) rfl dX12_stateAtLast_1 ?_
  refine lv_iload_n hx hb dX12_stateAtLast_4 rfl (lv_at hl 2 rfl) ?_
  refine va_iald hx hb hK hP 34 0 rfl rfl (vp_inI (by omega) (by omega)) dX12_stateAtLast_5 ?_
  refine lv_topi (fun v_1 ev_1 => ?_)
  have hgv_1 : -1 ≤ v_1.toInt ∧ v_1.toInt ≤ 99 := by rw [ev_1]; exact hRr 34 _
  have hwv_1 : v_1.toInt = (r 34 (p1.toNatClampNeg)).toInt := congrArg Int32.toInt ev_1
  refine lv_bipush (v := 99) hx hb dX12_stateAtLast_6 (by decide) ?_
  refine lv_icmp_ne (tgt := 15) hx hb dX12_stateAtLast_8 (by decide) (fun c_2 => ?_) (fun c_2 => ?_)
  · have c_2 : v_1.toInt ≠ 99 := b_ne c_2
    refine lv_aload_n hx hb dX12_stateAtLast_15 rfl (lv_at hl 0 rfl) ?_
    refine va_get (D := D) (ci := 12) (v := .ref (a 18)) (C := RX12) (T := TX12) (N := 91) hx hb hT iX12 hown hK hP 0 rfl rfl 19 (by decide) (hT _ t_33) (fun _ h9 => h9) rfl dX12_stateAtLast_16 ?_
    refine lv_bipush (v := 20) hx hb dX12_stateAtLast_19 (by decide) ?_
    refine lv_iload_n hx hb dX12_stateAtLast_21 rfl (lv_at hl 1 rfl) ?_
    refine lv_imul hx hb dX12_stateAtLast_22 ?_
    refine lv_topi (fun v_3 ev_3 => ?_)
    have hv_3 : v_3.toInt = 20 * p0.toInt := by rw [ev_3]; have := b_rg p0; exact i_mul (a := 20) (b := p0.toInt) rfl rfl (by omega) (by omega)
    refine lv_aload_n hx hb dX12_stateAtLast_23 rfl (lv_at hl 0 rfl) ?_
    refine va_get (D := D) (ci := 12) (v := .ref (a 34)) (C := RX12) (T := TX12) (N := 91) hx hb hT iX12 hown hK hP 0 rfl rfl 45 (by decide) (hT _ t_32) (fun _ h9 => h9) rfl dX12_stateAtLast_24 ?_
    refine lv_iload_n hx hb dX12_stateAtLast_27 rfl (lv_at hl 2 rfl) ?_
    refine va_iald hx hb hK hP 34 0 rfl rfl (vp_inI (by omega) (by omega)) dX12_stateAtLast_28 ?_
    refine lv_topi (fun v_4 ev_4 => ?_)
    have hgv_4 : -1 ≤ v_4.toInt ∧ v_4.toInt ≤ 99 := by rw [ev_4]; exact hRr 34 _
    have hwv_4 : v_4.toInt = (r 34 (p1.toNatClampNeg)).toInt := congrArg Int32.toInt ev_4
    have hqv_4 : 0 ≤ v_4.toInt ∧ v_4.toInt ≤ 19 := by rcases qj with h9 | h9 <;> omega
    refine lv_iadd hx hb dX12_stateAtLast_29 ?_
    refine lv_topi (fun v_5 ev_5 => ?_)
    have hv_5 : v_5.toInt = v_3.toInt + v_4.toInt := by rw [ev_5]; have := b_rg v_3; have := b_rg v_4; exact i_add (a := v_3.toInt) (b := v_4.toInt) rfl rfl (by omega) (by omega)
    refine va_iald hx hb hK hP 18 0 rfl rfl (vp_inI (by omega) (by omega)) dX12_stateAtLast_30 ?_
    refine lv_topi (fun v_6 ev_6 => ?_)
    have hgv_6 : 0 ≤ v_6.toInt ∧ v_6.toInt ≤ 9 := by rw [ev_6]; exact hRr 18 _
    subst hQ
    have hix : v_5.toNatClampNeg = 20 * p0.toNatClampNeg + (r 34 p1.toNatClampNeg).toNatClampNeg := by show v_5.toInt.toNat = 20 * p0.toInt.toNat + (r 34 p1.toNatClampNeg).toInt.toNat; omega
    exact W.iret (v := v_6) hx hb hr (fun t ht hW => ⟨_, rfl, ⟨by unfold lkM; rw [if_neg (by omega), ev_6, hix]; rfl, by omega⟩, ht⟩) (fun q hq => absurd hq List.not_mem_nil) dX12_stateAtLast_31
  · have c_2 : v_1.toInt = 99 := b_nne c_2
    refine lv_iconst (v := 0) hx hb dX12_stateAtLast_11 (by decide) ?_
    refine lv_goto (tgt := 31) hx hb dX12_stateAtLast_12 (by decide) ?_
    subst hQ
    exact W.iret (v := 0) hx hb hr (fun t ht hW => ⟨_, rfl, ⟨by unfold lkM; rw [if_pos (by omega)]; rfl, by decide⟩, ht⟩) (fun q hq => absurd hq List.not_mem_nil) dX12_stateAtLast_31
set_option maxHeartbeats 4000000 in
set_option maxRecDepth 100000 in
theorem c_X12_changeOf9 (l : Launch) (D : va_G) (cy : Nat → ClassId) (a : Nat → Nat) (i : Nat → Int32) (r : Nat → Nat → Int32) (rl : Nat → Int64) (p0 p1 : Int32) (hRi : mRi i) (hRr : mRr r) (q0 : 0 ≤ p0.toInt ∧ p0.toInt ≤ 5) (q1 : 0 ≤ p1.toInt ∧ p1.toInt ≤ 19) (qj : jOK r p1.toNatClampNeg) : Met l yX12_changeOf (Cond.code yX12_changeOf cX12_changeOf 4 (some .int) :: gT) { frames := 2, cells := 0, slots := 0, locals := 46 } (va_Pc [.ref (a 0), .int p0, .int p1] (rP D cy (mW cy a i r rl))) (vp_Si (fun z => z.toInt = lkC (r 34) (gjH (r 18) p0.toNatClampNeg) (gjH (r 14) p0.toNatClampNeg) p1.toNatClampNeg)) 0 0 (fun _ => False) := by
  refine Met.ofQ (cc := cX12_changeOf) (maxL := 4) (ret := (some .int)) (by decide) rfl ?_
  intro p e s m args below meth c s₁ B hml hv Q hQ
  obtain ⟨rfl, hP, hK⟩ := hv
  have hx := B.exec
  have hb := B.bytes
  have hr := B.returns
  have hlocks := B.notSynchronized
  have hT : ∀ w ∈ gT, w.before _ s = true := fun w h => atoms_spec (ws := (Cond.code yX12_changeOf cX12_changeOf 4 (some .int) :: gT)) B.pre w (List.mem_cons_of_mem _ h)
  have hown : s.vm.findClass RX12 = some m.cls := findClass_of_methodNamed B.named
  have hl := lv_entry ([.ref (a 0), .int p0, .int p1]) (n := 4) (Nat.le_of_ble_eq_true rfl)
  rw [lg_entry_eq]
  generalize (lg_sl ([.ref (a 0), .int p0, .int p1]) ++ List.replicate (4 - (lg_sl ([.ref (a 0), .int p0, .int p1])).length) Slot.unset).toArray = ls at hl ⊢
  have hl : lv_has ls 4 [(0, .ref (a 0)), (1, .int p0), (2, .int p1)] := hl
  have hEi : mEi [23, 24, 25, 26, 27, 28, 29, 30, 60] i i := Ei_rf
  have hEr : mEr [21, 22, 23, 24, 25, 26, 32, 33, 34, 35, 36, 37, 38, 39, 48, 49, 57, 61, 62] r r := Er_rf
  refine lv_aload_n hx hb dX12_changeOf_0 rfl (lv_at hl 0 rfl) ?_
  refine va_get (D := D) (ci := 12) (v := .ref (a 34)) (C := RX12) (T := TX12) (N := 91) hx hb hT iX12 hown hK hP 0 rfl rfl 45 (by decide) (hT _ t_32) (fun _ h9 => h9) rfl dX12_changeOf_1 ?_
  refine lv_iload_n hx hb dX12_changeOf_4 rfl (lv_at hl 2 rfl) ?_
  refine va_iald hx hb hK hP 34 0 rfl rfl (vp_inI (by omega) (by omega)) dX12_changeOf_5 ?_
  refine lv_topi (fun v_1 ev_1 => ?_)
  have hgv_1 : -1 ≤ v_1.toInt ∧ v_1.toInt ≤ 99 := by rw [ev_1]; exact hRr 34 _
  have hwv_1 : v_1.toInt = (r 34 (p1.toNatClampNeg)).toInt := congrArg Int32.toInt ev_1
  refine lv_bipush (v := 99) hx hb dX12_changeOf_6 (by decide) ?_
  refine lv_icmp_ne (tgt := 13) hx hb dX12_changeOf_8 (by decide) (fun c_2 => ?_) (fun c_2 => ?_)
  · have c_2 : v_1.toInt ≠ 99 := b_ne c_2
    refine lv_aload_n hx hb dX12_changeOf_13 rfl (lv_at hl 0 rfl) ?_
    refine lv_iload_n hx hb dX12_changeOf_14 rfl (lv_at hl 1 rfl) ?_
    refine lv_iload_n hx hb dX12_changeOf_15 rfl (lv_at hl 2 rfl) ?_
    refine vp_callSi (W.runV (As := [.int p0, .int p1]) (rest := []) ⟨hx, hb, hml, hown, hT⟩ (c_X12_stateAtLast9 l D cy a i r rl p0 p1 hRi hRr (by omega) (by omega) qj) (cwV 2 hT (gV t_34 t_35 t_36 t_37 t_6) rfl rfl rfl (by decide +kernel) ⟨Nat.le_of_ble_eq_true rfl, Nat.le_of_ble_eq_true rfl⟩) (rP_v hP hK (va_recv hK hP (ci := 12) (q0 := 0) rfl rfl)) rfl rfl hl.1 rfl (lv_room (Nat.le_of_ble_eq_true rfl)) dX12_changeOf_16 ⟨Nat.le_of_ble_eq_true rfl, Nat.le_of_ble_eq_true rfl⟩) (fun r_3 hr_3 => ?_)
    have hqr_3 : r_3.toInt = lkM (r 34) (gjH (r 18) p0.toNatClampNeg) p1.toNatClampNeg := hr_3.1
    have hr_3 : 0 ≤ r_3.toInt ∧ r_3.toInt ≤ 9 := hr_3.2
    refine lv_aload_n hx hb dX12_changeOf_19 rfl (lv_at hl 0 rfl) ?_
    refine va_get (D := D) (ci := 12) (v := .ref (a 14)) (C := RX12) (T := TX12) (N := 91) hx hb hT iX12 hown hK hP 0 rfl rfl 15 (by decide) (hT _ t_38) (fun _ h9 => h9) rfl dX12_changeOf_20 ?_
    refine lv_bipush (v := 20) hx hb dX12_changeOf_23 (by decide) ?_
    refine lv_iload_n hx hb dX12_changeOf_25 rfl (lv_at hl 1 rfl) ?_
    refine lv_imul hx hb dX12_changeOf_26 ?_
    refine lv_topi (fun v_4 ev_4 => ?_)
    have hv_4 : v_4.toInt = 20 * p0.toInt := by rw [ev_4]; have := b_rg p0; exact i_mul (a := 20) (b := p0.toInt) rfl rfl (by omega) (by omega)
    refine lv_iload_n hx hb dX12_changeOf_27 rfl (lv_at hl 2 rfl) ?_
    refine lv_iadd hx hb dX12_changeOf_28 ?_
    refine lv_topi (fun v_5 ev_5 => ?_)
    have hv_5 : v_5.toInt = v_4.toInt + p1.toInt := by rw [ev_5]; have := b_rg v_4; have := b_rg p1; exact i_add (a := v_4.toInt) (b := p1.toInt) rfl rfl (by omega) (by omega)
    refine va_iald hx hb hK hP 14 0 rfl rfl (vp_inI (by omega) (by omega)) dX12_changeOf_29 ?_
    refine lv_topi (fun v_6 ev_6 => ?_)
    have hgv_6 : 0 ≤ v_6.toInt ∧ v_6.toInt ≤ 9 := by rw [ev_6]; exact hRr 14 _
    have hwv_6 : v_6 = r 14 (((20 * p0.toInt) + p1.toInt)).toNat := by rw [ev_6]; exact congrArg (r 14) (by show v_5.toInt.toNat = _; omega)
    refine lv_isub hx hb dX12_changeOf_30 ?_
    refine lv_topi (fun v_7 ev_7 => ?_)
    have hv_7 : v_7.toInt = r_3.toInt - v_6.toInt := by rw [ev_7]; have := b_rg r_3; have := b_rg v_6; exact i_sub (a := r_3.toInt) (b := v_6.toInt) rfl rfl (by omega) (by omega)
    refine lv_istore_n (lv' := [(3, .int v_7), (0, .ref (a 0)), (1, .int p0), (2, .int p1)]) hx hb dX12_changeOf_31 rfl hl (by decide) rfl (fun ls hl => ?_)
    refine lv_iload_n hx hb dX12_changeOf_32 rfl (lv_at hl 0 rfl) ?_
    refine lv_if_ne (tgt := 40) hx hb dX12_changeOf_33 (by decide) (fun c_8 => ?_) (fun c_8 => ?_)
    · have c_8 : v_7.toInt ≠ 0 := b_ne c_8
      refine lv_iload_n hx hb dX12_changeOf_40 rfl (lv_at hl 0 rfl) ?_
      refine lv_if_ge (tgt := 48) hx hb dX12_changeOf_41 (by decide) (fun c_9 => ?_) (fun c_9 => ?_)
      · have c_9 : 0 ≤ v_7.toInt := b_le c_9
        refine lv_iconst (v := 3) hx hb dX12_changeOf_48 (by decide) ?_
        subst hQ
        have hs9 : (gjH (r 14) p0.toNatClampNeg p1.toNatClampNeg).toInt = v_6.toInt := by rw [hwv_6]; exact congrArg (fun k9 => (r 14 k9).toInt) (by show 20 * p0.toInt.toNat + p1.toInt.toNat = (20 * p0.toInt + p1.toInt).toNat; omega)
        have hm9 : lkM (r 34) (gjH (r 18) p0.toNatClampNeg) p1.toNatClampNeg = r_3.toInt := hqr_3.symm
        have hj9 : ¬ (r 34 p1.toNatClampNeg).toInt = 99 := by omega
        exact W.iret (v := 3) hx hb hr (fun t ht hW => ⟨_, rfl, (by unfold lkC; rw [if_neg hj9, if_neg (by omega), if_neg (by omega)]; rfl), ht⟩) (fun q hq => absurd hq List.not_mem_nil) dX12_changeOf_49
      · have c_9 : v_7.toInt < 0 := b_nle c_9
        refine lv_iconst (v := 1) hx hb dX12_changeOf_44 (by decide) ?_
        refine lv_goto (tgt := 49) hx hb dX12_changeOf_45 (by decide) ?_
        subst hQ
        have hs9 : (gjH (r 14) p0.toNatClampNeg p1.toNatClampNeg).toInt = v_6.toInt := by rw [hwv_6]; exact congrArg (fun k9 => (r 14 k9).toInt) (by show 20 * p0.toInt.toNat + p1.toInt.toNat = (20 * p0.toInt + p1.toInt).toNat; omega)
        have hm9 : lkM (r 34) (gjH (r 18) p0.toNatClampNeg) p1.toNatClampNeg = r_3.toInt := hqr_3.symm
        have hj9 : ¬ (r 34 p1.toNatClampNeg).toInt = 99 := by omega
        exact W.iret (v := 1) hx hb hr (fun t ht hW => ⟨_, rfl, (by unfold lkC; rw [if_neg hj9, if_neg (by omega), if_pos (by omega)]; rfl), ht⟩) (fun q hq => absurd hq List.not_mem_nil) dX12_changeOf_49
    · have c_8 : v_7.toInt = 0 := b_nne c_8
      refine lv_iconst (v := 0) hx hb dX12_changeOf_36 (by decide) ?_
      refine lv_goto (tgt := 49) hx hb dX12_changeOf_37 (by decide) ?_
      subst hQ
      have hs9 : (gjH (r 14) p0.toNatClampNeg p1.toNatClampNeg).toInt = v_6.toInt := by rw [hwv_6]; exact congrArg (fun k9 => (r 14 k9).toInt) (by show 20 * p0.toInt.toNat + p1.toInt.toNat = (20 * p0.toInt + p1.toInt).toNat; omega)
      have hm9 : lkM (r 34) (gjH (r 18) p0.toNatClampNeg) p1.toNatClampNeg = r_3.toInt := hqr_3.symm
      have hj9 : ¬ (r 34 p1.toNatClampNeg).toInt = 99 := by omega
      exact W.iret (v := 0) hx hb hr (fun t ht hW => ⟨_, rfl, (by unfold lkC; rw [if_neg hj9, if_pos (by omega)]; rfl), ht⟩) (fun q hq => absurd hq List.not_mem_nil) dX12_changeOf_49
  · have c_2 : v_1.toInt = 99 := b_nne c_2
    refine lv_iconst (v := 2) hx hb dX12_changeOf_11 (by decide) ?_
    subst hQ
    exact W.iret (v := 2) hx hb hr (fun t ht hW => ⟨_, rfl, (by unfold lkC; rw [if_pos (by omega)]; rfl), ht⟩) (fun q hq => absurd hq List.not_mem_nil) dX12_changeOf_12
set_option maxHeartbeats 4000000 in
set_option maxRecDepth 100000 in
theorem c_X12_laysHarmed9 (l : Launch) (D : va_G) (cy : Nat → ClassId) (a : Nat → Nat) (i : Nat → Int32) (r : Nat → Nat → Int32) (rl : Nat → Int64) (sz : Nat) (hRi : mRi i) (hRr : mRr r) (hs9 : ∀ h9 : Nat, h9 < (i 0).toNatClampNeg → gjSt (gjH (r 14) h9) (r 10 h9).toNatClampNeg ∧ gjSt (gjH (r 18) h9) (r 11 h9).toNatClampNeg) : Met l yX12_laysHarmed (Cond.code yX12_laysHarmed cX12_laysHarmed 3 none :: gT) { frames := 5, cells := 0, slots := 0, locals := 126 } (va_Pc [.ref (a 0)] (rQ D cy (mW cy a i r rl) sz)) (va_Qv (fun u : Nat → Nat → Int32 => mRr u ∧ mEr [34, 35, 36, 37, 38, 39, 57] r u ∧ (lkI (fun (h9 : Nat) (J9 : Nat → Int32) => gjJ (gjH (r 12) h9) (gjH (r 13) h9) (gjH (r 14) h9) (r 10 h9).toNatClampNeg (gjH (r 16) h9) (gjH (r 17) h9) (gjH (r 18) h9) (r 11 h9).toNatClampNeg 99 J9) (fun (h9 : Nat) (J9 : Nat → Int32) (kd9 : Nat) => lkW (lkM J9 (gjH (r 18) h9)) (gjH (r 13) h9) (gjH (r 14) h9) ((kd9 : Nat) : Int) (r 10 h9).toNatClampNeg) (u 57) (i 0).toNatClampNeg)) (fun (u : Nat → Nat → Int32) t => va_P D vwCl (mW cy a i u rl) t.heap ∧ va_K D vwCl (vT cy) t ∧ va_D (va_A (mW cy a i r rl) sz) (mW cy a i u rl)) (va_A (mW cy a i r rl) sz)) 0 0 (va_A (mW cy a i r rl) sz) := by
  refine Met.ofQ (cc := cX12_laysHarmed) (maxL := 3) (ret := none) (by decide) rfl ?_
  intro p e s m args below meth c s₁ B hml hv Q hQ
  obtain ⟨rfl, hsz, hP, hK, hD0⟩ := hv
  have hx := B.exec
  have hb := B.bytes
  have hr := B.returns
  have hlocks := B.notSynchronized
  have hT : ∀ w ∈ gT, w.before _ s = true := fun w h => atoms_spec (ws := (Cond.code yX12_laysHarmed cX12_laysHarmed 3 none :: gT)) B.pre w (List.mem_cons_of_mem _ h)
  have hown : s.vm.findClass RX12 = some m.cls := findClass_of_methodNamed B.named
  subst hsz
  have hD := hD0.self (sz := s.heap.size)
  generalize hAe : va_A (mW cy a i r rl) s.heap.size = A at hD hQ
  have hA : ∀ q : Nat, s.heap.size ≤ q → A q := fun q h => by rw [← hAe]; exact Or.inr h
  have hS : va_S A s.heap s.heap [] := va_S.rf
  have hl := lv_entry ([.ref (a 0)]) (n := 3) (Nat.le_of_ble_eq_true rfl)
  rw [lg_entry_eq]
  generalize (lg_sl ([.ref (a 0)]) ++ List.replicate (3 - (lg_sl ([.ref (a 0)])).length) Slot.unset).toArray = ls at hl ⊢
  have hl : lv_has ls 3 [(0, .ref (a 0))] := hl
  have hEi : mEi [23, 24, 25, 26, 27, 28, 29, 30, 60] i i := Ei_rf
  have hEr : mEr [34, 35, 36, 37, 38, 39, 57] r r := Er_rf
  have hg0 : 0 ≤ (i 0).toInt ∧ (i 0).toInt ≤ 6 := hRi 0
  have hRr0 : mRr r := hRr
  refine lv_iconst (v := 0) hx hb dX12_laysHarmed_0 (by decide) ?_
  refine lv_istore_n (lv' := [(1, .int 0), (0, .ref (a 0))]) hx hb dX12_laysHarmed_1 rfl hl (by decide) rfl (fun ls hl => ?_)
  have loop_1 : ∀ (n : Nat) (x1_1 : Int32) (r1 : Nat → Nat → Int32) (H : Heap) (locs : List Loc) (ls : Array Slot), (48 - x1_1.toInt).toNat < n → (0 ≤ x1_1.toInt ∧ x1_1.toInt ≤ 48) → mRr r1 → mEr [34, 35, 36, 37, 38, 39, 57] r r1 → (∀ k, k < x1_1.toNatClampNeg → (r1 57 k).toInt = 0) → va_P D vwCl (mW cy a i r1 rl) H → va_D A (mW cy a i r1 rl) → va_S A s.heap H locs → lv_has ls 3 [(1, .int x1_1), (0, .ref (a 0))] → W p l e ({ frames := 5, cells := 0, slots := 0, locals := 126 } : Room) s m ([.ref (a 0)] : List Value).toArray below meth c H locs 0 0 Q (F0 m 2 ls []) := by
    intro n
    induction n with
    | zero =>
      intro x1_1 r1 H locs ls hm1 hf1_0 hRr hEr hx1 hP hD hS hl
      exact absurd hm1 (by omega)
    | succ n ih1 =>
      intro x1_1 r1 H locs ls hm1 hf1_0 hRr hEr hx1 hP hD hS hl
      refine lv_iload_n hx hb dX12_laysHarmed_2 rfl (lv_at hl 0 rfl) ?_
      refine lv_bipush (v := 48) hx hb dX12_laysHarmed_3 (by decide) ?_
      refine lv_icmp_ge (tgt := 21) hx hb dX12_laysHarmed_5 (by decide) (fun c_2 => ?_) (fun c_2 => ?_)
      · have c_2 : 48 ≤ x1_1.toInt := b_le c_2
        refine lv_iconst (v := 0) hx hb dX12_laysHarmed_21 (by decide) ?_
        refine lv_istore_n (lv' := [(1, .int 0), (0, .ref (a 0))]) hx hb dX12_laysHarmed_22 rfl hl (by decide) rfl (fun ls hl => ?_)
        have loop_3 : ∀ (n : Nat) (x3_1 : Int32) (r3 : Nat → Nat → Int32) (H : Heap) (locs : List Loc) (ls : Array Slot), (6 - x3_1.toInt).toNat < n → (0 ≤ x3_1.toInt ∧ x3_1.toInt ≤ 6) → mRr r3 → mEr [34, 35, 36, 37, 38, 39, 57] r r3 → (lkI (fun (h9 : Nat) (J9 : Nat → Int32) => gjJ (gjH (r 12) h9) (gjH (r 13) h9) (gjH (r 14) h9) (r 10 h9).toNatClampNeg (gjH (r 16) h9) (gjH (r 17) h9) (gjH (r 18) h9) (r 11 h9).toNatClampNeg 99 J9) (fun (h9 : Nat) (J9 : Nat → Int32) (kd9 : Nat) => lkW (lkM J9 (gjH (r 18) h9)) (gjH (r 13) h9) (gjH (r 14) h9) ((kd9 : Nat) : Int) (r 10 h9).toNatClampNeg) (r3 57) (x3_1.toNatClampNeg) ∧ x3_1.toInt ≤ (i 0).toInt) → va_P D vwCl (mW cy a i r3 rl) H → va_D A (mW cy a i r3 rl) → va_S A s.heap H locs → lv_has ls 3 [(1, .int x3_1), (0, .ref (a 0))] → W p l e ({ frames := 5, cells := 0, slots := 0, locals := 126 } : Room) s m ([.ref (a 0)] : List Value).toArray below meth c H locs 0 0 Q (F0 m 23 ls []) := by
          intro n
          induction n with
          | zero =>
            intro x3_1 r3 H locs ls hm3 hf3_0 hRr hEr hx3 hP hD hS hl
            exact absurd hm3 (by omega)
          | succ n ih3 =>
            intro x3_1 r3 H locs ls hm3 hf3_0 hRr hEr hx3 hP hD hS hl
            refine lv_iload_n hx hb dX12_laysHarmed_23 rfl (lv_at hl 0 rfl) ?_
            refine lv_aload_n hx hb dX12_laysHarmed_24 rfl (lv_at hl 1 rfl) ?_
            refine va_get (D := D) (ci := 12) (v := .int (i 0)) (C := RX12) (T := TX12) (N := 91) hx hb hT iX12 hown hK hP 0 rfl rfl 0 (by decide) (hT _ t_10) (fun _ h9 => h9) rfl dX12_laysHarmed_25 ?_
            have hg_4 : 0 ≤ (i 0).toInt ∧ (i 0).toInt ≤ 6 := hRi 0
            refine lv_icmp_ge (tgt := 124) hx hb dX12_laysHarmed_28 (by decide) (fun c_5 => ?_) (fun c_5 => ?_)
            · have c_5 : (i 0).toInt ≤ x3_1.toInt := b_le c_5
              subst hQ
              have hk : x3_1.toNatClampNeg = (i 0).toNatClampNeg := by show x3_1.toInt.toNat = (i 0).toInt.toNat; omega
              have hI8 := hx3.1
              rw [hk] at hI8
              exact W.vret hx hb hr (fun t ht hW => ⟨⟨r3, rfl, ⟨hRr, hEr, hI8⟩, by rw [ht]; exact hP, va_K.moved hW.alike hK, hD⟩, hS.F ht⟩) hS.2.2 dX12_laysHarmed_124
            · have c_5 : x3_1.toInt < (i 0).toInt := b_nle c_5
              refine lv_aload_n hx hb dX12_laysHarmed_31 rfl (lv_at hl 1 rfl) ?_
              refine lv_iload_n hx hb dX12_laysHarmed_32 rfl (lv_at hl 0 rfl) ?_
              have hA10 : r3 10 = r 10 := hEr 10 (by decide)
              have hA11 : r3 11 = r 11 := hEr 11 (by decide)
              have hA12 : r3 12 = r 12 := hEr 12 (by decide)
              have hA13 : r3 13 = r 13 := hEr 13 (by decide)
              have hA14 : r3 14 = r 14 := hEr 14 (by decide)
              have hA16 : r3 16 = r 16 := hEr 16 (by decide)
              have hA17 : r3 17 = r 17 := hEr 17 (by decide)
              have hA18 : r3 18 = r 18 := hEr 18 (by decide)
              have hlt9 : x3_1.toNatClampNeg < (i 0).toNatClampNeg := by show x3_1.toInt.toNat < (i 0).toInt.toNat; omega
              have hh6 : x3_1.toNatClampNeg < 6 := by show x3_1.toInt.toNat < 6; omega
              have hF_6 := rF hD hS hA
              refine va_callv (va_runV (As := [.int x3_1]) (rest := []) ⟨hx, hb, hml, hown, hT⟩ (c_X12_laysJoined9 l D cy a i r3 rl x3_1 _ hRi hRr (by omega) (by rw [hA14, hA10]; exact (hs9 _ hlt9).1) (by rw [hA18, hA11]; exact (hs9 _ hlt9).2)) (cwV 1 hT (gV t_116 t_117 t_118 t_119 t_6) rfl rfl rfl (by decide +kernel) ⟨Nat.le_of_ble_eq_true rfl, Nat.le_of_ble_eq_true rfl⟩) (rQ_v hP hK hD (va_recv hK hP (ci := 12) (q0 := 0) rfl rfl)) rfl rfl hl.1 rfl (lv_room (Nat.le_of_ble_eq_true rfl)) dX12_laysHarmed_33 ⟨Nat.le_of_ble_eq_true rfl, Nat.le_of_ble_eq_true rfl⟩) hS (fun q _ h => hF_6 q h) hF_6 (fun u_8 t H1 locs ht hvm hr_7 hB hz1 hk1 hS => ?_)
              obtain ⟨r8, rfl⟩ : ∃ z, z = u_8 := ⟨_, rfl⟩
              obtain ⟨hP, hK1, hD1⟩ := hB
              rw [ht] at hP
              have hD := hD1.weaken (fun k q _ h => hF_6 q.1 h)
              have hP : va_P D vwCl (mW cy a i r8 rl) H1 := hP
              have hD : va_D A (mW cy a i r8 rl) := hD
              obtain ⟨hRr, hE2, hr_7⟩ := hr_7
              have hRr : mRr r8 := hRr
              have hEr : mEr [34, 35, 36, 37, 38, 39, 57] _ r8 := Er_tr hEr hE2 (by decide)
              have hJ8 : gjJ (gjH (r3 12) x3_1.toNatClampNeg) (gjH (r3 13) x3_1.toNatClampNeg) (gjH (r3 14) x3_1.toNatClampNeg) (r3 10 x3_1.toNatClampNeg).toNatClampNeg (gjH (r3 16) x3_1.toNatClampNeg) (gjH (r3 17) x3_1.toNatClampNeg) (gjH (r3 18) x3_1.toNatClampNeg) (r3 11 x3_1.toNatClampNeg).toNatClampNeg 99 (r8 34) ∧ ∀ k : Nat, k < 20 → ((r8 39 k).toInt = 0 ↔ ∀ q, q < (r3 10 x3_1.toNatClampNeg).toNatClampNeg → (r8 34 q).toInt ≠ (k : Int)) := hr_7
              rw [hA10, hA11, hA12, hA13, hA14, hA16, hA17, hA18] at hJ8
              have hJ7 := hJ8.1
              clear hJ8
              obtain ⟨J9, hJ9⟩ : ∃ f : Nat → Int32, f = r8 34 := ⟨_, rfl⟩
              rw [← hJ9] at hJ7
              have hHp : r8 57 = r3 57 := hE2 57 (by decide)
              have hnl9 : (r 11 x3_1.toNatClampNeg).toNatClampNeg ≤ 20 := by have h9 : (r 11 x3_1.toNatClampNeg).toInt ≤ 20 := (hRr0 11 _).2; show (r 11 x3_1.toNatClampNeg).toInt.toNat ≤ 20; omega
              have hnf9 : (r 10 x3_1.toNatClampNeg).toInt ≤ 20 := (hRr0 10 _).2
              refine lv_iconst (v := 0) hx hb dX12_laysHarmed_36 (by decide) ?_
              refine lv_istore_n (lv' := [(2, .int 0), (1, .int x3_1), (0, .ref (a 0))]) hx hb dX12_laysHarmed_37 rfl hl (by decide) rfl (fun ls hl => ?_)
              have loop_9 : ∀ (n : Nat) (x9_2 : Int32) (r9 : Nat → Nat → Int32) (H : Heap) (locs : List Loc) (ls : Array Slot), (20 - x9_2.toInt).toNat < n → (0 ≤ x9_2.toInt ∧ x9_2.toInt ≤ 20) → mRr r9 → mEr [34, 35, 36, 37, 38, 39, 57] r r9 → (r9 34 = J9 ∧ lkI2 (fun (h9 : Nat) (J9 : Nat → Int32) => gjJ (gjH (r 12) h9) (gjH (r 13) h9) (gjH (r 14) h9) (r 10 h9).toNatClampNeg (gjH (r 16) h9) (gjH (r 17) h9) (gjH (r 18) h9) (r 11 h9).toNatClampNeg 99 J9) (fun (h9 : Nat) (J9 : Nat → Int32) (kd9 : Nat) => lkW (lkM J9 (gjH (r 18) h9)) (gjH (r 13) h9) (gjH (r 14) h9) ((kd9 : Nat) : Int) (r 10 h9).toNatClampNeg) (r9 57) (x3_1.toNatClampNeg) (fun kd9 : Nat => lkW (lkM J9 (gjH (r 18) x3_1.toNatClampNeg)) (gjH (r 13) x3_1.toNatClampNeg) (gjH (r 14) x3_1.toNatClampNeg) ((kd9 : Nat) : Int) x9_2.toNatClampNeg) ∧ x9_2.toInt ≤ (r 10 x3_1.toNatClampNeg).toInt) → va_P D vwCl (mW cy a i r9 rl) H → va_D A (mW cy a i r9 rl) → va_S A s.heap H locs → lv_has ls 3 [(2, .int x9_2), (1, .int x3_1), (0, .ref (a 0))] → W p l e ({ frames := 5, cells := 0, slots := 0, locals := 126 } : Room) s m ([.ref (a 0)] : List Value).toArray below meth c H locs 0 0 Q (F0 m 38 ls []) := by
                intro n
                induction n with
                | zero =>
                  intro x9_2 r9 H locs ls hm9 hf9_0 hRr hEr hx9 hP hD hS hl
                  exact absurd hm9 (by omega)
                | succ n ih9 =>
                  intro x9_2 r9 H locs ls hm9 hf9_0 hRr hEr hx9 hP hD hS hl
                  refine lv_iload_n hx hb dX12_laysHarmed_38 rfl (lv_at hl 0 rfl) ?_
                  refine lv_aload_n hx hb dX12_laysHarmed_39 rfl (lv_at hl 2 rfl) ?_
                  refine va_get (D := D) (ci := 12) (v := .ref (a 10)) (C := RX12) (T := TX12) (N := 91) hx hb hT iX12 hown hK hP 0 rfl rfl 11 (by decide) (hT _ t_16) (fun _ h9 => h9) rfl dX12_laysHarmed_40 ?_
                  refine lv_iload_n hx hb dX12_laysHarmed_43 rfl (lv_at hl 1 rfl) ?_
                  refine va_iald hx hb hK hP 10 0 rfl rfl (vp_inI (by omega) (by omega)) dX12_laysHarmed_44 ?_
                  refine lv_topi (fun v_10 ev_10 => ?_)
                  have hgv_10 : 0 ≤ v_10.toInt ∧ v_10.toInt ≤ 20 := by rw [ev_10]; exact hRr 10 _
                  have hwv_10 : v_10.toInt = (r9 10 (x3_1.toNatClampNeg)).toInt := congrArg Int32.toInt ev_10
                  have hmv_10 : v_10.toInt = (r 10 x3_1.toNatClampNeg).toInt := by rw [ev_10, hEr 10 (by decide)]
                  refine lv_icmp_ge (tgt := 118) hx hb dX12_laysHarmed_45 (by decide) (fun c_11 => ?_) (fun c_11 => ?_)
                  · have c_11 : v_10.toInt ≤ x9_2.toInt := b_le c_11
                    obtain ⟨x_12, ex_12⟩ : ∃ y : Int32, y = x3_1 + 1 := ⟨_, rfl⟩
                    refine lv_iinc (v := x_12) (lv' := [(1, .int x_12), (2, .int x9_2), (0, .ref (a 0))]) hx hb dX12_laysHarmed_118 hl (k := 1) rfl (by rw [ex_12]; rfl) (by decide) rfl (fun ls hl => ?_)
                    have hx_12 : x_12.toInt = x3_1.toInt + 1 := by rw [ex_12]; have := b_rg x3_1; exact i_add (a := x3_1.toInt) (b := 1) rfl rfl (by omega) (by omega)
                    refine lv_goto (tgt := 23) hx hb dX12_laysHarmed_121 (by decide) ?_
                    have hk : x_12.toNatClampNeg = x3_1.toNatClampNeg + 1 := by show x_12.toInt.toNat = x3_1.toInt.toNat + 1; omega
                    have hm9 : x9_2.toNatClampNeg = (r 10 x3_1.toNatClampNeg).toNatClampNeg := by show x9_2.toInt.toNat = (r 10 x3_1.toNatClampNeg).toInt.toNat; omega
                    have hI8 := hx9.2.1
                    rw [hm9] at hI8
                    exact ih3 x_12 r9 _ _ _ (by first | omega | (simp only [Int.toNat]; omega)) (by first | omega | decide) hRr hEr ⟨lkI2_e hI8 hJ7 (fun kd _ => rfl) hk, by omega⟩ hP hD hS (lv_sub hl [0, 2] rfl)
                  · have c_11 : x9_2.toInt < v_10.toInt := b_nle c_11
                    refine lv_aload_n hx hb dX12_laysHarmed_48 rfl (lv_at hl 2 rfl) ?_
                    refine lv_iload_n hx hb dX12_laysHarmed_49 rfl (lv_at hl 1 rfl) ?_
                    refine lv_iload_n hx hb dX12_laysHarmed_50 rfl (lv_at hl 0 rfl) ?_
                    refine vp_callSi (W.runV (As := [.int x3_1, .int x9_2]) (rest := []) ⟨hx, hb, hml, hown, hT⟩ (c_X12_changeOf9 l D cy a i r9 rl x3_1 x9_2 hRi hRr (by omega) (by omega) (gjJ_okJ hJ7 hx9.1 hnl9 (by show x9_2.toInt.toNat < (r 10 x3_1.toNatClampNeg).toInt.toNat; omega))) (cwV 2 hT (gV t_124 t_125 t_126 t_127 t_6) rfl rfl rfl (by decide +kernel) ⟨Nat.le_of_ble_eq_true rfl, Nat.le_of_ble_eq_true rfl⟩) (rP_v hP hK (va_recv hK hP (ci := 12) (q0 := 0) rfl rfl)) rfl rfl hl.1 rfl (lv_room (Nat.le_of_ble_eq_true rfl)) dX12_laysHarmed_51 ⟨Nat.le_of_ble_eq_true rfl, Nat.le_of_ble_eq_true rfl⟩) (fun r_13 hr_13 => ?_)
                    have hqr_13 : r_13.toInt = lkC (r9 34) (gjH (r9 18) x3_1.toNatClampNeg) (gjH (r9 14) x3_1.toNatClampNeg) x9_2.toNatClampNeg := hr_13
                    have hC51 : r_13.toInt = lkC J9 (gjH (r 18) x3_1.toNatClampNeg) (gjH (r 14) x3_1.toNatClampNeg) x9_2.toNatClampNeg := by have h9 := hqr_13; rw [hx9.1, hEr 18 (by decide), hEr 14 (by decide)] at h9; exact h9
                    have hS9 : 1 ≤ (gjH (r 14) x3_1.toNatClampNeg x9_2.toNatClampNeg).toInt := ((hs9 _ hlt9).1 _ (by show x9_2.toInt.toNat < (r 10 x3_1.toNatClampNeg).toInt.toNat; omega)).1
                    have hCi := lkC_iff (J := J9) (ls := gjH (r 18) x3_1.toNatClampNeg) hS9
                    refine lv_iconst (v := 1) hx hb dX12_laysHarmed_54 (by decide) ?_
                    refine lv_icmp_eq (tgt := 68) hx hb dX12_laysHarmed_55 (by decide) (fun c_14 => ?_) (fun c_14 => ?_)
                    · have c_14 : r_13.toInt = 1 := b_eq c_14
                      have hY9 : lkM J9 (gjH (r 18) x3_1.toNatClampNeg) x9_2.toNatClampNeg < (gjH (r 14) x3_1.toNatClampNeg x9_2.toNatClampNeg).toInt := hCi.mp (by rw [← hC51]; omega)
                      clear hCi
                      refine lv_aload_n hx hb dX12_laysHarmed_68 rfl (lv_at hl 2 rfl) ?_
                      refine va_get (D := D) (ci := 12) (v := .ref (a 57)) (C := RX12) (T := TX12) (N := 91) hx hb hT iX12 hown hK hP 0 rfl rfl 71 (by decide) (hT _ t_223) (fun _ h9 => h9) rfl dX12_laysHarmed_69 ?_
                      refine lv_bipush (v := 8) hx hb dX12_laysHarmed_72 (by decide) ?_
                      refine lv_iload_n hx hb dX12_laysHarmed_74 rfl (lv_at hl 1 rfl) ?_
                      refine lv_imul hx hb dX12_laysHarmed_75 ?_
                      refine lv_topi (fun v_15 ev_15 => ?_)
                      have hv_15 : v_15.toInt = 8 * x3_1.toInt := by rw [ev_15]; have := b_rg x3_1; exact i_mul (a := 8) (b := x3_1.toInt) rfl rfl (by omega) (by omega)
                      refine lv_aload_n hx hb dX12_laysHarmed_76 rfl (lv_at hl 2 rfl) ?_
                      refine va_get (D := D) (ci := 12) (v := .ref (a 13)) (C := RX12) (T := TX12) (N := 91) hx hb hT iX12 hown hK hP 0 rfl rfl 14 (by decide) (hT _ t_24) (fun _ h9 => h9) rfl dX12_laysHarmed_77 ?_
                      refine lv_bipush (v := 20) hx hb dX12_laysHarmed_80 (by decide) ?_
                      refine lv_iload_n hx hb dX12_laysHarmed_82 rfl (lv_at hl 1 rfl) ?_
                      refine lv_imul hx hb dX12_laysHarmed_83 ?_
                      refine lv_topi (fun v_16 ev_16 => ?_)
                      have hv_16 : v_16.toInt = 20 * x3_1.toInt := by rw [ev_16]; have := b_rg x3_1; exact i_mul (a := 20) (b := x3_1.toInt) rfl rfl (by omega) (by omega)
                      refine lv_iload_n hx hb dX12_laysHarmed_84 rfl (lv_at hl 0 rfl) ?_
                      refine lv_iadd hx hb dX12_laysHarmed_85 ?_
                      refine lv_topi (fun v_17 ev_17 => ?_)
                      have hv_17 : v_17.toInt = v_16.toInt + x9_2.toInt := by rw [ev_17]; have := b_rg v_16; have := b_rg x9_2; exact i_add (a := v_16.toInt) (b := x9_2.toInt) rfl rfl (by omega) (by omega)
                      refine va_iald hx hb hK hP 13 0 rfl rfl (vp_inI (by omega) (by omega)) dX12_laysHarmed_86 ?_
                      refine lv_topi (fun v_18 ev_18 => ?_)
                      have hgv_18 : 0 ≤ v_18.toInt ∧ v_18.toInt ≤ 7 := by rw [ev_18]; exact hRr 13 _
                      have hsv_18 : v_18 = gjH (r 13) x3_1.toNatClampNeg x9_2.toNatClampNeg := by rw [ev_18, hEr 13 (by decide)]; exact congrArg (r 13) (by show v_17.toInt.toNat = 20 * x3_1.toInt.toNat + x9_2.toInt.toNat; omega)
                      refine lv_iadd hx hb dX12_laysHarmed_87 ?_
                      refine lv_topi (fun v_19 ev_19 => ?_)
                      have hv_19 : v_19.toInt = v_15.toInt + v_18.toInt := by rw [ev_19]; have := b_rg v_15; have := b_rg v_18; exact i_add (a := v_15.toInt) (b := v_18.toInt) rfl rfl (by omega) (by omega)
                      refine lv_aload_n hx hb dX12_laysHarmed_88 rfl (lv_at hl 2 rfl) ?_
                      refine va_get (D := D) (ci := 12) (v := .ref (a 57)) (C := RX12) (T := TX12) (N := 91) hx hb hT iX12 hown hK hP 0 rfl rfl 71 (by decide) (hT _ t_223) (fun _ h9 => h9) rfl dX12_laysHarmed_89 ?_
                      refine lv_bipush (v := 8) hx hb dX12_laysHarmed_92 (by decide) ?_
                      refine lv_iload_n hx hb dX12_laysHarmed_94 rfl (lv_at hl 1 rfl) ?_
                      refine lv_imul hx hb dX12_laysHarmed_95 ?_
                      refine lv_topi (fun v_20 ev_20 => ?_)
                      have hv_20 : v_20.toInt = 8 * x3_1.toInt := by rw [ev_20]; have := b_rg x3_1; exact i_mul (a := 8) (b := x3_1.toInt) rfl rfl (by omega) (by omega)
                      refine lv_aload_n hx hb dX12_laysHarmed_96 rfl (lv_at hl 2 rfl) ?_
                      refine va_get (D := D) (ci := 12) (v := .ref (a 13)) (C := RX12) (T := TX12) (N := 91) hx hb hT iX12 hown hK hP 0 rfl rfl 14 (by decide) (hT _ t_24) (fun _ h9 => h9) rfl dX12_laysHarmed_97 ?_
                      refine lv_bipush (v := 20) hx hb dX12_laysHarmed_100 (by decide) ?_
                      refine lv_iload_n hx hb dX12_laysHarmed_102 rfl (lv_at hl 1 rfl) ?_
                      refine lv_imul hx hb dX12_laysHarmed_103 ?_
                      refine lv_topi (fun v_21 ev_21 => ?_)
                      have hv_21 : v_21.toInt = 20 * x3_1.toInt := by rw [ev_21]; have := b_rg x3_1; exact i_mul (a := 20) (b := x3_1.toInt) rfl rfl (by omega) (by omega)
                      refine lv_iload_n hx hb dX12_laysHarmed_104 rfl (lv_at hl 0 rfl) ?_
                      refine lv_iadd hx hb dX12_laysHarmed_105 ?_
                      refine lv_topi (fun v_22 ev_22 => ?_)
                      have hv_22 : v_22.toInt = v_21.toInt + x9_2.toInt := by rw [ev_22]; have := b_rg v_21; have := b_rg x9_2; exact i_add (a := v_21.toInt) (b := x9_2.toInt) rfl rfl (by omega) (by omega)
                      refine va_iald hx hb hK hP 13 0 rfl rfl (vp_inI (by omega) (by omega)) dX12_laysHarmed_106 ?_
                      refine lv_topi (fun v_23 ev_23 => ?_)
                      have hgv_23 : 0 ≤ v_23.toInt ∧ v_23.toInt ≤ 7 := by rw [ev_23]; exact hRr 13 _
                      have hsv_23 : v_23 = gjH (r 13) x3_1.toNatClampNeg x9_2.toNatClampNeg := by rw [ev_23, hEr 13 (by decide)]; exact congrArg (r 13) (by show v_22.toInt.toNat = 20 * x3_1.toInt.toNat + x9_2.toInt.toNat; omega)
                      refine lv_iadd hx hb dX12_laysHarmed_107 ?_
                      refine lv_topi (fun v_24 ev_24 => ?_)
                      have hv_24 : v_24.toInt = v_20.toInt + v_23.toInt := by rw [ev_24]; have := b_rg v_20; have := b_rg v_23; exact i_add (a := v_20.toInt) (b := v_23.toInt) rfl rfl (by omega) (by omega)
                      refine va_iald hx hb hK hP 57 0 rfl rfl (vp_inI (by omega) (by omega)) dX12_laysHarmed_108 ?_
                      refine lv_topi (fun v_25 ev_25 => ?_)
                      have hK8 : v_23.toNatClampNeg < 8 := by show v_23.toInt.toNat < 8; omega
                      have hix : v_24.toNatClampNeg = 8 * x3_1.toNatClampNeg + v_23.toNatClampNeg := by show v_24.toInt.toNat = 8 * x3_1.toInt.toNat + v_23.toInt.toNat; omega
                      have hw9 : v_25.toInt = (fun kd9 : Nat => lkW (lkM J9 (gjH (r 18) x3_1.toNatClampNeg)) (gjH (r 13) x3_1.toNatClampNeg) (gjH (r 14) x3_1.toNatClampNeg) ((kd9 : Nat) : Int) x9_2.toNatClampNeg) (v_23.toNatClampNeg) := by obtain ⟨_, _, _, h3, _⟩ := hx9.2.1; rw [ev_25, hix]; exact h3 _ hK8
                      have hwb : 0 ≤ v_25.toInt ∧ v_25.toInt ≤ 20 := by rw [hw9]; have h9 := lkW_r (S := lkM J9 (gjH (r 18) x3_1.toNatClampNeg)) (fk := gjH (r 13) x3_1.toNatClampNeg) (fs := gjH (r 14) x3_1.toNatClampNeg) (kd := ((v_23.toNatClampNeg : Nat) : Int)) (x9_2.toNatClampNeg); have h8 : x9_2.toNatClampNeg = x9_2.toInt.toNat := rfl; exact ⟨h9.1, by have h7 := h9.2; show lkW _ _ _ _ _ ≤ 20; omega⟩
                      refine lv_iconst (v := 1) hx hb dX12_laysHarmed_109 (by decide) ?_
                      refine lv_iadd hx hb dX12_laysHarmed_110 ?_
                      refine lv_topi (fun v_26 ev_26 => ?_)
                      have hv_26 : v_26.toInt = v_25.toInt + 1 := by rw [ev_26]; have := b_rg v_25; exact i_add (a := v_25.toInt) (b := 1) rfl rfl (by omega) (by omega)
                      refine va_iast hx hb hK hP hD hS 57 0 rfl rfl (vp_inI (by omega) (by omega)) dX12_laysHarmed_111 (fun H locs hP hD hS => ?_)
                      rw [mS57] at hP hD
                      have hRr : mRr (va_up r9 57 (upd (r9 57) v_19.toNatClampNeg v_26)) := Rr_upd hRr 57 (v_19.toNatClampNeg) v_26 (b_rg _)
                      have hEr : mEr [34, 35, 36, 37, 38, 39, 57] _ (va_up r9 57 (upd (r9 57) v_19.toNatClampNeg v_26)) := Er_up hEr 57 _ (by decide)
                      obtain ⟨x_27, ex_27⟩ : ∃ y : Int32, y = x9_2 + 1 := ⟨_, rfl⟩
                      refine lv_iinc (v := x_27) (lv' := [(2, .int x_27), (1, .int x3_1), (0, .ref (a 0))]) hx hb dX12_laysHarmed_112 hl (k := 0) rfl (by rw [ex_27]; rfl) (by decide) rfl (fun ls hl => ?_)
                      have hx_27 : x_27.toInt = x9_2.toInt + 1 := by rw [ex_27]; have := b_rg x9_2; exact i_add (a := x9_2.toInt) (b := 1) rfl rfl (by omega) (by omega)
                      refine lv_goto (tgt := 38) hx hb dX12_laysHarmed_115 (by decide) ?_
                      have hk : x_27.toNatClampNeg = x9_2.toNatClampNeg + 1 := by show x_27.toInt.toNat = x9_2.toInt.toNat + 1; omega
                      have hka : v_18 = v_23 := hsv_18.trans hsv_23.symm
                      have hpx : v_19.toNatClampNeg = 8 * x3_1.toNatClampNeg + v_18.toNatClampNeg := by show v_19.toInt.toNat = 8 * x3_1.toInt.toNat + v_18.toInt.toNat; omega
                      have hkI : (gjH (r 13) x3_1.toNatClampNeg x9_2.toNatClampNeg).toInt = ((v_18.toNatClampNeg : Nat) : Int) := by rw [← hsv_18]; show v_18.toInt = ((v_18.toInt.toNat : Nat) : Int); omega
                      have hxq : v_26.toInt = (fun kd9 : Nat => lkW (lkM J9 (gjH (r 18) x3_1.toNatClampNeg)) (gjH (r 13) x3_1.toNatClampNeg) (gjH (r 14) x3_1.toNatClampNeg) ((kd9 : Nat) : Int) x9_2.toNatClampNeg) (v_18.toNatClampNeg) + 1 := by have h9 := hw9; rw [← hka] at h9; rw [← h9]; omega
                      have hI9 : lkI2 (fun (h9 : Nat) (J9 : Nat → Int32) => gjJ (gjH (r 12) h9) (gjH (r 13) h9) (gjH (r 14) h9) (r 10 h9).toNatClampNeg (gjH (r 16) h9) (gjH (r 17) h9) (gjH (r 18) h9) (r 11 h9).toNatClampNeg 99 J9) (fun (h9 : Nat) (J9 : Nat → Int32) (kd9 : Nat) => lkW (lkM J9 (gjH (r 18) h9)) (gjH (r 13) h9) (gjH (r 14) h9) ((kd9 : Nat) : Int) (r 10 h9).toNatClampNeg) (upd (r9 57) (v_19.toNatClampNeg) v_26) (x3_1.toNatClampNeg) (fun kd9 : Nat => lkW (lkM J9 (gjH (r 18) x3_1.toNatClampNeg)) (gjH (r 13) x3_1.toNatClampNeg) (gjH (r 14) x3_1.toNatClampNeg) ((kd9 : Nat) : Int) x_27.toNatClampNeg) := lkI2_y hx9.2.1 (by rw [hka]; exact hK8) hpx hxq (by show lkW _ _ _ _ (x_27.toNatClampNeg) = _; rw [hk]; exact lkW_y ⟨hkI, hY9⟩) (fun kd _ hne => by show lkW _ _ _ _ (x_27.toNatClampNeg) = _; rw [hk]; exact lkW_n (fun h9 => hne (by have h8 := h9.1; rw [hkI] at h8; omega)))
                      exact ih9 x_27 (va_up r9 57 (upd (r9 57) v_19.toNatClampNeg v_26)) _ _ _ (by first | omega | (simp only [Int.toNat]; omega)) (by first | omega | decide) hRr hEr ⟨hx9.1, hI9, by omega⟩ hP hD hS (lv_sub hl [0, 1, 2] rfl)
                    · have c_14 : r_13.toInt ≠ 1 := b_ne c_14
                      refine lv_aload_n hx hb dX12_laysHarmed_58 rfl (lv_at hl 2 rfl) ?_
                      refine lv_iload_n hx hb dX12_laysHarmed_59 rfl (lv_at hl 1 rfl) ?_
                      refine lv_iload_n hx hb dX12_laysHarmed_60 rfl (lv_at hl 0 rfl) ?_
                      refine vp_callSi (W.runV (As := [.int x3_1, .int x9_2]) (rest := []) ⟨hx, hb, hml, hown, hT⟩ (c_X12_changeOf9 l D cy a i r9 rl x3_1 x9_2 hRi hRr (by omega) (by omega) (gjJ_okJ hJ7 hx9.1 hnl9 (by show x9_2.toInt.toNat < (r 10 x3_1.toNatClampNeg).toInt.toNat; omega))) (cwV 2 hT (gV t_124 t_125 t_126 t_127 t_6) rfl rfl rfl (by decide +kernel) ⟨Nat.le_of_ble_eq_true rfl, Nat.le_of_ble_eq_true rfl⟩) (rP_v hP hK (va_recv hK hP (ci := 12) (q0 := 0) rfl rfl)) rfl rfl hl.1 rfl (lv_room (Nat.le_of_ble_eq_true rfl)) dX12_laysHarmed_61 ⟨Nat.le_of_ble_eq_true rfl, Nat.le_of_ble_eq_true rfl⟩) (fun r_28 hr_28 => ?_)
                      have hqr_28 : r_28.toInt = lkC (r9 34) (gjH (r9 18) x3_1.toNatClampNeg) (gjH (r9 14) x3_1.toNatClampNeg) x9_2.toNatClampNeg := hr_28
                      have hC61 : r_28.toInt = lkC J9 (gjH (r 18) x3_1.toNatClampNeg) (gjH (r 14) x3_1.toNatClampNeg) x9_2.toNatClampNeg := by have h9 := hqr_28; rw [hx9.1, hEr 18 (by decide), hEr 14 (by decide)] at h9; exact h9
                      refine lv_iconst (v := 2) hx hb dX12_laysHarmed_64 (by decide) ?_
                      refine lv_icmp_ne (tgt := 112) hx hb dX12_laysHarmed_65 (by decide) (fun c_29 => ?_) (fun c_29 => ?_)
                      · have c_29 : r_28.toInt ≠ 2 := b_ne c_29
                        have hN9 : ¬ lkM J9 (gjH (r 18) x3_1.toNatClampNeg) x9_2.toNatClampNeg < (gjH (r 14) x3_1.toNatClampNeg x9_2.toNatClampNeg).toInt := fun h9 => by have h8 := hCi.mpr h9; rw [← hC51] at h8; omega
                        clear hCi
                        obtain ⟨x_30, ex_30⟩ : ∃ y : Int32, y = x9_2 + 1 := ⟨_, rfl⟩
                        refine lv_iinc (v := x_30) (lv' := [(2, .int x_30), (1, .int x3_1), (0, .ref (a 0))]) hx hb dX12_laysHarmed_112 hl (k := 0) rfl (by rw [ex_30]; rfl) (by decide) rfl (fun ls hl => ?_)
                        have hx_30 : x_30.toInt = x9_2.toInt + 1 := by rw [ex_30]; have := b_rg x9_2; exact i_add (a := x9_2.toInt) (b := 1) rfl rfl (by omega) (by omega)
                        refine lv_goto (tgt := 38) hx hb dX12_laysHarmed_115 (by decide) ?_
                        have hk : x_30.toNatClampNeg = x9_2.toNatClampNeg + 1 := by show x_30.toInt.toNat = x9_2.toInt.toNat + 1; omega
                        have hI9 : lkI2 (fun (h9 : Nat) (J9 : Nat → Int32) => gjJ (gjH (r 12) h9) (gjH (r 13) h9) (gjH (r 14) h9) (r 10 h9).toNatClampNeg (gjH (r 16) h9) (gjH (r 17) h9) (gjH (r 18) h9) (r 11 h9).toNatClampNeg 99 J9) (fun (h9 : Nat) (J9 : Nat → Int32) (kd9 : Nat) => lkW (lkM J9 (gjH (r 18) h9)) (gjH (r 13) h9) (gjH (r 14) h9) ((kd9 : Nat) : Int) (r 10 h9).toNatClampNeg) (r9 57) (x3_1.toNatClampNeg) (fun kd9 : Nat => lkW (lkM J9 (gjH (r 18) x3_1.toNatClampNeg)) (gjH (r 13) x3_1.toNatClampNeg) (gjH (r 14) x3_1.toNatClampNeg) ((kd9 : Nat) : Int) x_30.toNatClampNeg) := lkI2_n hx9.2.1 (fun kd hkd => by show lkW _ _ _ _ (x_30.toNatClampNeg) = _; rw [hk]; exact lkW_n (fun h9 => hN9 h9.2))
                        exact ih9 x_30 r9 _ _ _ (by first | omega | (simp only [Int.toNat]; omega)) (by first | omega | decide) hRr hEr ⟨hx9.1, hI9, by omega⟩ hP hD hS (lv_sub hl [0, 1, 2] rfl)
                      · have c_29 : r_28.toInt = 2 := b_nne c_29
                        have hY9 : lkM J9 (gjH (r 18) x3_1.toNatClampNeg) x9_2.toNatClampNeg < (gjH (r 14) x3_1.toNatClampNeg x9_2.toNatClampNeg).toInt := hCi.mp (by rw [← hC61]; omega)
                        clear hCi
                        refine lv_aload_n hx hb dX12_laysHarmed_68 rfl (lv_at hl 2 rfl) ?_
                        refine va_get (D := D) (ci := 12) (v := .ref (a 57)) (C := RX12) (T := TX12) (N := 91) hx hb hT iX12 hown hK hP 0 rfl rfl 71 (by decide) (hT _ t_223) (fun _ h9 => h9) rfl dX12_laysHarmed_69 ?_
                        refine lv_bipush (v := 8) hx hb dX12_laysHarmed_72 (by decide) ?_
                        refine lv_iload_n hx hb dX12_laysHarmed_74 rfl (lv_at hl 1 rfl) ?_
                        refine lv_imul hx hb dX12_laysHarmed_75 ?_
                        refine lv_topi (fun v_31 ev_31 => ?_)
                        have hv_31 : v_31.toInt = 8 * x3_1.toInt := by rw [ev_31]; have := b_rg x3_1; exact i_mul (a := 8) (b := x3_1.toInt) rfl rfl (by omega) (by omega)
                        refine lv_aload_n hx hb dX12_laysHarmed_76 rfl (lv_at hl 2 rfl) ?_
                        refine va_get (D := D) (ci := 12) (v := .ref (a 13)) (C := RX12) (T := TX12) (N := 91) hx hb hT iX12 hown hK hP 0 rfl rfl 14 (by decide) (hT _ t_24) (fun _ h9 => h9) rfl dX12_laysHarmed_77 ?_
                        refine lv_bipush (v := 20) hx hb dX12_laysHarmed_80 (by decide) ?_
                        refine lv_iload_n hx hb dX12_laysHarmed_82 rfl (lv_at hl 1 rfl) ?_
                        refine lv_imul hx hb dX12_laysHarmed_83 ?_
                        refine lv_topi (fun v_32 ev_32 => ?_)
                        have hv_32 : v_32.toInt = 20 * x3_1.toInt := by rw [ev_32]; have := b_rg x3_1; exact i_mul (a := 20) (b := x3_1.toInt) rfl rfl (by omega) (by omega)
                        refine lv_iload_n hx hb dX12_laysHarmed_84 rfl (lv_at hl 0 rfl) ?_
                        refine lv_iadd hx hb dX12_laysHarmed_85 ?_
                        refine lv_topi (fun v_33 ev_33 => ?_)
                        have hv_33 : v_33.toInt = v_32.toInt + x9_2.toInt := by rw [ev_33]; have := b_rg v_32; have := b_rg x9_2; exact i_add (a := v_32.toInt) (b := x9_2.toInt) rfl rfl (by omega) (by omega)
                        refine va_iald hx hb hK hP 13 0 rfl rfl (vp_inI (by omega) (by omega)) dX12_laysHarmed_86 ?_
                        refine lv_topi (fun v_34 ev_34 => ?_)
                        have hgv_34 : 0 ≤ v_34.toInt ∧ v_34.toInt ≤ 7 := by rw [ev_34]; exact hRr 13 _
                        have hsv_34 : v_34 = gjH (r 13) x3_1.toNatClampNeg x9_2.toNatClampNeg := by rw [ev_34, hEr 13 (by decide)]; exact congrArg (r 13) (by show v_33.toInt.toNat = 20 * x3_1.toInt.toNat + x9_2.toInt.toNat; omega)
                        refine lv_iadd hx hb dX12_laysHarmed_87 ?_
                        refine lv_topi (fun v_35 ev_35 => ?_)
                        have hv_35 : v_35.toInt = v_31.toInt + v_34.toInt := by rw [ev_35]; have := b_rg v_31; have := b_rg v_34; exact i_add (a := v_31.toInt) (b := v_34.toInt) rfl rfl (by omega) (by omega)
                        refine lv_aload_n hx hb dX12_laysHarmed_88 rfl (lv_at hl 2 rfl) ?_
                        refine va_get (D := D) (ci := 12) (v := .ref (a 57)) (C := RX12) (T := TX12) (N := 91) hx hb hT iX12 hown hK hP 0 rfl rfl 71 (by decide) (hT _ t_223) (fun _ h9 => h9) rfl dX12_laysHarmed_89 ?_
                        refine lv_bipush (v := 8) hx hb dX12_laysHarmed_92 (by decide) ?_
                        refine lv_iload_n hx hb dX12_laysHarmed_94 rfl (lv_at hl 1 rfl) ?_
                        refine lv_imul hx hb dX12_laysHarmed_95 ?_
                        refine lv_topi (fun v_36 ev_36 => ?_)
                        have hv_36 : v_36.toInt = 8 * x3_1.toInt := by rw [ev_36]; have := b_rg x3_1; exact i_mul (a := 8) (b := x3_1.toInt) rfl rfl (by omega) (by omega)
                        refine lv_aload_n hx hb dX12_laysHarmed_96 rfl (lv_at hl 2 rfl) ?_
                        refine va_get (D := D) (ci := 12) (v := .ref (a 13)) (C := RX12) (T := TX12) (N := 91) hx hb hT iX12 hown hK hP 0 rfl rfl 14 (by decide) (hT _ t_24) (fun _ h9 => h9) rfl dX12_laysHarmed_97 ?_
                        refine lv_bipush (v := 20) hx hb dX12_laysHarmed_100 (by decide) ?_
                        refine lv_iload_n hx hb dX12_laysHarmed_102 rfl (lv_at hl 1 rfl) ?_
                        refine lv_imul hx hb dX12_laysHarmed_103 ?_
                        refine lv_topi (fun v_37 ev_37 => ?_)
                        have hv_37 : v_37.toInt = 20 * x3_1.toInt := by rw [ev_37]; have := b_rg x3_1; exact i_mul (a := 20) (b := x3_1.toInt) rfl rfl (by omega) (by omega)
                        refine lv_iload_n hx hb dX12_laysHarmed_104 rfl (lv_at hl 0 rfl) ?_
                        refine lv_iadd hx hb dX12_laysHarmed_105 ?_
                        refine lv_topi (fun v_38 ev_38 => ?_)
                        have hv_38 : v_38.toInt = v_37.toInt + x9_2.toInt := by rw [ev_38]; have := b_rg v_37; have := b_rg x9_2; exact i_add (a := v_37.toInt) (b := x9_2.toInt) rfl rfl (by omega) (by omega)
                        refine va_iald hx hb hK hP 13 0 rfl rfl (vp_inI (by omega) (by omega)) dX12_laysHarmed_106 ?_
                        refine lv_topi (fun v_39 ev_39 => ?_)
                        have hgv_39 : 0 ≤ v_39.toInt ∧ v_39.toInt ≤ 7 := by rw [ev_39]; exact hRr 13 _
                        have hsv_39 : v_39 = gjH (r 13) x3_1.toNatClampNeg x9_2.toNatClampNeg := by rw [ev_39, hEr 13 (by decide)]; exact congrArg (r 13) (by show v_38.toInt.toNat = 20 * x3_1.toInt.toNat + x9_2.toInt.toNat; omega)
                        refine lv_iadd hx hb dX12_laysHarmed_107 ?_
                        refine lv_topi (fun v_40 ev_40 => ?_)
                        have hv_40 : v_40.toInt = v_36.toInt + v_39.toInt := by rw [ev_40]; have := b_rg v_36; have := b_rg v_39; exact i_add (a := v_36.toInt) (b := v_39.toInt) rfl rfl (by omega) (by omega)
                        refine va_iald hx hb hK hP 57 0 rfl rfl (vp_inI (by omega) (by omega)) dX12_laysHarmed_108 ?_
                        refine lv_topi (fun v_41 ev_41 => ?_)
                        have hK8 : v_39.toNatClampNeg < 8 := by show v_39.toInt.toNat < 8; omega
                        have hix : v_40.toNatClampNeg = 8 * x3_1.toNatClampNeg + v_39.toNatClampNeg := by show v_40.toInt.toNat = 8 * x3_1.toInt.toNat + v_39.toInt.toNat; omega
                        have hw9 : v_41.toInt = (fun kd9 : Nat => lkW (lkM J9 (gjH (r 18) x3_1.toNatClampNeg)) (gjH (r 13) x3_1.toNatClampNeg) (gjH (r 14) x3_1.toNatClampNeg) ((kd9 : Nat) : Int) x9_2.toNatClampNeg) (v_39.toNatClampNeg) := by obtain ⟨_, _, _, h3, _⟩ := hx9.2.1; rw [ev_41, hix]; exact h3 _ hK8
                        have hwb : 0 ≤ v_41.toInt ∧ v_41.toInt ≤ 20 := by rw [hw9]; have h9 := lkW_r (S := lkM J9 (gjH (r 18) x3_1.toNatClampNeg)) (fk := gjH (r 13) x3_1.toNatClampNeg) (fs := gjH (r 14) x3_1.toNatClampNeg) (kd := ((v_39.toNatClampNeg : Nat) : Int)) (x9_2.toNatClampNeg); have h8 : x9_2.toNatClampNeg = x9_2.toInt.toNat := rfl; exact ⟨h9.1, by have h7 := h9.2; show lkW _ _ _ _ _ ≤ 20; omega⟩
                        refine lv_iconst (v := 1) hx hb dX12_laysHarmed_109 (by decide) ?_
                        refine lv_iadd hx hb dX12_laysHarmed_110 ?_
                        refine lv_topi (fun v_42 ev_42 => ?_)
                        have hv_42 : v_42.toInt = v_41.toInt + 1 := by rw [ev_42]; have := b_rg v_41; exact i_add (a := v_41.toInt) (b := 1) rfl rfl (by omega) (by omega)
                        refine va_iast hx hb hK hP hD hS 57 0 rfl rfl (vp_inI (by omega) (by omega)) dX12_laysHarmed_111 (fun H locs hP hD hS => ?_)
                        rw [mS57] at hP hD
                        have hRr : mRr (va_up r9 57 (upd (r9 57) v_35.toNatClampNeg v_42)) := Rr_upd hRr 57 (v_35.toNatClampNeg) v_42 (b_rg _)
                        have hEr : mEr [34, 35, 36, 37, 38, 39, 57] _ (va_up r9 57 (upd (r9 57) v_35.toNatClampNeg v_42)) := Er_up hEr 57 _ (by decide)
                        obtain ⟨x_43, ex_43⟩ : ∃ y : Int32, y = x9_2 + 1 := ⟨_, rfl⟩
                        refine lv_iinc (v := x_43) (lv' := [(2, .int x_43), (1, .int x3_1), (0, .ref (a 0))]) hx hb dX12_laysHarmed_112 hl (k := 0) rfl (by rw [ex_43]; rfl) (by decide) rfl (fun ls hl => ?_)
                        have hx_43 : x_43.toInt = x9_2.toInt + 1 := by rw [ex_43]; have := b_rg x9_2; exact i_add (a := x9_2.toInt) (b := 1) rfl rfl (by omega) (by omega)
                        refine lv_goto (tgt := 38) hx hb dX12_laysHarmed_115 (by decide) ?_
                        have hk : x_43.toNatClampNeg = x9_2.toNatClampNeg + 1 := by show x_43.toInt.toNat = x9_2.toInt.toNat + 1; omega
                        have hka : v_34 = v_39 := hsv_34.trans hsv_39.symm
                        have hpx : v_35.toNatClampNeg = 8 * x3_1.toNatClampNeg + v_34.toNatClampNeg := by show v_35.toInt.toNat = 8 * x3_1.toInt.toNat + v_34.toInt.toNat; omega
                        have hkI : (gjH (r 13) x3_1.toNatClampNeg x9_2.toNatClampNeg).toInt = ((v_34.toNatClampNeg : Nat) : Int) := by rw [← hsv_34]; show v_34.toInt = ((v_34.toInt.toNat : Nat) : Int); omega
                        have hxq : v_42.toInt = (fun kd9 : Nat => lkW (lkM J9 (gjH (r 18) x3_1.toNatClampNeg)) (gjH (r 13) x3_1.toNatClampNeg) (gjH (r 14) x3_1.toNatClampNeg) ((kd9 : Nat) : Int) x9_2.toNatClampNeg) (v_34.toNatClampNeg) + 1 := by have h9 := hw9; rw [← hka] at h9; rw [← h9]; omega
                        have hI9 : lkI2 (fun (h9 : Nat) (J9 : Nat → Int32) => gjJ (gjH (r 12) h9) (gjH (r 13) h9) (gjH (r 14) h9) (r 10 h9).toNatClampNeg (gjH (r 16) h9) (gjH (r 17) h9) (gjH (r 18) h9) (r 11 h9).toNatClampNeg 99 J9) (fun (h9 : Nat) (J9 : Nat → Int32) (kd9 : Nat) => lkW (lkM J9 (gjH (r 18) h9)) (gjH (r 13) h9) (gjH (r 14) h9) ((kd9 : Nat) : Int) (r 10 h9).toNatClampNeg) (upd (r9 57) (v_35.toNatClampNeg) v_42) (x3_1.toNatClampNeg) (fun kd9 : Nat => lkW (lkM J9 (gjH (r 18) x3_1.toNatClampNeg)) (gjH (r 13) x3_1.toNatClampNeg) (gjH (r 14) x3_1.toNatClampNeg) ((kd9 : Nat) : Int) x_43.toNatClampNeg) := lkI2_y hx9.2.1 (by rw [hka]; exact hK8) hpx hxq (by show lkW _ _ _ _ (x_43.toNatClampNeg) = _; rw [hk]; exact lkW_y ⟨hkI, hY9⟩) (fun kd _ hne => by show lkW _ _ _ _ (x_43.toNatClampNeg) = _; rw [hk]; exact lkW_n (fun h9 => hne (by have h8 := h9.1; rw [hkI] at h8; omega)))
                        exact ih9 x_43 (va_up r9 57 (upd (r9 57) v_35.toNatClampNeg v_42)) _ _ _ (by first | omega | (simp only [Int.toNat]; omega)) (by first | omega | decide) hRr hEr ⟨hx9.1, hI9, by omega⟩ hP hD hS (lv_sub hl [0, 1, 2] rfl)
              have hI2 : lkI2 (fun (h9 : Nat) (J9 : Nat → Int32) => gjJ (gjH (r 12) h9) (gjH (r 13) h9) (gjH (r 14) h9) (r 10 h9).toNatClampNeg (gjH (r 16) h9) (gjH (r 17) h9) (gjH (r 18) h9) (r 11 h9).toNatClampNeg 99 J9) (fun (h9 : Nat) (J9 : Nat → Int32) (kd9 : Nat) => lkW (lkM J9 (gjH (r 18) h9)) (gjH (r 13) h9) (gjH (r 14) h9) ((kd9 : Nat) : Int) (r 10 h9).toNatClampNeg) (r8 57) (x3_1.toNatClampNeg) (fun kd9 : Nat => lkW (lkM J9 (gjH (r 18) x3_1.toNatClampNeg)) (gjH (r 13) x3_1.toNatClampNeg) (gjH (r 14) x3_1.toNatClampNeg) ((kd9 : Nat) : Int) (0 : Int32).toNatClampNeg) := by rw [hHp]; exact lkI2_0 hx3.1 hh6 (fun kd _ => rfl)
              exact loop_9 _ 0 r8 _ _ _ (Nat.lt_succ_self _) (by first | omega | decide) hRr hEr ⟨hJ9.symm, hI2, by have h9 : (0 : Int32).toInt = 0 := rfl; have h8 : 0 ≤ (r 10 x3_1.toNatClampNeg).toInt := (hRr0 10 _).1; omega⟩ hP hD hS hl
        have h48 : x1_1.toNatClampNeg = 48 := by show x1_1.toInt.toNat = 48; omega
        have hc9 := hx1
        rw [h48] at hc9
        exact loop_3 _ 0 r1 _ _ _ (Nat.lt_succ_self _) (by first | omega | decide) hRr hEr ⟨lkI_0 hc9, by have h9 : (0 : Int32).toInt = 0 := rfl; omega⟩ hP hD hS hl
      · have c_2 : x1_1.toInt < 48 := b_nle c_2
        refine lv_aload_n hx hb dX12_laysHarmed_8 rfl (lv_at hl 1 rfl) ?_
        refine va_get (D := D) (ci := 12) (v := .ref (a 57)) (C := RX12) (T := TX12) (N := 91) hx hb hT iX12 hown hK hP 0 rfl rfl 71 (by decide) (hT _ t_223) (fun _ h9 => h9) rfl dX12_laysHarmed_9 ?_
        refine lv_iload_n hx hb dX12_laysHarmed_12 rfl (lv_at hl 0 rfl) ?_
        refine lv_iconst (v := 0) hx hb dX12_laysHarmed_13 (by decide) ?_
        refine va_iast hx hb hK hP hD hS 57 0 rfl rfl (vp_inI (by omega) (by omega)) dX12_laysHarmed_14 (fun H locs hP hD hS => ?_)
        rw [mS57] at hP hD
        have hRr : mRr (va_up r1 57 (upd (r1 57) x1_1.toNatClampNeg 0)) := Rr_upd hRr 57 (x1_1.toNatClampNeg) 0 (b_rg _)
        have hEr : mEr [34, 35, 36, 37, 38, 39, 57] _ (va_up r1 57 (upd (r1 57) x1_1.toNatClampNeg 0)) := Er_up hEr 57 _ (by decide)
        obtain ⟨x_44, ex_44⟩ : ∃ y : Int32, y = x1_1 + 1 := ⟨_, rfl⟩
        refine lv_iinc (v := x_44) (lv' := [(1, .int x_44), (0, .ref (a 0))]) hx hb dX12_laysHarmed_15 hl (k := 0) rfl (by rw [ex_44]; rfl) (by decide) rfl (fun ls hl => ?_)
        have hx_44 : x_44.toInt = x1_1.toInt + 1 := by rw [ex_44]; have := b_rg x1_1; exact i_add (a := x1_1.toInt) (b := 1) rfl rfl (by omega) (by omega)
        refine lv_goto (tgt := 2) hx hb dX12_laysHarmed_18 (by decide) ?_
        have hk : x_44.toNatClampNeg = x1_1.toNatClampNeg + 1 := by show x_44.toInt.toNat = x1_1.toInt.toNat + 1; omega
        exact ih1 x_44 (va_up r1 57 (upd (r1 57) x1_1.toNatClampNeg 0)) _ _ _ (by first | omega | (simp only [Int.toNat]; omega)) (by first | omega | decide) hRr hEr (fun k hk2 => by show (upd (r1 57) (x1_1.toNatClampNeg) 0 k).toInt = 0; unfold upd; by_cases e9 : k = x1_1.toNatClampNeg; (· rw [if_pos e9]; rfl); (· rw [if_neg e9]; exact hx1 k (by omega))) hP hD hS (lv_sub hl [0, 1] rfl)
  exact loop_1 _ 0 r _ _ _ (Nat.lt_succ_self _) (by first | omega | decide) hRr hEr (fun k hk => absurd (show k < 0 from hk) (Nat.not_lt_zero k)) hP hD hS hl
set_option maxHeartbeats 4000000 in
set_option maxRecDepth 100000 in
theorem c_X12_distance9 (l : Launch) (D : va_G) (cy : Nat → ClassId) (a : Nat → Nat) (i : Nat → Int32) (r : Nat → Nat → Int32) (rl : Nat → Int64) (p0 p1 : Int32) (hRi : mRi i) (hRr : mRr r) (q0 : 0 ≤ p0.toInt ∧ p0.toInt ≤ 5) (q1 : 0 ≤ p1.toInt ∧ p1.toInt ≤ 5) (hh9 : ∀ k9, k9 < 48 → 0 ≤ (r 57 k9).toInt ∧ (r 57 k9).toInt ≤ 20) : Met l yX12_distance (Cond.code yX12_distance cX12_distance 5 (some .int) :: gT) { frames := 2, cells := 0, slots := 0, locals := 45 } (va_Pc [.ref (a 0), .int p0, .int p1] (rP D cy (mW cy a i r rl))) (vp_Si (fun z => z.toInt = lkD ((r 7 p0.toNatClampNeg).toInt - (r 6 p0.toNatClampNeg).toInt) ((r 7 p1.toNatClampNeg).toInt - (r 6 p1.toNatClampNeg).toInt) (fun k9 : Nat => (r 57 (8 * p0.toNatClampNeg + k9)).toInt) (fun k9 : Nat => (r 57 (8 * p1.toNatClampNeg + k9)).toInt))) 0 0 (fun _ => False) := by
  refine Met.ofQ (cc := cX12_distance) (maxL := 5) (ret := (some .int)) (by decide) rfl ?_
  intro p e s m args below meth c s₁ B hml hv Q hQ
  obtain ⟨rfl, hP, hK⟩ := hv
  have hx := B.exec
  have hb := B.bytes
  have hr := B.returns
  have hlocks := B.notSynchronized
  have hT : ∀ w ∈ gT, w.before _ s = true := fun w h => atoms_spec (ws := (Cond.code yX12_distance cX12_distance 5 (some .int) :: gT)) B.pre w (List.mem_cons_of_mem _ h)
  have hown : s.vm.findClass RX12 = some m.cls := findClass_of_methodNamed B.named
  have hl := lv_entry ([.ref (a 0), .int p0, .int p1]) (n := 5) (Nat.le_of_ble_eq_true rfl)
  rw [lg_entry_eq]
  generalize (lg_sl ([.ref (a 0), .int p0, .int p1]) ++ List.replicate (5 - (lg_sl ([.ref (a 0), .int p0, .int p1])).length) Slot.unset).toArray = ls at hl ⊢
  have hl : lv_has ls 5 [(0, .ref (a 0)), (1, .int p0), (2, .int p1)] := hl
  have hEi : mEi [23, 24, 25, 26, 27, 28, 29, 30, 60] i i := Ei_rf
  have hEr : mEr [21, 22, 23, 24, 25, 26, 32, 33, 34, 35, 36, 37, 38, 39, 48, 49, 57, 61, 62] r r := Er_rf
  refine lv_aload_n hx hb dX12_distance_0 rfl (lv_at hl 0 rfl) ?_
  refine lv_iload_n hx hb dX12_distance_1 rfl (lv_at hl 1 rfl) ?_
  refine vp_callSi (W.runV (As := [.int p0]) (rest := []) ⟨hx, hb, hml, hown, hT⟩ (c_X12_monthsOf9 l D cy a i r rl p0 hRi hRr (by omega)) (cwV 1 hT (gV t_20 t_21 t_22 t_23 t_6) rfl rfl rfl (by decide +kernel) ⟨Nat.le_of_ble_eq_true rfl, Nat.le_of_ble_eq_true rfl⟩) (rP_v hP hK (va_recv hK hP (ci := 12) (q0 := 0) rfl rfl)) rfl rfl hl.1 rfl (lv_room (Nat.le_of_ble_eq_true rfl)) dX12_distance_2 ⟨Nat.le_of_ble_eq_true rfl, Nat.le_of_ble_eq_true rfl⟩) (fun r_1 hr_1 => ?_)
  have hqr_1 : r_1.toInt = ((r 7 p0.toNatClampNeg).toInt - (r 6 p0.toNatClampNeg).toInt) := hr_1.1
  have hr_1 : -999 ≤ r_1.toInt ∧ r_1.toInt ≤ 999 := hr_1.2
  refine lv_aload_n hx hb dX12_distance_5 rfl (lv_at hl 0 rfl) ?_
  refine lv_iload_n hx hb dX12_distance_6 rfl (lv_at hl 2 rfl) ?_
  refine vp_callSi (W.runV (As := [.int p1]) (rest := [.int r_1]) ⟨hx, hb, hml, hown, hT⟩ (c_X12_monthsOf9 l D cy a i r rl p1 hRi hRr (by omega)) (cwV 1 hT (gV t_20 t_21 t_22 t_23 t_6) rfl rfl rfl (by decide +kernel) ⟨Nat.le_of_ble_eq_true rfl, Nat.le_of_ble_eq_true rfl⟩) (rP_v hP hK (va_recv hK hP (ci := 12) (q0 := 0) rfl rfl)) rfl rfl hl.1 rfl (lv_room (Nat.le_of_ble_eq_true rfl)) dX12_distance_7 ⟨Nat.le_of_ble_eq_true rfl, Nat.le_of_ble_eq_true rfl⟩) (fun r_2 hr_2 => ?_)
  have hqr_2 : r_2.toInt = ((r 7 p1.toNatClampNeg).toInt - (r 6 p1.toNatClampNeg).toInt) := hr_2.1
  have hr_2 : -999 ≤ r_2.toInt ∧ r_2.toInt ≤ 999 := hr_2.2
  refine lv_isub hx hb dX12_distance_10 ?_
  refine lv_topi (fun v_3 ev_3 => ?_)
  have hv_3 : v_3.toInt = r_1.toInt - r_2.toInt := by rw [ev_3]; have := b_rg r_1; have := b_rg r_2; exact i_sub (a := r_1.toInt) (b := r_2.toInt) rfl rfl (by omega) (by omega)
  refine vp_callSi (W.runS (As := [.int v_3]) (rest := []) ⟨hx, hb, hml, hown, hT⟩ (c_X12_size9 l v_3) (va_cwS 1 hT (gS t_220 t_221 t_222 t_6) rfl rfl rfl (by decide +kernel) ⟨Nat.le_of_ble_eq_true rfl, Nat.le_of_ble_eq_true rfl⟩) preT rfl rfl hl.1 rfl (lv_room (Nat.le_of_ble_eq_true rfl)) dX12_distance_11 ⟨Nat.le_of_ble_eq_true rfl, Nat.le_of_ble_eq_true rfl⟩) (fun r_4 hr_4 => ?_)
  have har_4 : r_4.toInt = lkA v_3.toInt := by rw [(hr_4 : r_4 = ABS v_3)]; exact ABS_A (by omega)
  have hrr_4 : 0 ≤ r_4.toInt ∧ r_4.toInt ≤ 1998 := by rw [har_4]; exact lkA_r (by omega) (by omega)
  refine lv_bipush (v := 12) hx hb dX12_distance_14 (by decide) ?_
  refine lv_idiv hx hb dX12_distance_16 (by decide) ?_
  refine lv_topi (fun v_5 ev_5 => ?_)
  have hdv_5 : v_5.toInt = lkA (((r 7 p0.toNatClampNeg).toInt - (r 6 p0.toNatClampNeg).toInt) - ((r 7 p1.toNatClampNeg).toInt - (r 6 p1.toNatClampNeg).toInt)) / 12 := by rw [ev_5, idiv12 (by omega), har_4, show v_3.toInt = ((r 7 p0.toNatClampNeg).toInt - (r 6 p0.toNatClampNeg).toInt) - ((r 7 p1.toNatClampNeg).toInt - (r 6 p1.toNatClampNeg).toInt) by omega]
  have hbv_5 : 0 ≤ v_5.toInt ∧ v_5.toInt ≤ 166 := by rw [ev_5, idiv12 (by omega)]; omega
  refine lv_istore_n (lv' := [(3, .int v_5), (0, .ref (a 0)), (1, .int p0), (2, .int p1)]) hx hb dX12_distance_17 rfl hl (by decide) rfl (fun ls hl => ?_)
  refine lv_iconst (v := 0) hx hb dX12_distance_18 (by decide) ?_
  refine lv_istore (lv' := [(4, .int 0), (3, .int v_5), (0, .ref (a 0)), (1, .int p0), (2, .int p1)]) hx hb dX12_distance_19 hl (by decide) rfl (fun ls hl => ?_)
  have ha166 : 0 ≤ lkA (((r 7 p0.toNatClampNeg).toInt - (r 6 p0.toNatClampNeg).toInt) - ((r 7 p1.toNatClampNeg).toInt - (r 6 p1.toNatClampNeg).toInt)) / 12 ∧ lkA (((r 7 p0.toNatClampNeg).toInt - (r 6 p0.toNatClampNeg).toInt) - ((r 7 p1.toNatClampNeg).toInt - (r 6 p1.toNatClampNeg).toInt)) / 12 ≤ 166 := by rw [← hdv_5]; exact hbv_5
  have loop_6 : ∀ (n : Nat) (x6_4 : Int32) (x6_3 : Int32) (ls : Array Slot), (8 - x6_4.toInt).toNat < n → (0 ≤ x6_4.toInt ∧ x6_4.toInt ≤ 8) → (0 ≤ x6_3.toInt ∧ x6_3.toInt ≤ 1766) → (x6_3.toInt = lkA (((r 7 p0.toNatClampNeg).toInt - (r 6 p0.toNatClampNeg).toInt) - ((r 7 p1.toNatClampNeg).toInt - (r 6 p1.toNatClampNeg).toInt)) / 12 + lkS (fun k9 : Nat => (r 57 (8 * p0.toNatClampNeg + k9)).toInt) (fun k9 : Nat => (r 57 (8 * p1.toNatClampNeg + k9)).toInt) (x6_4.toNatClampNeg)) → lv_has ls 5 [(4, .int x6_4), (3, .int x6_3), (0, .ref (a 0)), (1, .int p0), (2, .int p1)] → W p l e ({ frames := 2, cells := 0, slots := 0, locals := 45 } : Room) s m ([.ref (a 0), .int p0, .int p1] : List Value).toArray below meth c s.heap [] 0 0 Q (F0 m 21 ls []) := by
    intro n
    induction n with
    | zero =>
      intro x6_4 x6_3 ls hm6 hf6_0 hf6_1 hx6 hl
      exact absurd hm6 (by omega)
    | succ n ih6 =>
      intro x6_4 x6_3 ls hm6 hf6_0 hf6_1 hx6 hl
      refine lv_iload hx hb dX12_distance_21 (lv_at hl 0 rfl) ?_
      refine lv_bipush (v := 8) hx hb dX12_distance_23 (by decide) ?_
      refine lv_icmp_ge (tgt := 68) hx hb dX12_distance_25 (by decide) (fun c_7 => ?_) (fun c_7 => ?_)
      · have c_7 : 8 ≤ x6_4.toInt := b_le c_7
        refine lv_iload_n hx hb dX12_distance_68 rfl (lv_at hl 1 rfl) ?_
        subst hQ
        have h8 : x6_4.toNatClampNeg = 8 := by show x6_4.toInt.toNat = 8; omega
        exact W.iret (v := x6_3) hx hb hr (fun t ht hW => ⟨_, rfl, (by have h9 := hx6; rw [h8] at h9; exact h9), ht⟩) (fun q hq => absurd hq List.not_mem_nil) dX12_distance_69
      · have c_7 : x6_4.toInt < 8 := b_nle c_7
        refine lv_iload_n hx hb dX12_distance_28 rfl (lv_at hl 1 rfl) ?_
        refine lv_bipush (v := 10) hx hb dX12_distance_29 (by decide) ?_
        refine lv_aload_n hx hb dX12_distance_31 rfl (lv_at hl 2 rfl) ?_
        refine va_get (D := D) (ci := 12) (v := .ref (a 57)) (C := RX12) (T := TX12) (N := 91) hx hb hT iX12 hown hK hP 0 rfl rfl 71 (by decide) (hT _ t_223) (fun _ h9 => h9) rfl dX12_distance_32 ?_
        refine lv_bipush (v := 8) hx hb dX12_distance_35 (by decide) ?_
        refine lv_iload_n hx hb dX12_distance_37 rfl (lv_at hl 3 rfl) ?_
        refine lv_imul hx hb dX12_distance_38 ?_
        refine lv_topi (fun v_8 ev_8 => ?_)
        have hv_8 : v_8.toInt = 8 * p0.toInt := by rw [ev_8]; have := b_rg p0; exact i_mul (a := 8) (b := p0.toInt) rfl rfl (by omega) (by omega)
        refine lv_iload hx hb dX12_distance_39 (lv_at hl 0 rfl) ?_
        refine lv_iadd hx hb dX12_distance_41 ?_
        refine lv_topi (fun v_9 ev_9 => ?_)
        have hv_9 : v_9.toInt = v_8.toInt + x6_4.toInt := by rw [ev_9]; have := b_rg v_8; have := b_rg x6_4; exact i_add (a := v_8.toInt) (b := x6_4.toInt) rfl rfl (by omega) (by omega)
        refine va_iald hx hb hK hP 57 0 rfl rfl (vp_inI (by omega) (by omega)) dX12_distance_42 ?_
        refine lv_topi (fun v_10 ev_10 => ?_)
        have hiv_10 : v_9.toNatClampNeg = 8 * p0.toNatClampNeg + x6_4.toNatClampNeg := by show v_9.toInt.toNat = 8 * p0.toInt.toNat + x6_4.toInt.toNat; omega
        have huv_10 : v_10.toInt = (fun k9 : Nat => (r 57 (8 * p0.toNatClampNeg + k9)).toInt) (x6_4.toNatClampNeg) := by rw [ev_10, hiv_10]
        have hbv_10 : 0 ≤ v_10.toInt ∧ v_10.toInt ≤ 20 := by rw [ev_10]; exact hh9 _ (by rw [hiv_10]; show 8 * p0.toInt.toNat + x6_4.toInt.toNat < 48; omega)
        refine lv_aload_n hx hb dX12_distance_43 rfl (lv_at hl 2 rfl) ?_
        refine va_get (D := D) (ci := 12) (v := .ref (a 57)) (C := RX12) (T := TX12) (N := 91) hx hb hT iX12 hown hK hP 0 rfl rfl 71 (by decide) (hT _ t_223) (fun _ h9 => h9) rfl dX12_distance_44 ?_
        refine lv_bipush (v := 8) hx hb dX12_distance_47 (by decide) ?_
        refine lv_iload_n hx hb dX12_distance_49 rfl (lv_at hl 4 rfl) ?_
        refine lv_imul hx hb dX12_distance_50 ?_
        refine lv_topi (fun v_11 ev_11 => ?_)
        have hv_11 : v_11.toInt = 8 * p1.toInt := by rw [ev_11]; have := b_rg p1; exact i_mul (a := 8) (b := p1.toInt) rfl rfl (by omega) (by omega)
        refine lv_iload hx hb dX12_distance_51 (lv_at hl 0 rfl) ?_
        refine lv_iadd hx hb dX12_distance_53 ?_
        refine lv_topi (fun v_12 ev_12 => ?_)
        have hv_12 : v_12.toInt = v_11.toInt + x6_4.toInt := by rw [ev_12]; have := b_rg v_11; have := b_rg x6_4; exact i_add (a := v_11.toInt) (b := x6_4.toInt) rfl rfl (by omega) (by omega)
        refine va_iald hx hb hK hP 57 0 rfl rfl (vp_inI (by omega) (by omega)) dX12_distance_54 ?_
        refine lv_topi (fun v_13 ev_13 => ?_)
        have hiv_13 : v_12.toNatClampNeg = 8 * p1.toNatClampNeg + x6_4.toNatClampNeg := by show v_12.toInt.toNat = 8 * p1.toInt.toNat + x6_4.toInt.toNat; omega
        have huv_13 : v_13.toInt = (fun k9 : Nat => (r 57 (8 * p1.toNatClampNeg + k9)).toInt) (x6_4.toNatClampNeg) := by rw [ev_13, hiv_13]
        have hbv_13 : 0 ≤ v_13.toInt ∧ v_13.toInt ≤ 20 := by rw [ev_13]; exact hh9 _ (by rw [hiv_13]; show 8 * p1.toInt.toNat + x6_4.toInt.toNat < 48; omega)
        refine lv_isub hx hb dX12_distance_55 ?_
        refine lv_topi (fun v_14 ev_14 => ?_)
        have hv_14 : v_14.toInt = v_10.toInt - v_13.toInt := by rw [ev_14]; have := b_rg v_10; have := b_rg v_13; exact i_sub (a := v_10.toInt) (b := v_13.toInt) rfl rfl (by omega) (by omega)
        refine vp_callSi (W.runS (As := [.int v_14]) (rest := [.int 10, .int x6_3]) ⟨hx, hb, hml, hown, hT⟩ (c_X12_size9 l v_14) (va_cwS 1 hT (gS t_220 t_221 t_222 t_6) rfl rfl rfl (by decide +kernel) ⟨Nat.le_of_ble_eq_true rfl, Nat.le_of_ble_eq_true rfl⟩) preT rfl rfl hl.1 rfl (lv_room (Nat.le_of_ble_eq_true rfl)) dX12_distance_56 ⟨Nat.le_of_ble_eq_true rfl, Nat.le_of_ble_eq_true rfl⟩) (fun r_15 hr_15 => ?_)
        have har_15 : r_15.toInt = lkA v_14.toInt := by rw [(hr_15 : r_15 = ABS v_14)]; exact ABS_A (by omega)
        have hrr_15 : 0 ≤ r_15.toInt ∧ r_15.toInt ≤ 20 := by rw [har_15]; exact lkA_r (by omega) (by omega)
        refine lv_imul hx hb dX12_distance_59 ?_
        refine lv_topi (fun v_16 ev_16 => ?_)
        have hv_16 : v_16.toInt = 10 * r_15.toInt := by rw [ev_16]; have := b_rg r_15; exact i_mul (a := 10) (b := r_15.toInt) rfl rfl (by omega) (by omega)
        refine lv_iadd hx hb dX12_distance_60 ?_
        refine lv_topi (fun v_17 ev_17 => ?_)
        have hv_17 : v_17.toInt = x6_3.toInt + v_16.toInt := by rw [ev_17]; have := b_rg x6_3; have := b_rg v_16; exact i_add (a := x6_3.toInt) (b := v_16.toInt) rfl rfl (by omega) (by omega)
        refine lv_istore_n (lv' := [(3, .int v_17), (4, .int x6_4), (0, .ref (a 0)), (1, .int p0), (2, .int p1)]) hx hb dX12_distance_61 rfl hl (by decide) rfl (fun ls hl => ?_)
        obtain ⟨x_18, ex_18⟩ : ∃ y : Int32, y = x6_4 + 1 := ⟨_, rfl⟩
        refine lv_iinc (v := x_18) (lv' := [(4, .int x_18), (3, .int v_17), (0, .ref (a 0)), (1, .int p0), (2, .int p1)]) hx hb dX12_distance_62 hl (k := 1) rfl (by rw [ex_18]; rfl) (by decide) rfl (fun ls hl => ?_)
        have hx_18 : x_18.toInt = x6_4.toInt + 1 := by rw [ex_18]; have := b_rg x6_4; exact i_add (a := x6_4.toInt) (b := 1) rfl rfl (by omega) (by omega)
        refine lv_goto (tgt := 21) hx hb dX12_distance_65 (by decide) ?_
        have hk : x_18.toNatClampNeg = x6_4.toNatClampNeg + 1 := by show x_18.toInt.toNat = x6_4.toInt.toNat + 1; omega
        have hsd : r_15.toInt = lkA ((fun k9 : Nat => (r 57 (8 * p0.toNatClampNeg + k9)).toInt) (x6_4.toNatClampNeg) - (fun k9 : Nat => (r 57 (8 * p1.toNatClampNeg + k9)).toInt) (x6_4.toNatClampNeg)) := by rw [har_15]; exact congrArg lkA (by rw [← huv_10, ← huv_13]; omega)
        have hxq : v_17.toInt = lkA (((r 7 p0.toNatClampNeg).toInt - (r 6 p0.toNatClampNeg).toInt) - ((r 7 p1.toNatClampNeg).toInt - (r 6 p1.toNatClampNeg).toInt)) / 12 + lkS (fun k9 : Nat => (r 57 (8 * p0.toNatClampNeg + k9)).toInt) (fun k9 : Nat => (r 57 (8 * p1.toNatClampNeg + k9)).toInt) (x_18.toNatClampNeg) := by rw [hk, lkS, ← hsd, ← Int.add_assoc, ← hx6]; omega
        have hlb := lkS_r (u := (fun k9 : Nat => (r 57 (8 * p0.toNatClampNeg + k9)).toInt)) (v := (fun k9 : Nat => (r 57 (8 * p1.toNatClampNeg + k9)).toInt)) (x_18.toNatClampNeg) (fun k hk2 => ⟨hh9 _ (by show 8 * p0.toInt.toNat + k < 48; have h9 : x_18.toNatClampNeg = x_18.toInt.toNat := rfl; omega), hh9 _ (by show 8 * p1.toInt.toNat + k < 48; have h9 : x_18.toNatClampNeg = x_18.toInt.toNat := rfl; omega)⟩)
        have hab : 0 ≤ lkA (((r 7 p0.toNatClampNeg).toInt - (r 6 p0.toNatClampNeg).toInt) - ((r 7 p1.toNatClampNeg).toInt - (r 6 p1.toNatClampNeg).toInt)) / 12 ∧ lkA (((r 7 p0.toNatClampNeg).toInt - (r 6 p0.toNatClampNeg).toInt) - ((r 7 p1.toNatClampNeg).toInt - (r 6 p1.toNatClampNeg).toInt)) / 12 ≤ 166 := ha166
        have hyn : ((x_18.toNatClampNeg : Nat) : Int) ≤ 8 := by show ((x_18.toInt.toNat : Nat) : Int) ≤ 8; omega
        exact ih6 x_18 v_17 _ (by first | omega | (simp only [Int.toNat]; omega)) (by first | omega | decide) (by first | omega | decide)  hxq  (lv_sub hl [0, 1, 2, 3, 4] rfl)
  exact loop_6 _ 0 v_5 _ (Nat.lt_succ_self _) (by first | omega | decide) (by first | omega | decide)  (by rw [hdv_5]; show _ = _ + (0 : Int); omega)  hl
set_option maxHeartbeats 4000000 in
set_option maxRecDepth 100000 in
theorem c_X12_like9 (l : Launch) (D : va_G) (cy : Nat → ClassId) (a : Nat → Nat) (i : Nat → Int32) (r : Nat → Nat → Int32) (rl : Nat → Int64) (p0 p1 : Int32) (sz : Nat) (hRi : mRi i) (hRr : mRr r) (hs9 : ∀ h9 : Nat, h9 < (i 0).toNatClampNeg → gjSt (gjH (r 14) h9) (r 10 h9).toNatClampNeg ∧ gjSt (gjH (r 18) h9) (r 11 h9).toNatClampNeg) : Met l yX12_like (Cond.code yX12_like cX12_like 5 (some .int) :: gT) { frames := 6, cells := 0, slots := 0, locals := 148 } (va_Pc [.ref (a 0), .int p0, .int p1] (rQ D cy (mW cy a i r rl) sz)) (va_Qi (fun (z : Int32) (u : Nat → Nat → Int32) => mRr u ∧ mEr [34, 35, 36, 37, 38, 39, 57] r u ∧ ((((0 ≤ p0.toInt ∧ p0.toInt < (i 0).toInt) ∧ (0 ≤ p1.toInt ∧ p1.toInt ≤ 1)) → ((i 0).toInt = 1 → z = -2) ∧ ((i 0).toInt ≠ 1 → ∃ f9 : Nat → Int32, lkI (fun (h9 : Nat) (J9 : Nat → Int32) => gjJ (gjH (r 12) h9) (gjH (r 13) h9) (gjH (r 14) h9) (r 10 h9).toNatClampNeg (gjH (r 16) h9) (gjH (r 17) h9) (gjH (r 18) h9) (r 11 h9).toNatClampNeg 99 J9) (fun (h9 : Nat) (J9 : Nat → Int32) (kd9 : Nat) => lkW (lkM J9 (gjH (r 18) h9)) (gjH (r 13) h9) (gjH (r 14) h9) ((kd9 : Nat) : Int) (r 10 h9).toNatClampNeg) f9 (i 0).toNatClampNeg ∧ lkZ1 (fun g9 : Nat => lkD ((r 7 p0.toNatClampNeg).toInt - (r 6 p0.toNatClampNeg).toInt) ((r 7 g9).toInt - (r 6 g9).toInt) (fun k9 : Nat => (f9 (8 * p0.toNatClampNeg + k9)).toInt) (fun k9 : Nat => (f9 (8 * g9 + k9)).toInt)) p0.toNatClampNeg (i 0).toNatClampNeg p1 z)) ∧ (¬ ((0 ≤ p0.toInt ∧ p0.toInt < (i 0).toInt) ∧ (0 ≤ p1.toInt ∧ p1.toInt ≤ 1)) → z = -1))) (fun (u : Nat → Nat → Int32) t => va_P D vwCl (mW cy a i u rl) t.heap ∧ va_K D vwCl (vT cy) t ∧ va_D (va_A (mW cy a i r rl) sz) (mW cy a i u rl)) (va_A (mW cy a i r rl) sz)) 0 0 (va_A (mW cy a i r rl) sz) := by
  refine Met.ofQ (cc := cX12_like) (maxL := 5) (ret := (some .int)) (by decide) rfl ?_
  intro p e s m args below meth c s₁ B hml hv Q hQ
  obtain ⟨rfl, hsz, hP, hK, hD0⟩ := hv
  have hx := B.exec
  have hb := B.bytes
  have hr := B.returns
  have hlocks := B.notSynchronized
  have hT : ∀ w ∈ gT, w.before _ s = true := fun w h => atoms_spec (ws := (Cond.code yX12_like cX12_like 5 (some .int) :: gT)) B.pre w (List.mem_cons_of_mem _ h)
  have hown : s.vm.findClass RX12 = some m.cls := findClass_of_methodNamed B.named
  subst hsz
  have hD := hD0.self (sz := s.heap.size)
  generalize hAe : va_A (mW cy a i r rl) s.heap.size = A at hD hQ
  have hA : ∀ q : Nat, s.heap.size ≤ q → A q := fun q h => by rw [← hAe]; exact Or.inr h
  have hS : va_S A s.heap s.heap [] := va_S.rf
  have hl := lv_entry ([.ref (a 0), .int p0, .int p1]) (n := 5) (Nat.le_of_ble_eq_true rfl)
  rw [lg_entry_eq]
  generalize (lg_sl ([.ref (a 0), .int p0, .int p1]) ++ List.replicate (5 - (lg_sl ([.ref (a 0), .int p0, .int p1])).length) Slot.unset).toArray = ls at hl ⊢
  have hl : lv_has ls 5 [(0, .ref (a 0)), (1, .int p0), (2, .int p1)] := hl
  have hEi : mEi [23, 24, 25, 26, 27, 28, 29, 30, 60] i i := Ei_rf
  have hEr : mEr [34, 35, 36, 37, 38, 39, 57] r r := Er_rf
  have hRr0 : mRr r := hRr
  have hg0 : 0 ≤ (i 0).toInt ∧ (i 0).toInt ≤ 6 := hRi 0
  refine lv_aload_n hx hb dX12_like_0 rfl (lv_at hl 0 rfl) ?_
  refine lv_iload_n hx hb dX12_like_1 rfl (lv_at hl 1 rfl) ?_
  refine vp_callSi (W.runV (As := [.int p0]) (rest := []) ⟨hx, hb, hml, hown, hT⟩ (c_X12_isHome l D cy a i r rl p0 hRi hRr) (cwV 1 hT (gV t_12 t_13 t_14 t_15 t_6) rfl rfl rfl (by decide +kernel) ⟨Nat.le_of_ble_eq_true rfl, Nat.le_of_ble_eq_true rfl⟩) (rP_v hP hK (va_recv hK hP (ci := 12) (q0 := 0) rfl rfl)) rfl rfl hl.1 rfl (lv_room (Nat.le_of_ble_eq_true rfl)) dX12_like_2 ⟨Nat.le_of_ble_eq_true rfl, Nat.le_of_ble_eq_true rfl⟩) (fun r_1 hr_1 => ?_)
  have hg_2 : 0 ≤ (i 0).toInt ∧ (i 0).toInt ≤ 6 := hRi 0
  have hr_1 : BR r_1 (0 ≤ p0.toInt ∧ p0.toInt < (i 0).toInt) 1 0 := hr_1
  rcases hr_1 with ⟨rfl, h_3⟩ | ⟨rfl, h_3⟩
  · skip
    refine lv_if_eq (tgt := 17) hx hb dX12_like_5 (by decide) (fun c_4 => absurd c_4 (by decide)) (fun c_4 => ?_)
    refine lv_iload_n hx hb dX12_like_8 rfl (lv_at hl 2 rfl) ?_
    refine lv_iconst (v := 0) hx hb dX12_like_9 (by decide) ?_
    refine lv_iconst (v := 1) hx hb dX12_like_10 (by decide) ?_
    refine vp_callSi (W.runS (As := [.int p1, .int 0, .int 1]) (rest := []) ⟨hx, hb, hml, hown, hT⟩ (c_X12_in l p1 0 1) (va_cwS 3 hT (gS t_113 t_114 t_115 t_6) rfl rfl rfl (by decide +kernel) ⟨Nat.le_of_ble_eq_true rfl, Nat.le_of_ble_eq_true rfl⟩) preT rfl rfl hl.1 rfl (lv_room (Nat.le_of_ble_eq_true rfl)) dX12_like_11 ⟨Nat.le_of_ble_eq_true rfl, Nat.le_of_ble_eq_true rfl⟩) (fun r_5 hr_5 => ?_)
    have hr_5 : BR r_5 (0 ≤ p1.toInt ∧ p1.toInt ≤ 1) 1 0 := hr_5
    rcases hr_5 with ⟨rfl, h_6⟩ | ⟨rfl, h_6⟩
    · skip
      refine lv_if_ne (tgt := 19) hx hb dX12_like_14 (by decide) (fun c_7 => ?_) (fun c_7 => absurd c_7 (by decide))
      refine lv_aload_n hx hb dX12_like_19 rfl (lv_at hl 0 rfl) ?_
      refine va_get (D := D) (ci := 12) (v := .int (i 0)) (C := RX12) (T := TX12) (N := 91) hx hb hT iX12 hown hK hP 0 rfl rfl 0 (by decide) (hT _ t_10) (fun _ h9 => h9) rfl dX12_like_20 ?_
      refine lv_iconst (v := 1) hx hb dX12_like_23 (by decide) ?_
      refine lv_icmp_ne (tgt := 30) hx hb dX12_like_24 (by decide) (fun c_8 => ?_) (fun c_8 => ?_)
      · have c_8 : (i 0).toInt ≠ 1 := b_ne c_8
        refine lv_aload_n hx hb dX12_like_30 rfl (lv_at hl 0 rfl) ?_
        have hF_9 := rF hD hS hA
        refine va_callv (va_runV (As := []) (rest := []) ⟨hx, hb, hml, hown, hT⟩ (c_X12_laysHarmed9 l D cy a i r rl _ hRi hRr hs9) (cwV 0 hT (gV t_224 t_225 t_226 t_227 t_6) rfl rfl rfl (by decide +kernel) ⟨Nat.le_of_ble_eq_true rfl, Nat.le_of_ble_eq_true rfl⟩) (rQ_v hP hK hD (va_recv hK hP (ci := 12) (q0 := 0) rfl rfl)) rfl rfl hl.1 rfl (lv_room (Nat.le_of_ble_eq_true rfl)) dX12_like_31 ⟨Nat.le_of_ble_eq_true rfl, Nat.le_of_ble_eq_true rfl⟩) hS (fun q _ h => hF_9 q h) hF_9 (fun u_11 t H1 locs ht hvm hr_10 hB hz1 hk1 hS => ?_)
        obtain ⟨r11, rfl⟩ : ∃ z, z = u_11 := ⟨_, rfl⟩
        obtain ⟨hP, hK1, hD1⟩ := hB
        rw [ht] at hP
        have hD := hD1.weaken (fun k q _ h => hF_9 q.1 h)
        have hP : va_P D vwCl (mW cy a i r11 rl) H1 := hP
        have hD : va_D A (mW cy a i r11 rl) := hD
        obtain ⟨hRr, hE2, hr_10⟩ := hr_10
        have hRr : mRr r11 := hRr
        have hEr : mEr [34, 35, 36, 37, 38, 39, 57] _ r11 := Er_tr hEr hE2 (by decide)
        have hI9 : lkI (fun (h9 : Nat) (J9 : Nat → Int32) => gjJ (gjH (r 12) h9) (gjH (r 13) h9) (gjH (r 14) h9) (r 10 h9).toNatClampNeg (gjH (r 16) h9) (gjH (r 17) h9) (gjH (r 18) h9) (r 11 h9).toNatClampNeg 99 J9) (fun (h9 : Nat) (J9 : Nat → Int32) (kd9 : Nat) => lkW (lkM J9 (gjH (r 18) h9)) (gjH (r 13) h9) (gjH (r 14) h9) ((kd9 : Nat) : Int) (r 10 h9).toNatClampNeg) (r11 57) (i 0).toNatClampNeg := hr_10
        obtain ⟨f9, hf9⟩ : ∃ f : Nat → Int32, f = r11 57 := ⟨_, rfl⟩
        rw [← hf9] at hI9
        obtain ⟨Dq, hDq⟩ : ∃ D : Nat → Int, D = (fun g9 : Nat => lkD ((r 7 p0.toNatClampNeg).toInt - (r 6 p0.toNatClampNeg).toInt) ((r 7 g9).toInt - (r 6 g9).toInt) (fun k9 : Nat => (f9 (8 * p0.toNatClampNeg + k9)).toInt) (fun k9 : Nat => (f9 (8 * g9 + k9)).toInt)) := ⟨_, rfl⟩
        have hB9 : ∀ k9, k9 < 48 → 0 ≤ (r11 57 k9).toInt ∧ (r11 57 k9).toInt ≤ 20 := by rw [← hf9]; exact lkI_b hI9 (fun g J kd => by have h9 := lkW_r (S := lkM J (gjH (r 18) g)) (fk := gjH (r 13) g) (fs := gjH (r 14) g) (kd := ((kd : Nat) : Int)) (r 10 g).toNatClampNeg; have h8 : (r 10 g).toInt ≤ 20 := (hRr0 10 g).2; have h7 : (r 10 g).toNatClampNeg = (r 10 g).toInt.toNat := rfl; exact ⟨h9.1, by have h6 := h9.2; show lkW _ _ _ _ _ ≤ 20; omega⟩)
        have hM6 : r11 6 = r 6 := hE2 6 (by decide)
        have hM7 : r11 7 = r 7 := hE2 7 (by decide)
        refine lv_iconst (v := (-1)) hx hb dX12_like_34 (by decide) ?_
        refine lv_istore_n (lv' := [(3, .int (-1)), (0, .ref (a 0)), (1, .int p0), (2, .int p1)]) hx hb dX12_like_35 rfl hl (by decide) rfl (fun ls hl => ?_)
        refine lv_iconst (v := 0) hx hb dX12_like_36 (by decide) ?_
        refine lv_istore (lv' := [(4, .int 0), (3, .int (-1)), (0, .ref (a 0)), (1, .int p0), (2, .int p1)]) hx hb dX12_like_37 hl (by decide) rfl (fun ls hl => ?_)
        have loop_12 : ∀ (n : Nat) (x12_4 : Int32) (x12_3 : Int32) (H : Heap) (locs : List Loc) (ls : Array Slot), (6 - x12_4.toInt).toNat < n → (0 ≤ x12_4.toInt ∧ x12_4.toInt ≤ 6) → (-1 ≤ x12_3.toInt ∧ x12_3.toInt ≤ 5) → (((x12_3.toInt = -1 ∧ ∀ g9, g9 < x12_4.toNatClampNeg → g9 = p0.toNatClampNeg) ∨ ∃ b9 : Nat, x12_3.toInt = (b9 : Int) ∧ lkB Dq p0.toNatClampNeg (x12_4.toNatClampNeg) b9) ∧ x12_4.toInt ≤ (i 0).toInt) → va_P D vwCl (mW cy a i r11 rl) H → va_D A (mW cy a i r11 rl) → va_S A s.heap H locs → lv_has ls 5 [(4, .int x12_4), (3, .int x12_3), (0, .ref (a 0)), (1, .int p0), (2, .int p1)] → W p l e ({ frames := 6, cells := 0, slots := 0, locals := 148 } : Room) s m ([.ref (a 0), .int p0, .int p1] : List Value).toArray below meth c H locs 0 0 Q (F0 m 39 ls []) := by
          intro n
          induction n with
          | zero =>
            intro x12_4 x12_3 H locs ls hm12 hf12_0 hf12_1 hx12 hP hD hS hl
            exact absurd hm12 (by omega)
          | succ n ih12 =>
            intro x12_4 x12_3 H locs ls hm12 hf12_0 hf12_1 hx12 hP hD hS hl
            refine lv_iload hx hb dX12_like_39 (lv_at hl 0 rfl) ?_
            refine lv_aload_n hx hb dX12_like_41 rfl (lv_at hl 2 rfl) ?_
            refine va_get (D := D) (ci := 12) (v := .int (i 0)) (C := RX12) (T := TX12) (N := 91) hx hb hT iX12 hown hK hP 0 rfl rfl 0 (by decide) (hT _ t_10) (fun _ h9 => h9) rfl dX12_like_42 ?_
            refine lv_icmp_ge (tgt := 84) hx hb dX12_like_45 (by decide) (fun c_13 => ?_) (fun c_13 => ?_)
            · have c_13 : (i 0).toInt ≤ x12_4.toInt := b_le c_13
              have hk : x12_4.toNatClampNeg = (i 0).toNatClampNeg := by show x12_4.toInt.toNat = (i 0).toInt.toNat; omega
              have hpn : ((p0.toNatClampNeg : Nat) : Int) = p0.toInt := by show ((p0.toInt.toNat : Nat) : Int) = _; omega
              have h0n : (((i 0).toNatClampNeg : Nat) : Int) = (i 0).toInt := by show (((i 0).toInt.toNat : Nat) : Int) = _; omega
              subst hDq
              obtain ⟨b8, hb8, hB8⟩ : ∃ b9 : Nat, x12_3.toInt = (b9 : Int) ∧ lkB (fun g9 : Nat => lkD ((r 7 p0.toNatClampNeg).toInt - (r 6 p0.toNatClampNeg).toInt) ((r 7 g9).toInt - (r 6 g9).toInt) (fun k9 : Nat => (f9 (8 * p0.toNatClampNeg + k9)).toInt) (fun k9 : Nat => (f9 (8 * g9 + k9)).toInt)) p0.toNatClampNeg (i 0).toNatClampNeg b9 := by
                rcases hx12.1 with ⟨_, h8⟩ | ⟨b9, h9, h8⟩
                · rw [hk] at h8
                  have h1 := h8 0 (by omega)
                  have h2 := h8 1 (by omega)
                  omega
                · rw [hk] at h8; exact ⟨b9, h9, h8⟩
              have hb7 : x12_3.toNatClampNeg = b8 := by show x12_3.toInt.toNat = b8; omega
              have hb6 := hB8.1
              have hb4 : 0 ≤ x12_3.toInt ∧ x12_3.toInt ≤ 5 := by omega
              refine lv_iload_n hx hb dX12_like_84 rfl (lv_at hl 4 rfl) ?_
              refine lv_if_ne (tgt := 92) hx hb dX12_like_85 (by decide) (fun c_14 => ?_) (fun c_14 => ?_)
              · have c_14 : p1.toInt ≠ 0 := b_ne c_14
                refine lv_aload_n hx hb dX12_like_92 rfl (lv_at hl 2 rfl) ?_
                refine lv_iload_n hx hb dX12_like_93 rfl (lv_at hl 3 rfl) ?_
                refine lv_iload_n hx hb dX12_like_94 rfl (lv_at hl 1 rfl) ?_
                refine vp_callSi (W.runV (As := [.int p0, .int x12_3]) (rest := []) ⟨hx, hb, hml, hown, hT⟩ (c_X12_distance9 l D cy a i r11 rl p0 x12_3 hRi hRr (by omega) (by omega) hB9) (cwV 2 hT (gV t_228 t_229 t_230 t_231 t_6) rfl rfl rfl (by decide +kernel) ⟨Nat.le_of_ble_eq_true rfl, Nat.le_of_ble_eq_true rfl⟩) (rP_v hP hK (va_recv hK hP (ci := 12) (q0 := 0) rfl rfl)) rfl rfl hl.1 rfl (lv_room (Nat.le_of_ble_eq_true rfl)) dX12_like_95 ⟨Nat.le_of_ble_eq_true rfl, Nat.le_of_ble_eq_true rfl⟩) (fun r_15 hr_15 => ?_)
                have hqr_15 : r_15.toInt = lkD ((r11 7 p0.toNatClampNeg).toInt - (r11 6 p0.toNatClampNeg).toInt) ((r11 7 x12_3.toNatClampNeg).toInt - (r11 6 x12_3.toNatClampNeg).toInt) (fun k9 : Nat => (r11 57 (8 * p0.toNatClampNeg + k9)).toInt) (fun k9 : Nat => (r11 57 (8 * x12_3.toNatClampNeg + k9)).toInt) := hr_15
                subst hQ
                have hz8 : r_15.toInt = (fun g9 : Nat => lkD ((r 7 p0.toNatClampNeg).toInt - (r 6 p0.toNatClampNeg).toInt) ((r 7 g9).toInt - (r 6 g9).toInt) (fun k9 : Nat => (f9 (8 * p0.toNatClampNeg + k9)).toInt) (fun k9 : Nat => (f9 (8 * g9 + k9)).toInt)) b8 := by have h9 := hqr_15; rw [hM6, hM7, ← hf9, hb7] at h9; exact h9
                have hz9 : lkZ1 (fun g9 : Nat => lkD ((r 7 p0.toNatClampNeg).toInt - (r 6 p0.toNatClampNeg).toInt) ((r 7 g9).toInt - (r 6 g9).toInt) (fun k9 : Nat => (f9 (8 * p0.toNatClampNeg + k9)).toInt) (fun k9 : Nat => (f9 (8 * g9 + k9)).toInt)) p0.toNatClampNeg (i 0).toNatClampNeg p1 r_15 := ⟨b8, hB8, fun h8 => absurd h8 (by omega), fun _ => hz8⟩
                clear hB9 hs9
                exact W.iret (v := r_15) hx hb hr (fun t ht hW => ⟨⟨_, r11, rfl, ⟨hRr, hEr, ⟨fun _ => ⟨fun h8 => absurd h8 (by omega), fun _ => ⟨f9, hI9, hz9⟩⟩, fun h9 => absurd (by omega) h9⟩⟩, by rw [ht]; exact hP, va_K.moved hW.alike hK, hD⟩, hS.F ht⟩) hS.2.2 dX12_like_98
              · have c_14 : p1.toInt = 0 := b_nne c_14
                refine lv_iload_n hx hb dX12_like_88 rfl (lv_at hl 1 rfl) ?_
                refine lv_goto (tgt := 98) hx hb dX12_like_89 (by decide) ?_
                subst hQ
                have hz9 : lkZ1 (fun g9 : Nat => lkD ((r 7 p0.toNatClampNeg).toInt - (r 6 p0.toNatClampNeg).toInt) ((r 7 g9).toInt - (r 6 g9).toInt) (fun k9 : Nat => (f9 (8 * p0.toNatClampNeg + k9)).toInt) (fun k9 : Nat => (f9 (8 * g9 + k9)).toInt)) p0.toNatClampNeg (i 0).toNatClampNeg p1 x12_3 := ⟨b8, hB8, fun _ => hb8, fun h8 => absurd (by omega) h8⟩
                clear hB9 hs9
                exact W.iret (v := x12_3) hx hb hr (fun t ht hW => ⟨⟨_, r11, rfl, ⟨hRr, hEr, ⟨fun _ => ⟨fun h8 => absurd h8 (by omega), fun _ => ⟨f9, hI9, hz9⟩⟩, fun h9 => absurd (by omega) h9⟩⟩, by rw [ht]; exact hP, va_K.moved hW.alike hK, hD⟩, hS.F ht⟩) hS.2.2 dX12_like_98
            · have c_13 : x12_4.toInt < (i 0).toInt := b_nle c_13
              refine lv_iload hx hb dX12_like_48 (lv_at hl 0 rfl) ?_
              refine lv_iload_n hx hb dX12_like_50 rfl (lv_at hl 3 rfl) ?_
              refine lv_icmp_eq (tgt := 78) hx hb dX12_like_51 (by decide) (fun c_16 => ?_) (fun c_16 => ?_)
              · have c_16 : x12_4.toInt = p0.toInt := b_eq c_16
                obtain ⟨x_17, ex_17⟩ : ∃ y : Int32, y = x12_4 + 1 := ⟨_, rfl⟩
                refine lv_iinc (v := x_17) (lv' := [(4, .int x_17), (3, .int x12_3), (0, .ref (a 0)), (1, .int p0), (2, .int p1)]) hx hb dX12_like_78 hl (k := 0) rfl (by rw [ex_17]; rfl) (by decide) rfl (fun ls hl => ?_)
                have hx_17 : x_17.toInt = x12_4.toInt + 1 := by rw [ex_17]; have := b_rg x12_4; exact i_add (a := x12_4.toInt) (b := 1) rfl rfl (by omega) (by omega)
                refine lv_goto (tgt := 39) hx hb dX12_like_81 (by decide) ?_
                have hk : x_17.toNatClampNeg = x12_4.toNatClampNeg + 1 := by show x_17.toInt.toNat = x12_4.toInt.toNat + 1; omega
                have hxn : ((x12_4.toNatClampNeg : Nat) : Int) = x12_4.toInt := by show ((x12_4.toInt.toNat : Nat) : Int) = _; omega
                have hpn : ((p0.toNatClampNeg : Nat) : Int) = p0.toInt := by show ((p0.toInt.toNat : Nat) : Int) = _; omega
                have hh : x12_4.toNatClampNeg = p0.toNatClampNeg := by omega
                have hI8 : (x12_3.toInt = -1 ∧ ∀ g9, g9 < x_17.toNatClampNeg → g9 = p0.toNatClampNeg) ∨ ∃ b9 : Nat, x12_3.toInt = (b9 : Int) ∧ lkB Dq p0.toNatClampNeg (x_17.toNatClampNeg) b9 := by
                  rw [hk]
                  rcases hx12.1 with ⟨h9, h8⟩ | ⟨b9, h9, h8⟩
                  · exact Or.inl ⟨h9, fun g9 h7 => (Nat.lt_succ_iff_lt_or_eq.mp h7).elim (fun h6 => h8 g9 h6) (fun h6 => h6.trans hh)⟩
                  · exact Or.inr ⟨b9, h9, lkB_k h8 (Or.inl hh)⟩
                exact ih12 x_17 x12_3 _ _ _ (bk6 hm12 hx_17 c_13 hg0.2) (by first | omega | decide) (by first | omega | decide)  ⟨hI8, by omega⟩ hP hD hS (lv_sub hl [0, 1, 2, 3, 4] rfl)
              · have c_16 : x12_4.toInt ≠ p0.toInt := b_ne c_16
                refine lv_iload_n hx hb dX12_like_54 rfl (lv_at hl 1 rfl) ?_
                refine lv_iconst (v := (-1)) hx hb dX12_like_55 (by decide) ?_
                refine lv_icmp_eq (tgt := 75) hx hb dX12_like_56 (by decide) (fun c_18 => ?_) (fun c_18 => ?_)
                · have c_18 : x12_3.toInt = (-1) := b_eq c_18
                  refine lv_iload hx hb dX12_like_75 (lv_at hl 0 rfl) ?_
                  refine lv_istore_n (lv' := [(3, .int x12_4), (4, .int x12_4), (0, .ref (a 0)), (1, .int p0), (2, .int p1)]) hx hb dX12_like_77 rfl hl (by decide) rfl (fun ls hl => ?_)
                  obtain ⟨x_19, ex_19⟩ : ∃ y : Int32, y = x12_4 + 1 := ⟨_, rfl⟩
                  refine lv_iinc (v := x_19) (lv' := [(4, .int x_19), (3, .int x12_4), (0, .ref (a 0)), (1, .int p0), (2, .int p1)]) hx hb dX12_like_78 hl (k := 1) rfl (by rw [ex_19]; rfl) (by decide) rfl (fun ls hl => ?_)
                  have hx_19 : x_19.toInt = x12_4.toInt + 1 := by rw [ex_19]; have := b_rg x12_4; exact i_add (a := x12_4.toInt) (b := 1) rfl rfl (by omega) (by omega)
                  refine lv_goto (tgt := 39) hx hb dX12_like_81 (by decide) ?_
                  have hk : x_19.toNatClampNeg = x12_4.toNatClampNeg + 1 := by show x_19.toInt.toNat = x12_4.toInt.toNat + 1; omega
                  have hxn : ((x12_4.toNatClampNeg : Nat) : Int) = x12_4.toInt := by show ((x12_4.toInt.toNat : Nat) : Int) = _; omega
                  have hpn : ((p0.toNatClampNeg : Nat) : Int) = p0.toInt := by show ((p0.toInt.toNat : Nat) : Int) = _; omega
                  have hh : x12_4.toNatClampNeg ≠ p0.toNatClampNeg := fun h9 => by omega
                  have hI8 : ∀ g9, g9 < x12_4.toNatClampNeg → g9 = p0.toNatClampNeg := by rcases hx12.1 with ⟨_, h8⟩ | ⟨b9, h9, _⟩; (· exact h8); (· exact absurd h9 (by omega))
                  exact ih12 x_19 x12_4 _ _ _ (bk6 hm12 hx_19 c_13 hg0.2) (by first | omega | decide) (by first | omega | decide)  ⟨Or.inr ⟨x12_4.toNatClampNeg, hxn.symm, by rw [hk]; exact lkB_0 hI8 hh⟩, by omega⟩ hP hD hS (lv_sub hl [0, 1, 2, 3, 4] rfl)
                · have c_18 : x12_3.toInt ≠ (-1) := b_ne c_18
                  obtain ⟨b8, hb8, hB8⟩ : ∃ b9 : Nat, x12_3.toInt = (b9 : Int) ∧ lkB Dq p0.toNatClampNeg (x12_4.toNatClampNeg) b9 := by rcases hx12.1 with ⟨h9, _⟩ | h9; (· exact absurd h9 (by omega)); (· exact h9)
                  have hb7 : x12_3.toNatClampNeg = b8 := by show x12_3.toInt.toNat = b8; omega
                  have hb6 := hB8.1
                  have hb5 : ((x12_4.toNatClampNeg : Nat) : Int) = x12_4.toInt := by show ((x12_4.toInt.toNat : Nat) : Int) = _; omega
                  have hb4 : 0 ≤ x12_3.toInt ∧ x12_3.toInt ≤ 5 := by omega
                  refine lv_aload_n hx hb dX12_like_59 rfl (lv_at hl 2 rfl) ?_
                  refine lv_iload_n hx hb dX12_like_60 rfl (lv_at hl 3 rfl) ?_
                  refine lv_iload hx hb dX12_like_61 (lv_at hl 0 rfl) ?_
                  refine vp_callSi (W.runV (As := [.int p0, .int x12_4]) (rest := []) ⟨hx, hb, hml, hown, hT⟩ (c_X12_distance9 l D cy a i r11 rl p0 x12_4 hRi hRr (by omega) (by omega) hB9) (cwV 2 hT (gV t_228 t_229 t_230 t_231 t_6) rfl rfl rfl (by decide +kernel) ⟨Nat.le_of_ble_eq_true rfl, Nat.le_of_ble_eq_true rfl⟩) (rP_v hP hK (va_recv hK hP (ci := 12) (q0 := 0) rfl rfl)) rfl rfl hl.1 rfl (lv_room (Nat.le_of_ble_eq_true rfl)) dX12_like_63 ⟨Nat.le_of_ble_eq_true rfl, Nat.le_of_ble_eq_true rfl⟩) (fun r_20 hr_20 => ?_)
                  have hqr_20 : r_20.toInt = lkD ((r11 7 p0.toNatClampNeg).toInt - (r11 6 p0.toNatClampNeg).toInt) ((r11 7 x12_4.toNatClampNeg).toInt - (r11 6 x12_4.toNatClampNeg).toInt) (fun k9 : Nat => (r11 57 (8 * p0.toNatClampNeg + k9)).toInt) (fun k9 : Nat => (r11 57 (8 * x12_4.toNatClampNeg + k9)).toInt) := hr_20
                  have hD63 : r_20.toInt = Dq (x12_4.toNatClampNeg) := by have h9 := hqr_20; rw [hM6, hM7, ← hf9] at h9; rw [hDq]; exact h9
                  refine lv_aload_n hx hb dX12_like_66 rfl (lv_at hl 2 rfl) ?_
                  refine lv_iload_n hx hb dX12_like_67 rfl (lv_at hl 3 rfl) ?_
                  refine lv_iload_n hx hb dX12_like_68 rfl (lv_at hl 1 rfl) ?_
                  refine vp_callSi (W.runV (As := [.int p0, .int x12_3]) (rest := [.int r_20]) ⟨hx, hb, hml, hown, hT⟩ (c_X12_distance9 l D cy a i r11 rl p0 x12_3 hRi hRr (by omega) (by omega) hB9) (cwV 2 hT (gV t_228 t_229 t_230 t_231 t_6) rfl rfl rfl (by decide +kernel) ⟨Nat.le_of_ble_eq_true rfl, Nat.le_of_ble_eq_true rfl⟩) (rP_v hP hK (va_recv hK hP (ci := 12) (q0 := 0) rfl rfl)) rfl rfl hl.1 rfl (lv_room (Nat.le_of_ble_eq_true rfl)) dX12_like_69 ⟨Nat.le_of_ble_eq_true rfl, Nat.le_of_ble_eq_true rfl⟩) (fun r_21 hr_21 => ?_)
                  have hqr_21 : r_21.toInt = lkD ((r11 7 p0.toNatClampNeg).toInt - (r11 6 p0.toNatClampNeg).toInt) ((r11 7 x12_3.toNatClampNeg).toInt - (r11 6 x12_3.toNatClampNeg).toInt) (fun k9 : Nat => (r11 57 (8 * p0.toNatClampNeg + k9)).toInt) (fun k9 : Nat => (r11 57 (8 * x12_3.toNatClampNeg + k9)).toInt) := hr_21
                  have hD66 : r_21.toInt = Dq (x12_3.toNatClampNeg) := by have h9 := hqr_21; rw [hM6, hM7, ← hf9] at h9; rw [hDq]; exact h9
                  refine lv_icmp_ge (tgt := 78) hx hb dX12_like_72 (by decide) (fun c_22 => ?_) (fun c_22 => ?_)
                  · have c_22 : r_21.toInt ≤ r_20.toInt := b_le c_22
                    obtain ⟨x_23, ex_23⟩ : ∃ y : Int32, y = x12_4 + 1 := ⟨_, rfl⟩
                    refine lv_iinc (v := x_23) (lv' := [(4, .int x_23), (3, .int x12_3), (0, .ref (a 0)), (1, .int p0), (2, .int p1)]) hx hb dX12_like_78 hl (k := 0) rfl (by rw [ex_23]; rfl) (by decide) rfl (fun ls hl => ?_)
                    have hx_23 : x_23.toInt = x12_4.toInt + 1 := by rw [ex_23]; have := b_rg x12_4; exact i_add (a := x12_4.toInt) (b := 1) rfl rfl (by omega) (by omega)
                    refine lv_goto (tgt := 39) hx hb dX12_like_81 (by decide) ?_
                    have hk : x_23.toNatClampNeg = x12_4.toNatClampNeg + 1 := by show x_23.toInt.toNat = x12_4.toInt.toNat + 1; omega
                    have hxn : ((x12_4.toNatClampNeg : Nat) : Int) = x12_4.toInt := by show ((x12_4.toInt.toNat : Nat) : Int) = _; omega
                    have hpn : ((p0.toNatClampNeg : Nat) : Int) = p0.toInt := by show ((p0.toInt.toNat : Nat) : Int) = _; omega
                    have hh : x12_4.toNatClampNeg ≠ p0.toNatClampNeg := fun h9 => by omega
                    exact ih12 x_23 x12_3 _ _ _ (bk6 hm12 hx_23 c_13 hg0.2) (by first | omega | decide) (by first | omega | decide)  ⟨Or.inr ⟨b8, hb8, by rw [hk]; exact lkB_k hB8 (Or.inr (by rw [hb7] at hD66; clear hI9 hB8; omega))⟩, by omega⟩ hP hD hS (lv_sub hl [0, 1, 2, 3, 4] rfl)
                  · have c_22 : r_20.toInt < r_21.toInt := b_nle c_22
                    refine lv_iload hx hb dX12_like_75 (lv_at hl 0 rfl) ?_
                    refine lv_istore_n (lv' := [(3, .int x12_4), (4, .int x12_4), (0, .ref (a 0)), (1, .int p0), (2, .int p1)]) hx hb dX12_like_77 rfl hl (by decide) rfl (fun ls hl => ?_)
                    obtain ⟨x_24, ex_24⟩ : ∃ y : Int32, y = x12_4 + 1 := ⟨_, rfl⟩
                    refine lv_iinc (v := x_24) (lv' := [(4, .int x_24), (3, .int x12_4), (0, .ref (a 0)), (1, .int p0), (2, .int p1)]) hx hb dX12_like_78 hl (k := 1) rfl (by rw [ex_24]; rfl) (by decide) rfl (fun ls hl => ?_)
                    have hx_24 : x_24.toInt = x12_4.toInt + 1 := by rw [ex_24]; have := b_rg x12_4; exact i_add (a := x12_4.toInt) (b := 1) rfl rfl (by omega) (by omega)
                    refine lv_goto (tgt := 39) hx hb dX12_like_81 (by decide) ?_
                    have hk : x_24.toNatClampNeg = x12_4.toNatClampNeg + 1 := by show x_24.toInt.toNat = x12_4.toInt.toNat + 1; omega
                    have hxn : ((x12_4.toNatClampNeg : Nat) : Int) = x12_4.toInt := by show ((x12_4.toInt.toNat : Nat) : Int) = _; omega
                    have hpn : ((p0.toNatClampNeg : Nat) : Int) = p0.toInt := by show ((p0.toInt.toNat : Nat) : Int) = _; omega
                    have hh : x12_4.toNatClampNeg ≠ p0.toNatClampNeg := fun h9 => by omega
                    exact ih12 x_24 x12_4 _ _ _ (bk6 hm12 hx_24 c_13 hg0.2) (by first | omega | decide) (by first | omega | decide)  ⟨Or.inr ⟨x12_4.toNatClampNeg, hxn.symm, by rw [hk]; exact lkB_s hB8 hh (by rw [hb7] at hD66; clear hI9 hB8; omega)⟩, by omega⟩ hP hD hS (lv_sub hl [0, 1, 2, 3, 4] rfl)
        exact loop_12 _ 0 (-1) _ _ _ (Nat.lt_succ_self _) (by first | omega | decide) (by first | omega | decide)  ⟨Or.inl ⟨by decide, fun g9 h9 => absurd (show g9 < 0 from h9) (Nat.not_lt_zero g9)⟩, by have h9 : (0 : Int32).toInt = 0 := rfl; omega⟩ hP hD hS hl
      · have c_8 : (i 0).toInt = 1 := b_nne c_8
        refine lv_bipush (v := (-2)) hx hb dX12_like_27 (by decide) ?_
        subst hQ
        exact W.iret (v := (-2)) hx hb hr (fun t ht hW => ⟨⟨_, r, rfl, ⟨hRr, hEr, ⟨fun _ => ⟨fun _ => rfl, fun h8 => absurd (by omega) h8⟩, fun h9 => absurd (by omega) h9⟩⟩, by rw [ht]; exact hP, va_K.moved hW.alike hK, hD⟩, hS.F ht⟩) hS.2.2 dX12_like_29
    · skip
      refine lv_if_ne (tgt := 19) hx hb dX12_like_14 (by decide) (fun c_25 => absurd (by decide) c_25) (fun c_25 => ?_)
      refine lv_iconst (v := (-1)) hx hb dX12_like_17 (by decide) ?_
      subst hQ
      exact W.iret (v := (-1)) hx hb hr (fun t ht hW => ⟨⟨_, r, rfl, ⟨hRr, hEr, ⟨fun h9 => absurd h9 (by omega), fun _ => rfl⟩⟩, by rw [ht]; exact hP, va_K.moved hW.alike hK, hD⟩, hS.F ht⟩) hS.2.2 dX12_like_18
  · skip
    refine lv_if_eq (tgt := 17) hx hb dX12_like_5 (by decide) (fun c_26 => ?_) (fun c_26 => absurd (by decide) c_26)
    refine lv_iconst (v := (-1)) hx hb dX12_like_17 (by decide) ?_
    subst hQ
    exact W.iret (v := (-1)) hx hb hr (fun t ht hW => ⟨⟨_, r, rfl, ⟨hRr, hEr, ⟨fun h9 => absurd h9 (by omega), fun _ => rfl⟩⟩, by rw [ht]; exact hP, va_K.moved hW.alike hK, hD⟩, hS.F ht⟩) hS.2.2 dX12_like_18
