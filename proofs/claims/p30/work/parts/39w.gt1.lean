-- counted by kind: sums over the claims
def sumB (V : Nat → Int32) : Nat → Int32
  | 0 => 0
  | n + 1 => sumB V n + V n
theorem sumB_co {V W : Nat → Int32} : ∀ {n : Nat}, (∀ c, c < n → V c = W c) → sumB V n = sumB W n
  | 0, _ => rfl
  | n + 1, h => by
    show sumB V n + V n = sumB W n + W n
    rw [sumB_co (n := n) (fun c hc => h c (by omega)), h n (by omega)]
theorem sumB_s {V : Nat → Int32} {k k2 : Nat} {x y z : Int32} (hx : x = sumB V k) (ek : k2 = k + 1) (hy : y = V k) (hz : z = x + y) : z = sumB V k2 := by
  subst ek hx hy hz; rfl
theorem sumB_u {V : Nat → Int32} {n m : Nat} {v : Int32} (h : m ≤ n) : sumB (upd V n v) m = sumB V m := sumB_co (fun c hc => by unfold upd; exact if_neg (by omega))
-- no award is below nothing
theorem dv_n {x s : Int32} (hx : 0 ≤ x.toInt) (hs : 1 ≤ s.toInt) : 0 ≤ (x / s).toInt ∧ (x / s).toInt ≤ x.toInt := by
  have hne : s ≠ -1 := fun h => by rw [h] at hs; exact absurd hs (by decide)
  rw [Int32.toInt_div_of_ne_right _ _ hne, Int.tdiv_eq_ediv_of_nonneg hx]
  exact ⟨Int.ediv_nonneg hx (by omega), Int.ediv_le_self _ hx⟩
theorem pr_r {p b x y : Int} (h1 : 0 ≤ p) (h2 : p ≤ x) (h3 : 0 ≤ b) (h4 : b ≤ y) : 0 ≤ p * b ∧ p * b ≤ x * y := ⟨Int.mul_nonneg h1 h3, Int.mul_le_mul h2 h4 h3 (by omega)⟩
theorem WOR_r {life price age : Int32} (h1 : 1 ≤ life.toInt ∧ life.toInt ≤ 360) (h2 : 0 ≤ price.toInt ∧ price.toInt ≤ 99999) (h3 : -999 ≤ age.toInt ∧ age.toInt ≤ 9999) : 0 ≤ (WOR life price age).toInt ∧ (WOR life price age).toInt ≤ 135898641 := by
  unfold WOR
  by_cases h : age.toInt < life.toInt
  · rw [if_pos h]
    have ha : (life - age).toInt = life.toInt - age.toInt := i_sub rfl rfl (by omega) (by omega)
    obtain ⟨p, hp⟩ : ∃ p, p = price.toInt := ⟨_, rfl⟩
    obtain ⟨b, hb⟩ : ∃ b, b = life.toInt - age.toInt := ⟨_, rfl⟩
    obtain ⟨m1, m2⟩ := pr_r (p := p) (b := b) (x := 99999) (y := 1359) (by omega) (by omega) (by omega) (by omega)
    have hm : (price * (life - age)).toInt = p * b := i_mul hp.symm (ha.trans hb.symm) (by omega) (by omega)
    have hd := dv_n (x := price * (life - age)) (s := life) (by rw [hm]; exact m1) h1.1
    rw [hm] at hd
    exact ⟨hd.1, by omega⟩
  · rw [if_neg h]; exact ⟨by decide, by decide⟩
theorem lsT_n {s w o wo : Int32} (hs : 1 ≤ s.toInt ∧ s.toInt ≤ 9) (hw : 0 ≤ w.toInt ∧ w.toInt ≤ 9) (ho : 0 ≤ o.toInt ∧ o.toInt ≤ 99) (hwo : 0 ≤ wo.toInt ∧ wo.toInt ≤ 135898641) : 0 ≤ (lsT s w o wo).toInt := by
  have h1 : (s - w).toInt = s.toInt - w.toInt := i_sub rfl rfl (by omega) (by omega)
  obtain ⟨m, hm⟩ : ∃ m : Int32, m = if (s - w).toInt < 0 then 0 else s - w := ⟨_, rfl⟩
  have hm2 : 0 ≤ m.toInt ∧ m.toInt ≤ 9 := by
    rw [hm]
    by_cases h : (s - w).toInt < 0
    · rw [if_pos h]; exact ⟨by decide, by decide⟩
    · rw [if_neg h]; omega
  have h2 : (m - o).toInt = m.toInt - o.toInt := i_sub rfl rfl (by omega) (by omega)
  unfold lsT
  rw [← hm]
  by_cases h : (m - o).toInt ≤ 0
  · rw [if_pos h]; decide
  · rw [if_neg h]
    obtain ⟨p, hp⟩ : ∃ p, p = wo.toInt := ⟨_, rfl⟩
    obtain ⟨b, hb⟩ : ∃ b, b = m.toInt - o.toInt := ⟨_, rfl⟩
    obtain ⟨m1, m2⟩ := pr_r (p := p) (b := b) (x := 135898641) (y := 9) (by omega) (by omega) (by omega) (by omega)
    have hx : (wo * (m - o)).toInt = p * b := i_mul hp.symm (h2.trans hb.symm) (by omega) (by omega)
    exact (dv_n (by rw [hx]; exact m1) hs.1).1
theorem awV_n {d : lwT} {fa : Nat → Int32} {lost ag R : Int32} (hl : 0 ≤ lost.toInt) (ha : 0 ≤ ag.toInt) : 0 ≤ (awV d fa lost ag R).toInt := by
  unfold awV awP
  by_cases h1 : R.toInt = 1
  · rw [if_pos h1]; decide
  rw [if_neg h1]
  by_cases h2 : R.toInt = 2 ∨ R.toInt = 3
  · rw [if_pos h2]; exact hl
  rw [if_neg h2]
  by_cases h3 : R.toInt = 5 ∨ R.toInt = 7
  · rw [if_pos h3]
    by_cases h4 : (lost * byL d fa 112 100 100 / 100).toInt < ag.toInt
    · rw [if_pos h4]; exact ha
    · rw [if_neg h4]; omega
  · rw [if_neg h3]; exact ha
theorem lkM_n {r : Nat → Nat → Int32} {J : Nat → Int32} {h k : Nat} (hR : mRr r) : 0 ≤ (nI (lkM J (gjH (r 18) h) k).toNat).toInt ∧ (nI (lkM J (gjH (r 18) h) k).toNat).toInt ≤ 99 := by
  have h1 : 0 ≤ lkM J (gjH (r 18) h) k ∧ lkM J (gjH (r 18) h) k ≤ 99 := by
    unfold lkM
    by_cases e : (J k).toInt = 99
    · rw [if_pos e]; exact ⟨by decide, by decide⟩
    · rw [if_neg e]
      have h9 : 0 ≤ (gjH (r 18) h (J k).toNatClampNeg).toInt ∧ (gjH (r 18) h (J k).toNatClampNeg).toInt ≤ 9 := hR 18 _
      omega
  rw [nI_toInt (by omega)]
  omega
theorem mLs_n {d : lwT} {r : Nat → Nat → Int32} {J : Nat → Int32} {h k : Nat} (hR : mRr r) (hs : 1 ≤ (r 14 (20 * h + k)).toInt) : 0 ≤ (mLs d r J h k).toInt := by
  have h14 : 0 ≤ (r 14 (20 * h + k)).toInt ∧ (r 14 (20 * h + k)).toInt ≤ 9 := hR 14 _
  have h7 : 0 ≤ (r 7 h).toInt ∧ (r 7 h).toInt ≤ 999 := hR 7 _
  have h6 : 0 ≤ (r 6 h).toInt ∧ (r 6 h).toInt ≤ 999 := hR 6 _
  have h15 : 0 ≤ (r 15 (20 * h + k)).toInt ∧ (r 15 (20 * h + k)).toInt ≤ 360 := hR 15 _
  have hm : (r 7 h - r 6 h).toInt = (r 7 h).toInt - (r 6 h).toInt := i_sub rfl rfl (by omega) (by omega)
  have ha : (r 15 (20 * h + k) + (r 7 h - r 6 h)).toInt = (r 15 (20 * h + k)).toInt + ((r 7 h).toInt - (r 6 h).toInt) := i_add rfl hm (by omega) (by omega)
  have hw : 0 ≤ (mWo r h k).toInt ∧ (mWo r h k).toInt ≤ 135898641 := WOR_r (hR 1 _) (hR 2 _) (by omega)
  exact lsT_n ⟨hs, h14.2⟩ (byL_r (hi := 9) (by decide) ⟨by decide, by decide⟩) (lkM_n hR) hw
theorem mAV_n {d : lwT} {r : Nat → Nat → Int32} {J : Nat → Int32} {c : Nat} {day : Int32} (hR : mRr r) (hs : 1 ≤ (r 14 (20 * (r 40 c).toNatClampNeg + (r 41 c).toNatClampNeg)).toInt) : 0 ≤ (mAV d r J c day).toInt := by
  have h45 : 0 ≤ (r 45 c).toInt ∧ (r 45 c).toInt ≤ 999999 := hR 45 _
  exact awV_n (mLs_n hR hs) h45.1
-- the class: what hangs on the rows that its scratch doesn't touch
def mx0f (l : Int32) : Int32 := if l.toInt < 0 then 0 else l
theorem mx0f_n {l : Int32} (h : 0 ≤ l.toInt) : mx0f l = l := if_neg (by omega)
section XFRAME
variable {d : lwT} {i : Nat → Int32} {r R : Nat → Nat → Int32} {c k : Nat} {day e f : Int32} {T : List Nat}
theorem xTh_E (h : mEr T r R) (hT : ∀ p ∈ ([66, 67, 68, 69, 73, 75] : List Nat), p ∉ T) : xTh i R k e f = xTh i r k e f := by
  unfold xTh
  rw [h 66 (hT _ (by decide)), h 67 (hT _ (by decide)), h 68 (hT _ (by decide)), h 69 (hT _ (by decide)), h 73 (hT _ (by decide)), h 75 (hT _ (by decide))]
theorem xWo_E (h : mEr T r R) (hT : ∀ p ∈ ([2, 3, 67, 69] : List Nat), p ∉ T) : xWo i R k = xWo i r k := by
  unfold xWo
  rw [h 2 (hT _ (by decide)), h 3 (hT _ (by decide)), h 67 (hT _ (by decide)), h 69 (hT _ (by decide))]
theorem xLs_E (h : mEr T r R) (hT : ∀ p ∈ ([2, 3, 66, 67, 68, 69, 73, 75] : List Nat), p ∉ T) : xLs d i R k = xLs d i r k := by
  unfold xLs xWe
  rw [xTh_E h (fun p hp => hT p (by revert p; decide)), xWo_E h (fun p hp => hT p (by revert p; decide)), h 68 (hT _ (by decide)), h 73 (hT _ (by decide)), h 75 (hT _ (by decide))]
theorem xAV_E (h : mEr T r R) (hT : ∀ p ∈ ([2, 3, 31, 32, 33, 34, 35, 36, 37, 66, 67, 68, 69, 73, 75] : List Nat), p ∉ T) : xAV d i R c day = xAV d i r c day := by
  have h31 := h 31 (hT _ (by decide))
  have e1 : xFa i R c = xFa i r c := by
    unfold xFa
    rw [xTh_E h (fun p hp => hT p (by revert p; decide)), h31, h 32 (hT _ (by decide)), h 33 (hT _ (by decide))]
  have e2 : xLc d i R c = xLc d i r c := by
    unfold xLc
    rw [xLs_E h (fun p hp => hT p (by revert p; decide)), h31]
  unfold xAV xAR
  rw [e1, e2, h 33 (hT _ (by decide)), h 34 (hT _ (by decide)), h 35 (hT _ (by decide)), h 36 (hT _ (by decide)), h 37 (hT _ (by decide))]
end XFRAME
theorem mixR_Er {T : List Nat} {r R s : Nat → Nat → Int32} (h : mEr T r R) : mEr T (mixR r s) (mixR R s) := by
  intro p hp
  unfold mixR
  by_cases e : p < 61
  · rw [if_pos e, if_pos e]; exact h p hp
  · rw [if_neg e, if_neg e]
def xBV (d : lwT) (i : Nat → Int32) (r : Nat → Nat → Int32) (gi : Nat → Nat → Int32) (gr : Nat → Nat → Nat → Int32) (p0 p1 : Int32) (c : Nat) : Int32 := if gr (r 30 c).toNatClampNeg 67 (r 31 c).toNatClampNeg = p0 then mx0f (if p1.toInt < (r 34 c).toInt then -2 else xAV d (mixI i (gi (r 30 c).toNatClampNeg)) (mixR r (gr (r 30 c).toNatClampNeg)) c p1) else 0
theorem xBV_n {d : lwT} {i : Nat → Int32} {r : Nat → Nat → Int32} {gi : Nat → Nat → Int32} {gr : Nat → Nat → Nat → Int32} {p0 p1 : Int32} {c : Nat} (h : gr (r 30 c).toNatClampNeg 67 (r 31 c).toNatClampNeg ≠ p0) : xBV d i r gi gr p0 p1 c = 0 := if_neg h
theorem xBV_y {d : lwT} {i : Nat → Int32} {r : Nat → Nat → Int32} {gi : Nat → Nat → Int32} {gr : Nat → Nat → Nat → Int32} {p0 p1 : Int32} {c : Nat} (h : gr (r 30 c).toNatClampNeg 67 (r 31 c).toNatClampNeg = p0) : xBV d i r gi gr p0 p1 c = mx0f (if p1.toInt < (r 34 c).toInt then -2 else xAV d (mixI i (gi (r 30 c).toNatClampNeg)) (mixR r (gr (r 30 c).toNatClampNeg)) c p1) := if_pos h
def mBV (Pc : Nat → Prop) (i : Nat → Int32) (r : Nat → Nat → Int32) (p1 : Int32) (c : Nat) (v : Int32) : Prop := (¬ (Pc c ∧ (r 44 c).toInt ≤ p1.toInt) → v = 0) ∧ ((Pc c ∧ (r 44 c).toInt ≤ p1.toInt) → ∃ J9 : Nat → Int32, gjJ (gjH (r 12) ((r 40 c).toNatClampNeg)) (gjH (r 13) ((r 40 c).toNatClampNeg)) (gjH (r 14) ((r 40 c).toNatClampNeg)) (r 10 ((r 40 c).toNatClampNeg)).toNatClampNeg (gjH (r 16) ((r 40 c).toNatClampNeg)) (gjH (r 17) ((r 40 c).toNatClampNeg)) (gjH (r 18) ((r 40 c).toNatClampNeg)) (r 11 ((r 40 c).toNatClampNeg)).toNatClampNeg 99 J9 ∧ v = mAV (mD i r) r J9 c p1)
def mBX (Pc : Nat → Prop) (i : Nat → Int32) (r : Nat → Nat → Int32) (p1 : Int32) (n : Nat) (t : Int32) : Prop := ∃ V : Nat → Int32, (∀ c, c < n → mBV Pc i r p1 c (V c)) ∧ t = sumB V n
theorem mBX_0 {Pc : Nat → Prop} {i : Nat → Int32} {r : Nat → Nat → Int32} {p1 : Int32} : mBX Pc i r p1 0 0 := ⟨fun _ => 0, fun c hc => absurd hc (Nat.not_lt_zero c), rfl⟩
theorem mBX_s {Pc : Nat → Prop} {i : Nat → Int32} {r : Nat → Nat → Int32} {p1 t t2 v : Int32} {n n2 : Nat} (h : mBX Pc i r p1 n t) (hv : mBV Pc i r p1 n v) (e : t2 = t + v) (en : n2 = n + 1) : mBX Pc i r p1 n2 t2 := by
  obtain ⟨V, h1, h2⟩ := h
  subst en
  have hu : upd V n v n = v := by unfold upd; exact if_pos rfl
  refine ⟨upd V n v, fun c hc => ?_, ?_⟩
  · by_cases ec : c = n
    · rw [ec, hu]; exact hv
    · rw [show upd V n v c = V c from by unfold upd; exact if_neg ec]; exact h1 c (by omega)
  · rw [e, h2]
    show _ = sumB (upd V n v) n + upd V n v n
    rw [hu, sumB_u (Nat.le_refl _)]
def mPk (r : Nat → Nat → Int32) (p0 : Int32) (c : Nat) : Prop := r 13 (20 * (r 40 c).toNatClampNeg + (r 41 c).toNatClampNeg) = p0
set_option maxHeartbeats 4000000 in
set_option maxRecDepth 100000 in
theorem c_X12_byKind9 (l : Launch) (D : va_G) (cy : Nat → ClassId) (a : Nat → Nat) (i : Nat → Int32) (r : Nat → Nat → Int32) (rl : Nat → Int64) (p0 p1 : Int32) (sz : Nat) (hRi : mRi i) (hRr : mRr r) (hE : mE i r) (hs9 : ∀ c : Nat, (c : Int) < (i 51).toInt → gjSt (gjH (r 14) ((r 40 c).toNatClampNeg)) (r 10 ((r 40 c).toNatClampNeg)).toNatClampNeg ∧ gjSt (gjH (r 18) ((r 40 c).toNatClampNeg)) (r 11 ((r 40 c).toNatClampNeg)).toNatClampNeg) : Met l yX12_byKind (Cond.code yX12_byKind cX12_byKind 5 (some .int) :: gT) { frames := 7, cells := 0, slots := 0, locals := 168 } (va_Pc [.ref (a 0), .int p0, .int p1] (rQ D cy (mW cy a i r rl) sz)) (va_Qi (fun (z : Int32) (u : (Nat → Int32) × (Nat → Nat → Int32)) => mRi u.1 ∧ mRr u.2 ∧ mEi [23, 24, 25, 26, 27, 28, 29, 30, 60] i u.1 ∧ mEr [32, 33, 34, 35, 36, 37, 38, 39] r u.2 ∧ ((((0 ≤ p0.toInt ∧ p0.toInt ≤ 7) ∧ (0 ≤ p1.toInt ∧ p1.toInt ≤ 9999)) → mBX (mPk r p0) i r p1 (i 51).toNatClampNeg z) ∧ (¬ ((0 ≤ p0.toInt ∧ p0.toInt ≤ 7) ∧ (0 ≤ p1.toInt ∧ p1.toInt ≤ 9999)) → z = -1))) (fun (u : (Nat → Int32) × (Nat → Nat → Int32)) t => va_P D vwCl (mW cy a u.1 u.2 rl) t.heap ∧ va_K D vwCl (vT cy) t ∧ va_D (va_A (mW cy a i r rl) sz) (mW cy a u.1 u.2 rl)) (va_A (mW cy a i r rl) sz)) 0 0 (va_A (mW cy a i r rl) sz) := by
  refine Met.ofQ (cc := cX12_byKind) (maxL := 5) (ret := (some .int)) (by decide) rfl ?_
  intro p e s m args below meth c s₁ B hml hv Q hQ
  obtain ⟨rfl, hsz, hP, hK, hD0⟩ := hv
  have hx := B.exec
  have hb := B.bytes
  have hr := B.returns
  have hlocks := B.notSynchronized
  have hT : ∀ w ∈ gT, w.before _ s = true := fun w h => atoms_spec (ws := (Cond.code yX12_byKind cX12_byKind 5 (some .int) :: gT)) B.pre w (List.mem_cons_of_mem _ h)
  have hown : s.vm.findClass RX12 = some m.cls := findClass_of_methodNamed B.named
  subst hsz
  have hD := hD0.self (sz := s.heap.size)
  generalize hAe : va_A (mW cy a i r rl) s.heap.size = A at hD hQ
  have hA : ∀ q : Nat, s.heap.size ≤ q → A q := fun q h => by rw [← hAe]; exact Or.inr h
  have hS : va_S A s.heap s.heap [] := va_S.rf
  have hl := lv_entry ([.ref (a 0), .int p0, .int p1]) (n := 5) (Nat.le_of_ble_eq_true rfl)
  rw [lg_entry_eq]
  generalize (lg_sl ([.ref (a 0), .int p0, .int p1]) ++ List.replicate (5 - (lg_sl ([.ref (a 0), .int p0, .int p1])).length) Slot.unset).toArray = ls at hl ⊢
  have hl : lv_has ls 5 [(0, .ref (a 0)), (1, .int p0), (2, .int p1)] := hl
  have hEi : mEi [23, 24, 25, 26, 27, 28, 29, 30, 60] i i := Ei_rf
  have hEr : mEr [32, 33, 34, 35, 36, 37, 38, 39] r r := Er_rf
  have hg51 : 0 ≤ (i 51).toInt ∧ (i 51).toInt ≤ 30 := hRi 51
  refine lv_iload_n hx hb dX12_byKind_0 rfl (lv_at hl 1 rfl) ?_
  refine vp_callSi (W.runS (As := [.int p0]) (rest := []) ⟨hx, hb, hml, hown, hT⟩ (c_X12_isKind l p0) (va_cwS 1 hT (gS t_5 t_7 t_8 t_6) rfl rfl rfl (by decide +kernel) ⟨Nat.le_of_ble_eq_true rfl, Nat.le_of_ble_eq_true rfl⟩) preT rfl rfl hl.1 rfl (lv_room (Nat.le_of_ble_eq_true rfl)) dX12_byKind_1 ⟨Nat.le_of_ble_eq_true rfl, Nat.le_of_ble_eq_true rfl⟩) (fun r_1 hr_1 => ?_)
  have hr_1 : BR r_1 (0 ≤ p0.toInt ∧ p0.toInt ≤ 7) 1 0 := hr_1
  rcases hr_1 with ⟨rfl, h_2⟩ | ⟨rfl, h_2⟩
  · skip
    refine lv_if_eq (tgt := 14) hx hb dX12_byKind_4 (by decide) (fun c_3 => absurd c_3 (by decide)) (fun c_3 => ?_)
    refine lv_iload_n hx hb dX12_byKind_7 rfl (lv_at hl 2 rfl) ?_
    refine vp_callSi (W.runS (As := [.int p1]) (rest := []) ⟨hx, hb, hml, hown, hT⟩ (c_X12_isDay l p1) (va_cwS 1 hT (gS t_157 t_158 t_159 t_6) rfl rfl rfl (by decide +kernel) ⟨Nat.le_of_ble_eq_true rfl, Nat.le_of_ble_eq_true rfl⟩) preT rfl rfl hl.1 rfl (lv_room (Nat.le_of_ble_eq_true rfl)) dX12_byKind_8 ⟨Nat.le_of_ble_eq_true rfl, Nat.le_of_ble_eq_true rfl⟩) (fun r_4 hr_4 => ?_)
    have hr_4 : BR r_4 (0 ≤ p1.toInt ∧ p1.toInt ≤ 9999) 1 0 := hr_4
    rcases hr_4 with ⟨rfl, h_5⟩ | ⟨rfl, h_5⟩
    · skip
      refine lv_if_ne (tgt := 16) hx hb dX12_byKind_11 (by decide) (fun c_6 => ?_) (fun c_6 => absurd c_6 (by decide))
      refine lv_iconst (v := 0) hx hb dX12_byKind_16 (by decide) ?_
      refine lv_istore_n (lv' := [(3, .int 0), (0, .ref (a 0)), (1, .int p0), (2, .int p1)]) hx hb dX12_byKind_17 rfl hl (by decide) rfl (fun ls hl => ?_)
      refine lv_iconst (v := 0) hx hb dX12_byKind_18 (by decide) ?_
      refine lv_istore (lv' := [(4, .int 0), (3, .int 0), (0, .ref (a 0)), (1, .int p0), (2, .int p1)]) hx hb dX12_byKind_19 hl (by decide) rfl (fun ls hl => ?_)
      have loop_7 : ∀ (n : Nat) (x7_4 : Int32) (x7_3 : Int32) (i7 : Nat → Int32) (r7 : Nat → Nat → Int32) (H : Heap) (locs : List Loc) (ls : Array Slot), (30 - x7_4.toInt).toNat < n → (0 ≤ x7_4.toInt ∧ x7_4.toInt ≤ 30) → mRi i7 → mEi [23, 24, 25, 26, 27, 28, 29, 30, 60] i i7 → mRr r7 → mEr [32, 33, 34, 35, 36, 37, 38, 39] r r7 → (x7_4.toInt ≤ (i 51).toInt ∧ mBX (mPk r p0) i r p1 x7_4.toNatClampNeg x7_3) → va_P D vwCl (mW cy a i7 r7 rl) H → va_D A (mW cy a i7 r7 rl) → va_S A s.heap H locs → lv_has ls 5 [(4, .int x7_4), (3, .int x7_3), (0, .ref (a 0)), (1, .int p0), (2, .int p1)] → W p l e ({ frames := 7, cells := 0, slots := 0, locals := 168 } : Room) s m ([.ref (a 0), .int p0, .int p1] : List Value).toArray below meth c H locs 0 0 Q (F0 m 21 ls []) := by
        intro n
        induction n with
        | zero =>
          intro x7_4 x7_3 i7 r7 H locs ls hm7 hf7_0 hRi hEi hRr hEr hx7 hP hD hS hl
          exact absurd hm7 (by omega)
        | succ n ih7 =>
          intro x7_4 x7_3 i7 r7 H locs ls hm7 hf7_0 hRi hEi hRr hEr hx7 hP hD hS hl
          refine lv_iload hx hb dX12_byKind_21 (lv_at hl 0 rfl) ?_
          refine lv_aload_n hx hb dX12_byKind_23 rfl (lv_at hl 2 rfl) ?_
          refine va_get (D := D) (ci := 12) (v := .int (i7 51)) (C := RX12) (T := TX12) (N := 91) hx hb hT iX12 hown hK hP 0 rfl rfl 51 (by decide) (hT _ t_11) (fun _ h9 => h9) rfl dX12_byKind_24 ?_
          have hg_8 : 0 ≤ (i7 51).toInt ∧ (i7 51).toInt ≤ 30 := hRi 51
          refine lv_icmp_ge (tgt := 88) hx hb dX12_byKind_27 (by decide) (fun c_9 => ?_) (fun c_9 => ?_)
          · have c_9 : (i7 51).toInt ≤ x7_4.toInt := b_le c_9
            have hi51 : (i7 51).toInt = (i 51).toInt := congrArg Int32.toInt (hEi 51 (by decide))
            refine lv_iload_n hx hb dX12_byKind_88 rfl (lv_at hl 1 rfl) ?_
            subst hQ
            exact W.iret (v := x7_3) hx hb hr (fun t ht hW => ⟨⟨_, (i7, r7), rfl, ⟨hRi, hRr, hEi, hEr, ⟨fun _ => (by have h8 := hx7.1; have h9 := hx7.2; rw [show x7_4.toNatClampNeg = (i 51).toNatClampNeg from (by show x7_4.toInt.toNat = (i 51).toInt.toNat; omega)] at h9; exact h9), fun h9 => absurd (by omega) h9⟩⟩, by rw [ht]; exact hP, va_K.moved hW.alike hK, hD⟩, hS.F ht⟩) hS.2.2 dX12_byKind_89
          · have c_9 : x7_4.toInt < (i7 51).toInt := b_nle c_9
            have hi51 : (i7 51).toInt = (i 51).toInt := congrArg Int32.toInt (hEi 51 (by decide))
            refine lv_iload_n hx hb dX12_byKind_30 rfl (lv_at hl 1 rfl) ?_
            refine lv_aload_n hx hb dX12_byKind_31 rfl (lv_at hl 2 rfl) ?_
            refine va_get (D := D) (ci := 12) (v := .ref (a 13)) (C := RX12) (T := TX12) (N := 91) hx hb hT iX12 hown hK hP 0 rfl rfl 14 (by decide) (hT _ t_24) (fun _ h9 => h9) rfl dX12_byKind_32 ?_
            refine lv_bipush (v := 20) hx hb dX12_byKind_35 (by decide) ?_
            refine lv_aload_n hx hb dX12_byKind_37 rfl (lv_at hl 2 rfl) ?_
            refine va_get (D := D) (ci := 12) (v := .ref (a 40)) (C := RX12) (T := TX12) (N := 91) hx hb hT iX12 hown hK hP 0 rfl rfl 52 (by decide) (hT _ t_75) (fun _ h9 => h9) rfl dX12_byKind_38 ?_
            refine lv_iload hx hb dX12_byKind_41 (lv_at hl 0 rfl) ?_
            refine va_iald hx hb hK hP 40 0 rfl rfl (vp_inI (by omega) (by omega)) dX12_byKind_43 ?_
            refine lv_topi (fun v_10 ev_10 => ?_)
            have hgv_10 : 0 ≤ v_10.toInt ∧ v_10.toInt ≤ 5 := by rw [ev_10]; exact hRr 40 _
            have hsv_10 : v_10 = r 40 x7_4.toNatClampNeg := ev_10.trans (congrFun (hEr 40 (by decide)) _)
            have htv_10 : v_10.toInt = (r 40 x7_4.toNatClampNeg).toInt := congrArg Int32.toInt hsv_10
            refine lv_imul hx hb dX12_byKind_44 ?_
            refine lv_topi (fun v_11 ev_11 => ?_)
            have hv_11 : v_11.toInt = 20 * v_10.toInt := by rw [ev_11]; have := b_rg v_10; exact i_mul (a := 20) (b := v_10.toInt) rfl rfl (by omega) (by omega)
            refine lv_aload_n hx hb dX12_byKind_45 rfl (lv_at hl 2 rfl) ?_
            refine va_get (D := D) (ci := 12) (v := .ref (a 41)) (C := RX12) (T := TX12) (N := 91) hx hb hT iX12 hown hK hP 0 rfl rfl 53 (by decide) (hT _ t_76) (fun _ h9 => h9) rfl dX12_byKind_46 ?_
            refine lv_iload hx hb dX12_byKind_49 (lv_at hl 0 rfl) ?_
            refine va_iald hx hb hK hP 41 0 rfl rfl (vp_inI (by omega) (by omega)) dX12_byKind_51 ?_
            refine lv_topi (fun v_12 ev_12 => ?_)
            have hgv_12 : 0 ≤ v_12.toInt ∧ v_12.toInt ≤ 19 := by rw [ev_12]; exact hRr 41 _
            have hsv_12 : v_12 = r 41 x7_4.toNatClampNeg := ev_12.trans (congrFun (hEr 41 (by decide)) _)
            have htv_12 : v_12.toInt = (r 41 x7_4.toNatClampNeg).toInt := congrArg Int32.toInt hsv_12
            refine lv_iadd hx hb dX12_byKind_52 ?_
            refine lv_topi (fun v_13 ev_13 => ?_)
            have hv_13 : v_13.toInt = v_11.toInt + v_12.toInt := by rw [ev_13]; have := b_rg v_11; have := b_rg v_12; exact i_add (a := v_11.toInt) (b := v_12.toInt) rfl rfl (by omega) (by omega)
            refine va_iald hx hb hK hP 13 0 rfl rfl (vp_inI (by omega) (by omega)) dX12_byKind_53 ?_
            refine lv_topi (fun v_14 ev_14 => ?_)
            have hgv_14 : 0 ≤ v_14.toInt ∧ v_14.toInt ≤ 7 := by rw [ev_14]; exact hRr 13 _
            have hk9 : v_14 = r 13 (20 * (r 40 x7_4.toNatClampNeg).toNatClampNeg + (r 41 x7_4.toNatClampNeg).toNatClampNeg) := by rw [ev_14, hEr 13 (by decide)]; exact congrArg (r 13) (by show v_13.toInt.toNat = 20 * (r 40 x7_4.toNatClampNeg).toInt.toNat + (r 41 x7_4.toNatClampNeg).toInt.toNat; rw [← htv_10, ← htv_12]; omega)
            have hkt : v_14.toInt = (r 13 (20 * (r 40 x7_4.toNatClampNeg).toNatClampNeg + (r 41 x7_4.toNatClampNeg).toNatClampNeg)).toInt := congrArg Int32.toInt hk9
            refine lv_iload_n hx hb dX12_byKind_54 rfl (lv_at hl 3 rfl) ?_
            refine lv_icmp_ne (tgt := 79) hx hb dX12_byKind_55 (by decide) (fun c_15 => ?_) (fun c_15 => ?_)
            · have c_15 : v_14.toInt ≠ p0.toInt := b_ne c_15
              have hbv : mBV (mPk r p0) i r p1 x7_4.toNatClampNeg 0 := ⟨fun _ => rfl, fun h9 => absurd (congrArg Int32.toInt (show r 13 (20 * (r 40 x7_4.toNatClampNeg).toNatClampNeg + (r 41 x7_4.toNatClampNeg).toNatClampNeg) = p0 from h9.1)) (by have h8 : v_14.toInt ≠ p0.toInt := (by omega); rw [← hkt]; exact h8)⟩
              refine lv_iconst (v := 0) hx hb dX12_byKind_79 (by decide) ?_
              refine lv_iadd hx hb dX12_byKind_80 ?_
              refine lv_topi (fun v_16 ev_16 => ?_)
              have hv_16 : v_16.toInt = x7_3.toInt + 0 := by rw [ev_16]; have := b_rg x7_3; exact i_add (a := x7_3.toInt) (b := 0) rfl rfl (by omega) (by omega)
              refine lv_istore_n (lv' := [(3, .int v_16), (4, .int x7_4), (0, .ref (a 0)), (1, .int p0), (2, .int p1)]) hx hb dX12_byKind_81 rfl hl (by decide) rfl (fun ls hl => ?_)
              obtain ⟨x_17, ex_17⟩ : ∃ y : Int32, y = x7_4 + 1 := ⟨_, rfl⟩
              refine lv_iinc (v := x_17) (lv' := [(4, .int x_17), (3, .int v_16), (0, .ref (a 0)), (1, .int p0), (2, .int p1)]) hx hb dX12_byKind_82 hl (k := 1) rfl (by rw [ex_17]; rfl) (by decide) rfl (fun ls hl => ?_)
              have hx_17 : x_17.toInt = x7_4.toInt + 1 := by rw [ex_17]; have := b_rg x7_4; exact i_add (a := x7_4.toInt) (b := 1) rfl rfl (by omega) (by omega)
              refine lv_goto (tgt := 21) hx hb dX12_byKind_85 (by decide) ?_
              exact ih7 x_17 v_16 i7 r7 _ _ _ (by first | omega | (simp only [Int.toNat]; omega)) (by first | omega | decide) hRi hEi hRr hEr ⟨by omega, mBX_s hx7.2 hbv ev_16 (show x_17.toInt.toNat = x7_4.toInt.toNat + 1 by omega)⟩ hP hD hS (lv_sub hl [0, 1, 2, 3, 4] rfl)
            · have c_15 : v_14.toInt = p0.toInt := b_nne c_15
              refine lv_aload_n hx hb dX12_byKind_58 rfl (lv_at hl 2 rfl) ?_
              refine va_get (D := D) (ci := 12) (v := .ref (a 44)) (C := RX12) (T := TX12) (N := 91) hx hb hT iX12 hown hK hP 0 rfl rfl 56 (by decide) (hT _ t_139) (fun _ h9 => h9) rfl dX12_byKind_59 ?_
              refine lv_iload hx hb dX12_byKind_62 (lv_at hl 0 rfl) ?_
              refine va_iald hx hb hK hP 44 0 rfl rfl (vp_inI (by omega) (by omega)) dX12_byKind_64 ?_
              refine lv_topi (fun v_18 ev_18 => ?_)
              have hgv_18 : 0 ≤ v_18.toInt ∧ v_18.toInt ≤ 9999 := by rw [ev_18]; exact hRr 44 _
              have hsv_18 : v_18 = r 44 x7_4.toNatClampNeg := ev_18.trans (congrFun (hEr 44 (by decide)) _)
              have htv_18 : v_18.toInt = (r 44 x7_4.toNatClampNeg).toInt := congrArg Int32.toInt hsv_18
              have hErP := hEr
              have hEiP := hEi
              refine lv_iload_n hx hb dX12_byKind_65 rfl (lv_at hl 4 rfl) ?_
              refine lv_icmp_gt (tgt := 79) hx hb dX12_byKind_66 (by decide) (fun c_19 => ?_) (fun c_19 => ?_)
              · have c_19 : p1.toInt < v_18.toInt := b_lt c_19
                have hbv : mBV (mPk r p0) i r p1 x7_4.toNatClampNeg 0 := ⟨fun _ => rfl, fun h9 => absurd h9.2 (by rw [← htv_18]; omega)⟩
                refine lv_iconst (v := 0) hx hb dX12_byKind_79 (by decide) ?_
                refine lv_iadd hx hb dX12_byKind_80 ?_
                refine lv_topi (fun v_20 ev_20 => ?_)
                have hv_20 : v_20.toInt = x7_3.toInt + 0 := by rw [ev_20]; have := b_rg x7_3; exact i_add (a := x7_3.toInt) (b := 0) rfl rfl (by omega) (by omega)
                refine lv_istore_n (lv' := [(3, .int v_20), (4, .int x7_4), (0, .ref (a 0)), (1, .int p0), (2, .int p1)]) hx hb dX12_byKind_81 rfl hl (by decide) rfl (fun ls hl => ?_)
                obtain ⟨x_21, ex_21⟩ : ∃ y : Int32, y = x7_4 + 1 := ⟨_, rfl⟩
                refine lv_iinc (v := x_21) (lv' := [(4, .int x_21), (3, .int v_20), (0, .ref (a 0)), (1, .int p0), (2, .int p1)]) hx hb dX12_byKind_82 hl (k := 1) rfl (by rw [ex_21]; rfl) (by decide) rfl (fun ls hl => ?_)
                have hx_21 : x_21.toInt = x7_4.toInt + 1 := by rw [ex_21]; have := b_rg x7_4; exact i_add (a := x7_4.toInt) (b := 1) rfl rfl (by omega) (by omega)
                refine lv_goto (tgt := 21) hx hb dX12_byKind_85 (by decide) ?_
                exact ih7 x_21 v_20 i7 r7 _ _ _ (by first | omega | (simp only [Int.toNat]; omega)) (by first | omega | decide) hRi hEi hRr hEr ⟨by omega, mBX_s hx7.2 hbv ev_20 (show x_21.toInt.toNat = x7_4.toInt.toNat + 1 by omega)⟩ hP hD hS (lv_sub hl [0, 1, 2, 3, 4] rfl)
              · have c_19 : v_18.toInt ≤ p1.toInt := b_nlt c_19
                refine lv_aload_n hx hb dX12_byKind_69 rfl (lv_at hl 2 rfl) ?_
                refine lv_iload hx hb dX12_byKind_70 (lv_at hl 0 rfl) ?_
                refine lv_iload_n hx hb dX12_byKind_72 rfl (lv_at hl 4 rfl) ?_
                have hF_22 := rF hD hS hA
                refine va_calli (va_runV (As := [.int x7_4, .int p1]) (rest := [.int x7_3]) ⟨hx, hb, hml, hown, hT⟩ (c_X12_awardOf9 l D cy a i7 r7 rl x7_4 p1 _ hRi hRr (mE_same hEi hEr (by decide) (by decide) hE) (by omega) (by have h9 := hs9 x7_4.toNatClampNeg (by have h9_x7_4 : x7_4.toNatClampNeg = x7_4.toInt.toNat := rfl; omega); rw [hEr 14 (by decide), hEr 10 (by decide), hEr 18 (by decide), hEr 11 (by decide), hEr 40 (by decide)]; exact h9)) (cwV 2 hT (gV t_160 t_161 t_162 t_163 t_6) rfl rfl rfl (by decide +kernel) ⟨Nat.le_of_ble_eq_true rfl, Nat.le_of_ble_eq_true rfl⟩) (rQ_v hP hK hD (va_recv hK hP (ci := 12) (q0 := 0) rfl rfl)) rfl rfl hl.1 rfl (lv_room (Nat.le_of_ble_eq_true rfl)) dX12_byKind_73 ⟨Nat.le_of_ble_eq_true rfl, Nat.le_of_ble_eq_true rfl⟩) hS (fun q _ h => hF_22 q h) hF_22 (fun r_23 u_24 t H1 locs ht hvm hr_23 hB hz1 hk1 hS => ?_)
                obtain ⟨i24, r24⟩ := u_24
                obtain ⟨hP, hK1, hD1⟩ := hB
                rw [ht] at hP
                have hD := hD1.weaken (fun k q _ h => hF_22 q.1 h)
                have hP : va_P D vwCl (mW cy a i24 r24 rl) H1 := hP
                have hD : va_D A (mW cy a i24 r24 rl) := hD
                obtain ⟨hRi, hRr, hE1, hE2, hr_23⟩ := hr_23
                have hRi : mRi i24 := hRi
                have hRr : mRr r24 := hRr
                have hEi : mEi [23, 24, 25, 26, 27, 28, 29, 30, 60] _ i24 := Ei_tr hEi hE1 (by decide)
                have hEr : mEr [32, 33, 34, 35, 36, 37, 38, 39] _ r24 := Er_tr hEr hE2 (by decide)
                have hqr_23 : (∃ J9 : Nat → Int32, gjJ (gjH (r7 12) ((r7 40 x7_4.toNatClampNeg).toNatClampNeg)) (gjH (r7 13) ((r7 40 x7_4.toNatClampNeg).toNatClampNeg)) (gjH (r7 14) ((r7 40 x7_4.toNatClampNeg).toNatClampNeg)) (r7 10 ((r7 40 x7_4.toNatClampNeg).toNatClampNeg)).toNatClampNeg (gjH (r7 16) ((r7 40 x7_4.toNatClampNeg).toNatClampNeg)) (gjH (r7 17) ((r7 40 x7_4.toNatClampNeg).toNatClampNeg)) (gjH (r7 18) ((r7 40 x7_4.toNatClampNeg).toNatClampNeg)) (r7 11 ((r7 40 x7_4.toNatClampNeg).toNatClampNeg)).toNatClampNeg 99 J9 ∧ r_23 = mAV (mD i7 r7) r7 J9 x7_4.toNatClampNeg p1 ∧ i24 60 = mAR (mD i7 r7) r7 J9 x7_4.toNatClampNeg p1) := hr_23
                obtain ⟨J9, hj9, hv9, _⟩ := hqr_23
                have hEp : mEr [32, 33, 34, 35, 36, 37, 38, 39] r r7 := hErP
                rw [show mD i7 r7 = mD i r from mD_E (hEiP 31 (by decide)) hEp (by decide), mAV_E hEp (by decide)] at hv9
                rw [hEp 40 (by decide), hEp 10 (by decide), hEp 11 (by decide), hEp 12 (by decide), hEp 13 (by decide), hEp 14 (by decide), hEp 16 (by decide), hEp 17 (by decide), hEp 18 (by decide)] at hj9
                have hbv : mBV (mPk r p0) i r p1 x7_4.toNatClampNeg r_23 := ⟨fun h9 => absurd (show mPk r p0 x7_4.toNatClampNeg ∧ (r 44 x7_4.toNatClampNeg).toInt ≤ p1.toInt from ⟨hk9.symm.trans (Int32.toInt_inj.mp (by omega)), by rw [← htv_18]; omega⟩) h9, fun _ => ⟨J9, hj9, hv9⟩⟩
                refine lv_goto (tgt := 80) hx hb dX12_byKind_76 (by decide) ?_
                refine lv_iadd hx hb dX12_byKind_80 ?_
                refine lv_topi (fun v_25 ev_25 => ?_)
                refine lv_istore_n (lv' := [(3, .int v_25), (4, .int x7_4), (0, .ref (a 0)), (1, .int p0), (2, .int p1)]) hx hb dX12_byKind_81 rfl hl (by decide) rfl (fun ls hl => ?_)
                obtain ⟨x_26, ex_26⟩ : ∃ y : Int32, y = x7_4 + 1 := ⟨_, rfl⟩
                refine lv_iinc (v := x_26) (lv' := [(4, .int x_26), (3, .int v_25), (0, .ref (a 0)), (1, .int p0), (2, .int p1)]) hx hb dX12_byKind_82 hl (k := 1) rfl (by rw [ex_26]; rfl) (by decide) rfl (fun ls hl => ?_)
                have hx_26 : x_26.toInt = x7_4.toInt + 1 := by rw [ex_26]; have := b_rg x7_4; exact i_add (a := x7_4.toInt) (b := 1) rfl rfl (by omega) (by omega)
                refine lv_goto (tgt := 21) hx hb dX12_byKind_85 (by decide) ?_
                exact ih7 x_26 v_25 i24 r24 _ _ _ (by first | omega | (simp only [Int.toNat]; omega)) (by first | omega | decide) hRi hEi hRr hEr ⟨by omega, mBX_s hx7.2 hbv ev_25 (show x_26.toInt.toNat = x7_4.toInt.toNat + 1 by omega)⟩ hP hD hS (lv_sub hl [0, 1, 2, 3, 4] rfl)
      exact loop_7 _ 0 0 i r _ _ _ (Nat.lt_succ_self _) (by first | omega | decide) hRi hEi hRr hEr ⟨by have h3 : (0 : Int32).toInt = 0 := rfl; omega, mBX_0⟩ hP hD hS hl
    · skip
      refine lv_if_ne (tgt := 16) hx hb dX12_byKind_11 (by decide) (fun c_27 => absurd (by decide) c_27) (fun c_27 => ?_)
      refine lv_iconst (v := (-1)) hx hb dX12_byKind_14 (by decide) ?_
      subst hQ
      exact W.iret (v := (-1)) hx hb hr (fun t ht hW => ⟨⟨_, (i, r), rfl, ⟨hRi, hRr, hEi, hEr, ⟨fun h9 => absurd h9 (by omega), fun _ => rfl⟩⟩, by rw [ht]; exact hP, va_K.moved hW.alike hK, hD⟩, hS.F ht⟩) hS.2.2 dX12_byKind_15
  · skip
    refine lv_if_eq (tgt := 14) hx hb dX12_byKind_4 (by decide) (fun c_28 => ?_) (fun c_28 => absurd (by decide) c_28)
    refine lv_iconst (v := (-1)) hx hb dX12_byKind_14 (by decide) ?_
    subst hQ
    exact W.iret (v := (-1)) hx hb hr (fun t ht hW => ⟨⟨_, (i, r), rfl, ⟨hRi, hRr, hEi, hEr, ⟨fun h9 => absurd h9 (by omega), fun _ => rfl⟩⟩, by rw [ht]; exact hP, va_K.moved hW.alike hK, hD⟩, hS.F ht⟩) hS.2.2 dX12_byKind_15
set_option maxHeartbeats 4000000 in
set_option maxRecDepth 100000 in
theorem c_X11_byKind9 (l : Launch) (D : va_G) (cy : Nat → ClassId) (a : Nat → Nat) (i : Nat → Int32) (r : Nat → Nat → Int32) (q : Nat → Option Nat) (tl : va_W) (p0 p1 : Int32) (nh : Nat) (gb : Nat → Nat → Nat) (gi : Nat → Nat → Int32) (gr : Nat → Nat → Nat → Int32) (sz : Nat) (hRi : yRi i) (hRr : yRr r) (hn : (i 0).toInt = (nh : Int)) (hH : ∀ k, k < nh → q k = some (gb k 61) ∧ yRi (gi k) ∧ yRr (gr k)) (d9 : lwT) (hL9 : xLw d9 i r) (hG9 : gLw d9) (hgd : ∀ c : Nat, (c : Int) < (i 10).toInt → (r 30 c).toInt < (i 0).toInt ∧ 1 ≤ (gr (r 30 c).toNatClampNeg 68 (r 31 c).toNatClampNeg).toInt ∧ 0 < (r 2 (gr (r 30 c).toNatClampNeg 67 (r 31 c).toNatClampNeg).toNatClampNeg).toInt) : Met l yX11_byKind (Cond.code yX11_byKind cX11_byKind 6 (some .int) :: gT) { frames := 6, cells := 0, slots := 0, locals := 151 } (va_Pc [.ref (a 0), .int p0, .int p1] (rM D cy (xW cy a i r q (a 20) (a 12) ++ (HL cy gb gi gr nh ++ tl)) sz)) (va_Qi (fun (z : Int32) (u : Nat → Nat → Int32) => yRr u ∧ mEr [27, 28] r u ∧ ((((0 ≤ p0.toInt ∧ p0.toInt ≤ 7) ∧ (0 ≤ p1.toInt ∧ p1.toInt ≤ 9999)) → z = sumB (xBV d9 i r gi gr p0 p1) (i 10).toNatClampNeg) ∧ (¬ ((0 ≤ p0.toInt ∧ p0.toInt ≤ 7) ∧ (0 ≤ p1.toInt ∧ p1.toInt ≤ 9999)) → z = -1))) (fun (u : Nat → Nat → Int32) t => va_P D vwCl (xW cy a i u q (a 20) (a 12) ++ (HL cy gb gi gr nh ++ tl)) t.heap ∧ va_K D vwCl (vT cy) t ∧ va_D (va_A (xW cy a i r q (a 20) (a 12) ++ (HL cy gb gi gr nh ++ tl)) sz) (xW cy a i u q (a 20) (a 12) ++ (HL cy gb gi gr nh ++ tl))) (va_A (xW cy a i r q (a 20) (a 12) ++ (HL cy gb gi gr nh ++ tl)) sz)) 0 0 (va_A (xW cy a i r q (a 20) (a 12) ++ (HL cy gb gi gr nh ++ tl)) sz) := by
  refine Met.ofQ (cc := cX11_byKind) (maxL := 6) (ret := (some .int)) (by decide) rfl ?_
  intro p e s m args below meth c s₁ B hml hv Q hQ
  obtain ⟨rfl, hnw, hsz, hP, hK, hD0⟩ := hv
  have hx := B.exec
  have hb := B.bytes
  have hr := B.returns
  have hlocks := B.notSynchronized
  have hT : ∀ w ∈ gT, w.before _ s = true := fun w h => atoms_spec (ws := (Cond.code yX11_byKind cX11_byKind 6 (some .int) :: gT)) B.pre w (List.mem_cons_of_mem _ h)
  have hown : s.vm.findClass RX11 = some m.cls := findClass_of_methodNamed B.named
  subst hsz
  have hD := hD0.self (sz := s.heap.size)
  generalize hAe : va_A (xW cy a i r q (a 20) (a 12) ++ (HL cy gb gi gr nh ++ tl)) s.heap.size = A at hD hQ
  have hA : ∀ q : Nat, s.heap.size ≤ q → A q := fun q h => by rw [← hAe]; exact Or.inr h
  have hS : va_S A s.heap s.heap [] := va_S.rf
  have hl := lv_entry ([.ref (a 0), .int p0, .int p1]) (n := 6) (Nat.le_of_ble_eq_true rfl)
  rw [lg_entry_eq]
  generalize (lg_sl ([.ref (a 0), .int p0, .int p1]) ++ List.replicate (6 - (lg_sl ([.ref (a 0), .int p0, .int p1])).length) Slot.unset).toArray = ls at hl ⊢
  have hl : lv_has ls 6 [(0, .ref (a 0)), (1, .int p0), (2, .int p1)] := hl
  have hEi : mEi [] i i := Ei_rf
  have hEr : mEr [27, 28] r r := Er_rf
  have hg10 : 0 ≤ (i 10).toInt ∧ (i 10).toInt ≤ 30 := hRi 10
  have hg0 : 0 ≤ (i 0).toInt ∧ (i 0).toInt ≤ 6 := hRi 0
  refine lv_iload_n hx hb dX11_byKind_0 rfl (lv_at hl 1 rfl) ?_
  refine lv_iconst (v := 0) hx hb dX11_byKind_1 (by decide) ?_
  refine lv_bipush (v := 7) hx hb dX11_byKind_2 (by decide) ?_
  refine vp_callSi (W.runS (As := [.int p0, .int 0, .int 7]) (rest := []) ⟨hx, hb, hml, hown, hT⟩ (c_X11_within l p0 0 7) (va_cwS 3 hT (gS t_1 t_3 t_4 t_2) rfl rfl rfl (by decide +kernel) ⟨Nat.le_of_ble_eq_true rfl, Nat.le_of_ble_eq_true rfl⟩) preT rfl rfl hl.1 rfl (lv_room (Nat.le_of_ble_eq_true rfl)) dX11_byKind_4 ⟨Nat.le_of_ble_eq_true rfl, Nat.le_of_ble_eq_true rfl⟩) (fun r_1 hr_1 => ?_)
  have hr_1 : BR r_1 (0 ≤ p0.toInt ∧ p0.toInt ≤ 7) 1 0 := hr_1
  rcases hr_1 with ⟨rfl, h_2⟩ | ⟨rfl, h_2⟩
  · skip
    refine lv_if_eq (tgt := 17) hx hb dX11_byKind_7 (by decide) (fun c_3 => absurd c_3 (by decide)) (fun c_3 => ?_)
    refine lv_iload_n hx hb dX11_byKind_10 rfl (lv_at hl 2 rfl) ?_
    refine vp_callSi (W.runS (As := [.int p1]) (rest := []) ⟨hx, hb, hml, hown, hT⟩ (c_X11_isDay l p1) (va_cwS 1 hT (gS t_279 t_280 t_281 t_2) rfl rfl rfl (by decide +kernel) ⟨Nat.le_of_ble_eq_true rfl, Nat.le_of_ble_eq_true rfl⟩) preT rfl rfl hl.1 rfl (lv_room (Nat.le_of_ble_eq_true rfl)) dX11_byKind_11 ⟨Nat.le_of_ble_eq_true rfl, Nat.le_of_ble_eq_true rfl⟩) (fun r_4 hr_4 => ?_)
    have hr_4 : BR r_4 (0 ≤ p1.toInt ∧ p1.toInt ≤ 9999) 1 0 := hr_4
    rcases hr_4 with ⟨rfl, h_5⟩ | ⟨rfl, h_5⟩
    · skip
      refine lv_if_ne (tgt := 19) hx hb dX11_byKind_14 (by decide) (fun c_6 => ?_) (fun c_6 => absurd c_6 (by decide))
      refine lv_iconst (v := 0) hx hb dX11_byKind_19 (by decide) ?_
      refine lv_istore_n (lv' := [(3, .int 0), (0, .ref (a 0)), (1, .int p0), (2, .int p1)]) hx hb dX11_byKind_20 rfl hl (by decide) rfl (fun ls hl => ?_)
      refine lv_iconst (v := 0) hx hb dX11_byKind_21 (by decide) ?_
      refine lv_istore (lv' := [(4, .int 0), (3, .int 0), (0, .ref (a 0)), (1, .int p0), (2, .int p1)]) hx hb dX11_byKind_22 hl (by decide) rfl (fun ls hl => ?_)
      have loop_7 : ∀ (n : Nat) (x7_4 : Int32) (x7_3 : Int32) (r7 : Nat → Nat → Int32) (H : Heap) (locs : List Loc) (ls : Array Slot), (30 - x7_4.toInt).toNat < n → (0 ≤ x7_4.toInt ∧ x7_4.toInt ≤ 30) → yRr r7 → mEr [27, 28] r r7 → (x7_4.toInt ≤ (i 10).toInt ∧ x7_3 = sumB (xBV d9 i r gi gr p0 p1) x7_4.toNatClampNeg) → va_P D vwCl (xW cy a i r7 q (a 20) (a 12) ++ (HL cy gb gi gr nh ++ tl)) H → va_D A (xW cy a i r7 q (a 20) (a 12) ++ (HL cy gb gi gr nh ++ tl)) → va_S A s.heap H locs → lv_has ls 6 [(4, .int x7_4), (3, .int x7_3), (0, .ref (a 0)), (1, .int p0), (2, .int p1)] → W p l e ({ frames := 6, cells := 0, slots := 0, locals := 151 } : Room) s m ([.ref (a 0), .int p0, .int p1] : List Value).toArray below meth c H locs 0 0 Q (F0 m 24 ls []) := by
        intro n
        induction n with
        | zero =>
          intro x7_4 x7_3 r7 H locs ls hm7 hf7_0 hRr hEr hx7 hP hD hS hl
          exact absurd hm7 (by omega)
        | succ n ih7 =>
          intro x7_4 x7_3 r7 H locs ls hm7 hf7_0 hRr hEr hx7 hP hD hS hl
          refine lv_iload hx hb dX11_byKind_24 (lv_at hl 0 rfl) ?_
          refine lv_aload_n hx hb dX11_byKind_26 rfl (lv_at hl 2 rfl) ?_
          refine va_get (D := D) (ci := 11) (v := .ref (a 29)) (C := RX11) (T := TX11) (N := 14) hx hb hT iX11 hown hK hP 0 rfl rfl 8 (by decide) (hT _ t_265) (fun _ h9 => h9) rfl dX11_byKind_27 ?_
          refine va_get (D := D) (ci := 1) (v := .int (i 10)) (C := RX1) (T := TX1) (N := 12) hx hb hT iX1 hown hK hP 29 rfl rfl 0 (by decide) (hT _ t_266) (fun _ h9 => h9) rfl dX11_byKind_30 ?_
          have hg_8 : 0 ≤ (i 10).toInt ∧ (i 10).toInt ≤ 30 := hRi 10
          refine lv_icmp_ge (tgt := 101) hx hb dX11_byKind_33 (by decide) (fun c_9 => ?_) (fun c_9 => ?_)
          · have c_9 : (i 10).toInt ≤ x7_4.toInt := b_le c_9
            refine lv_iload_n hx hb dX11_byKind_101 rfl (lv_at hl 1 rfl) ?_
            subst hQ
            exact W.iret (v := x7_3) hx hb hr (fun t ht hW => ⟨⟨_, r7, rfl, ⟨hRr, hEr, ⟨fun _ => (hx7.2.trans (by have h8 := hx7.1; rw [show x7_4.toNatClampNeg = (i 10).toNatClampNeg from (by show x7_4.toInt.toNat = (i 10).toInt.toNat; omega)])), fun h9 => absurd (by omega) h9⟩⟩, by rw [ht]; exact hP, va_K.moved hW.alike hK, hD⟩, hS.F ht⟩) hS.2.2 dX11_byKind_102
          · have c_9 : x7_4.toInt < (i 10).toInt := b_nle c_9
            refine lv_aload_n hx hb dX11_byKind_36 rfl (lv_at hl 2 rfl) ?_
            refine lv_aload_n hx hb dX11_byKind_37 rfl (lv_at hl 2 rfl) ?_
            refine va_get (D := D) (ci := 11) (v := .ref (a 29)) (C := RX11) (T := TX11) (N := 14) hx hb hT iX11 hown hK hP 0 rfl rfl 8 (by decide) (hT _ t_265) (fun _ h9 => h9) rfl dX11_byKind_38 ?_
            refine va_get (D := D) (ci := 1) (v := .ref (a 30)) (C := RX1) (T := TX1) (N := 12) hx hb hT iX1 hown hK hP 29 rfl rfl 1 (by decide) (hT _ t_548) (fun _ h9 => h9) rfl dX11_byKind_41 ?_
            refine lv_iload hx hb dX11_byKind_44 (lv_at hl 0 rfl) ?_
            refine va_iald hx hb hK hP 30 0 rfl rfl (vp_inI (by omega) (by omega)) dX11_byKind_46 ?_
            refine lv_topi (fun v_10 ev_10 => ?_)
            have hgv_10 : 0 ≤ v_10.toInt ∧ v_10.toInt ≤ 5 := by rw [ev_10]; exact hRr 30 _
            have hsv_10 : v_10 = r 30 x7_4.toNatClampNeg := ev_10.trans (congrFun (hEr 30 (by decide)) _)
            refine va_csq (W.runV (As := [.int v_10]) (rest := []) ⟨hx, hb, hml, hown, hT⟩ (c_X11_homeAt l D cy a i r7 q (HL cy gb gi gr nh ++ tl) v_10 hRi hRr) (cwV 1 hT (gV t_443 t_444 t_445 t_446 t_2) rfl rfl rfl (by decide +kernel) ⟨Nat.le_of_ble_eq_true rfl, Nat.le_of_ble_eq_true rfl⟩) (rP_v hP hK (va_recv hK hP (ci := 11) (q0 := 0) rfl rfl)) rfl rfl hl.1 rfl (lv_room (Nat.le_of_ble_eq_true rfl)) dX11_byKind_47 ⟨Nat.le_of_ble_eq_true rfl, Nat.le_of_ble_eq_true rfl⟩) (fun r_11 hr_11 => ?_)
            by_cases hv9 : v_10.toInt < (i 0).toInt
            · obtain rfl : r_11 = some (gb v_10.toNatClampNeg 61) := (hr_11.1 (by omega)).trans (hH v_10.toNatClampNeg (by have h9 : v_10.toNatClampNeg = v_10.toInt.toNat := rfl; omega)).1
              refine W.eq (g2 := F0 m 50 ls [.ref (gb v_10.toNatClampNeg 61)]) rfl ?_
              refine lv_astore (lv' := [(5, .ref (gb v_10.toNatClampNeg 61)), (4, .int x7_4), (3, .int x7_3), (0, .ref (a 0)), (1, .int p0), (2, .int p1)]) hx hb dX11_byKind_50 hl (by decide) rfl (fun ls hl => ?_)
              refine lv_aload hx hb dX11_byKind_52 (lv_at hl 0 rfl) ?_
              refine lv_ifnull hx hb dX11_byKind_54 ?_
              have hlt : v_10.toNatClampNeg < nh := (by have h9 : v_10.toNatClampNeg = v_10.toInt.toNat := rfl; omega)
              have hz := zoom (cy := cy) (a := a) (i := i) (r := r7) (q := q) (hb := gb) (hi := gi) (hr := gr) (tl := tl) hlt
              have hP := vaP_perm hz hP
              have hD := vaD_perm hz hD
              have hRi0 := hRi
              have hRr0 := hRr
              have hEr0 := hEr
              have hRi := mix_Ri hRi (hH v_10.toNatClampNeg hlt).2.1
              have hRr := mix_Rr hRr (hH v_10.toNatClampNeg hlt).2.2
              obtain ⟨A2, hA2⟩ : ∃ z, z = mixA a (gb v_10.toNatClampNeg) := ⟨_, rfl⟩
              obtain ⟨I2, hI2⟩ : ∃ z, z = mixI i (gi v_10.toNatClampNeg) := ⟨_, rfl⟩
              obtain ⟨R2, hR2⟩ : ∃ z, z = mixR r7 (gr v_10.toNatClampNeg) := ⟨_, rfl⟩
              rw [← hA2, ← hI2, ← hR2] at hP hD
              rw [← hI2] at hRi
              rw [← hR2] at hRr
              have hEr : mEr [27, 28] R2 R2 := Er_rf
              have hEi : mEi [] I2 I2 := Ei_rf
              have h10 : I2 10 = i 10 := by rw [hI2]; rfl
              have h0 : I2 0 = i 0 := by rw [hI2]; rfl
              have h30 : R2 30 = r7 30 := by rw [hR2]; rfl
              have h61 : A2 61 = gb v_10.toNatClampNeg 61 := by rw [hA2]; rfl
              have hl : lv_has ls 6 [(5, .ref (A2 61)), (4, .int x7_4), (3, .int x7_3), (0, .ref (A2 0)), (1, .int p0), (2, .int p1)] := by rw [hA2]; exact hl
              have hx2 : R2 2 = r 2 := by rw [hR2]; exact hEr0 2 (by decide)
              have hx30 : R2 30 = r 30 := by rw [hR2]; exact hEr0 30 (by decide)
              have hx31 : R2 31 = r 31 := by rw [hR2]; exact hEr0 31 (by decide)
              have hx34 : R2 34 = r 34 := by rw [hR2]; exact hEr0 34 (by decide)
              have hx67 : R2 67 = gr (r 30 x7_4.toNatClampNeg).toNatClampNeg 67 := by rw [hR2, ← hsv_10]; rfl
              have hx68 : R2 68 = gr (r 30 x7_4.toNatClampNeg).toNatClampNeg 68 := by rw [hR2, ← hsv_10]; rfl
              have hcl9 : ((x7_4.toNatClampNeg : Nat) : Int) < (i 10).toInt := by show ((x7_4.toInt.toNat : Nat) : Int) < _; omega
              have hgc9 : 1 ≤ (R2 68 (R2 31 x7_4.toNatClampNeg).toNatClampNeg).toInt ∧ 0 < (R2 2 (R2 67 (R2 31 x7_4.toNatClampNeg).toNatClampNeg).toNatClampNeg).toInt := by rw [hx2, hx31, hx67, hx68]; exact (hgd _ hcl9).2
              have hxl9 : xLw d9 I2 R2 := xLw_co hL9 (by rw [hI2]; rfl) (by rw [hR2]; exact hEr0 21 (by decide)) (by rw [hR2]; exact hEr0 22 (by decide)) (by rw [hR2]; exact hEr0 23 (by decide)) (by rw [hR2]; exact hEr0 24 (by decide)) (by rw [hR2]; exact hEr0 25 (by decide)) (by rw [hR2]; exact hEr0 26 (by decide))
              refine lv_aload hx hb dX11_byKind_57 (lv_at hl 0 rfl) ?_
              refine va_get (D := D) (ci := 3) (v := .ref (A2 65)) (C := RX3) (T := TX3) (N := 12) hx hb hT iX3 hown hK hP 61 rfl rfl 9 (by decide) (hT _ t_453) (fun _ h9 => h9) rfl dX11_byKind_59 ?_
              refine va_get (D := D) (ci := 10) (v := .ref (A2 67)) (C := RX10) (T := TX10) (N := 5) hx hb hT iX10 hown hK hP 65 rfl rfl 2 (by decide) (hT _ t_492) (fun _ h9 => h9) rfl dX11_byKind_62 ?_
              refine lv_aload_n hx hb dX11_byKind_65 rfl (lv_at hl 3 rfl) ?_
              refine va_get (D := D) (ci := 11) (v := .ref (A2 29)) (C := RX11) (T := TX11) (N := 14) hx hb hT iX11 hown hK hP 0 rfl rfl 8 (by decide) (hT _ t_265) (fun _ h9 => h9) rfl dX11_byKind_66 ?_
              refine va_get (D := D) (ci := 1) (v := .ref (A2 31)) (C := RX1) (T := TX1) (N := 12) hx hb hT iX1 hown hK hP 29 rfl rfl 2 (by decide) (hT _ t_549) (fun _ h9 => h9) rfl dX11_byKind_69 ?_
              refine lv_iload hx hb dX11_byKind_72 (lv_at hl 1 rfl) ?_
              refine va_iald hx hb hK hP 31 0 rfl rfl (vp_inI (by omega) (by omega)) dX11_byKind_74 ?_
              refine lv_topi (fun v_12 ev_12 => ?_)
              have hgv_12 : 0 ≤ v_12.toInt ∧ v_12.toInt ≤ 19 := by rw [ev_12]; exact hRr 31 _
              refine va_iald hx hb hK hP 67 0 rfl rfl (vp_inI (by omega) (by omega)) dX11_byKind_75 ?_
              refine lv_topi (fun v_13 ev_13 => ?_)
              have hgv_13 : 0 ≤ v_13.toInt ∧ v_13.toInt ≤ 7 := by rw [ev_13]; exact hRr 67 _
              have hk9 : v_13 = gr (r 30 x7_4.toNatClampNeg).toNatClampNeg 67 (r 31 x7_4.toNatClampNeg).toNatClampNeg := by rw [ev_13, ev_12, hx31, hx67]
              have hkt : v_13.toInt = (gr (r 30 x7_4.toNatClampNeg).toNatClampNeg 67 (r 31 x7_4.toNatClampNeg).toNatClampNeg).toInt := congrArg Int32.toInt hk9
              refine lv_iload_n hx hb dX11_byKind_76 rfl (lv_at hl 4 rfl) ?_
              refine lv_icmp_ne (tgt := 95) hx hb dX11_byKind_77 (by decide) (fun c_14 => ?_) (fun c_14 => ?_)
              · have c_14 : v_13.toInt ≠ p0.toInt := b_ne c_14
                have hbv : (0 : Int32) = xBV d9 i r gi gr p0 p1 x7_4.toNatClampNeg := (xBV_n (fun h9 => absurd (congrArg Int32.toInt (hk9.trans h9)) (by omega))).symm
                rw [hA2, hI2] at hP hD
                have hEr : mEr [27, 28] (mixR r7 (gr v_10.toNatClampNeg)) R2 := by rw [hR2]; exact Er_rf
                have hz2 := unzoomS (cy := cy) (a := a) (i := i) (q := q) (gb := gb) (gi := gi) (tl := tl) hlt hEr rfl
                have hP := vaP_perm hz2 hP
                have hD := vaD_perm hz2 hD
                have hEr : mEr [27, 28] r (mixR R2 r7) := Er_tr hEr0 (mixR_E hEr) (fun _ h => h)
                have hRr : yRr (mixR R2 r7) := mix_Rr hRr hRr0
                have hRi := hRi0
                have hEi : mEi [] i i := Ei_rf
                have hl : lv_has ls 6 [(5, .ref (gb v_10.toNatClampNeg 61)), (4, .int x7_4), (3, .int x7_3), (0, .ref (a 0)), (1, .int p0), (2, .int p1)] := by rw [hA2] at hl; exact hl
                obtain ⟨x_15, ex_15⟩ : ∃ y : Int32, y = x7_4 + 1 := ⟨_, rfl⟩
                refine lv_iinc (v := x_15) (lv' := [(4, .int x_15), (5, .ref (gb v_10.toNatClampNeg 61)), (3, .int x7_3), (0, .ref (a 0)), (1, .int p0), (2, .int p1)]) hx hb dX11_byKind_95 hl (k := 1) rfl (by rw [ex_15]; rfl) (by decide) rfl (fun ls hl => ?_)
                have hx_15 : x_15.toInt = x7_4.toInt + 1 := by rw [ex_15]; have := b_rg x7_4; exact i_add (a := x7_4.toInt) (b := 1) rfl rfl (by omega) (by omega)
                refine lv_goto (tgt := 24) hx hb dX11_byKind_98 (by decide) ?_
                exact ih7 x_15 x7_3 (mixR R2 r7) _ _ _ (by first | omega | (simp only [Int.toNat]; omega)) (by first | omega | decide) hRr hEr ⟨by omega, sumB_s hx7.2 (show x_15.toInt.toNat = x7_4.toInt.toNat + 1 by omega) hbv (Int32.add_zero _).symm⟩ hP hD hS (lv_sub hl [0, 2, 3, 4, 5] rfl)
              · have c_14 : v_13.toInt = p0.toInt := b_nne c_14
                refine lv_iload_n hx hb dX11_byKind_80 rfl (lv_at hl 2 rfl) ?_
                refine lv_iconst (v := 0) hx hb dX11_byKind_81 (by decide) ?_
                refine lv_aload_n hx hb dX11_byKind_82 rfl (lv_at hl 3 rfl) ?_
                refine lv_iload hx hb dX11_byKind_83 (lv_at hl 1 rfl) ?_
                refine lv_iload_n hx hb dX11_byKind_85 rfl (lv_at hl 5 rfl) ?_
                refine lv_iconst (v := 0) hx hb dX11_byKind_86 (by decide) ?_
                have hF_16 := rF hD hS hA
                refine va_calli (va_runV (As := [.int x7_4, .int p1, .int 0]) (rest := [.int 0, .int x7_3]) ⟨hx, hb, hml, hown, hT⟩ (c_X11_award_y9 l D cy A2 I2 R2 q (HX cy gb gi gr v_10.toNatClampNeg nh ++ tl) x7_4 p1 0 _ hRi hRr (by rw [h10]; omega) (by rw [h30, h0, ← ev_10]; exact hv9) (by rw [h30, ← ev_10, h61]; exact (hH v_10.toNatClampNeg hlt).1) d9 hxl9 hG9 hgc9) (cwV 3 hT (gV t_559 t_560 t_561 t_562 t_2) rfl rfl rfl (by decide +kernel) ⟨Nat.le_of_ble_eq_true rfl, Nat.le_of_ble_eq_true rfl⟩) (rM_v hnw hP hK hD (va_recv hK hP (ci := 11) (q0 := 0) rfl rfl)) rfl rfl hl.1 rfl (lv_room (Nat.le_of_ble_eq_true rfl)) dX11_byKind_87 ⟨Nat.le_of_ble_eq_true rfl, Nat.le_of_ble_eq_true rfl⟩) hS (fun q _ h => hF_16 q h) hF_16 (fun r_17 u_18 t H1 locs ht hvm hr_17 hB hz1 hk1 hS => ?_)
                obtain ⟨r18, rfl⟩ : ∃ z, z = u_18 := ⟨_, rfl⟩
                obtain ⟨hP, hK1, hD1⟩ := hB
                rw [ht] at hP
                have hD := hD1.weaken (fun k q _ h => hF_16 q.1 h)
                obtain ⟨hRr, hE2, hr_17⟩ := hr_17
                have hRr : yRr r18 := hRr
                have hE2 : mEr [27, 28] R2 r18 := hE2
                have hP : va_P D vwCl (xW cy A2 I2 r18 q (A2 20) (A2 12) ++ (hW cy A2 I2 r18 ++ (HX cy gb gi gr v_10.toNatClampNeg nh ++ tl))) H1 := hP
                have hD : va_D A (xW cy A2 I2 r18 q (A2 20) (A2 12) ++ (hW cy A2 I2 r18 ++ (HX cy gb gi gr v_10.toNatClampNeg nh ++ tl))) := hD
                have hEr : mEr [27, 28] _ r18 := Er_tr hEr hE2 (by decide)
                have hqr_17 : (((0 ≤ p1.toInt ∧ p1.toInt ≤ 9999) ∧ (0 ≤ (0 : Int32).toInt ∧ (0 : Int32).toInt ≤ 1)) → ((p1.toInt < (R2 34 x7_4.toNatClampNeg).toInt → r_17 = -2) ∧ ((R2 34 x7_4.toNatClampNeg).toInt ≤ p1.toInt → ((0 : Int32).toInt = 0 → r_17 = xAV d9 I2 R2 x7_4.toNatClampNeg p1) ∧ ((0 : Int32).toInt = 1 → r_17 = xAR d9 I2 R2 x7_4.toNatClampNeg p1)))) ∧ (¬ ((0 ≤ p1.toInt ∧ p1.toInt ≤ 9999) ∧ (0 ≤ (0 : Int32).toInt ∧ (0 : Int32).toInt ≤ 1)) → r_17 = -1) := hr_17
                have hz9 : r_17 = if p1.toInt < (r 34 x7_4.toNatClampNeg).toInt then -2 else xAV d9 (mixI i (gi (r 30 x7_4.toNatClampNeg).toNatClampNeg)) (mixR r (gr (r 30 x7_4.toNatClampNeg).toNatClampNeg)) x7_4.toNatClampNeg p1 := by
                  have h9 := hqr_17.1 ⟨⟨by omega, by omega⟩, by decide⟩
                  rw [hx34] at h9
                  by_cases h8 : p1.toInt < (r 34 x7_4.toNatClampNeg).toInt
                  · rw [if_pos h8]; exact h9.1 h8
                  · rw [if_neg h8]; have h7 := (h9.2 (by omega)).1 (by decide); rw [h7, hI2, hR2, hsv_10]; exact xAV_E (mixR_Er hEr0) (by decide)
                refine va_mmax hx hb (by rw [hml]; exact hl.1.symm) hown (hT _ t_521) (hT _ t_307) (hT _ t_289) (hT _ t_308) (Nat.le_of_ble_eq_true rfl) (Nat.le_of_ble_eq_true rfl) (Nat.le_of_ble_eq_true rfl) (Nat.le_of_ble_eq_true rfl) dX11_byKind_90 ?_
                refine lv_topi (fun v_19 ev_19 => ?_)
                have hbv : v_19 = xBV d9 i r gi gr p0 p1 x7_4.toNatClampNeg := by rw [xBV_y (hk9.symm.trans (Int32.toInt_inj.mp (by omega))), ← hz9]; exact mx0 ev_19
                refine lv_iadd hx hb dX11_byKind_93 ?_
                refine lv_topi (fun v_20 ev_20 => ?_)
                refine lv_istore_n (lv' := [(3, .int v_20), (5, .ref (A2 61)), (4, .int x7_4), (0, .ref (A2 0)), (1, .int p0), (2, .int p1)]) hx hb dX11_byKind_94 rfl hl (by decide) rfl (fun ls hl => ?_)
                rw [hA2, hI2] at hP hD
                rw [hR2] at hEr
                have hz2 := unzoomS (cy := cy) (a := a) (i := i) (q := q) (gb := gb) (gi := gi) (tl := tl) hlt hEr rfl
                have hP := vaP_perm hz2 hP
                have hD := vaD_perm hz2 hD
                have hEr : mEr [27, 28] r (mixR r18 r7) := Er_tr hEr0 (mixR_E hEr) (fun _ h => h)
                have hRr : yRr (mixR r18 r7) := mix_Rr hRr hRr0
                have hRi := hRi0
                have hEi : mEi [] i i := Ei_rf
                have hl : lv_has ls 6 [(3, .int v_20), (5, .ref (gb v_10.toNatClampNeg 61)), (4, .int x7_4), (0, .ref (a 0)), (1, .int p0), (2, .int p1)] := by rw [hA2] at hl; exact hl
                obtain ⟨x_21, ex_21⟩ : ∃ y : Int32, y = x7_4 + 1 := ⟨_, rfl⟩
                refine lv_iinc (v := x_21) (lv' := [(4, .int x_21), (3, .int v_20), (5, .ref (gb v_10.toNatClampNeg 61)), (0, .ref (a 0)), (1, .int p0), (2, .int p1)]) hx hb dX11_byKind_95 hl (k := 2) rfl (by rw [ex_21]; rfl) (by decide) rfl (fun ls hl => ?_)
                have hx_21 : x_21.toInt = x7_4.toInt + 1 := by rw [ex_21]; have := b_rg x7_4; exact i_add (a := x7_4.toInt) (b := 1) rfl rfl (by omega) (by omega)
                refine lv_goto (tgt := 24) hx hb dX11_byKind_98 (by decide) ?_
                exact ih7 x_21 v_20 (mixR r18 r7) _ _ _ (by first | omega | (simp only [Int.toNat]; omega)) (by first | omega | decide) hRr hEr ⟨by omega, sumB_s hx7.2 (show x_21.toInt.toNat = x7_4.toInt.toNat + 1 by omega) hbv ev_20⟩ hP hD hS (lv_sub hl [0, 1, 3, 4, 5] rfl)
            · exact absurd (by have h9 := (hgd x7_4.toNatClampNeg (by show ((x7_4.toInt.toNat : Nat) : Int) < _; omega)).1; rw [← hsv_10] at h9; exact h9) hv9
      exact loop_7 _ 0 0 r _ _ _ (Nat.lt_succ_self _) (by first | omega | decide) hRr hEr ⟨by have h3 : (0 : Int32).toInt = 0 := rfl; omega, rfl⟩ hP hD hS hl
    · skip
      refine lv_if_ne (tgt := 19) hx hb dX11_byKind_14 (by decide) (fun c_22 => absurd (by decide) c_22) (fun c_22 => ?_)
      refine lv_iconst (v := (-1)) hx hb dX11_byKind_17 (by decide) ?_
      subst hQ
      exact W.iret (v := (-1)) hx hb hr (fun t ht hW => ⟨⟨_, r, rfl, ⟨hRr, hEr, ⟨fun h9 => absurd h9 (by omega), fun _ => rfl⟩⟩, by rw [ht]; exact hP, va_K.moved hW.alike hK, hD⟩, hS.F ht⟩) hS.2.2 dX11_byKind_18
  · skip
    refine lv_if_eq (tgt := 17) hx hb dX11_byKind_7 (by decide) (fun c_23 => ?_) (fun c_23 => absurd (by decide) c_23)
    refine lv_iconst (v := (-1)) hx hb dX11_byKind_17 (by decide) ?_
    subst hQ
    exact W.iret (v := (-1)) hx hb hr (fun t ht hW => ⟨⟨_, r, rfl, ⟨hRr, hEr, ⟨fun h9 => absurd h9 (by omega), fun _ => rfl⟩⟩, by rw [ht]; exact hP, va_K.moved hW.alike hK, hD⟩, hS.F ht⟩) hS.2.2 dX11_byKind_18
