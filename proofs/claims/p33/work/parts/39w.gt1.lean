-- counted by kind: sums over the claims
def sumB (V : Nat → Int32) : Nat → Int32
  | 0 => 0
  | n + 1 => sumB V n + V n
theorem sumB_co {V W : Nat → Int32} : ∀ {n : Nat}, (∀ c, c < n → V c = W c) → sumB V n = sumB W n
  | 0, _ => rfl
  | n + 1, h => by
    show sumB V n + V n = sumB W n + W n
    rw [sumB_co (n := n) (fun c hc => h c (by omega)), h n (by omega)]
theorem sumB_s {V : Nat → Int32} {k k2 : Nat} {x y z : Int32} (hx : x = sumB V k) (ek : k2 = k + 1) (hy : y = V k) (hz : z = x + y) : z = sumB V k2 := by
  subst ek hx hy hz; rfl
theorem sumB_u {V : Nat → Int32} {n m : Nat} {v : Int32} (h : m ≤ n) : sumB (upd V n v) m = sumB V m := sumB_co (fun c hc => by unfold upd; exact if_neg (by omega))
-- no award is below nothing
theorem dv_n {x s : Int32} (hx : 0 ≤ x.toInt) (hs : 1 ≤ s.toInt) : 0 ≤ (x / s).toInt ∧ (x / s).toInt ≤ x.toInt := by
  have hne : s ≠ -1 := fun h => by rw [h] at hs; exact absurd hs (by decide)
  rw [Int32.toInt_div_of_ne_right _ _ hne, Int.tdiv_eq_ediv_of_nonneg hx]
  exact ⟨Int.ediv_nonneg hx (by omega), Int.ediv_le_self _ hx⟩
theorem pr_r {p b x y : Int} (h1 : 0 ≤ p) (h2 : p ≤ x) (h3 : 0 ≤ b) (h4 : b ≤ y) : 0 ≤ p * b ∧ p * b ≤ x * y := ⟨Int.mul_nonneg h1 h3, Int.mul_le_mul h2 h4 h3 (by omega)⟩
theorem WOR_r {life price age : Int32} (h1 : 1 ≤ life.toInt ∧ life.toInt ≤ 360) (h2 : 0 ≤ price.toInt ∧ price.toInt ≤ 99999) (h3 : -999 ≤ age.toInt ∧ age.toInt ≤ 9999) : 0 ≤ (WOR life price age).toInt ∧ (WOR life price age).toInt ≤ 135898641 := by
  unfold WOR
  by_cases h : age.toInt < life.toInt
  · rw [if_pos h]
    have ha : (life - age).toInt = life.toInt - age.toInt := i_sub rfl rfl (by omega) (by omega)
    obtain ⟨p, hp⟩ : ∃ p, p = price.toInt := ⟨_, rfl⟩
    obtain ⟨b, hb⟩ : ∃ b, b = life.toInt - age.toInt := ⟨_, rfl⟩
    obtain ⟨m1, m2⟩ := pr_r (p := p) (b := b) (x := 99999) (y := 1359) (by omega) (by omega) (by omega) (by omega)
    have hm : (price * (life - age)).toInt = p * b := i_mul hp.symm (ha.trans hb.symm) (by omega) (by omega)
    have hd := dv_n (x := price * (life - age)) (s := life) (by rw [hm]; exact m1) h1.1
    rw [hm] at hd
    exact ⟨hd.1, by omega⟩
  · rw [if_neg h]; exact ⟨by decide, by decide⟩
theorem lsT_n {s w o wo : Int32} (hs : 1 ≤ s.toInt ∧ s.toInt ≤ 9) (hw : 0 ≤ w.toInt ∧ w.toInt ≤ 9) (ho : 0 ≤ o.toInt ∧ o.toInt ≤ 99) (hwo : 0 ≤ wo.toInt ∧ wo.toInt ≤ 135898641) : 0 ≤ (lsT s w o wo).toInt := by
  have h1 : (s - w).toInt = s.toInt - w.toInt := i_sub rfl rfl (by omega) (by omega)
  obtain ⟨m, hm⟩ : ∃ m : Int32, m = if (s - w).toInt < 0 then 0 else s - w := ⟨_, rfl⟩
  have hm2 : 0 ≤ m.toInt ∧ m.toInt ≤ 9 := by
    rw [hm]
    by_cases h : (s - w).toInt < 0
    · rw [if_pos h]; exact ⟨by decide, by decide⟩
    · rw [if_neg h]; omega
  have h2 : (m - o).toInt = m.toInt - o.toInt := i_sub rfl rfl (by omega) (by omega)
  unfold lsT
  rw [← hm]
  by_cases h : (m - o).toInt ≤ 0
  · rw [if_pos h]; decide
  · rw [if_neg h]
    obtain ⟨p, hp⟩ : ∃ p, p = wo.toInt := ⟨_, rfl⟩
    obtain ⟨b, hb⟩ : ∃ b, b = m.toInt - o.toInt := ⟨_, rfl⟩
    obtain ⟨m1, m2⟩ := pr_r (p := p) (b := b) (x := 135898641) (y := 9) (by omega) (by omega) (by omega) (by omega)
    have hx : (wo * (m - o)).toInt = p * b := i_mul hp.symm (h2.trans hb.symm) (by omega) (by omega)
    exact (dv_n (by rw [hx]; exact m1) hs.1).1
theorem awV_n {d : lwT} {fa : Nat → Int32} {lost ag R : Int32} (hl : 0 ≤ lost.toInt) (ha : 0 ≤ ag.toInt) : 0 ≤ (awV d fa lost ag R).toInt := by
  unfold awV awP
  by_cases h1 : R.toInt = 1
  · rw [if_pos h1]; decide
  rw [if_neg h1]
  by_cases h2 : R.toInt = 2 ∨ R.toInt = 3
  · rw [if_pos h2]; exact hl
  rw [if_neg h2]
  by_cases h3 : R.toInt = 5 ∨ R.toInt = 7
  · rw [if_pos h3]
    by_cases h4 : (lost * byL d fa 112 100 100 / 100).toInt < ag.toInt
    · rw [if_pos h4]; exact ha
    · rw [if_neg h4]; omega
  · rw [if_neg h3]; exact ha
theorem lkM_n {r : Nat → Nat → Int32} {J : Nat → Int32} {h k : Nat} (hR : mRr r) : 0 ≤ (nI (lkM J (gjH (r 18) h) k).toNat).toInt ∧ (nI (lkM J (gjH (r 18) h) k).toNat).toInt ≤ 99 := by
  have h1 : 0 ≤ lkM J (gjH (r 18) h) k ∧ lkM J (gjH (r 18) h) k ≤ 99 := by
    unfold lkM
    by_cases e : (J k).toInt = 99
    · rw [if_pos e]; exact ⟨by decide, by decide⟩
    · rw [if_neg e]
      have h9 : 0 ≤ (gjH (r 18) h (J k).toNatClampNeg).toInt ∧ (gjH (r 18) h (J k).toNatClampNeg).toInt ≤ 9 := hR 18 _
      omega
  rw [nI_toInt (by omega)]
  omega
theorem mLs_n {d : lwT} {r : Nat → Nat → Int32} {J : Nat → Int32} {h k : Nat} (hR : mRr r) (hs : 1 ≤ (r 14 (20 * h + k)).toInt) : 0 ≤ (mLs d r J h k).toInt := by
  have h14 : 0 ≤ (r 14 (20 * h + k)).toInt ∧ (r 14 (20 * h + k)).toInt ≤ 9 := hR 14 _
  have h7 : 0 ≤ (r 7 h).toInt ∧ (r 7 h).toInt ≤ 999 := hR 7 _
  have h6 : 0 ≤ (r 6 h).toInt ∧ (r 6 h).toInt ≤ 999 := hR 6 _
  have h15 : 0 ≤ (r 15 (20 * h + k)).toInt ∧ (r 15 (20 * h + k)).toInt ≤ 360 := hR 15 _
  have hm : (r 7 h - r 6 h).toInt = (r 7 h).toInt - (r 6 h).toInt := i_sub rfl rfl (by omega) (by omega)
  have ha : (r 15 (20 * h + k) + (r 7 h - r 6 h)).toInt = (r 15 (20 * h + k)).toInt + ((r 7 h).toInt - (r 6 h).toInt) := i_add rfl hm (by omega) (by omega)
  have hw : 0 ≤ (mWo r h k).toInt ∧ (mWo r h k).toInt ≤ 135898641 := WOR_r (hR 1 _) (hR 2 _) (by omega)
  exact lsT_n ⟨hs, h14.2⟩ (byL_r (hi := 9) (by decide) ⟨by decide, by decide⟩) (lkM_n hR) hw
theorem mAV_n {d : lwT} {r : Nat → Nat → Int32} {J : Nat → Int32} {c : Nat} {day : Int32} (hR : mRr r) (hs : 1 ≤ (r 14 (20 * (r 40 c).toNatClampNeg + (r 41 c).toNatClampNeg)).toInt) : 0 ≤ (mAV d r J c day).toInt := by
  have h45 : 0 ≤ (r 45 c).toInt ∧ (r 45 c).toInt ≤ 999999 := hR 45 _
  exact awV_n (mLs_n hR hs) h45.1
-- the class: what hangs on the rows that its scratch doesn't touch
def mx0f (l : Int32) : Int32 := if l.toInt < 0 then 0 else l
theorem mx0f_n {l : Int32} (h : 0 ≤ l.toInt) : mx0f l = l := if_neg (by omega)
section XFRAME
variable {d : lwT} {i : Nat → Int32} {r R : Nat → Nat → Int32} {c k : Nat} {day e f : Int32} {T : List Nat}
theorem xTh_E (h : mEr T r R) (hT : ∀ p ∈ ([66, 67, 68, 69, 73, 75] : List Nat), p ∉ T) : xTh i R k e f = xTh i r k e f := by
  unfold xTh
  rw [h 66 (hT _ (by decide)), h 67 (hT _ (by decide)), h 68 (hT _ (by decide)), h 69 (hT _ (by decide)), h 73 (hT _ (by decide)), h 75 (hT _ (by decide))]
theorem xWo_E (h : mEr T r R) (hT : ∀ p ∈ ([2, 3, 67, 69] : List Nat), p ∉ T) : xWo i R k = xWo i r k := by
  unfold xWo
  rw [h 2 (hT _ (by decide)), h 3 (hT _ (by decide)), h 67 (hT _ (by decide)), h 69 (hT _ (by decide))]
theorem xLs_E (h : mEr T r R) (hT : ∀ p ∈ ([2, 3, 66, 67, 68, 69, 73, 75] : List Nat), p ∉ T) : xLs d i R k = xLs d i r k := by
  unfold xLs xWe
  rw [xTh_E h (fun p hp => hT p (by revert p; decide)), xWo_E h (fun p hp => hT p (by revert p; decide)), h 68 (hT _ (by decide)), h 73 (hT _ (by decide)), h 75 (hT _ (by decide))]
theorem xAV_E (h : mEr T r R) (hT : ∀ p ∈ ([2, 3, 31, 32, 33, 34, 35, 36, 37, 66, 67, 68, 69, 73, 75] : List Nat), p ∉ T) : xAV d i R c day = xAV d i r c day := by
  have h31 := h 31 (hT _ (by decide))
  have e1 : xFa i R c = xFa i r c := by
    unfold xFa
    rw [xTh_E h (fun p hp => hT p (by revert p; decide)), h31, h 32 (hT _ (by decide)), h 33 (hT _ (by decide))]
  have e2 : xLc d i R c = xLc d i r c := by
    unfold xLc
    rw [xLs_E h (fun p hp => hT p (by revert p; decide)), h31]
  unfold xAV xAR
  rw [e1, e2, h 33 (hT _ (by decide)), h 34 (hT _ (by decide)), h 35 (hT _ (by decide)), h 36 (hT _ (by decide)), h 37 (hT _ (by decide))]
end XFRAME
def mBV (Pc : Nat → Prop) (i : Nat → Int32) (r : Nat → Nat → Int32) (p1 : Int32) (c : Nat) (v : Int32) : Prop := (¬ (Pc c ∧ (r 44 c).toInt ≤ p1.toInt) → v = 0) ∧ ((Pc c ∧ (r 44 c).toInt ≤ p1.toInt) → ∃ J9 : Nat → Int32, gjJ (gjH (r 12) ((r 40 c).toNatClampNeg)) (gjH (r 13) ((r 40 c).toNatClampNeg)) (gjH (r 14) ((r 40 c).toNatClampNeg)) (r 10 ((r 40 c).toNatClampNeg)).toNatClampNeg (gjH (r 16) ((r 40 c).toNatClampNeg)) (gjH (r 17) ((r 40 c).toNatClampNeg)) (gjH (r 18) ((r 40 c).toNatClampNeg)) (r 11 ((r 40 c).toNatClampNeg)).toNatClampNeg 99 J9 ∧ v = mAV (mD i r) r J9 c p1)
def mBX (Pc : Nat → Prop) (i : Nat → Int32) (r : Nat → Nat → Int32) (p1 : Int32) (n : Nat) (t : Int32) : Prop := ∃ V : Nat → Int32, (∀ c, c < n → mBV Pc i r p1 c (V c)) ∧ t = sumB V n
theorem mBX_0 {Pc : Nat → Prop} {i : Nat → Int32} {r : Nat → Nat → Int32} {p1 : Int32} : mBX Pc i r p1 0 0 := ⟨fun _ => 0, fun c hc => absurd hc (Nat.not_lt_zero c), rfl⟩
theorem mBX_s {Pc : Nat → Prop} {i : Nat → Int32} {r : Nat → Nat → Int32} {p1 t t2 v : Int32} {n n2 : Nat} (h : mBX Pc i r p1 n t) (hv : mBV Pc i r p1 n v) (e : t2 = t + v) (en : n2 = n + 1) : mBX Pc i r p1 n2 t2 := by
  obtain ⟨V, h1, h2⟩ := h
  subst en
  have hu : upd V n v n = v := by unfold upd; exact if_pos rfl
  refine ⟨upd V n v, fun c hc => ?_, ?_⟩
  · by_cases ec : c = n
    · rw [ec, hu]; exact hv
    · rw [show upd V n v c = V c from by unfold upd; exact if_neg ec]; exact h1 c (by omega)
  · rw [e, h2]
    show _ = sumB (upd V n v) n + upd V n v n
    rw [hu, sumB_u (Nat.le_refl _)]
def mPh (r : Nat → Nat → Int32) (p0 : Int32) (c : Nat) : Prop := r 40 c = p0
