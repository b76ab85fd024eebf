-- bounds: what an award can be, what all together
theorem dv_b {x s : Int32} {q : Int} (hx : 0 ≤ x.toInt) (hs : 1 ≤ s.toInt) (hq : x.toInt ≤ q * s.toInt) : 0 ≤ (x / s).toInt ∧ (x / s).toInt ≤ q := by
  have hne : s ≠ -1 := fun h => by rw [h] at hs; exact absurd hs (by decide)
  rw [Int32.toInt_div_of_ne_right _ _ hne, Int.tdiv_eq_ediv_of_nonneg hx]
  exact ⟨Int.ediv_nonneg hx (by omega), Int.ediv_le_of_le_mul (by omega) hq⟩
theorem WOR_b {life price age : Int32} (h1 : 1 ≤ life.toInt ∧ life.toInt ≤ 360) (h2 : 0 ≤ price.toInt ∧ price.toInt ≤ 99999) (h3 : 0 ≤ age.toInt ∧ age.toInt ≤ 9999) : 0 ≤ (WOR life price age).toInt ∧ (WOR life price age).toInt ≤ 99999 := by
  unfold WOR
  by_cases h : age.toInt < life.toInt
  · rw [if_pos h]
    have ha : (life - age).toInt = life.toInt - age.toInt := i_sub rfl rfl (by omega) (by omega)
    obtain ⟨p, hp⟩ : ∃ p, p = price.toInt := ⟨_, rfl⟩
    obtain ⟨b, hb⟩ : ∃ b, b = life.toInt - age.toInt := ⟨_, rfl⟩
    obtain ⟨m1, m2⟩ := pr_r (p := p) (b := b) (x := 99999) (y := 360) (by omega) (by omega) (by omega) (by omega)
    have hm : (price * (life - age)).toInt = p * b := i_mul hp.symm (ha.trans hb.symm) (by omega) (by omega)
    have hq : p * b ≤ 99999 * life.toInt := Int.mul_le_mul (by omega) (by omega) (by omega) (by omega)
    exact dv_b (by rw [hm]; exact m1) h1.1 (by rw [hm]; exact hq)
  · rw [if_neg h]; exact ⟨by decide, by decide⟩
theorem lsT_b {s w o wo : Int32} (hs : 1 ≤ s.toInt ∧ s.toInt ≤ 9) (hw : 0 ≤ w.toInt ∧ w.toInt ≤ 9) (ho : 0 ≤ o.toInt ∧ o.toInt ≤ 99) (hwo : 0 ≤ wo.toInt ∧ wo.toInt ≤ 99999) : 0 ≤ (lsT s w o wo).toInt ∧ (lsT s w o wo).toInt ≤ 99999 := by
  have h1 : (s - w).toInt = s.toInt - w.toInt := i_sub rfl rfl (by omega) (by omega)
  obtain ⟨m, hm⟩ : ∃ m : Int32, m = if (s - w).toInt < 0 then 0 else s - w := ⟨_, rfl⟩
  have hm2 : 0 ≤ m.toInt ∧ m.toInt ≤ s.toInt := by
    rw [hm]
    by_cases h : (s - w).toInt < 0
    · rw [if_pos h]; exact ⟨by decide, by show (0 : Int) ≤ s.toInt; omega⟩
    · rw [if_neg h]; omega
  have h2 : (m - o).toInt = m.toInt - o.toInt := i_sub rfl rfl (by omega) (by omega)
  unfold lsT
  rw [← hm]
  by_cases h : (m - o).toInt ≤ 0
  · rw [if_pos h]; exact ⟨by decide, by decide⟩
  · rw [if_neg h]
    obtain ⟨p, hp⟩ : ∃ p, p = wo.toInt := ⟨_, rfl⟩
    obtain ⟨b, hb⟩ : ∃ b, b = m.toInt - o.toInt := ⟨_, rfl⟩
    obtain ⟨m1, m2⟩ := pr_r (p := p) (b := b) (x := 99999) (y := 9) (by omega) (by omega) (by omega) (by omega)
    have hx : (wo * (m - o)).toInt = p * b := i_mul hp.symm (h2.trans hb.symm) (by omega) (by omega)
    have hq : p * b ≤ 99999 * s.toInt := Int.mul_le_mul (by omega) (by omega) (by omega) (by omega)
    exact dv_b (by rw [hx]; exact m1) hs.1 (by rw [hx]; exact hq)
theorem awV_b {d : lwT} {fa : Nat → Int32} {lost ag R : Int32} (hl : 0 ≤ lost.toInt ∧ lost.toInt ≤ 99999) (ha : 0 ≤ ag.toInt ∧ ag.toInt ≤ 999999) : 0 ≤ (awV d fa lost ag R).toInt ∧ (awV d fa lost ag R).toInt ≤ 999999 := by
  unfold awV awP
  by_cases h1 : R.toInt = 1
  · rw [if_pos h1]; exact ⟨by decide, by decide⟩
  rw [if_neg h1]
  by_cases h2 : R.toInt = 2 ∨ R.toInt = 3
  · rw [if_pos h2]; omega
  rw [if_neg h2]
  by_cases h3 : R.toInt = 5 ∨ R.toInt = 7
  · rw [if_pos h3]
    by_cases h4 : (lost * byL d fa 112 100 100 / 100).toInt < ag.toInt
    · rw [if_pos h4]; exact ha
    · rw [if_neg h4]
      have hb : 0 ≤ (byL d fa 112 100 100).toInt ∧ (byL d fa 112 100 100).toInt ≤ (100 : Int32).toInt := byL_r (by decide) ⟨by decide, by decide⟩
      have h100 : (100 : Int32).toInt = 100 := rfl
      obtain ⟨p, hp⟩ : ∃ p, p = lost.toInt := ⟨_, rfl⟩
      obtain ⟨b, hb2⟩ : ∃ b, b = (byL d fa 112 100 100).toInt := ⟨_, rfl⟩
      obtain ⟨m1, m2⟩ := pr_r (p := p) (b := b) (x := 99999) (y := 100) (by omega) (by omega) (by omega) (by omega)
      have hx : (lost * byL d fa 112 100 100).toInt = p * b := i_mul hp.symm hb2.symm (by omega) (by omega)
      exact dv_b (x := lost * byL d fa 112 100 100) (s := 100) (q := 999999) (by rw [hx]; exact m1) (by decide) (by rw [hx, h100]; omega)
  · rw [if_neg h3]; exact ha
theorem lk9_r {z : Int} (h : 0 ≤ z ∧ z ≤ 9) : 0 ≤ (nI z.toNat).toInt ∧ (nI z.toNat).toInt ≤ 99 := by
  rw [nI_toInt (by omega)]
  omega
theorem lkX_r {J ls : Nat → Int32} {nl : Int} {k : Nat} (h : ∀ j, 0 ≤ (ls j).toInt ∧ (ls j).toInt ≤ 9) : 0 ≤ lkX J ls nl k ∧ lkX J ls nl k ≤ 9 := by
  unfold lkX
  by_cases e : (J k).toInt < 0 ∨ nl ≤ (J k).toInt
  · rw [if_pos e]; exact ⟨by decide, by decide⟩
  · rw [if_neg e]; exact h _
theorem lkM_r {J ls : Nat → Int32} {k : Nat} (h : ∀ j, 0 ≤ (ls j).toInt ∧ (ls j).toInt ≤ 9) : 0 ≤ lkM J ls k ∧ lkM J ls k ≤ 9 := by
  unfold lkM
  by_cases e : (J k).toInt = 99
  · rw [if_pos e]; exact ⟨by decide, by decide⟩
  · rw [if_neg e]; exact h _
theorem mLs_b {d : lwT} {r : Nat → Nat → Int32} {J : Nat → Int32} {h k : Nat} (hR : mRr r) (hs : 1 ≤ (r 14 (20 * h + k)).toInt) (hmo : (r 6 h).toInt ≤ (r 7 h).toInt) : 0 ≤ (mLs d r J h k).toInt ∧ (mLs d r J h k).toInt ≤ 99999 := by
  have h14 : 0 ≤ (r 14 (20 * h + k)).toInt ∧ (r 14 (20 * h + k)).toInt ≤ 9 := hR 14 _
  have h7 : 0 ≤ (r 7 h).toInt ∧ (r 7 h).toInt ≤ 999 := hR 7 _
  have h6 : 0 ≤ (r 6 h).toInt ∧ (r 6 h).toInt ≤ 999 := hR 6 _
  have h15 : 0 ≤ (r 15 (20 * h + k)).toInt ∧ (r 15 (20 * h + k)).toInt ≤ 360 := hR 15 _
  have hm : (r 7 h - r 6 h).toInt = (r 7 h).toInt - (r 6 h).toInt := i_sub rfl rfl (by omega) (by omega)
  have ha : (r 15 (20 * h + k) + (r 7 h - r 6 h)).toInt = (r 15 (20 * h + k)).toInt + ((r 7 h).toInt - (r 6 h).toInt) := i_add rfl hm (by omega) (by omega)
  have hw : 0 ≤ (mWo r h k).toInt ∧ (mWo r h k).toInt ≤ 99999 := WOR_b (hR 1 _) (hR 2 _) (by omega)
  exact lsT_b ⟨hs, h14.2⟩ (byL_r (hi := 9) (by decide) ⟨by decide, by decide⟩) (lk9_r (lkM_r (fun j => hR 18 _))) hw
theorem mAV_b {d : lwT} {r : Nat → Nat → Int32} {J : Nat → Int32} {c : Nat} {day : Int32} (hR : mRr r) (hs : 1 ≤ (r 14 (20 * (r 40 c).toNatClampNeg + (r 41 c).toNatClampNeg)).toInt) (hmo : (r 6 (r 40 c).toNatClampNeg).toInt ≤ (r 7 (r 40 c).toNatClampNeg).toInt) : 0 ≤ (mAV d r J c day).toInt ∧ (mAV d r J c day).toInt ≤ 999999 := by
  have h45 : 0 ≤ (r 45 c).toInt ∧ (r 45 c).toInt ≤ 999999 := hR 45 _
  exact awV_b (mLs_b hR hs hmo) h45
theorem xLs_b {d : lwT} {i : Nat → Int32} {r : Nat → Nat → Int32} {k : Nat} (hI : yRi i) (hR : yRr r) (hs : 1 ≤ (r 68 k).toInt) (hl : 1 ≤ (r 2 (r 67 k).toNatClampNeg).toInt ∧ (r 2 (r 67 k).toNatClampNeg).toInt ≤ 360) (hmo : (i 20).toInt ≤ (i 21).toInt) : 0 ≤ (xLs d i r k).toInt ∧ (xLs d i r k).toInt ≤ 99999 := by
  have h68 : 0 ≤ (r 68 k).toInt ∧ (r 68 k).toInt ≤ 9 := hR 68 _
  have h21 : 0 ≤ (i 21).toInt ∧ (i 21).toInt ≤ 999 := hI 21
  have h20 : 0 ≤ (i 20).toInt ∧ (i 20).toInt ≤ 999 := hI 20
  have h69 : 0 ≤ (r 69 k).toInt ∧ (r 69 k).toInt ≤ 360 := hR 69 _
  have hm : (i 21 - i 20).toInt = (i 21).toInt - (i 20).toInt := i_sub rfl rfl (by omega) (by omega)
  have ha : (r 69 k + (i 21 - i 20)).toInt = (r 69 k).toInt + ((i 21).toInt - (i 20).toInt) := i_add rfl hm (by omega) (by omega)
  have hw : 0 ≤ (xWo i r k).toInt ∧ (xWo i r k).toInt ≤ 99999 := WOR_b hl (hR 3 _) (by omega)
  exact lsT_b ⟨hs, h68.2⟩ (byL_r (hi := 9) (by decide) ⟨by decide, by decide⟩) (lk9_r (lkX_r (fun j => hR 73 _))) hw
theorem xAV_b {d : lwT} {i : Nat → Int32} {r : Nat → Nat → Int32} {c : Nat} {day : Int32} (hI : yRi i) (hR : yRr r) (hs : 1 ≤ (r 68 (r 31 c).toNatClampNeg).toInt) (hl : 1 ≤ (r 2 (r 67 (r 31 c).toNatClampNeg).toNatClampNeg).toInt ∧ (r 2 (r 67 (r 31 c).toNatClampNeg).toNatClampNeg).toInt ≤ 360) (hmo : (i 20).toInt ≤ (i 21).toInt) : 0 ≤ (xAV d i r c day).toInt ∧ (xAV d i r c day).toInt ≤ 999999 := by
  have h35 : 0 ≤ (r 35 c).toInt ∧ (r 35 c).toInt ≤ 999999 := hR 35 _
  exact awV_b (xLs_b hI hR hs hl hmo) h35
theorem sumB_r {V : Nat → Int32} {m : Int} (hm : 0 ≤ m ∧ m ≤ 999999) : ∀ n : Nat, n ≤ 30 → (∀ c, c < n → 0 ≤ (V c).toInt ∧ (V c).toInt ≤ m) → 0 ≤ (sumB V n).toInt ∧ (sumB V n).toInt ≤ 999999 * (n : Int) := by
  intro n
  induction n with
  | zero => intro _ _; exact ⟨by show (0 : Int) ≤ (0 : Int32).toInt; decide, by show (0 : Int32).toInt ≤ 999999 * ((0 : Nat) : Int); decide⟩
  | succ n ih =>
    intro hn h
    have h1 := ih (by omega) (fun c hc => h c (by omega))
    have h2 := h n (by omega)
    have e : (sumB V n + V n).toInt = (sumB V n).toInt + (V n).toInt := i_add rfl rfl (by omega) (by omega)
    show 0 ≤ (sumB V n + V n).toInt ∧ (sumB V n + V n).toInt ≤ 999999 * ((n + 1 : Nat) : Int)
    rw [e]
    omega
-- the awards of a home's claims, in the words of the class
def xJV (d : lwT) (i : Nat → Int32) (r : Nat → Nat → Int32) (p0 p1 : Int32) (c : Nat) : Int32 := if (r 30 c).toInt = p0.toInt then mx0f (if p1.toInt < (r 34 c).toInt then -2 else xAV d i r c p1) else 0
section JUDGED
variable {d : lwT} {i : Nat → Int32} {r R : Nat → Nat → Int32} {p0 p1 : Int32} {c : Nat} {T : List Nat}
theorem xJV_y (h : (r 30 c).toInt = p0.toInt) : xJV d i r p0 p1 c = mx0f (if p1.toInt < (r 34 c).toInt then -2 else xAV d i r c p1) := if_pos h
theorem xJV_n (h : (r 30 c).toInt ≠ p0.toInt) : xJV d i r p0 p1 c = 0 := if_neg h
theorem xJV_b (h : (r 30 c).toInt = p0.toInt → 0 ≤ (xAV d i r c p1).toInt ∧ (xAV d i r c p1).toInt ≤ 999999) : 0 ≤ (xJV d i r p0 p1 c).toInt ∧ (xJV d i r p0 p1 c).toInt ≤ 999999 := by
  by_cases e : (r 30 c).toInt = p0.toInt
  · rw [xJV_y e]
    have h9 := h e
    by_cases e2 : p1.toInt < (r 34 c).toInt
    · rw [if_pos e2]; exact ⟨by decide, by decide⟩
    · rw [if_neg e2, mx0f_n h9.1]; exact h9
  · rw [xJV_n e]; exact ⟨by decide, by decide⟩
end JUDGED
-- to the owner, the penalty
def ownG (n dep : Int32) : Int32 := if n.toInt < dep.toInt then n else dep
def penI (kept dep b : Int32) : Int32 := if kept.toInt = 0 then dep * b else 0
def bckI (n dep pen : Int32) : Int32 := dep - ownG n dep + pen
theorem ownG_a {n dep m : Int32} (e : m = if n < dep then n else dep) : m = ownG n dep := by
  unfold ownG
  rw [e]
  by_cases a : n < dep
  · rw [if_pos a, if_pos (b_lt a)]
  · have h := b_nlt a
    rw [if_neg a, if_neg (by omega)]
theorem ownG_l {n dep : Int32} (h : n.toInt < dep.toInt) : n = ownG n dep := (if_pos h).symm
theorem ownG_g {n dep : Int32} (h : ¬ n.toInt < dep.toInt) : dep = ownG n dep := (if_neg h).symm
theorem penI_0 {kept dep b : Int32} (h : kept.toInt ≠ 0) : (0 : Int32) = penI kept dep b := (if_neg h).symm
theorem penI_1 {kept dep b z : Int32} (h : kept.toInt = 0) (e : z = dep * b) : z = penI kept dep b := e.trans (if_pos h).symm
theorem penI_2 {kept dep b z : Int32} (h : kept.toInt = 0) (e : z = b * dep) : z = penI kept dep b := (e.trans (Int32.mul_comm b dep)).trans (if_pos h).symm
theorem penI_r {kept dep b : Int32} (hd : 0 ≤ dep.toInt ∧ dep.toInt ≤ 999999) (hb : 0 ≤ b.toInt ∧ b.toInt ≤ 9) : 0 ≤ (penI kept dep b).toInt ∧ (penI kept dep b).toInt ≤ 8999991 := by
  unfold penI
  by_cases h : kept.toInt = 0
  · rw [if_pos h]
    obtain ⟨p, hp⟩ : ∃ p, p = dep.toInt := ⟨_, rfl⟩
    obtain ⟨q, hq⟩ : ∃ q, q = b.toInt := ⟨_, rfl⟩
    obtain ⟨m1, m2⟩ := pr_r (p := p) (b := q) (x := 999999) (y := 9) (by omega) (by omega) (by omega) (by omega)
    have hx : (dep * b).toInt = p * q := i_mul hp.symm hq.symm (by omega) (by omega)
    rw [hx]; omega
  · rw [if_neg h]; exact ⟨by decide, by decide⟩
theorem ownG_r {n dep : Int32} (hd : 0 ≤ dep.toInt ∧ dep.toInt ≤ 999999) (hn : 0 ≤ n.toInt) : 0 ≤ (ownG n dep).toInt ∧ (ownG n dep).toInt ≤ dep.toInt := by
  unfold ownG
  by_cases h : n.toInt < dep.toInt
  · rw [if_pos h]; omega
  · rw [if_neg h]; omega
theorem bckI_r {n dep pen : Int32} (hd : 0 ≤ dep.toInt ∧ dep.toInt ≤ 999999) (hn : 0 ≤ n.toInt) (hp : 0 ≤ pen.toInt ∧ pen.toInt ≤ 8999991) : 0 ≤ (bckI n dep pen).toInt ∧ (bckI n dep pen).toInt ≤ 9999990 ∧ (bckI n dep pen).toInt = (dep - ownG n dep).toInt + pen.toInt := by
  have h1 := ownG_r hd hn
  have h2 : (dep - ownG n dep).toInt = dep.toInt - (ownG n dep).toInt := i_sub rfl rfl (by omega) (by omega)
  have h3 : (bckI n dep pen).toInt = (dep - ownG n dep).toInt + pen.toInt := i_add rfl rfl (by omega) (by omega)
  omega
-- all awards and what is owed, below overflow
theorem all_n {t o : Int32} (h1 : 0 ≤ t.toInt ∧ t.toInt ≤ 30000000) (h2 : 0 ≤ o.toInt ∧ o.toInt ≤ 3000000) : 0 ≤ (t + o).toInt := by
  have e : (t + o).toInt = t.toInt + o.toInt := i_add rfl rfl (by omega) (by omega)
  omega
theorem mBX_b {Pc : Nat → Prop} {i : Nat → Int32} {r : Nat → Nat → Int32} {p1 t : Int32} {n : Nat} (h : mBX Pc i r p1 n t) (hn : n ≤ 30) (hR : mRr r) (h14 : ∀ c, c < n → 1 ≤ (r 14 (20 * (r 40 c).toNatClampNeg + (r 41 c).toNatClampNeg)).toInt) (hmo : ∀ c, c < n → (r 6 (r 40 c).toNatClampNeg).toInt ≤ (r 7 (r 40 c).toNatClampNeg).toInt) : 0 ≤ t.toInt ∧ t.toInt ≤ 30000000 := by
  obtain ⟨V, h1, h2⟩ := h
  have h3 : ∀ c, c < n → 0 ≤ (V c).toInt ∧ (V c).toInt ≤ 999999 := by
    intro c hc
    obtain ⟨a, b⟩ := h1 c hc
    by_cases e : Pc c ∧ (r 44 c).toInt ≤ p1.toInt
    · obtain ⟨J9, _, h9⟩ := b e
      rw [h9]; exact mAV_b hR (h14 c hc) (hmo c hc)
    · rw [a e]; exact ⟨by decide, by decide⟩
  have h4 := sumB_r (V := V) (m := 999999) ⟨by decide, by decide⟩ n hn h3
  rw [h2]
  omega
def mHf (r : Nat → Nat → Int32) (h : Nat) : Nat → Int32 := faL [0, 0, 0, 0, 0, r 7 h - r 6 h, r 4 h, r 3 h, 0, 0]
def xHf (i : Nat → Int32) : Nat → Int32 := faL [0, 0, 0, 0, 0, i 21 - i 20, i 18, i 17, 0, 0]
def mOw (r : Nat → Nat → Int32) (h k : Nat) : Int32 := r 9 (3 * h + k)
def mDn (r : Nat → Nat → Int32) (d : lwT) (h : Nat) : Int32 := penI (r 19 h) (r 5 h) (byL d (mHf r h) 116 9 0)
def xDn (i : Nat → Int32) (d : lwT) : Int32 := penI (i 22) (i 19) (byL d (xHf i) 116 9 0)
theorem mDn_E {T : List Nat} {r R : Nat → Nat → Int32} {d : lwT} {h : Nat} (hr : mEr T r R) (hT : ∀ p ∈ ([3, 4, 5, 6, 7, 19] : List Nat), p ∉ T) : mDn R d h = mDn r d h := by
  unfold mDn mHf
  rw [hr 3 (hT _ (by decide)), hr 4 (hT _ (by decide)), hr 5 (hT _ (by decide)), hr 6 (hT _ (by decide)), hr 7 (hT _ (by decide)), hr 19 (hT _ (by decide))]
theorem mOw_E {T : List Nat} {r R : Nat → Nat → Int32} {h : Nat} (hr : mEr T r R) (hT : 9 ∉ T) : mOw R h = mOw r h := by
  unfold mOw
  rw [hr 9 hT]
theorem mDn_r {r : Nat → Nat → Int32} {d : lwT} {h : Nat} (hR : mRr r) : 0 ≤ (mDn r d h).toInt ∧ (mDn r d h).toInt ≤ 8999991 := penI_r (hR 5 _) (byL_r (hi := 9) (by decide) ⟨by decide, by decide⟩)
theorem xDn_r {i : Nat → Int32} {d : lwT} (hI : yRi i) : 0 ≤ (xDn i d).toInt ∧ (xDn i d).toInt ≤ 8999991 := penI_r (hI 19) (byL_r (hi := 9) (by decide) ⟨by decide, by decide⟩)
theorem mOw_r {r : Nat → Nat → Int32} {h : Nat} (hR : mRr r) : 0 ≤ (sumB (mOw r h) 3).toInt ∧ (sumB (mOw r h) 3).toInt ≤ 3000000 := by
  have h1 := sumB_r (V := mOw r h) (m := 999999) ⟨by decide, by decide⟩ 3 (by decide) (fun c _ => hR 9 _)
  omega
theorem xOw_r {r : Nat → Nat → Int32} (hR : yRr r) : 0 ≤ (sumB (r 63) 3).toInt ∧ (sumB (r 63) 3).toInt ≤ 3000000 := by
  have h1 := sumB_r (V := r 63) (m := 999999) ⟨by decide, by decide⟩ 3 (by decide) (fun c _ => hR 63 c)
  omega
theorem sumB_t {V : Nat → Int32} {t x v y : Int32} {k k2 : Nat} (hx : x = t + sumB V k) (hv : v = V k) (e : y = x + v) (ek : k2 = k + 1) : y = t + sumB V k2 := by
  rw [e, hx, hv, ek]
  exact Int32.add_assoc _ _ _
set_option maxHeartbeats 4000000 in
set_option maxRecDepth 100000 in
theorem c_X12_awardsAll9 (l : Launch) (D : va_G) (cy : Nat → ClassId) (a : Nat → Nat) (i : Nat → Int32) (r : Nat → Nat → Int32) (rl : Nat → Int64) (p0 p1 : Int32) (sz : Nat) (hRi : mRi i) (hRr : mRr r) (hE : mE i r) (hs9 : ∀ c : Nat, (c : Int) < (i 51).toInt → gjSt (gjH (r 14) ((r 40 c).toNatClampNeg)) (r 10 ((r 40 c).toNatClampNeg)).toNatClampNeg ∧ gjSt (gjH (r 18) ((r 40 c).toNatClampNeg)) (r 11 ((r 40 c).toNatClampNeg)).toNatClampNeg) : Met l yX12_awardsAll (Cond.code yX12_awardsAll cX12_awardsAll 5 (some .int) :: gT) { frames := 7, cells := 0, slots := 0, locals := 168 } (va_Pc [.ref (a 0), .int p0, .int p1] (rQ D cy (mW cy a i r rl) sz)) (va_Qi (fun (z : Int32) (u : (Nat → Int32) × (Nat → Nat → Int32)) => mRi u.1 ∧ mRr u.2 ∧ mEi [23, 24, 25, 26, 27, 28, 29, 30, 60] i u.1 ∧ mEr [32, 33, 34, 35, 36, 37, 38, 39] r u.2 ∧ (mBX (mPh r p0) i r p1 (i 51).toNatClampNeg z)) (fun (u : (Nat → Int32) × (Nat → Nat → Int32)) t => va_P D vwCl (mW cy a u.1 u.2 rl) t.heap ∧ va_K D vwCl (vT cy) t ∧ va_D (va_A (mW cy a i r rl) sz) (mW cy a u.1 u.2 rl)) (va_A (mW cy a i r rl) sz)) 0 0 (va_A (mW cy a i r rl) sz) := by
  refine Met.ofQ (cc := cX12_awardsAll) (maxL := 5) (ret := (some .int)) (by decide) rfl ?_
  intro p e s m args below meth c s₁ B hml hv Q hQ
  obtain ⟨rfl, hsz, hP, hK, hD0⟩ := hv
  have hx := B.exec
  have hb := B.bytes
  have hr := B.returns
  have hlocks := B.notSynchronized
  have hT : ∀ w ∈ gT, w.before _ s = true := fun w h => atoms_spec (ws := (Cond.code yX12_awardsAll cX12_awardsAll 5 (some .int) :: gT)) B.pre w (List.mem_cons_of_mem _ h)
  have hown : s.vm.findClass RX12 = some m.cls := findClass_of_methodNamed B.named
  subst hsz
  have hD := hD0.self (sz := s.heap.size)
  generalize hAe : va_A (mW cy a i r rl) s.heap.size = A at hD hQ
  have hA : ∀ q : Nat, s.heap.size ≤ q → A q := fun q h => by rw [← hAe]; exact Or.inr h
  have hS : va_S A s.heap s.heap [] := va_S.rf
  have hl := lv_entry ([.ref (a 0), .int p0, .int p1]) (n := 5) (Nat.le_of_ble_eq_true rfl)
  rw [lg_entry_eq]
  generalize (lg_sl ([.ref (a 0), .int p0, .int p1]) ++ List.replicate (5 - (lg_sl ([.ref (a 0), .int p0, .int p1])).length) Slot.unset).toArray = ls at hl ⊢
  have hl : lv_has ls 5 [(0, .ref (a 0)), (1, .int p0), (2, .int p1)] := hl
  have hEi : mEi [23, 24, 25, 26, 27, 28, 29, 30, 60] i i := Ei_rf
  have hEr : mEr [32, 33, 34, 35, 36, 37, 38, 39] r r := Er_rf
  have hg51 : 0 ≤ (i 51).toInt ∧ (i 51).toInt ≤ 30 := hRi 51
  refine lv_iconst (v := 0) hx hb dX12_awardsAll_0 (by decide) ?_
  refine lv_istore_n (lv' := [(3, .int 0), (0, .ref (a 0)), (1, .int p0), (2, .int p1)]) hx hb dX12_awardsAll_1 rfl hl (by decide) rfl (fun ls hl => ?_)
  refine lv_iconst (v := 0) hx hb dX12_awardsAll_2 (by decide) ?_
  refine lv_istore (lv' := [(4, .int 0), (3, .int 0), (0, .ref (a 0)), (1, .int p0), (2, .int p1)]) hx hb dX12_awardsAll_3 hl (by decide) rfl (fun ls hl => ?_)
  have loop_1 : ∀ (n : Nat) (x1_4 : Int32) (x1_3 : Int32) (i1 : Nat → Int32) (r1 : Nat → Nat → Int32) (H : Heap) (locs : List Loc) (ls : Array Slot), (30 - x1_4.toInt).toNat < n → (0 ≤ x1_4.toInt ∧ x1_4.toInt ≤ 30) → mRi i1 → mEi [23, 24, 25, 26, 27, 28, 29, 30, 60] i i1 → mRr r1 → mEr [32, 33, 34, 35, 36, 37, 38, 39] r r1 → (x1_4.toInt ≤ (i 51).toInt ∧ mBX (mPh r p0) i r p1 x1_4.toNatClampNeg x1_3) → va_P D vwCl (mW cy a i1 r1 rl) H → va_D A (mW cy a i1 r1 rl) → va_S A s.heap H locs → lv_has ls 5 [(4, .int x1_4), (3, .int x1_3), (0, .ref (a 0)), (1, .int p0), (2, .int p1)] → W p l e ({ frames := 7, cells := 0, slots := 0, locals := 168 } : Room) s m ([.ref (a 0), .int p0, .int p1] : List Value).toArray below meth c H locs 0 0 Q (F0 m 5 ls []) := by
    intro n
    induction n with
    | zero =>
      intro x1_4 x1_3 i1 r1 H locs ls hm1 hf1_0 hRi hEi hRr hEr hx1 hP hD hS hl
      exact absurd hm1 (by omega)
    | succ n ih1 =>
      intro x1_4 x1_3 i1 r1 H locs ls hm1 hf1_0 hRi hEi hRr hEr hx1 hP hD hS hl
      refine lv_iload hx hb dX12_awardsAll_5 (lv_at hl 0 rfl) ?_
      refine lv_aload_n hx hb dX12_awardsAll_7 rfl (lv_at hl 2 rfl) ?_
      refine va_get (D := D) (ci := 12) (v := .int (i1 51)) (C := RX12) (T := TX12) (N := 91) hx hb hT iX12 hown hK hP 0 rfl rfl 51 (by decide) (hT _ t_11) (fun _ h9 => h9) rfl dX12_awardsAll_8 ?_
      have hg_2 : 0 ≤ (i1 51).toInt ∧ (i1 51).toInt ≤ 30 := hRi 51
      refine lv_icmp_ge (tgt := 56) hx hb dX12_awardsAll_11 (by decide) (fun c_3 => ?_) (fun c_3 => ?_)
      · have c_3 : (i1 51).toInt ≤ x1_4.toInt := b_le c_3
        have hi51 : (i1 51).toInt = (i 51).toInt := congrArg Int32.toInt (hEi 51 (by decide))
        refine lv_iload_n hx hb dX12_awardsAll_56 rfl (lv_at hl 1 rfl) ?_
        subst hQ
        exact W.iret (v := x1_3) hx hb hr (fun t ht hW => ⟨⟨_, (i1, r1), rfl, ⟨hRi, hRr, hEi, hEr, (by have h8 := hx1.1; have h9 := hx1.2; rw [show x1_4.toNatClampNeg = (i 51).toNatClampNeg from (by show x1_4.toInt.toNat = (i 51).toInt.toNat; omega)] at h9; exact h9)⟩, by rw [ht]; exact hP, va_K.moved hW.alike hK, hD⟩, hS.F ht⟩) hS.2.2 dX12_awardsAll_57
      · have c_3 : x1_4.toInt < (i1 51).toInt := b_nle c_3
        have hi51 : (i1 51).toInt = (i 51).toInt := congrArg Int32.toInt (hEi 51 (by decide))
        refine lv_iload_n hx hb dX12_awardsAll_14 rfl (lv_at hl 1 rfl) ?_
        refine lv_aload_n hx hb dX12_awardsAll_15 rfl (lv_at hl 2 rfl) ?_
        refine va_get (D := D) (ci := 12) (v := .ref (a 40)) (C := RX12) (T := TX12) (N := 91) hx hb hT iX12 hown hK hP 0 rfl rfl 52 (by decide) (hT _ t_75) (fun _ h9 => h9) rfl dX12_awardsAll_16 ?_
        refine lv_iload hx hb dX12_awardsAll_19 (lv_at hl 0 rfl) ?_
        refine va_iald hx hb hK hP 40 0 rfl rfl (vp_inI (by omega) (by omega)) dX12_awardsAll_21 ?_
        refine lv_topi (fun v_4 ev_4 => ?_)
        have hgv_4 : 0 ≤ v_4.toInt ∧ v_4.toInt ≤ 5 := by rw [ev_4]; exact hRr 40 _
        have hsv_4 : v_4 = r 40 x1_4.toNatClampNeg := ev_4.trans (congrFun (hEr 40 (by decide)) _)
        have htv_4 : v_4.toInt = (r 40 x1_4.toNatClampNeg).toInt := congrArg Int32.toInt hsv_4
        refine lv_iload_n hx hb dX12_awardsAll_22 rfl (lv_at hl 3 rfl) ?_
        refine lv_icmp_ne (tgt := 47) hx hb dX12_awardsAll_23 (by decide) (fun c_5 => ?_) (fun c_5 => ?_)
        · have c_5 : v_4.toInt ≠ p0.toInt := b_ne c_5
          have hbv : mBV (mPh r p0) i r p1 x1_4.toNatClampNeg 0 := ⟨fun _ => rfl, fun h9 => absurd (congrArg Int32.toInt (show r 40 x1_4.toNatClampNeg = p0 from h9.1)) (by have h8 : v_4.toInt ≠ p0.toInt := (by omega); rw [← htv_4]; exact h8)⟩
          refine lv_iconst (v := 0) hx hb dX12_awardsAll_47 (by decide) ?_
          refine lv_iadd hx hb dX12_awardsAll_48 ?_
          refine lv_topi (fun v_6 ev_6 => ?_)
          have hv_6 : v_6.toInt = x1_3.toInt + 0 := by rw [ev_6]; have := b_rg x1_3; exact i_add (a := x1_3.toInt) (b := 0) rfl rfl (by omega) (by omega)
          refine lv_istore_n (lv' := [(3, .int v_6), (4, .int x1_4), (0, .ref (a 0)), (1, .int p0), (2, .int p1)]) hx hb dX12_awardsAll_49 rfl hl (by decide) rfl (fun ls hl => ?_)
          obtain ⟨x_7, ex_7⟩ : ∃ y : Int32, y = x1_4 + 1 := ⟨_, rfl⟩
          refine lv_iinc (v := x_7) (lv' := [(4, .int x_7), (3, .int v_6), (0, .ref (a 0)), (1, .int p0), (2, .int p1)]) hx hb dX12_awardsAll_50 hl (k := 1) rfl (by rw [ex_7]; rfl) (by decide) rfl (fun ls hl => ?_)
          have hx_7 : x_7.toInt = x1_4.toInt + 1 := by rw [ex_7]; have := b_rg x1_4; exact i_add (a := x1_4.toInt) (b := 1) rfl rfl (by omega) (by omega)
          refine lv_goto (tgt := 5) hx hb dX12_awardsAll_53 (by decide) ?_
          exact ih1 x_7 v_6 i1 r1 _ _ _ (by first | omega | (simp only [Int.toNat]; omega)) (by first | omega | decide) hRi hEi hRr hEr ⟨by omega, mBX_s hx1.2 hbv ev_6 (show x_7.toInt.toNat = x1_4.toInt.toNat + 1 by omega)⟩ hP hD hS (lv_sub hl [0, 1, 2, 3, 4] rfl)
        · have c_5 : v_4.toInt = p0.toInt := b_nne c_5
          refine lv_aload_n hx hb dX12_awardsAll_26 rfl (lv_at hl 2 rfl) ?_
          refine va_get (D := D) (ci := 12) (v := .ref (a 44)) (C := RX12) (T := TX12) (N := 91) hx hb hT iX12 hown hK hP 0 rfl rfl 56 (by decide) (hT _ t_139) (fun _ h9 => h9) rfl dX12_awardsAll_27 ?_
          refine lv_iload hx hb dX12_awardsAll_30 (lv_at hl 0 rfl) ?_
          refine va_iald hx hb hK hP 44 0 rfl rfl (vp_inI (by omega) (by omega)) dX12_awardsAll_32 ?_
          refine lv_topi (fun v_8 ev_8 => ?_)
          have hgv_8 : 0 ≤ v_8.toInt ∧ v_8.toInt ≤ 9999 := by rw [ev_8]; exact hRr 44 _
          have hsv_8 : v_8 = r 44 x1_4.toNatClampNeg := ev_8.trans (congrFun (hEr 44 (by decide)) _)
          have htv_8 : v_8.toInt = (r 44 x1_4.toNatClampNeg).toInt := congrArg Int32.toInt hsv_8
          have hErP := hEr
          have hEiP := hEi
          refine lv_iload_n hx hb dX12_awardsAll_33 rfl (lv_at hl 4 rfl) ?_
          refine lv_icmp_gt (tgt := 47) hx hb dX12_awardsAll_34 (by decide) (fun c_9 => ?_) (fun c_9 => ?_)
          · have c_9 : p1.toInt < v_8.toInt := b_lt c_9
            have hbv : mBV (mPh r p0) i r p1 x1_4.toNatClampNeg 0 := ⟨fun _ => rfl, fun h9 => absurd h9.2 (by rw [← htv_8]; omega)⟩
            refine lv_iconst (v := 0) hx hb dX12_awardsAll_47 (by decide) ?_
            refine lv_iadd hx hb dX12_awardsAll_48 ?_
            refine lv_topi (fun v_10 ev_10 => ?_)
            have hv_10 : v_10.toInt = x1_3.toInt + 0 := by rw [ev_10]; have := b_rg x1_3; exact i_add (a := x1_3.toInt) (b := 0) rfl rfl (by omega) (by omega)
            refine lv_istore_n (lv' := [(3, .int v_10), (4, .int x1_4), (0, .ref (a 0)), (1, .int p0), (2, .int p1)]) hx hb dX12_awardsAll_49 rfl hl (by decide) rfl (fun ls hl => ?_)
            obtain ⟨x_11, ex_11⟩ : ∃ y : Int32, y = x1_4 + 1 := ⟨_, rfl⟩
            refine lv_iinc (v := x_11) (lv' := [(4, .int x_11), (3, .int v_10), (0, .ref (a 0)), (1, .int p0), (2, .int p1)]) hx hb dX12_awardsAll_50 hl (k := 1) rfl (by rw [ex_11]; rfl) (by decide) rfl (fun ls hl => ?_)
            have hx_11 : x_11.toInt = x1_4.toInt + 1 := by rw [ex_11]; have := b_rg x1_4; exact i_add (a := x1_4.toInt) (b := 1) rfl rfl (by omega) (by omega)
            refine lv_goto (tgt := 5) hx hb dX12_awardsAll_53 (by decide) ?_
            exact ih1 x_11 v_10 i1 r1 _ _ _ (by first | omega | (simp only [Int.toNat]; omega)) (by first | omega | decide) hRi hEi hRr hEr ⟨by omega, mBX_s hx1.2 hbv ev_10 (show x_11.toInt.toNat = x1_4.toInt.toNat + 1 by omega)⟩ hP hD hS (lv_sub hl [0, 1, 2, 3, 4] rfl)
          · have c_9 : v_8.toInt ≤ p1.toInt := b_nlt c_9
            refine lv_aload_n hx hb dX12_awardsAll_37 rfl (lv_at hl 2 rfl) ?_
            refine lv_iload hx hb dX12_awardsAll_38 (lv_at hl 0 rfl) ?_
            refine lv_iload_n hx hb dX12_awardsAll_40 rfl (lv_at hl 4 rfl) ?_
            have hF_12 := rF hD hS hA
            refine va_calli (va_runV (As := [.int x1_4, .int p1]) (rest := [.int x1_3]) ⟨hx, hb, hml, hown, hT⟩ (c_X12_awardOf9 l D cy a i1 r1 rl x1_4 p1 _ hRi hRr (mE_same hEi hEr (by decide) (by decide) hE) (by omega) (by have h9 := hs9 x1_4.toNatClampNeg (by have h9_x1_4 : x1_4.toNatClampNeg = x1_4.toInt.toNat := rfl; omega); rw [hEr 14 (by decide), hEr 10 (by decide), hEr 18 (by decide), hEr 11 (by decide), hEr 40 (by decide)]; exact h9)) (cwV 2 hT (gV t_160 t_161 t_162 t_163 t_6) rfl rfl rfl (by decide +kernel) ⟨Nat.le_of_ble_eq_true rfl, Nat.le_of_ble_eq_true rfl⟩) (rQ_v hP hK hD (va_recv hK hP (ci := 12) (q0 := 0) rfl rfl)) rfl rfl hl.1 rfl (lv_room (Nat.le_of_ble_eq_true rfl)) dX12_awardsAll_41 ⟨Nat.le_of_ble_eq_true rfl, Nat.le_of_ble_eq_true rfl⟩) hS (fun q _ h => hF_12 q h) hF_12 (fun r_13 u_14 t H1 locs ht hvm hr_13 hB hz1 hk1 hS => ?_)
            obtain ⟨i14, r14⟩ := u_14
            obtain ⟨hP, hK1, hD1⟩ := hB
            rw [ht] at hP
            have hD := hD1.weaken (fun k q _ h => hF_12 q.1 h)
            have hP : va_P D vwCl (mW cy a i14 r14 rl) H1 := hP
            have hD : va_D A (mW cy a i14 r14 rl) := hD
            obtain ⟨hRi, hRr, hE1, hE2, hr_13⟩ := hr_13
            have hRi : mRi i14 := hRi
            have hRr : mRr r14 := hRr
            have hEi : mEi [23, 24, 25, 26, 27, 28, 29, 30, 60] _ i14 := Ei_tr hEi hE1 (by decide)
            have hEr : mEr [32, 33, 34, 35, 36, 37, 38, 39] _ r14 := Er_tr hEr hE2 (by decide)
            have hqr_13 : (∃ J9 : Nat → Int32, gjJ (gjH (r1 12) ((r1 40 x1_4.toNatClampNeg).toNatClampNeg)) (gjH (r1 13) ((r1 40 x1_4.toNatClampNeg).toNatClampNeg)) (gjH (r1 14) ((r1 40 x1_4.toNatClampNeg).toNatClampNeg)) (r1 10 ((r1 40 x1_4.toNatClampNeg).toNatClampNeg)).toNatClampNeg (gjH (r1 16) ((r1 40 x1_4.toNatClampNeg).toNatClampNeg)) (gjH (r1 17) ((r1 40 x1_4.toNatClampNeg).toNatClampNeg)) (gjH (r1 18) ((r1 40 x1_4.toNatClampNeg).toNatClampNeg)) (r1 11 ((r1 40 x1_4.toNatClampNeg).toNatClampNeg)).toNatClampNeg 99 J9 ∧ r_13 = mAV (mD i1 r1) r1 J9 x1_4.toNatClampNeg p1 ∧ i14 60 = mAR (mD i1 r1) r1 J9 x1_4.toNatClampNeg p1) := hr_13
            obtain ⟨J9, hj9, hv9, _⟩ := hqr_13
            have hEp : mEr [32, 33, 34, 35, 36, 37, 38, 39] r r1 := hErP
            rw [show mD i1 r1 = mD i r from mD_E (hEiP 31 (by decide)) hEp (by decide), mAV_E hEp (by decide)] at hv9
            rw [hEp 40 (by decide), hEp 10 (by decide), hEp 11 (by decide), hEp 12 (by decide), hEp 13 (by decide), hEp 14 (by decide), hEp 16 (by decide), hEp 17 (by decide), hEp 18 (by decide)] at hj9
            have hbv : mBV (mPh r p0) i r p1 x1_4.toNatClampNeg r_13 := ⟨fun h9 => absurd (show mPh r p0 x1_4.toNatClampNeg ∧ (r 44 x1_4.toNatClampNeg).toInt ≤ p1.toInt from ⟨hsv_4.symm.trans (Int32.toInt_inj.mp (by omega)), by rw [← htv_8]; omega⟩) h9, fun _ => ⟨J9, hj9, hv9⟩⟩
            refine lv_goto (tgt := 48) hx hb dX12_awardsAll_44 (by decide) ?_
            refine lv_iadd hx hb dX12_awardsAll_48 ?_
            refine lv_topi (fun v_15 ev_15 => ?_)
            refine lv_istore_n (lv' := [(3, .int v_15), (4, .int x1_4), (0, .ref (a 0)), (1, .int p0), (2, .int p1)]) hx hb dX12_awardsAll_49 rfl hl (by decide) rfl (fun ls hl => ?_)
            obtain ⟨x_16, ex_16⟩ : ∃ y : Int32, y = x1_4 + 1 := ⟨_, rfl⟩
            refine lv_iinc (v := x_16) (lv' := [(4, .int x_16), (3, .int v_15), (0, .ref (a 0)), (1, .int p0), (2, .int p1)]) hx hb dX12_awardsAll_50 hl (k := 1) rfl (by rw [ex_16]; rfl) (by decide) rfl (fun ls hl => ?_)
            have hx_16 : x_16.toInt = x1_4.toInt + 1 := by rw [ex_16]; have := b_rg x1_4; exact i_add (a := x1_4.toInt) (b := 1) rfl rfl (by omega) (by omega)
            refine lv_goto (tgt := 5) hx hb dX12_awardsAll_53 (by decide) ?_
            exact ih1 x_16 v_15 i14 r14 _ _ _ (by first | omega | (simp only [Int.toNat]; omega)) (by first | omega | decide) hRi hEi hRr hEr ⟨by omega, mBX_s hx1.2 hbv ev_15 (show x_16.toInt.toNat = x1_4.toInt.toNat + 1 by omega)⟩ hP hD hS (lv_sub hl [0, 1, 2, 3, 4] rfl)
  exact loop_1 _ 0 0 i r _ _ _ (Nat.lt_succ_self _) (by first | omega | decide) hRi hEi hRr hEr ⟨by have h3 : (0 : Int32).toInt = 0 := rfl; omega, mBX_0⟩ hP hD hS hl
set_option maxHeartbeats 4000000 in
set_option maxRecDepth 100000 in
theorem c_X12_ownerGets9 (l : Launch) (D : va_G) (cy : Nat → ClassId) (a : Nat → Nat) (i : Nat → Int32) (r : Nat → Nat → Int32) (rl : Nat → Int64) (p0 p1 : Int32) (sz : Nat) (hRi : mRi i) (hRr : mRr r) (hE : mE i r) (q0 : 0 ≤ p0.toInt ∧ p0.toInt ≤ 5) (hs9 : ∀ c : Nat, (c : Int) < (i 51).toInt → gjSt (gjH (r 14) ((r 40 c).toNatClampNeg)) (r 10 ((r 40 c).toNatClampNeg)).toNatClampNeg ∧ gjSt (gjH (r 18) ((r 40 c).toNatClampNeg)) (r 11 ((r 40 c).toNatClampNeg)).toNatClampNeg) : Met l yX12_ownerGets (Cond.code yX12_ownerGets cX12_ownerGets 5 (some .int) :: gT) { frames := 8, cells := 0, slots := 0, locals := 192 } (va_Pc [.ref (a 0), .int p0, .int p1] (rQ D cy (mW cy a i r rl) sz)) (va_Qi (fun (z : Int32) (u : (Nat → Int32) × (Nat → Nat → Int32)) => mRi u.1 ∧ mRr u.2 ∧ mEi [23, 24, 25, 26, 27, 28, 29, 30, 60] i u.1 ∧ mEr [32, 33, 34, 35, 36, 37, 38, 39] r u.2 ∧ ((∃ t9 : Int32, mBX (mPh r p0) i r p1 (i 51).toNatClampNeg t9 ∧ z = ownG (t9 + sumB (mOw r p0.toNatClampNeg) 3) (r 5 p0.toNatClampNeg)))) (fun (u : (Nat → Int32) × (Nat → Nat → Int32)) t => va_P D vwCl (mW cy a u.1 u.2 rl) t.heap ∧ va_K D vwCl (vT cy) t ∧ va_D (va_A (mW cy a i r rl) sz) (mW cy a u.1 u.2 rl)) (va_A (mW cy a i r rl) sz)) 0 0 (va_A (mW cy a i r rl) sz) := by
  refine Met.ofQ (cc := cX12_ownerGets) (maxL := 5) (ret := (some .int)) (by decide) rfl ?_
  intro p e s m args below meth c s₁ B hml hv Q hQ
  obtain ⟨rfl, hsz, hP, hK, hD0⟩ := hv
  have hx := B.exec
  have hb := B.bytes
  have hr := B.returns
  have hlocks := B.notSynchronized
  have hT : ∀ w ∈ gT, w.before _ s = true := fun w h => atoms_spec (ws := (Cond.code yX12_ownerGets cX12_ownerGets 5 (some .int) :: gT)) B.pre w (List.mem_cons_of_mem _ h)
  have hown : s.vm.findClass RX12 = some m.cls := findClass_of_methodNamed B.named
  subst hsz
  have hD := hD0.self (sz := s.heap.size)
  generalize hAe : va_A (mW cy a i r rl) s.heap.size = A at hD hQ
  have hA : ∀ q : Nat, s.heap.size ≤ q → A q := fun q h => by rw [← hAe]; exact Or.inr h
  have hS : va_S A s.heap s.heap [] := va_S.rf
  have hl := lv_entry ([.ref (a 0), .int p0, .int p1]) (n := 5) (Nat.le_of_ble_eq_true rfl)
  rw [lg_entry_eq]
  generalize (lg_sl ([.ref (a 0), .int p0, .int p1]) ++ List.replicate (5 - (lg_sl ([.ref (a 0), .int p0, .int p1])).length) Slot.unset).toArray = ls at hl ⊢
  have hl : lv_has ls 5 [(0, .ref (a 0)), (1, .int p0), (2, .int p1)] := hl
  have hEi : mEi [23, 24, 25, 26, 27, 28, 29, 30, 60] i i := Ei_rf
  have hEr : mEr [32, 33, 34, 35, 36, 37, 38, 39] r r := Er_rf
  refine lv_aload_n hx hb dX12_ownerGets_0 rfl (lv_at hl 0 rfl) ?_
  refine lv_iload_n hx hb dX12_ownerGets_1 rfl (lv_at hl 1 rfl) ?_
  refine lv_iload_n hx hb dX12_ownerGets_2 rfl (lv_at hl 2 rfl) ?_
  have hF_1 := rF hD hS hA
  refine va_calli (va_runV (As := [.int p0, .int p1]) (rest := []) ⟨hx, hb, hml, hown, hT⟩ (c_X12_awardsAll9 l D cy a i r rl p0 p1 _ hRi hRr (mE_same hEi hEr (by decide) (by decide) hE) hs9) (cwV 2 hT (gV t_164 t_165 t_166 t_167 t_6) rfl rfl rfl (by decide +kernel) ⟨Nat.le_of_ble_eq_true rfl, Nat.le_of_ble_eq_true rfl⟩) (rQ_v hP hK hD (va_recv hK hP (ci := 12) (q0 := 0) rfl rfl)) rfl rfl hl.1 rfl (lv_room (Nat.le_of_ble_eq_true rfl)) dX12_ownerGets_3 ⟨Nat.le_of_ble_eq_true rfl, Nat.le_of_ble_eq_true rfl⟩) hS (fun q _ h => hF_1 q h) hF_1 (fun r_2 u_3 t H1 locs ht hvm hr_2 hB hz1 hk1 hS => ?_)
  obtain ⟨i3, r3⟩ := u_3
  obtain ⟨hP, hK1, hD1⟩ := hB
  rw [ht] at hP
  have hD := hD1.weaken (fun k q _ h => hF_1 q.1 h)
  have hP : va_P D vwCl (mW cy a i3 r3 rl) H1 := hP
  have hD : va_D A (mW cy a i3 r3 rl) := hD
  obtain ⟨hRi, hRr, hE1, hE2, hr_2⟩ := hr_2
  have hRi : mRi i3 := hRi
  have hRr : mRr r3 := hRr
  have hEi : mEi [23, 24, 25, 26, 27, 28, 29, 30, 60] _ i3 := Ei_tr hEi hE1 (by decide)
  have hEr : mEr [32, 33, 34, 35, 36, 37, 38, 39] _ r3 := Er_tr hEr hE2 (by decide)
  have hqr_2 : mBX (mPh r p0) i r p1 (i 51).toNatClampNeg r_2 := hr_2
  have hbx : mBX (mPh r p0) i r p1 (i 51).toNatClampNeg r_2 := hqr_2
  refine lv_istore_n (lv' := [(3, .int r_2), (0, .ref (a 0)), (1, .int p0), (2, .int p1)]) hx hb dX12_ownerGets_6 rfl hl (by decide) rfl (fun ls hl => ?_)
  refine lv_iconst (v := 0) hx hb dX12_ownerGets_7 (by decide) ?_
  refine lv_istore (lv' := [(4, .int 0), (3, .int r_2), (0, .ref (a 0)), (1, .int p0), (2, .int p1)]) hx hb dX12_ownerGets_8 hl (by decide) rfl (fun ls hl => ?_)
  have loop_4 : ∀ (n : Nat) (x4_4 : Int32) (x4_3 : Int32) (H : Heap) (locs : List Loc) (ls : Array Slot), (3 - x4_4.toInt).toNat < n → (0 ≤ x4_4.toInt ∧ x4_4.toInt ≤ 3) → (x4_3 = r_2 + sumB (mOw r p0.toNatClampNeg) x4_4.toNatClampNeg) → va_P D vwCl (mW cy a i3 r3 rl) H → va_D A (mW cy a i3 r3 rl) → va_S A s.heap H locs → lv_has ls 5 [(4, .int x4_4), (3, .int x4_3), (0, .ref (a 0)), (1, .int p0), (2, .int p1)] → W p l e ({ frames := 8, cells := 0, slots := 0, locals := 192 } : Room) s m ([.ref (a 0), .int p0, .int p1] : List Value).toArray below meth c H locs 0 0 Q (F0 m 10 ls []) := by
    intro n
    induction n with
    | zero =>
      intro x4_4 x4_3 H locs ls hm4 hf4_0 hx4 hP hD hS hl
      exact absurd hm4 (by omega)
    | succ n ih4 =>
      intro x4_4 x4_3 H locs ls hm4 hf4_0 hx4 hP hD hS hl
      refine lv_iload hx hb dX12_ownerGets_10 (lv_at hl 0 rfl) ?_
      refine lv_iconst (v := 3) hx hb dX12_ownerGets_12 (by decide) ?_
      refine lv_icmp_ge (tgt := 36) hx hb dX12_ownerGets_13 (by decide) (fun c_5 => ?_) (fun c_5 => ?_)
      · have c_5 : 3 ≤ x4_4.toInt := b_le c_5
        refine lv_iload_n hx hb dX12_ownerGets_36 rfl (lv_at hl 1 rfl) ?_
        refine lv_aload_n hx hb dX12_ownerGets_37 rfl (lv_at hl 2 rfl) ?_
        refine va_get (D := D) (ci := 12) (v := .ref (a 5)) (C := RX12) (T := TX12) (N := 91) hx hb hT iX12 hown hK hP 0 rfl rfl 6 (by decide) (hT _ t_168) (fun _ h9 => h9) rfl dX12_ownerGets_38 ?_
        refine lv_iload_n hx hb dX12_ownerGets_41 rfl (lv_at hl 3 rfl) ?_
        refine va_iald hx hb hK hP 5 0 rfl rfl (vp_inI (by omega) (by omega)) dX12_ownerGets_42 ?_
        refine lv_topi (fun v_6 ev_6 => ?_)
        have hgv_6 : 0 ≤ v_6.toInt ∧ v_6.toInt ≤ 999999 := by rw [ev_6]; exact hRr 5 _
        have hsv_6 : v_6 = r 5 p0.toNatClampNeg := ev_6.trans (congrFun (hEr 5 (by decide)) _)
        refine lv_icmp_ge (tgt := 50) hx hb dX12_ownerGets_43 (by decide) (fun c_7 => ?_) (fun c_7 => ?_)
        · have c_7 : v_6.toInt ≤ x4_3.toInt := b_le c_7
          refine lv_aload_n hx hb dX12_ownerGets_50 rfl (lv_at hl 2 rfl) ?_
          refine va_get (D := D) (ci := 12) (v := .ref (a 5)) (C := RX12) (T := TX12) (N := 91) hx hb hT iX12 hown hK hP 0 rfl rfl 6 (by decide) (hT _ t_168) (fun _ h9 => h9) rfl dX12_ownerGets_51 ?_
          refine lv_iload_n hx hb dX12_ownerGets_54 rfl (lv_at hl 3 rfl) ?_
          refine va_iald hx hb hK hP 5 0 rfl rfl (vp_inI (by omega) (by omega)) dX12_ownerGets_55 ?_
          refine lv_topi (fun v_8 ev_8 => ?_)
          have hgv_8 : 0 ≤ v_8.toInt ∧ v_8.toInt ≤ 999999 := by rw [ev_8]; exact hRr 5 _
          have hsv_8 : v_8 = r 5 p0.toNatClampNeg := ev_8.trans (congrFun (hEr 5 (by decide)) _)
          subst hQ
          have hn9 : x4_3 = r_2 + sumB (mOw r p0.toNatClampNeg) 3 := by have h9 := hx4; rw [show x4_4.toNatClampNeg = 3 from (by show x4_4.toInt.toNat = 3; omega)] at h9; exact h9
          exact W.iret (v := v_8) hx hb hr (fun t ht hW => ⟨⟨_, (i3, r3), rfl, ⟨hRi, hRr, hEi, hEr, ⟨r_2, hbx, (by rw [← hn9, ← hsv_6, show v_8 = v_6 from hsv_8.trans hsv_6.symm]; exact ownG_g (by omega))⟩⟩, by rw [ht]; exact hP, va_K.moved hW.alike hK, hD⟩, hS.F ht⟩) hS.2.2 dX12_ownerGets_56
        · have c_7 : x4_3.toInt < v_6.toInt := b_nle c_7
          refine lv_iload_n hx hb dX12_ownerGets_46 rfl (lv_at hl 1 rfl) ?_
          refine lv_goto (tgt := 56) hx hb dX12_ownerGets_47 (by decide) ?_
          subst hQ
          have hn9 : x4_3 = r_2 + sumB (mOw r p0.toNatClampNeg) 3 := by have h9 := hx4; rw [show x4_4.toNatClampNeg = 3 from (by show x4_4.toInt.toNat = 3; omega)] at h9; exact h9
          exact W.iret (v := x4_3) hx hb hr (fun t ht hW => ⟨⟨_, (i3, r3), rfl, ⟨hRi, hRr, hEi, hEr, ⟨r_2, hbx, (by rw [← hn9, ← hsv_6]; exact ownG_l (by omega))⟩⟩, by rw [ht]; exact hP, va_K.moved hW.alike hK, hD⟩, hS.F ht⟩) hS.2.2 dX12_ownerGets_56
      · have c_5 : x4_4.toInt < 3 := b_nle c_5
        refine lv_iload_n hx hb dX12_ownerGets_16 rfl (lv_at hl 1 rfl) ?_
        refine lv_aload_n hx hb dX12_ownerGets_17 rfl (lv_at hl 2 rfl) ?_
        refine va_get (D := D) (ci := 12) (v := .ref (a 9)) (C := RX12) (T := TX12) (N := 91) hx hb hT iX12 hown hK hP 0 rfl rfl 10 (by decide) (hT _ t_169) (fun _ h9 => h9) rfl dX12_ownerGets_18 ?_
        refine lv_iconst (v := 3) hx hb dX12_ownerGets_21 (by decide) ?_
        refine lv_iload_n hx hb dX12_ownerGets_22 rfl (lv_at hl 3 rfl) ?_
        refine lv_imul hx hb dX12_ownerGets_23 ?_
        refine lv_topi (fun v_9 ev_9 => ?_)
        have hv_9 : v_9.toInt = 3 * p0.toInt := by rw [ev_9]; have := b_rg p0; exact i_mul (a := 3) (b := p0.toInt) rfl rfl (by omega) (by omega)
        refine lv_iload hx hb dX12_ownerGets_24 (lv_at hl 0 rfl) ?_
        refine lv_iadd hx hb dX12_ownerGets_26 ?_
        refine lv_topi (fun v_10 ev_10 => ?_)
        have hv_10 : v_10.toInt = v_9.toInt + x4_4.toInt := by rw [ev_10]; have := b_rg v_9; have := b_rg x4_4; exact i_add (a := v_9.toInt) (b := x4_4.toInt) rfl rfl (by omega) (by omega)
        refine va_iald hx hb hK hP 9 0 rfl rfl (vp_inI (by omega) (by omega)) dX12_ownerGets_27 ?_
        refine lv_topi (fun v_11 ev_11 => ?_)
        have hgv_11 : 0 ≤ v_11.toInt ∧ v_11.toInt ≤ 999999 := by rw [ev_11]; exact hRr 9 _
        have hov : v_11 = mOw r p0.toNatClampNeg x4_4.toNatClampNeg := by rw [ev_11, hEr 9 (by decide)]; show r 9 v_10.toNatClampNeg = r 9 (3 * p0.toNatClampNeg + x4_4.toNatClampNeg); exact congrArg (r 9) (by show v_10.toInt.toNat = 3 * p0.toInt.toNat + x4_4.toInt.toNat; omega)
        refine lv_iadd hx hb dX12_ownerGets_28 ?_
        refine lv_topi (fun v_12 ev_12 => ?_)
        refine lv_istore_n (lv' := [(3, .int v_12), (4, .int x4_4), (0, .ref (a 0)), (1, .int p0), (2, .int p1)]) hx hb dX12_ownerGets_29 rfl hl (by decide) rfl (fun ls hl => ?_)
        obtain ⟨x_13, ex_13⟩ : ∃ y : Int32, y = x4_4 + 1 := ⟨_, rfl⟩
        refine lv_iinc (v := x_13) (lv' := [(4, .int x_13), (3, .int v_12), (0, .ref (a 0)), (1, .int p0), (2, .int p1)]) hx hb dX12_ownerGets_30 hl (k := 1) rfl (by rw [ex_13]; rfl) (by decide) rfl (fun ls hl => ?_)
        have hx_13 : x_13.toInt = x4_4.toInt + 1 := by rw [ex_13]; have := b_rg x4_4; exact i_add (a := x4_4.toInt) (b := 1) rfl rfl (by omega) (by omega)
        refine lv_goto (tgt := 10) hx hb dX12_ownerGets_33 (by decide) ?_
        exact ih4 x_13 v_12 _ _ _ (by first | omega | (simp only [Int.toNat]; omega)) (by first | omega | decide)  (sumB_t hx4 hov ev_12 (show x_13.toInt.toNat = x4_4.toInt.toNat + 1 by omega)) hP hD hS (lv_sub hl [0, 1, 2, 3, 4] rfl)
  exact loop_4 _ 0 r_2 _ _ _ (Nat.lt_succ_self _) (by first | omega | decide)  (Int32.add_zero _).symm hP hD hS hl
set_option maxHeartbeats 4000000 in
set_option maxRecDepth 100000 in
theorem c_X12_penaltyOf9 (l : Launch) (D : va_G) (cy : Nat → ClassId) (a : Nat → Nat) (i : Nat → Int32) (r : Nat → Nat → Int32) (rl : Nat → Int64) (p0 : Int32) (sz : Nat) (hRi : mRi i) (hRr : mRr r) (hE : mE i r) (q0 : 0 ≤ p0.toInt ∧ p0.toInt ≤ 5) : Met l yX12_penaltyOf (Cond.code yX12_penaltyOf cX12_penaltyOf 2 (some .int) :: gT) { frames := 4, cells := 0, slots := 0, locals := 98 } (va_Pc [.ref (a 0), .int p0] (rQ D cy (mW cy a i r rl) sz)) (va_Qi (fun (z : Int32) (u : Nat → Nat → Int32) => mRr u ∧ mEr [32, 33] r u ∧ (z = mDn r (mD i r) p0.toNatClampNeg)) (fun (u : Nat → Nat → Int32) t => va_P D vwCl (mW cy a i u rl) t.heap ∧ va_K D vwCl (vT cy) t ∧ va_D (va_A (mW cy a i r rl) sz) (mW cy a i u rl)) (va_A (mW cy a i r rl) sz)) 0 0 (va_A (mW cy a i r rl) sz) := by
  refine Met.ofQ (cc := cX12_penaltyOf) (maxL := 2) (ret := (some .int)) (by decide) rfl ?_
  intro p e s m args below meth c s₁ B hml hv Q hQ
  obtain ⟨rfl, hsz, hP, hK, hD0⟩ := hv
  have hx := B.exec
  have hb := B.bytes
  have hr := B.returns
  have hlocks := B.notSynchronized
  have hT : ∀ w ∈ gT, w.before _ s = true := fun w h => atoms_spec (ws := (Cond.code yX12_penaltyOf cX12_penaltyOf 2 (some .int) :: gT)) B.pre w (List.mem_cons_of_mem _ h)
  have hown : s.vm.findClass RX12 = some m.cls := findClass_of_methodNamed B.named
  subst hsz
  have hD := hD0.self (sz := s.heap.size)
  generalize hAe : va_A (mW cy a i r rl) s.heap.size = A at hD hQ
  have hA : ∀ q : Nat, s.heap.size ≤ q → A q := fun q h => by rw [← hAe]; exact Or.inr h
  have hS : va_S A s.heap s.heap [] := va_S.rf
  have hl := lv_entry ([.ref (a 0), .int p0]) (n := 2) (Nat.le_of_ble_eq_true rfl)
  rw [lg_entry_eq]
  generalize (lg_sl ([.ref (a 0), .int p0]) ++ List.replicate (2 - (lg_sl ([.ref (a 0), .int p0])).length) Slot.unset).toArray = ls at hl ⊢
  have hl : lv_has ls 2 [(0, .ref (a 0)), (1, .int p0)] := hl
  have hEi : mEi [23, 24, 25, 26, 27, 28, 29, 30, 60] i i := Ei_rf
  have hEr : mEr [32, 33] r r := Er_rf
  have hRr0 : mRr r := hRr
  refine lv_aload_n hx hb dX12_penaltyOf_0 rfl (lv_at hl 0 rfl) ?_
  refine lv_iload_n hx hb dX12_penaltyOf_1 rfl (lv_at hl 1 rfl) ?_
  have hF_1 := rF hD hS hA
  refine va_callv (va_runV (As := [.int p0]) (rest := []) ⟨hx, hb, hml, hown, hT⟩ (c_X12_feelsHome9 l D cy a i r rl p0 _ hRi hRr (by omega)) (cwV 1 hT (gV t_67 t_68 t_69 t_70 t_6) rfl rfl rfl (by decide +kernel) ⟨Nat.le_of_ble_eq_true rfl, Nat.le_of_ble_eq_true rfl⟩) (rQ_v hP hK hD (va_recv hK hP (ci := 12) (q0 := 0) rfl rfl)) rfl rfl hl.1 rfl (lv_room (Nat.le_of_ble_eq_true rfl)) dX12_penaltyOf_2 ⟨Nat.le_of_ble_eq_true rfl, Nat.le_of_ble_eq_true rfl⟩) hS (fun q _ h => hF_1 q h) hF_1 (fun u_3 t H1 locs ht hvm hr_2 hB hz1 hk1 hS => ?_)
  obtain ⟨r3, rfl⟩ : ∃ z, z = u_3 := ⟨_, rfl⟩
  obtain ⟨hP, hK1, hD1⟩ := hB
  rw [ht] at hP
  have hD := hD1.weaken (fun k q _ h => hF_1 q.1 h)
  have hP : va_P D vwCl (mW cy a i r3 rl) H1 := hP
  have hD : va_D A (mW cy a i r3 rl) := hD
  obtain ⟨hRr, hE2, hr_2⟩ := hr_2
  have hRr : mRr r3 := hRr
  have hEr : mEr [32, 33] _ r3 := Er_tr hEr hE2 (by decide)
  have hqr_2 : r3 33 5 = (r 7 p0.toNatClampNeg - r 6 p0.toNatClampNeg) ∧ r3 33 6 = r 4 p0.toNatClampNeg ∧ r3 33 7 = r 3 p0.toNatClampNeg ∧ r3 33 8 = 0 ∧ r3 33 9 = 0 ∧ ∀ k9, k9 < 5 → r3 33 k9 = 0 := hr_2
  obtain ⟨a5, a6, a7, a8, a9, a0⟩ := hqr_2
  have hfa : ∀ k9, k9 < 10 → r3 33 k9 = mHf r p0.toNatClampNeg k9 := fa10 (a0 0 (by decide)) (a0 1 (by decide)) (a0 2 (by decide)) (a0 3 (by decide)) (a0 4 (by decide)) a5 a6 a7 a8 a9
  have hD9 : mD i r3 = mD i r := mD_E rfl hEr (by decide)
  refine lv_aload_n hx hb dX12_penaltyOf_5 rfl (lv_at hl 0 rfl) ?_
  refine va_get (D := D) (ci := 12) (v := .ref (a 19)) (C := RX12) (T := TX12) (N := 91) hx hb hT iX12 hown hK hP 0 rfl rfl 20 (by decide) (hT _ t_170) (fun _ h9 => h9) rfl dX12_penaltyOf_6 ?_
  refine lv_iload_n hx hb dX12_penaltyOf_9 rfl (lv_at hl 1 rfl) ?_
  refine va_zald hx hb hK hP 19 2 rfl rfl (vp_inI (by omega) (by omega)) dX12_penaltyOf_10 ?_
  refine lv_topi (fun v_4 ev_4 => ?_)
  have hsv_4 : v_4 = r 19 p0.toNatClampNeg := ev_4.trans (congrFun (hEr 19 (by decide)) _)
  refine lv_if_eq (tgt := 18) hx hb dX12_penaltyOf_11 (by decide) (fun c_5 => ?_) (fun c_5 => ?_)
  · have c_5 : v_4.toInt = 0 := b_eq c_5
    refine lv_aload_n hx hb dX12_penaltyOf_18 rfl (lv_at hl 0 rfl) ?_
    refine lv_bipush (v := 116) hx hb dX12_penaltyOf_19 (by decide) ?_
    refine lv_bipush (v := 9) hx hb dX12_penaltyOf_21 (by decide) ?_
    refine lv_iconst (v := 0) hx hb dX12_penaltyOf_23 (by decide) ?_
    have hF_6 := rF hD hS hA
    refine va_calli (va_runV (As := [.int 116, .int 9, .int 0]) (rest := []) ⟨hx, hb, hml, hown, hT⟩ (c_X12_byLaw9 l D cy a i r3 rl 116 9 0 _ hRi hRr (mE_same hEi hEr (by decide) (by decide) hE) (by first | omega | decide)) (cwV 3 hT (gV t_97 t_98 t_99 t_100 t_6) rfl rfl rfl (by decide +kernel) ⟨Nat.le_of_ble_eq_true rfl, Nat.le_of_ble_eq_true rfl⟩) (rQ_v hP hK hD (va_recv hK hP (ci := 12) (q0 := 0) rfl rfl)) rfl rfl hl.1 rfl (lv_room (Nat.le_of_ble_eq_true rfl)) dX12_penaltyOf_24 ⟨Nat.le_of_ble_eq_true rfl, Nat.le_of_ble_eq_true rfl⟩) hS (fun q _ h => hF_6 q h) hF_6 (fun r_7 u_8 t H1 locs ht hvm hr_7 hB hz1 hk1 hS => ?_)
    obtain ⟨r8, rfl⟩ : ∃ z, z = u_8 := ⟨_, rfl⟩
    obtain ⟨hP, hK1, hD1⟩ := hB
    rw [ht] at hP
    have hD := hD1.weaken (fun k q _ h => hF_6 q.1 h)
    have hP : va_P D vwCl (mW cy a i r8 rl) H1 := hP
    have hD : va_D A (mW cy a i r8 rl) := hD
    obtain ⟨hRr, hE2, hr_7⟩ := hr_7
    have hRr : mRr r8 := hRr
    have hEr : mEr [32, 33] _ r8 := Er_tr hEr hE2 (by decide)
    have hqr_7 : r_7 = byL (mD i r3) (r3 33) (116 : Int32) (9 : Int32) (0 : Int32) := hr_7
    have hb9 : r_7 = byL (mD i r) (mHf r p0.toNatClampNeg) 116 9 0 := by have h9 := hqr_7; rw [hD9] at h9; exact h9.trans (byL_co (mE_gl hE) (by decide) hfa)
    refine lv_aload_n hx hb dX12_penaltyOf_27 rfl (lv_at hl 0 rfl) ?_
    refine va_get (D := D) (ci := 12) (v := .ref (a 5)) (C := RX12) (T := TX12) (N := 91) hx hb hT iX12 hown hK hP 0 rfl rfl 6 (by decide) (hT _ t_168) (fun _ h9 => h9) rfl dX12_penaltyOf_28 ?_
    refine lv_iload_n hx hb dX12_penaltyOf_31 rfl (lv_at hl 1 rfl) ?_
    refine va_iald hx hb hK hP 5 0 rfl rfl (vp_inI (by omega) (by omega)) dX12_penaltyOf_32 ?_
    refine lv_topi (fun v_9 ev_9 => ?_)
    have hgv_9 : 0 ≤ v_9.toInt ∧ v_9.toInt ≤ 999999 := by rw [ev_9]; exact hRr 5 _
    have hsv_9 : v_9 = r 5 p0.toNatClampNeg := ev_9.trans (congrFun (hEr 5 (by decide)) _)
    refine lv_imul hx hb dX12_penaltyOf_33 ?_
    refine lv_topi (fun v_10 ev_10 => ?_)
    subst hQ
    exact W.iret (v := v_10) hx hb hr (fun t ht hW => ⟨⟨_, r8, rfl, ⟨hRr, hEr, (penI_2 (by rw [← hsv_4]; omega) (by rw [ev_10, hb9, hsv_9]))⟩, by rw [ht]; exact hP, va_K.moved hW.alike hK, hD⟩, hS.F ht⟩) hS.2.2 dX12_penaltyOf_34
  · have c_5 : v_4.toInt ≠ 0 := b_ne c_5
    refine lv_iconst (v := 0) hx hb dX12_penaltyOf_14 (by decide) ?_
    refine lv_goto (tgt := 34) hx hb dX12_penaltyOf_15 (by decide) ?_
    subst hQ
    exact W.iret (v := 0) hx hb hr (fun t ht hW => ⟨⟨_, r3, rfl, ⟨hRr, hEr, (penI_0 (by rw [← hsv_4]; omega))⟩, by rw [ht]; exact hP, va_K.moved hW.alike hK, hD⟩, hS.F ht⟩) hS.2.2 dX12_penaltyOf_34
set_option maxHeartbeats 4000000 in
set_option maxRecDepth 100000 in
theorem c_X12_backOf9 (l : Launch) (D : va_G) (cy : Nat → ClassId) (a : Nat → Nat) (i : Nat → Int32) (r : Nat → Nat → Int32) (rl : Nat → Int64) (p0 p1 : Int32) (sz : Nat) (hRi : mRi i) (hRr : mRr r) (hE : mE i r) (q0 : 0 ≤ p0.toInt ∧ p0.toInt ≤ 5) (hs9 : ∀ c : Nat, (c : Int) < (i 51).toInt → gjSt (gjH (r 14) ((r 40 c).toNatClampNeg)) (r 10 ((r 40 c).toNatClampNeg)).toNatClampNeg ∧ gjSt (gjH (r 18) ((r 40 c).toNatClampNeg)) (r 11 ((r 40 c).toNatClampNeg)).toNatClampNeg) : Met l yX12_backOf (Cond.code yX12_backOf cX12_backOf 3 (some .int) :: gT) { frames := 9, cells := 0, slots := 0, locals := 216 } (va_Pc [.ref (a 0), .int p0, .int p1] (rQ D cy (mW cy a i r rl) sz)) (va_Qi (fun (z : Int32) (u : (Nat → Int32) × (Nat → Nat → Int32)) => mRi u.1 ∧ mRr u.2 ∧ mEi [23, 24, 25, 26, 27, 28, 29, 30, 60] i u.1 ∧ mEr [32, 33, 34, 35, 36, 37, 38, 39] r u.2 ∧ ((∃ t9 : Int32, mBX (mPh r p0) i r p1 (i 51).toNatClampNeg t9 ∧ z = r 5 p0.toNatClampNeg - ownG (t9 + sumB (mOw r p0.toNatClampNeg) 3) (r 5 p0.toNatClampNeg)))) (fun (u : (Nat → Int32) × (Nat → Nat → Int32)) t => va_P D vwCl (mW cy a u.1 u.2 rl) t.heap ∧ va_K D vwCl (vT cy) t ∧ va_D (va_A (mW cy a i r rl) sz) (mW cy a u.1 u.2 rl)) (va_A (mW cy a i r rl) sz)) 0 0 (va_A (mW cy a i r rl) sz) := by
  refine Met.ofQ (cc := cX12_backOf) (maxL := 3) (ret := (some .int)) (by decide) rfl ?_
  intro p e s m args below meth c s₁ B hml hv Q hQ
  obtain ⟨rfl, hsz, hP, hK, hD0⟩ := hv
  have hx := B.exec
  have hb := B.bytes
  have hr := B.returns
  have hlocks := B.notSynchronized
  have hT : ∀ w ∈ gT, w.before _ s = true := fun w h => atoms_spec (ws := (Cond.code yX12_backOf cX12_backOf 3 (some .int) :: gT)) B.pre w (List.mem_cons_of_mem _ h)
  have hown : s.vm.findClass RX12 = some m.cls := findClass_of_methodNamed B.named
  subst hsz
  have hD := hD0.self (sz := s.heap.size)
  generalize hAe : va_A (mW cy a i r rl) s.heap.size = A at hD hQ
  have hA : ∀ q : Nat, s.heap.size ≤ q → A q := fun q h => by rw [← hAe]; exact Or.inr h
  have hS : va_S A s.heap s.heap [] := va_S.rf
  have hl := lv_entry ([.ref (a 0), .int p0, .int p1]) (n := 3) (Nat.le_of_ble_eq_true rfl)
  rw [lg_entry_eq]
  generalize (lg_sl ([.ref (a 0), .int p0, .int p1]) ++ List.replicate (3 - (lg_sl ([.ref (a 0), .int p0, .int p1])).length) Slot.unset).toArray = ls at hl ⊢
  have hl : lv_has ls 3 [(0, .ref (a 0)), (1, .int p0), (2, .int p1)] := hl
  have hEi : mEi [23, 24, 25, 26, 27, 28, 29, 30, 60] i i := Ei_rf
  have hEr : mEr [32, 33, 34, 35, 36, 37, 38, 39] r r := Er_rf
  refine lv_aload_n hx hb dX12_backOf_0 rfl (lv_at hl 0 rfl) ?_
  refine va_get (D := D) (ci := 12) (v := .ref (a 5)) (C := RX12) (T := TX12) (N := 91) hx hb hT iX12 hown hK hP 0 rfl rfl 6 (by decide) (hT _ t_168) (fun _ h9 => h9) rfl dX12_backOf_1 ?_
  refine lv_iload_n hx hb dX12_backOf_4 rfl (lv_at hl 1 rfl) ?_
  refine va_iald hx hb hK hP 5 0 rfl rfl (vp_inI (by omega) (by omega)) dX12_backOf_5 ?_
  refine lv_topi (fun v_1 ev_1 => ?_)
  have hgv_1 : 0 ≤ v_1.toInt ∧ v_1.toInt ≤ 999999 := by rw [ev_1]; exact hRr 5 _
  refine lv_aload_n hx hb dX12_backOf_6 rfl (lv_at hl 0 rfl) ?_
  refine lv_iload_n hx hb dX12_backOf_7 rfl (lv_at hl 1 rfl) ?_
  refine lv_iload_n hx hb dX12_backOf_8 rfl (lv_at hl 2 rfl) ?_
  have hF_2 := rF hD hS hA
  refine va_calli (va_runV (As := [.int p0, .int p1]) (rest := [.int v_1]) ⟨hx, hb, hml, hown, hT⟩ (c_X12_ownerGets9 l D cy a i r rl p0 p1 _ hRi hRr (mE_same hEi hEr (by decide) (by decide) hE) (by omega) hs9) (cwV 2 hT (gV t_171 t_172 t_173 t_174 t_6) rfl rfl rfl (by decide +kernel) ⟨Nat.le_of_ble_eq_true rfl, Nat.le_of_ble_eq_true rfl⟩) (rQ_v hP hK hD (va_recv hK hP (ci := 12) (q0 := 0) rfl rfl)) rfl rfl hl.1 rfl (lv_room (Nat.le_of_ble_eq_true rfl)) dX12_backOf_9 ⟨Nat.le_of_ble_eq_true rfl, Nat.le_of_ble_eq_true rfl⟩) hS (fun q _ h => hF_2 q h) hF_2 (fun r_3 u_4 t H1 locs ht hvm hr_3 hB hz1 hk1 hS => ?_)
  obtain ⟨i4, r4⟩ := u_4
  obtain ⟨hP, hK1, hD1⟩ := hB
  rw [ht] at hP
  have hD := hD1.weaken (fun k q _ h => hF_2 q.1 h)
  have hP : va_P D vwCl (mW cy a i4 r4 rl) H1 := hP
  have hD : va_D A (mW cy a i4 r4 rl) := hD
  obtain ⟨hRi, hRr, hE1, hE2, hr_3⟩ := hr_3
  have hRi : mRi i4 := hRi
  have hRr : mRr r4 := hRr
  have hEi : mEi [23, 24, 25, 26, 27, 28, 29, 30, 60] _ i4 := Ei_tr hEi hE1 (by decide)
  have hEr : mEr [32, 33, 34, 35, 36, 37, 38, 39] _ r4 := Er_tr hEr hE2 (by decide)
  have hqr_3 : (∃ t9 : Int32, mBX (mPh r p0) i r p1 (i 51).toNatClampNeg t9 ∧ r_3 = ownG (t9 + sumB (mOw r p0.toNatClampNeg) 3) (r 5 p0.toNatClampNeg)) := hr_3
  refine lv_isub hx hb dX12_backOf_12 ?_
  refine lv_topi (fun v_5 ev_5 => ?_)
  subst hQ
  obtain ⟨t9, hb9, ho9⟩ := hqr_3
  exact W.iret (v := v_5) hx hb hr (fun t ht hW => ⟨⟨_, (i4, r4), rfl, ⟨hRi, hRr, hEi, hEr, ⟨t9, hb9, by rw [ev_5, ho9, ev_1]⟩⟩, by rw [ht]; exact hP, va_K.moved hW.alike hK, hD⟩, hS.F ht⟩) hS.2.2 dX12_backOf_13
set_option maxHeartbeats 4000000 in
set_option maxRecDepth 100000 in
theorem c_X11_awards9 (l : Launch) (D : va_G) (cy : Nat → ClassId) (a : Nat → Nat) (i : Nat → Int32) (r : Nat → Nat → Int32) (q : Nat → Option Nat) (tl : va_W) (p0 p1 : Int32) (sz : Nat) (hRi : yRi i) (hRr : yRr r) (hh : 0 ≤ p0.toInt ∧ p0.toInt < (i 0).toInt) (hq : q p0.toNatClampNeg = some (a 61)) (hd : 0 ≤ p1.toInt ∧ p1.toInt ≤ 9999) (d9 : lwT) (hL9 : xLw d9 i r) (hG9 : gLw d9) (hgd : ∀ c : Nat, (c : Int) < (i 10).toInt → (r 30 c).toInt = p0.toInt → 1 ≤ (r 68 (r 31 c).toNatClampNeg).toInt ∧ 0 < (r 2 (r 67 (r 31 c).toNatClampNeg).toNatClampNeg).toInt) : Met l yX11_awards (Cond.code yX11_awards cX11_awards 5 (some .int) :: gT) { frames := 6, cells := 0, slots := 0, locals := 151 } (va_Pc [.ref (a 0), .int p0, .int p1] (rM D cy (xW cy a i r q (a 20) (a 12) ++ (hW cy a i r ++ tl)) sz)) (va_Qi (fun (z : Int32) (u : Nat → Nat → Int32) => yRr u ∧ mEr [27, 28] r u ∧ (z = sumB (xJV d9 i r p0 p1) (i 10).toNatClampNeg)) (fun (u : Nat → Nat → Int32) t => va_P D vwCl (xW cy a i u q (a 20) (a 12) ++ (hW cy a i u ++ tl)) t.heap ∧ va_K D vwCl (vT cy) t ∧ va_D (va_A (xW cy a i r q (a 20) (a 12) ++ (hW cy a i r ++ tl)) sz) (xW cy a i u q (a 20) (a 12) ++ (hW cy a i u ++ tl))) (va_A (xW cy a i r q (a 20) (a 12) ++ (hW cy a i r ++ tl)) sz)) 0 0 (va_A (xW cy a i r q (a 20) (a 12) ++ (hW cy a i r ++ tl)) sz) := by
  refine Met.ofQ (cc := cX11_awards) (maxL := 5) (ret := (some .int)) (by decide) rfl ?_
  intro p e s m args below meth c s₁ B hml hv Q hQ
  obtain ⟨rfl, hnw, hsz, hP, hK, hD0⟩ := hv
  have hx := B.exec
  have hb := B.bytes
  have hr := B.returns
  have hlocks := B.notSynchronized
  have hT : ∀ w ∈ gT, w.before _ s = true := fun w h => atoms_spec (ws := (Cond.code yX11_awards cX11_awards 5 (some .int) :: gT)) B.pre w (List.mem_cons_of_mem _ h)
  have hown : s.vm.findClass RX11 = some m.cls := findClass_of_methodNamed B.named
  subst hsz
  have hD := hD0.self (sz := s.heap.size)
  generalize hAe : va_A (xW cy a i r q (a 20) (a 12) ++ (hW cy a i r ++ tl)) s.heap.size = A at hD hQ
  have hA : ∀ q : Nat, s.heap.size ≤ q → A q := fun q h => by rw [← hAe]; exact Or.inr h
  have hS : va_S A s.heap s.heap [] := va_S.rf
  have hl := lv_entry ([.ref (a 0), .int p0, .int p1]) (n := 5) (Nat.le_of_ble_eq_true rfl)
  rw [lg_entry_eq]
  generalize (lg_sl ([.ref (a 0), .int p0, .int p1]) ++ List.replicate (5 - (lg_sl ([.ref (a 0), .int p0, .int p1])).length) Slot.unset).toArray = ls at hl ⊢
  have hl : lv_has ls 5 [(0, .ref (a 0)), (1, .int p0), (2, .int p1)] := hl
  have hEi : mEi [] i i := Ei_rf
  have hEr : mEr [27, 28] r r := Er_rf
  have hg0 : 0 ≤ (i 0).toInt ∧ (i 0).toInt ≤ 6 := hRi 0
  have hg10 : 0 ≤ (i 10).toInt ∧ (i 10).toInt ≤ 30 := hRi 10
  refine lv_iconst (v := 0) hx hb dX11_awards_0 (by decide) ?_
  refine lv_istore_n (lv' := [(3, .int 0), (0, .ref (a 0)), (1, .int p0), (2, .int p1)]) hx hb dX11_awards_1 rfl hl (by decide) rfl (fun ls hl => ?_)
  refine lv_iconst (v := 0) hx hb dX11_awards_2 (by decide) ?_
  refine lv_istore (lv' := [(4, .int 0), (3, .int 0), (0, .ref (a 0)), (1, .int p0), (2, .int p1)]) hx hb dX11_awards_3 hl (by decide) rfl (fun ls hl => ?_)
  have loop_1 : ∀ (n : Nat) (x1_4 : Int32) (x1_3 : Int32) (r1 : Nat → Nat → Int32) (H : Heap) (locs : List Loc) (ls : Array Slot), (30 - x1_4.toInt).toNat < n → (0 ≤ x1_4.toInt ∧ x1_4.toInt ≤ 30) → yRr r1 → mEr [27, 28] r r1 → (x1_4.toInt ≤ (i 10).toInt ∧ x1_3 = sumB (xJV d9 i r p0 p1) x1_4.toNatClampNeg) → va_P D vwCl (xW cy a i r1 q (a 20) (a 12) ++ (hW cy a i r1 ++ tl)) H → va_D A (xW cy a i r1 q (a 20) (a 12) ++ (hW cy a i r1 ++ tl)) → va_S A s.heap H locs → lv_has ls 5 [(4, .int x1_4), (3, .int x1_3), (0, .ref (a 0)), (1, .int p0), (2, .int p1)] → W p l e ({ frames := 6, cells := 0, slots := 0, locals := 151 } : Room) s m ([.ref (a 0), .int p0, .int p1] : List Value).toArray below meth c H locs 0 0 Q (F0 m 5 ls []) := by
    intro n
    induction n with
    | zero =>
      intro x1_4 x1_3 r1 H locs ls hm1 hf1_0 hRr hEr hx1 hP hD hS hl
      exact absurd hm1 (by omega)
    | succ n ih1 =>
      intro x1_4 x1_3 r1 H locs ls hm1 hf1_0 hRr hEr hx1 hP hD hS hl
      refine lv_iload hx hb dX11_awards_5 (lv_at hl 0 rfl) ?_
      refine lv_aload_n hx hb dX11_awards_7 rfl (lv_at hl 2 rfl) ?_
      refine va_get (D := D) (ci := 11) (v := .ref (a 29)) (C := RX11) (T := TX11) (N := 14) hx hb hT iX11 hown hK hP 0 rfl rfl 8 (by decide) (hT _ t_265) (fun _ h9 => h9) rfl dX11_awards_8 ?_
      refine va_get (D := D) (ci := 1) (v := .int (i 10)) (C := RX1) (T := TX1) (N := 12) hx hb hT iX1 hown hK hP 29 rfl rfl 0 (by decide) (hT _ t_266) (fun _ h9 => h9) rfl dX11_awards_11 ?_
      have hg_2 : 0 ≤ (i 10).toInt ∧ (i 10).toInt ≤ 30 := hRi 10
      refine lv_icmp_ge (tgt := 52) hx hb dX11_awards_14 (by decide) (fun c_3 => ?_) (fun c_3 => ?_)
      · have c_3 : (i 10).toInt ≤ x1_4.toInt := b_le c_3
        refine lv_iload_n hx hb dX11_awards_52 rfl (lv_at hl 1 rfl) ?_
        subst hQ
        exact W.iret (v := x1_3) hx hb hr (fun t ht hW => ⟨⟨_, r1, rfl, ⟨hRr, hEr, (hx1.2.trans (by have h8 := hx1.1; rw [show x1_4.toNatClampNeg = (i 10).toNatClampNeg from (by show x1_4.toInt.toNat = (i 10).toInt.toNat; omega)]))⟩, by rw [ht]; exact hP, va_K.moved hW.alike hK, hD⟩, hS.F ht⟩) hS.2.2 dX11_awards_53
      · have c_3 : x1_4.toInt < (i 10).toInt := b_nle c_3
        refine lv_aload_n hx hb dX11_awards_17 rfl (lv_at hl 2 rfl) ?_
        refine va_get (D := D) (ci := 11) (v := .ref (a 29)) (C := RX11) (T := TX11) (N := 14) hx hb hT iX11 hown hK hP 0 rfl rfl 8 (by decide) (hT _ t_265) (fun _ h9 => h9) rfl dX11_awards_18 ?_
        refine va_get (D := D) (ci := 1) (v := .ref (a 30)) (C := RX1) (T := TX1) (N := 12) hx hb hT iX1 hown hK hP 29 rfl rfl 1 (by decide) (hT _ t_548) (fun _ h9 => h9) rfl dX11_awards_21 ?_
        refine lv_iload hx hb dX11_awards_24 (lv_at hl 0 rfl) ?_
        refine va_iald hx hb hK hP 30 0 rfl rfl (vp_inI (by omega) (by omega)) dX11_awards_26 ?_
        refine lv_topi (fun v_4 ev_4 => ?_)
        have hgv_4 : 0 ≤ v_4.toInt ∧ v_4.toInt ≤ 5 := by rw [ev_4]; exact hRr 30 _
        have hsv_4 : v_4 = r 30 x1_4.toNatClampNeg := ev_4.trans (congrFun (hEr 30 (by decide)) _)
        have htv_4 : v_4.toInt = (r 30 x1_4.toNatClampNeg).toInt := congrArg Int32.toInt hsv_4
        have hcl9 : ((x1_4.toNatClampNeg : Nat) : Int) < (i 10).toInt := by show ((x1_4.toInt.toNat : Nat) : Int) < _; omega
        refine lv_iload_n hx hb dX11_awards_27 rfl (lv_at hl 3 rfl) ?_
        refine lv_icmp_ne (tgt := 46) hx hb dX11_awards_28 (by decide) (fun c_5 => ?_) (fun c_5 => ?_)
        · have c_5 : v_4.toInt ≠ p0.toInt := b_ne c_5
          have hbv : (0 : Int32) = xJV d9 i r p0 p1 x1_4.toNatClampNeg := (xJV_n (by rw [← htv_4]; omega)).symm
          obtain ⟨x_6, ex_6⟩ : ∃ y : Int32, y = x1_4 + 1 := ⟨_, rfl⟩
          refine lv_iinc (v := x_6) (lv' := [(4, .int x_6), (3, .int x1_3), (0, .ref (a 0)), (1, .int p0), (2, .int p1)]) hx hb dX11_awards_46 hl (k := 0) rfl (by rw [ex_6]; rfl) (by decide) rfl (fun ls hl => ?_)
          have hx_6 : x_6.toInt = x1_4.toInt + 1 := by rw [ex_6]; have := b_rg x1_4; exact i_add (a := x1_4.toInt) (b := 1) rfl rfl (by omega) (by omega)
          refine lv_goto (tgt := 5) hx hb dX11_awards_49 (by decide) ?_
          exact ih1 x_6 x1_3 r1 _ _ _ (by first | omega | (simp only [Int.toNat]; omega)) (by first | omega | decide) hRr hEr ⟨by omega, sumB_s hx1.2 (show x_6.toInt.toNat = x1_4.toInt.toNat + 1 by omega) hbv (Int32.add_zero _).symm⟩ hP hD hS (lv_sub hl [0, 1, 2, 3, 4] rfl)
        · have c_5 : v_4.toInt = p0.toInt := b_nne c_5
          refine lv_iload_n hx hb dX11_awards_31 rfl (lv_at hl 1 rfl) ?_
          refine lv_iconst (v := 0) hx hb dX11_awards_32 (by decide) ?_
          refine lv_aload_n hx hb dX11_awards_33 rfl (lv_at hl 2 rfl) ?_
          refine lv_iload hx hb dX11_awards_34 (lv_at hl 0 rfl) ?_
          refine lv_iload_n hx hb dX11_awards_36 rfl (lv_at hl 4 rfl) ?_
          refine lv_iconst (v := 0) hx hb dX11_awards_37 (by decide) ?_
          have hErP := hEr
          have hF_7 := rF hD hS hA
          refine va_calli (va_runV (As := [.int x1_4, .int p1, .int 0]) (rest := [.int 0, .int x1_3]) ⟨hx, hb, hml, hown, hT⟩ (c_X11_award_y9 l D cy a i r1 q tl x1_4 p1 0 _ hRi hRr (by omega) (by rw [← ev_4]; omega) (by rw [← ev_4, show v_4 = p0 from Int32.toInt_inj.mp (by omega)]; exact hq) d9 (xLw_co hL9 rfl (hEr 21 (by decide)) (hEr 22 (by decide)) (hEr 23 (by decide)) (hEr 24 (by decide)) (hEr 25 (by decide)) (hEr 26 (by decide))) hG9 (by rw [hEr 68 (by decide), hEr 31 (by decide), hEr 2 (by decide), hEr 67 (by decide)]; exact hgd _ hcl9 (by rw [← htv_4]; omega))) (cwV 3 hT (gV t_559 t_560 t_561 t_562 t_2) rfl rfl rfl (by decide +kernel) ⟨Nat.le_of_ble_eq_true rfl, Nat.le_of_ble_eq_true rfl⟩) (rM_v hnw hP hK hD (va_recv hK hP (ci := 11) (q0 := 0) rfl rfl)) rfl rfl hl.1 rfl (lv_room (Nat.le_of_ble_eq_true rfl)) dX11_awards_38 ⟨Nat.le_of_ble_eq_true rfl, Nat.le_of_ble_eq_true rfl⟩) hS (fun q _ h => hF_7 q h) hF_7 (fun r_8 u_9 t H1 locs ht hvm hr_8 hB hz1 hk1 hS => ?_)
          obtain ⟨r9, rfl⟩ : ∃ z, z = u_9 := ⟨_, rfl⟩
          obtain ⟨hP, hK1, hD1⟩ := hB
          rw [ht] at hP
          have hD := hD1.weaken (fun k q _ h => hF_7 q.1 h)
          obtain ⟨hRr, hE2, hr_8⟩ := hr_8
          have hRr : yRr r9 := hRr
          have hE2 : mEr [27, 28] r1 r9 := hE2
          have hP : va_P D vwCl (xW cy a i r9 q (a 20) (a 12) ++ (hW cy a i r9 ++ tl)) H1 := hP
          have hD : va_D A (xW cy a i r9 q (a 20) (a 12) ++ (hW cy a i r9 ++ tl)) := hD
          have hEr : mEr [27, 28] _ r9 := Er_tr hEr hE2 (by decide)
          have hqr_8 : (((0 ≤ p1.toInt ∧ p1.toInt ≤ 9999) ∧ (0 ≤ (0 : Int32).toInt ∧ (0 : Int32).toInt ≤ 1)) → ((p1.toInt < (r1 34 x1_4.toNatClampNeg).toInt → r_8 = -2) ∧ ((r1 34 x1_4.toNatClampNeg).toInt ≤ p1.toInt → ((0 : Int32).toInt = 0 → r_8 = xAV d9 i r1 x1_4.toNatClampNeg p1) ∧ ((0 : Int32).toInt = 1 → r_8 = xAR d9 i r1 x1_4.toNatClampNeg p1)))) ∧ (¬ ((0 ≤ p1.toInt ∧ p1.toInt ≤ 9999) ∧ (0 ≤ (0 : Int32).toInt ∧ (0 : Int32).toInt ≤ 1)) → r_8 = -1) := hr_8
          have hz9 : r_8 = if p1.toInt < (r 34 x1_4.toNatClampNeg).toInt then -2 else xAV d9 i r x1_4.toNatClampNeg p1 := by
            have h9 := hqr_8.1 ⟨⟨by omega, by omega⟩, by decide⟩
            rw [hErP 34 (by decide), xAV_E hErP (by decide)] at h9
            by_cases h8 : p1.toInt < (r 34 x1_4.toNatClampNeg).toInt
            · rw [if_pos h8]; exact h9.1 h8
            · rw [if_neg h8]; exact (h9.2 (by omega)).1 (by decide)
          refine va_mmax hx hb (by rw [hml]; exact hl.1.symm) hown (hT _ t_521) (hT _ t_307) (hT _ t_289) (hT _ t_308) (Nat.le_of_ble_eq_true rfl) (Nat.le_of_ble_eq_true rfl) (Nat.le_of_ble_eq_true rfl) (Nat.le_of_ble_eq_true rfl) dX11_awards_41 ?_
          refine lv_topi (fun v_10 ev_10 => ?_)
          have hbv : v_10 = xJV d9 i r p0 p1 x1_4.toNatClampNeg := by rw [xJV_y (show (r 30 x1_4.toNatClampNeg).toInt = p0.toInt by rw [← htv_4]; omega), ← hz9]; exact mx0 ev_10
          refine lv_iadd hx hb dX11_awards_44 ?_
          refine lv_topi (fun v_11 ev_11 => ?_)
          refine lv_istore_n (lv' := [(3, .int v_11), (4, .int x1_4), (0, .ref (a 0)), (1, .int p0), (2, .int p1)]) hx hb dX11_awards_45 rfl hl (by decide) rfl (fun ls hl => ?_)
          obtain ⟨x_12, ex_12⟩ : ∃ y : Int32, y = x1_4 + 1 := ⟨_, rfl⟩
          refine lv_iinc (v := x_12) (lv' := [(4, .int x_12), (3, .int v_11), (0, .ref (a 0)), (1, .int p0), (2, .int p1)]) hx hb dX11_awards_46 hl (k := 1) rfl (by rw [ex_12]; rfl) (by decide) rfl (fun ls hl => ?_)
          have hx_12 : x_12.toInt = x1_4.toInt + 1 := by rw [ex_12]; have := b_rg x1_4; exact i_add (a := x1_4.toInt) (b := 1) rfl rfl (by omega) (by omega)
          refine lv_goto (tgt := 5) hx hb dX11_awards_49 (by decide) ?_
          exact ih1 x_12 v_11 r9 _ _ _ (by first | omega | (simp only [Int.toNat]; omega)) (by first | omega | decide) hRr hEr ⟨by omega, sumB_s hx1.2 (show x_12.toInt.toNat = x1_4.toInt.toNat + 1 by omega) hbv ev_11⟩ hP hD hS (lv_sub hl [0, 1, 2, 3, 4] rfl)
  exact loop_1 _ 0 0 r _ _ _ (Nat.lt_succ_self _) (by first | omega | decide) hRr hEr ⟨by have h3 : (0 : Int32).toInt = 0 := rfl; omega, rfl⟩ hP hD hS hl
set_option maxHeartbeats 4000000 in
set_option maxRecDepth 100000 in
theorem c_X3_owed9 (l : Launch) (D : va_G) (cy : Nat → ClassId) (a : Nat → Nat) (i : Nat → Int32) (r : Nat → Nat → Int32) (q : Nat → Option Nat) (tl : va_W) (hRi : yRi i) (hRr : yRr r) : Met l yX3_owed (Cond.code yX3_owed cX3_owed 3 (some .int) :: gT) { frames := 1, cells := 0, slots := 0, locals := 24 } (va_Pc [.ref (a 61)] (rP D cy (xW cy a i r q (a 20) (a 12) ++ (hW cy a i r ++ tl)))) (vp_Si (fun z => z = sumB (r 63) 3)) 0 0 (fun _ => False) := by
  refine Met.ofQ (cc := cX3_owed) (maxL := 3) (ret := (some .int)) (by decide) rfl ?_
  intro p e s m args below meth c s₁ B hml hv Q hQ
  obtain ⟨rfl, hP, hK⟩ := hv
  have hx := B.exec
  have hb := B.bytes
  have hr := B.returns
  have hlocks := B.notSynchronized
  have hT : ∀ w ∈ gT, w.before _ s = true := fun w h => atoms_spec (ws := (Cond.code yX3_owed cX3_owed 3 (some .int) :: gT)) B.pre w (List.mem_cons_of_mem _ h)
  have hown : s.vm.findClass RX3 = some m.cls := findClass_of_methodNamed B.named
  have hl := lv_entry ([.ref (a 61)]) (n := 3) (Nat.le_of_ble_eq_true rfl)
  rw [lg_entry_eq]
  generalize (lg_sl ([.ref (a 61)]) ++ List.replicate (3 - (lg_sl ([.ref (a 61)])).length) Slot.unset).toArray = ls at hl ⊢
  have hl : lv_has ls 3 [(0, .ref (a 61))] := hl
  have hEi : mEi [] i i := Ei_rf
  have hEr : mEr [] r r := Er_rf
  refine lv_iconst (v := 0) hx hb dX3_owed_0 (by decide) ?_
  refine lv_istore_n (lv' := [(1, .int 0), (0, .ref (a 61))]) hx hb dX3_owed_1 rfl hl (by decide) rfl (fun ls hl => ?_)
  refine lv_iconst (v := 0) hx hb dX3_owed_2 (by decide) ?_
  refine lv_istore_n (lv' := [(2, .int 0), (1, .int 0), (0, .ref (a 61))]) hx hb dX3_owed_3 rfl hl (by decide) rfl (fun ls hl => ?_)
  have loop_1 : ∀ (n : Nat) (x1_2 : Int32) (x1_1 : Int32) (ls : Array Slot), (3 - x1_2.toInt).toNat < n → (0 ≤ x1_2.toInt ∧ x1_2.toInt ≤ 3) → (x1_1 = sumB (r 63) x1_2.toNatClampNeg) → lv_has ls 3 [(2, .int x1_2), (1, .int x1_1), (0, .ref (a 61))] → W p l e ({ frames := 1, cells := 0, slots := 0, locals := 24 } : Room) s m ([.ref (a 61)] : List Value).toArray below meth c s.heap [] 0 0 Q (F0 m 4 ls []) := by
    intro n
    induction n with
    | zero =>
      intro x1_2 x1_1 ls hm1 hf1_0 hx1 hl
      exact absurd hm1 (by omega)
    | succ n ih1 =>
      intro x1_2 x1_1 ls hm1 hf1_0 hx1 hl
      refine lv_iload_n hx hb dX3_owed_4 rfl (lv_at hl 0 rfl) ?_
      refine lv_iconst (v := 3) hx hb dX3_owed_5 (by decide) ?_
      refine lv_icmp_ge (tgt := 24) hx hb dX3_owed_6 (by decide) (fun c_2 => ?_) (fun c_2 => ?_)
      · have c_2 : 3 ≤ x1_2.toInt := b_le c_2
        refine lv_iload_n hx hb dX3_owed_24 rfl (lv_at hl 1 rfl) ?_
        subst hQ
        exact W.iret (v := x1_1) hx hb hr (fun t ht hW => ⟨_, rfl, (hx1.trans (by rw [show x1_2.toNatClampNeg = 3 from (by show x1_2.toInt.toNat = 3; omega)])), ht⟩) (fun q hq => absurd hq List.not_mem_nil) dX3_owed_25
      · have c_2 : x1_2.toInt < 3 := b_nle c_2
        refine lv_iload_n hx hb dX3_owed_9 rfl (lv_at hl 1 rfl) ?_
        refine lv_aload_n hx hb dX3_owed_10 rfl (lv_at hl 2 rfl) ?_
        refine va_get (D := D) (ci := 3) (v := .ref (a 63)) (C := RX3) (T := TX3) (N := 12) hx hb hT iX3 hown hK hP 61 rfl rfl 7 (by decide) (hT _ t_385) (fun _ h9 => h9) rfl dX3_owed_11 ?_
        refine lv_iload_n hx hb dX3_owed_14 rfl (lv_at hl 0 rfl) ?_
        refine va_iald hx hb hK hP 63 0 rfl rfl (vp_inI (by omega) (by omega)) dX3_owed_15 ?_
        refine lv_topi (fun v_3 ev_3 => ?_)
        have hgv_3 : 0 ≤ v_3.toInt ∧ v_3.toInt ≤ 999999 := by rw [ev_3]; exact hRr 63 _
        refine lv_iadd hx hb dX3_owed_16 ?_
        refine lv_topi (fun v_4 ev_4 => ?_)
        refine lv_istore_n (lv' := [(1, .int v_4), (2, .int x1_2), (0, .ref (a 61))]) hx hb dX3_owed_17 rfl hl (by decide) rfl (fun ls hl => ?_)
        obtain ⟨x_5, ex_5⟩ : ∃ y : Int32, y = x1_2 + 1 := ⟨_, rfl⟩
        refine lv_iinc (v := x_5) (lv' := [(2, .int x_5), (1, .int v_4), (0, .ref (a 61))]) hx hb dX3_owed_18 hl (k := 1) rfl (by rw [ex_5]; rfl) (by decide) rfl (fun ls hl => ?_)
        have hx_5 : x_5.toInt = x1_2.toInt + 1 := by rw [ex_5]; have := b_rg x1_2; exact i_add (a := x1_2.toInt) (b := 1) rfl rfl (by omega) (by omega)
        refine lv_goto (tgt := 4) hx hb dX3_owed_21 (by decide) ?_
        exact ih1 x_5 v_4 _ (by first | omega | (simp only [Int.toNat]; omega)) (by first | omega | decide)  (sumB_s hx1 (show x_5.toInt.toNat = x1_2.toInt.toNat + 1 by omega) ev_3 ev_4)  (lv_sub hl [0, 1, 2] rfl)
  exact loop_1 _ 0 0 _ (Nat.lt_succ_self _) (by first | omega | decide)  rfl  hl
set_option maxHeartbeats 4000000 in
set_option maxRecDepth 100000 in
theorem c_X11_toOwner9 (l : Launch) (D : va_G) (cy : Nat → ClassId) (a : Nat → Nat) (i : Nat → Int32) (r : Nat → Nat → Int32) (q : Nat → Option Nat) (tl : va_W) (p0 : Int32) (hRi : yRi i) (hRr : yRr r) : Met l yX11_toOwner (Cond.code yX11_toOwner cX11_toOwner 3 (some .int) :: gT) { frames := 2, cells := 0, slots := 0, locals := 46 } (va_Pc [.ref (a 0), .ref (a 61), .int p0] (rP D cy (xW cy a i r q (a 20) (a 12) ++ (hW cy a i r ++ tl)))) (vp_Si (fun z => z = ownG (p0 + sumB (r 63) 3) (i 19))) 0 0 (fun _ => False) := by
  refine Met.ofQ (cc := cX11_toOwner) (maxL := 3) (ret := (some .int)) (by decide) rfl ?_
  intro p e s m args below meth c s₁ B hml hv Q hQ
  obtain ⟨rfl, hP, hK⟩ := hv
  have hx := B.exec
  have hb := B.bytes
  have hr := B.returns
  have hlocks := B.notSynchronized
  have hT : ∀ w ∈ gT, w.before _ s = true := fun w h => atoms_spec (ws := (Cond.code yX11_toOwner cX11_toOwner 3 (some .int) :: gT)) B.pre w (List.mem_cons_of_mem _ h)
  have hown : s.vm.findClass RX11 = some m.cls := findClass_of_methodNamed B.named
  have hl := lv_entry ([.ref (a 0), .ref (a 61), .int p0]) (n := 3) (Nat.le_of_ble_eq_true rfl)
  rw [lg_entry_eq]
  generalize (lg_sl ([.ref (a 0), .ref (a 61), .int p0]) ++ List.replicate (3 - (lg_sl ([.ref (a 0), .ref (a 61), .int p0])).length) Slot.unset).toArray = ls at hl ⊢
  have hl : lv_has ls 3 [(0, .ref (a 0)), (1, .ref (a 61)), (2, .int p0)] := hl
  have hEi : mEi [] i i := Ei_rf
  have hEr : mEr [] r r := Er_rf
  refine lv_aload_n hx hb dX11_toOwner_0 rfl (lv_at hl 1 rfl) ?_
  refine va_get (D := D) (ci := 3) (v := .int (i 19)) (C := RX3) (T := TX3) (N := 12) hx hb hT iX3 hown hK hP 61 rfl rfl 2 (by decide) (hT _ t_563) (fun _ h9 => h9) rfl dX11_toOwner_1 ?_
  have hg_1 : 0 ≤ (i 19).toInt ∧ (i 19).toInt ≤ 999999 := hRi 19
  refine lv_iload_n hx hb dX11_toOwner_4 rfl (lv_at hl 2 rfl) ?_
  refine lv_aload_n hx hb dX11_toOwner_5 rfl (lv_at hl 1 rfl) ?_
  refine vp_callSi (W.runV (As := []) (rest := [.int p0, .int (i 19)]) ⟨hx, hb, hml, hown, hT⟩ (c_X3_owed9 l D cy a i r q tl hRi hRr) (cwV 0 hT (gV t_564 t_565 t_566 t_567 t_391) rfl rfl rfl (by decide +kernel) ⟨Nat.le_of_ble_eq_true rfl, Nat.le_of_ble_eq_true rfl⟩) (rP_v hP hK (va_recv hK hP (ci := 3) (q0 := 61) rfl rfl)) rfl rfl hl.1 rfl (lv_room (Nat.le_of_ble_eq_true rfl)) dX11_toOwner_6 ⟨Nat.le_of_ble_eq_true rfl, Nat.le_of_ble_eq_true rfl⟩) (fun r_2 hr_2 => ?_)
  have hqr_2 : r_2 = sumB (r 63) 3 := hr_2
  refine lv_iadd hx hb dX11_toOwner_9 ?_
  refine lv_topi (fun v_3 ev_3 => ?_)
  refine va_mmin hx hb (by rw [hml]; exact hl.1.symm) hown (hT _ t_568) (hT _ t_380) (hT _ t_289) (hT _ t_381) (Nat.le_of_ble_eq_true rfl) (Nat.le_of_ble_eq_true rfl) (Nat.le_of_ble_eq_true rfl) (Nat.le_of_ble_eq_true rfl) dX11_toOwner_10 ?_
  refine lv_topi (fun v_4 ev_4 => ?_)
  subst hQ
  exact W.iret (v := v_4) hx hb hr (fun t ht hW => ⟨_, rfl, (by rw [← hqr_2, ← ev_3]; exact ownG_a ev_4), ht⟩) (fun q hq => absurd hq List.not_mem_nil) dX11_toOwner_13
set_option maxHeartbeats 4000000 in
set_option maxRecDepth 100000 in
theorem c_X11_describeHome8 (l : Launch) (D : va_G) (cy : Nat → ClassId) (a : Nat → Nat) (i : Nat → Int32) (r : Nat → Nat → Int32) (q : Nat → Option Nat) (tl : va_W) (sz : Nat) (hRi : yRi i) (hRr : yRr r) : Met l yX11_describeHome (Cond.code yX11_describeHome cX11_describeHome 2 none :: gT) { frames := 2, cells := 0, slots := 0, locals := 44 } (va_Pc [.ref (a 0), .ref (a 61)] (rQ D cy (xW cy a i r q (a 20) (a 12) ++ (hW cy a i r ++ tl)) sz)) (va_Qv (fun u : Nat → Nat → Int32 => yRr u ∧ mEr [28] r u ∧ (u 28 5 = (i 21 - i 20) ∧ u 28 6 = i 18 ∧ u 28 7 = i 17 ∧ ∀ k9, k9 < 5 ∨ 7 < k9 → u 28 k9 = r 28 k9)) (fun (u : Nat → Nat → Int32) t => va_P D vwCl (xW cy a i u q (a 20) (a 12) ++ (hW cy a i u ++ tl)) t.heap ∧ va_K D vwCl (vT cy) t ∧ va_D (va_A (xW cy a i r q (a 20) (a 12) ++ (hW cy a i r ++ tl)) sz) (xW cy a i u q (a 20) (a 12) ++ (hW cy a i u ++ tl))) (va_A (xW cy a i r q (a 20) (a 12) ++ (hW cy a i r ++ tl)) sz)) 0 0 (va_A (xW cy a i r q (a 20) (a 12) ++ (hW cy a i r ++ tl)) sz) := by
  refine Met.ofQ (cc := cX11_describeHome) (maxL := 2) (ret := none) (by decide) rfl ?_
  intro p e s m args below meth c s₁ B hml hv Q hQ
  obtain ⟨rfl, hsz, hP, hK, hD0⟩ := hv
  have hx := B.exec
  have hb := B.bytes
  have hr := B.returns
  have hlocks := B.notSynchronized
  have hT : ∀ w ∈ gT, w.before _ s = true := fun w h => atoms_spec (ws := (Cond.code yX11_describeHome cX11_describeHome 2 none :: gT)) B.pre w (List.mem_cons_of_mem _ h)
  have hown : s.vm.findClass RX11 = some m.cls := findClass_of_methodNamed B.named
  subst hsz
  have hD := hD0.self (sz := s.heap.size)
  generalize hAe : va_A (xW cy a i r q (a 20) (a 12) ++ (hW cy a i r ++ tl)) s.heap.size = A at hD hQ
  have hA : ∀ q : Nat, s.heap.size ≤ q → A q := fun q h => by rw [← hAe]; exact Or.inr h
  have hS : va_S A s.heap s.heap [] := va_S.rf
  have hl := lv_entry ([.ref (a 0), .ref (a 61)]) (n := 2) (Nat.le_of_ble_eq_true rfl)
  rw [lg_entry_eq]
  generalize (lg_sl ([.ref (a 0), .ref (a 61)]) ++ List.replicate (2 - (lg_sl ([.ref (a 0), .ref (a 61)])).length) Slot.unset).toArray = ls at hl ⊢
  have hl : lv_has ls 2 [(0, .ref (a 0)), (1, .ref (a 61))] := hl
  have hEi : mEi [] i i := Ei_rf
  have hEr : mEr [28] r r := Er_rf
  refine lv_aload_n hx hb dX11_describeHome_0 rfl (lv_at hl 0 rfl) ?_
  refine va_get (D := D) (ci := 11) (v := .ref (a 28)) (C := RX11) (T := TX11) (N := 14) hx hb hT iX11 hown hK hP 0 rfl rfl 7 (by decide) (hT _ t_500) (fun _ h9 => h9) rfl dX11_describeHome_1 ?_
  refine lv_iconst (v := 5) hx hb dX11_describeHome_4 (by decide) ?_
  refine lv_aload_n hx hb dX11_describeHome_5 rfl (lv_at hl 1 rfl) ?_
  refine vp_callSi (W.runV (As := []) (rest := [.int 5, .ref (a 28)]) ⟨hx, hb, hml, hown, hT⟩ (c_X3_months9 l D cy a i r q tl hRi hRr) (cwV 0 hT (gV t_501 t_502 t_503 t_504 t_391) rfl rfl rfl (by decide +kernel) ⟨Nat.le_of_ble_eq_true rfl, Nat.le_of_ble_eq_true rfl⟩) (rP_v hP hK (va_recv hK hP (ci := 3) (q0 := 61) rfl rfl)) rfl rfl hl.1 rfl (lv_room (Nat.le_of_ble_eq_true rfl)) dX11_describeHome_6 ⟨Nat.le_of_ble_eq_true rfl, Nat.le_of_ble_eq_true rfl⟩) (fun r_1 hr_1 => ?_)
  have hqr_1 : r_1.toInt = (i 21).toInt - (i 20).toInt := hr_1.1
  have hr_1 : -999 ≤ r_1.toInt ∧ r_1.toInt ≤ 999 := hr_1.2
  have hmr_1 : r_1 = i 21 - i 20 := mon_eq hqr_1 (hRi 21) (hRi 20)
  refine va_iast hx hb hK hP hD hS 28 0 rfl rfl (vp_inI (by decide) (by decide)) dX11_describeHome_9 (fun H locs hP hD hS => ?_)
  rw [yS28] at hP hD
  have hRr : yRr (va_up r 28 (upd (r 28) ((5 : Int32).toNatClampNeg) r_1)) := Yr_upd hRr 28 ((5 : Int32).toNatClampNeg) r_1 (b_rg _)
  have hEr : mEr [28] _ (va_up r 28 (upd (r 28) ((5 : Int32).toNatClampNeg) r_1)) := Er_up hEr 28 _ (by decide)
  refine lv_aload_n hx hb dX11_describeHome_10 rfl (lv_at hl 0 rfl) ?_
  refine va_get (D := D) (ci := 11) (v := .ref (a 28)) (C := RX11) (T := TX11) (N := 14) hx hb hT iX11 hown hK hP 0 rfl rfl 7 (by decide) (hT _ t_500) (fun _ h9 => h9) rfl dX11_describeHome_11 ?_
  refine lv_bipush (v := 6) hx hb dX11_describeHome_14 (by decide) ?_
  refine lv_aload_n hx hb dX11_describeHome_16 rfl (lv_at hl 1 rfl) ?_
  refine va_get (D := D) (ci := 3) (v := .int (i 18)) (C := RX3) (T := TX3) (N := 12) hx hb hT iX3 hown hK hP 61 rfl rfl 1 (by decide) (hT _ t_447) (fun _ h9 => h9) rfl dX11_describeHome_17 ?_
  have hg_2 : 1 ≤ (i 18).toInt ∧ (i 18).toInt ≤ 4 := hRi 18
  refine va_iast hx hb hK hP hD hS 28 0 rfl rfl (vp_inI (by decide) (by decide)) dX11_describeHome_20 (fun H locs hP hD hS => ?_)
  rw [yS28] at hP hD
  have hRr : yRr (va_up (va_up r 28 (upd (r 28) ((5 : Int32).toNatClampNeg) r_1)) 28 (upd (upd (r 28) ((5 : Int32).toNatClampNeg) r_1) ((6 : Int32).toNatClampNeg) (i 18))) := Yr_upd hRr 28 ((6 : Int32).toNatClampNeg) (i 18) (b_rg _)
  have hEr : mEr [28] _ (va_up (va_up r 28 (upd (r 28) ((5 : Int32).toNatClampNeg) r_1)) 28 (upd (upd (r 28) ((5 : Int32).toNatClampNeg) r_1) ((6 : Int32).toNatClampNeg) (i 18))) := Er_up hEr 28 _ (by decide)
  refine lv_aload_n hx hb dX11_describeHome_21 rfl (lv_at hl 0 rfl) ?_
  refine va_get (D := D) (ci := 11) (v := .ref (a 28)) (C := RX11) (T := TX11) (N := 14) hx hb hT iX11 hown hK hP 0 rfl rfl 7 (by decide) (hT _ t_500) (fun _ h9 => h9) rfl dX11_describeHome_22 ?_
  refine lv_bipush (v := 7) hx hb dX11_describeHome_25 (by decide) ?_
  refine lv_aload_n hx hb dX11_describeHome_27 rfl (lv_at hl 1 rfl) ?_
  refine va_get (D := D) (ci := 3) (v := .int (i 17)) (C := RX3) (T := TX3) (N := 12) hx hb hT iX3 hown hK hP 61 rfl rfl 0 (by decide) (hT _ t_493) (fun _ h9 => h9) rfl dX11_describeHome_28 ?_
  have hg_3 : 0 ≤ (i 17).toInt ∧ (i 17).toInt ≤ 3 := hRi 17
  refine va_iast hx hb hK hP hD hS 28 0 rfl rfl (vp_inI (by decide) (by decide)) dX11_describeHome_31 (fun H locs hP hD hS => ?_)
  rw [yS28] at hP hD
  have hRr : yRr (va_up (va_up (va_up r 28 (upd (r 28) ((5 : Int32).toNatClampNeg) r_1)) 28 (upd (upd (r 28) ((5 : Int32).toNatClampNeg) r_1) ((6 : Int32).toNatClampNeg) (i 18))) 28 (upd (upd (upd (r 28) ((5 : Int32).toNatClampNeg) r_1) ((6 : Int32).toNatClampNeg) (i 18)) ((7 : Int32).toNatClampNeg) (i 17))) := Yr_upd hRr 28 ((7 : Int32).toNatClampNeg) (i 17) (b_rg _)
  have hEr : mEr [28] _ (va_up (va_up (va_up r 28 (upd (r 28) ((5 : Int32).toNatClampNeg) r_1)) 28 (upd (upd (r 28) ((5 : Int32).toNatClampNeg) r_1) ((6 : Int32).toNatClampNeg) (i 18))) 28 (upd (upd (upd (r 28) ((5 : Int32).toNatClampNeg) r_1) ((6 : Int32).toNatClampNeg) (i 18)) ((7 : Int32).toNatClampNeg) (i 17))) := Er_up hEr 28 _ (by decide)
  subst hQ
  have h3 := ds3 (f := r 28) (a := r_1) (b := i 18) (c := i 17)
  exact W.vret hx hb hr (fun t ht hW => ⟨⟨(va_up (va_up (va_up r 28 (upd (r 28) ((5 : Int32).toNatClampNeg) r_1)) 28 (upd (upd (r 28) ((5 : Int32).toNatClampNeg) r_1) ((6 : Int32).toNatClampNeg) (i 18))) 28 (upd (upd (upd (r 28) ((5 : Int32).toNatClampNeg) r_1) ((6 : Int32).toNatClampNeg) (i 18)) ((7 : Int32).toNatClampNeg) (i 17))), rfl, ⟨hRr, hEr, ⟨h3.1.trans hmr_1, h3.2.1, h3.2.2.1, fun k9 h9 => (show upd (upd (upd (r 28) 5 r_1) 6 (i 18)) 7 (i 17) k9 = r 28 k9 by rw [pk_un (by omega), pk_un (by omega), pk_un (by omega)])⟩⟩, by rw [ht]; exact hP, va_K.moved hW.alike hK, hD⟩, hS.F ht⟩) hS.2.2 dX11_describeHome_32
set_option maxHeartbeats 4000000 in
set_option maxRecDepth 100000 in
theorem c_X11_penalty9 (l : Launch) (D : va_G) (cy : Nat → ClassId) (a : Nat → Nat) (i : Nat → Int32) (r : Nat → Nat → Int32) (q : Nat → Option Nat) (tl : va_W) (sz : Nat) (hRi : yRi i) (hRr : yRr r) (d9 : lwT) (hL9 : xLw d9 i r) (hG9 : gLw d9) : Met l yX11_penalty (Cond.code yX11_penalty cX11_penalty 3 (some .int) :: gT) { frames := 4, cells := 0, slots := 0, locals := 100 } (va_Pc [.ref (a 0), .ref (a 61)] (rM D cy (xW cy a i r q (a 20) (a 12) ++ (hW cy a i r ++ tl)) sz)) (va_Qi (fun (z : Int32) (u : Nat → Nat → Int32) => yRr u ∧ mEr [27, 28] r u ∧ (z = xDn i d9)) (fun (u : Nat → Nat → Int32) t => va_P D vwCl (xW cy a i u q (a 20) (a 12) ++ (hW cy a i u ++ tl)) t.heap ∧ va_K D vwCl (vT cy) t ∧ va_D (va_A (xW cy a i r q (a 20) (a 12) ++ (hW cy a i r ++ tl)) sz) (xW cy a i u q (a 20) (a 12) ++ (hW cy a i u ++ tl))) (va_A (xW cy a i r q (a 20) (a 12) ++ (hW cy a i r ++ tl)) sz)) 0 0 (va_A (xW cy a i r q (a 20) (a 12) ++ (hW cy a i r ++ tl)) sz) := by
  refine Met.ofQ (cc := cX11_penalty) (maxL := 3) (ret := (some .int)) (by decide) rfl ?_
  intro p e s m args below meth c s₁ B hml hv Q hQ
  obtain ⟨rfl, hnw, hsz, hP, hK, hD0⟩ := hv
  have hx := B.exec
  have hb := B.bytes
  have hr := B.returns
  have hlocks := B.notSynchronized
  have hT : ∀ w ∈ gT, w.before _ s = true := fun w h => atoms_spec (ws := (Cond.code yX11_penalty cX11_penalty 3 (some .int) :: gT)) B.pre w (List.mem_cons_of_mem _ h)
  have hown : s.vm.findClass RX11 = some m.cls := findClass_of_methodNamed B.named
  subst hsz
  have hD := hD0.self (sz := s.heap.size)
  generalize hAe : va_A (xW cy a i r q (a 20) (a 12) ++ (hW cy a i r ++ tl)) s.heap.size = A at hD hQ
  have hA : ∀ q : Nat, s.heap.size ≤ q → A q := fun q h => by rw [← hAe]; exact Or.inr h
  have hS : va_S A s.heap s.heap [] := va_S.rf
  have hl := lv_entry ([.ref (a 0), .ref (a 61)]) (n := 3) (Nat.le_of_ble_eq_true rfl)
  rw [lg_entry_eq]
  generalize (lg_sl ([.ref (a 0), .ref (a 61)]) ++ List.replicate (3 - (lg_sl ([.ref (a 0), .ref (a 61)])).length) Slot.unset).toArray = ls at hl ⊢
  have hl : lv_has ls 3 [(0, .ref (a 0)), (1, .ref (a 61))] := hl
  have hEi : mEi [] i i := Ei_rf
  have hEr : mEr [27, 28] r r := Er_rf
  refine lv_aload_n hx hb dX11_penalty_0 rfl (lv_at hl 1 rfl) ?_
  refine va_get (D := D) (ci := 3) (v := .int (i 22)) (C := RX3) (T := TX3) (N := 12) hx hb hT iX3 hown hK hP 61 rfl rfl 5 (by decide) (hT _ t_569) (fun _ h9 => h9) rfl dX11_penalty_1 ?_
  have hg_1 : 0 ≤ (i 22).toInt ∧ (i 22).toInt ≤ 1 := hRi 22
  refine lv_if_eq (tgt := 9) hx hb dX11_penalty_4 (by decide) (fun c_2 => ?_) (fun c_2 => ?_)
  · have c_2 : (i 22).toInt = 0 := b_eq c_2
    refine lv_iconst (v := 0) hx hb dX11_penalty_9 (by decide) ?_
    refine lv_istore_n (lv' := [(2, .int 0), (0, .ref (a 0)), (1, .ref (a 61))]) hx hb dX11_penalty_10 rfl hl (by decide) rfl (fun ls hl => ?_)
    have loop_3 : ∀ (n : Nat) (x3_2 : Int32) (r3 : Nat → Nat → Int32) (H : Heap) (locs : List Loc) (ls : Array Slot), (10 - x3_2.toInt).toNat < n → (0 ≤ x3_2.toInt ∧ x3_2.toInt ≤ 10) → yRr r3 → mEr [27, 28] r r3 → (∀ k9, k9 < x3_2.toInt.toNat → r3 28 k9 = 0) → va_P D vwCl (xW cy a i r3 q (a 20) (a 12) ++ (hW cy a i r3 ++ tl)) H → va_D A (xW cy a i r3 q (a 20) (a 12) ++ (hW cy a i r3 ++ tl)) → va_S A s.heap H locs → lv_has ls 3 [(2, .int x3_2), (0, .ref (a 0)), (1, .ref (a 61))] → W p l e ({ frames := 4, cells := 0, slots := 0, locals := 100 } : Room) s m ([.ref (a 0), .ref (a 61)] : List Value).toArray below meth c H locs 0 0 Q (F0 m 11 ls []) := by
      intro n
      induction n with
      | zero =>
        intro x3_2 r3 H locs ls hm3 hf3_0 hRr hEr hx3 hP hD hS hl
        exact absurd hm3 (by omega)
      | succ n ih3 =>
        intro x3_2 r3 H locs ls hm3 hf3_0 hRr hEr hx3 hP hD hS hl
        refine lv_iload_n hx hb dX11_penalty_11 rfl (lv_at hl 0 rfl) ?_
        refine lv_bipush (v := 10) hx hb dX11_penalty_12 (by decide) ?_
        refine lv_icmp_ge (tgt := 30) hx hb dX11_penalty_14 (by decide) (fun c_4 => ?_) (fun c_4 => ?_)
        · have c_4 : 10 ≤ x3_2.toInt := b_le c_4
          refine lv_aload_n hx hb dX11_penalty_30 rfl (lv_at hl 1 rfl) ?_
          refine lv_aload_n hx hb dX11_penalty_31 rfl (lv_at hl 2 rfl) ?_
          have hF_5 := rF hD hS hA
          refine va_callv (va_runV (As := [.ref (a 61)]) (rest := []) ⟨hx, hb, hml, hown, hT⟩ (c_X11_describeHome8 l D cy a i r3 q tl _ hRi hRr) (cwV 1 hT (gV t_508 t_509 t_510 t_511 t_2) rfl rfl rfl (by decide +kernel) ⟨Nat.le_of_ble_eq_true rfl, Nat.le_of_ble_eq_true rfl⟩) (rQ_v hP hK hD (va_recv hK hP (ci := 11) (q0 := 0) rfl rfl)) rfl rfl hl.1 rfl (lv_room (Nat.le_of_ble_eq_true rfl)) dX11_penalty_32 ⟨Nat.le_of_ble_eq_true rfl, Nat.le_of_ble_eq_true rfl⟩) hS (fun q _ h => hF_5 q h) hF_5 (fun u_7 t H1 locs ht hvm hr_6 hB hz1 hk1 hS => ?_)
          obtain ⟨r7, rfl⟩ : ∃ z, z = u_7 := ⟨_, rfl⟩
          obtain ⟨hP, hK1, hD1⟩ := hB
          rw [ht] at hP
          have hD := hD1.weaken (fun k q _ h => hF_5 q.1 h)
          obtain ⟨hRr, hE2, hr_6⟩ := hr_6
          have hRr : yRr r7 := hRr
          have hE2 : mEr [28] r3 r7 := hE2
          have hP : va_P D vwCl (xW cy a i r7 q (a 20) (a 12) ++ (hW cy a i r7 ++ tl)) H1 := hP
          have hD : va_D A (xW cy a i r7 q (a 20) (a 12) ++ (hW cy a i r7 ++ tl)) := hD
          have hEr : mEr [27, 28] _ r7 := Er_tr hEr hE2 (by decide)
          have hqr_6 : r7 28 5 = (i 21 - i 20) ∧ r7 28 6 = i 18 ∧ r7 28 7 = i 17 ∧ ∀ k9, k9 < 5 ∨ 7 < k9 → r7 28 k9 = r3 28 k9 := hr_6
          obtain ⟨a5, a6, a7, a0⟩ := hqr_6
          have hz9 : ∀ k9, k9 < 10 → r3 28 k9 = 0 := fun k9 h9 => hx3 k9 (by omega)
          have hfa : ∀ k9, k9 < 10 → r7 28 k9 = xHf i k9 := fa10 ((a0 0 (by decide)).trans (hz9 0 (by decide))) ((a0 1 (by decide)).trans (hz9 1 (by decide))) ((a0 2 (by decide)).trans (hz9 2 (by decide))) ((a0 3 (by decide)).trans (hz9 3 (by decide))) ((a0 4 (by decide)).trans (hz9 4 (by decide))) a5 a6 a7 ((a0 8 (by decide)).trans (hz9 8 (by decide))) ((a0 9 (by decide)).trans (hz9 9 (by decide)))
          refine lv_aload_n hx hb dX11_penalty_35 rfl (lv_at hl 2 rfl) ?_
          refine va_get (D := D) (ci := 3) (v := .int (i 19)) (C := RX3) (T := TX3) (N := 12) hx hb hT iX3 hown hK hP 61 rfl rfl 2 (by decide) (hT _ t_563) (fun _ h9 => h9) rfl dX11_penalty_36 ?_
          have hg_8 : 0 ≤ (i 19).toInt ∧ (i 19).toInt ≤ 999999 := hRi 19
          refine lv_aload_n hx hb dX11_penalty_39 rfl (lv_at hl 1 rfl) ?_
          refine va_get (D := D) (ci := 11) (v := .ref (a 20)) (C := RX11) (T := TX11) (N := 14) hx hb hT iX11 hown hK hP 0 rfl rfl 6 (by decide) (hT _ t_516) (fun _ h9 => h9) rfl dX11_penalty_40 ?_
          refine lv_bipush (v := 116) hx hb dX11_penalty_43 (by decide) ?_
          refine lv_aload_n hx hb dX11_penalty_45 rfl (lv_at hl 1 rfl) ?_
          refine va_get (D := D) (ci := 11) (v := .ref (a 28)) (C := RX11) (T := TX11) (N := 14) hx hb hT iX11 hown hK hP 0 rfl rfl 7 (by decide) (hT _ t_500) (fun _ h9 => h9) rfl dX11_penalty_46 ?_
          refine lv_iconst (v := 0) hx hb dX11_penalty_49 (by decide) ?_
          refine lv_bipush (v := 9) hx hb dX11_penalty_50 (by decide) ?_
          have hF_9 := rF hD hS hA
          refine va_calli (va_runV (As := [.int 116, .ref (a 28), .int 0, .int 9]) (rest := [.int (i 19)]) ⟨hx, hb, hml, hown, hT⟩ (c_X5_amount9 l D cy a i r7 q (hW cy a i r7 ++ tl) 116 0 9 _ hRi hRr d9 (xHf i) (xLw_co hL9 rfl (hEr 21 (by decide)) (hEr 22 (by decide)) (hEr 23 (by decide)) (hEr 24 (by decide)) (hEr 25 (by decide)) (hEr 26 (by decide))) hG9 hfa (by first | omega | decide) (by first | omega | decide)) (cwV 4 hT (gV t_517 t_518 t_519 t_520 t_367) rfl rfl rfl (by decide +kernel) ⟨Nat.le_of_ble_eq_true rfl, Nat.le_of_ble_eq_true rfl⟩) (rM_v hnw hP hK hD (va_recv hK hP (ci := 5) (q0 := 20) rfl rfl)) rfl rfl hl.1 rfl (lv_room (Nat.le_of_ble_eq_true rfl)) dX11_penalty_52 ⟨Nat.le_of_ble_eq_true rfl, Nat.le_of_ble_eq_true rfl⟩) hS (fun q _ h => hF_9 q h) hF_9 (fun r_10 u_11 t H1 locs ht hvm hr_10 hB hz1 hk1 hS => ?_)
          obtain ⟨r11, rfl⟩ : ∃ z, z = u_11 := ⟨_, rfl⟩
          obtain ⟨hP, hK1, hD1⟩ := hB
          rw [ht] at hP
          have hD := hD1.weaken (fun k q _ h => hF_9 q.1 h)
          obtain ⟨hRr, hE2, hr_10⟩ := hr_10
          have hRr : yRr r11 := hRr
          have hE2 : mEr [27] r7 r11 := hE2
          have hwe : hW cy a i r11 = hW cy a i r7 := hW_eqE (Ei_rf (T := [])) hE2 rfl rfl
          have hP : va_P D vwCl (xW cy a i r11 q (a 20) (a 12) ++ (hW cy a i r11 ++ tl)) H1 := by rw [hwe]; exact hP
          have hD : va_D A (xW cy a i r11 q (a 20) (a 12) ++ (hW cy a i r11 ++ tl)) := by rw [hwe]; exact hD
          have hEr : mEr [27, 28] _ r11 := Er_tr hEr hE2 (by decide)
          have hqr_10 : r_10 = byL d9 (xHf i) (116 : Int32) (9 : Int32) (0 : Int32) := hr_10
          have hb9 : r_10 = byL d9 (xHf i) 116 9 0 := hqr_10
          refine lv_imul hx hb dX11_penalty_55 ?_
          refine lv_topi (fun v_12 ev_12 => ?_)
          subst hQ
          exact W.iret (v := v_12) hx hb hr (fun t ht hW => ⟨⟨_, r11, rfl, ⟨hRr, hEr, (penI_1 (by omega) (by rw [ev_12, hb9]))⟩, by rw [ht]; exact hP, va_K.moved hW.alike hK, hD⟩, hS.F ht⟩) hS.2.2 dX11_penalty_56
        · have c_4 : x3_2.toInt < 10 := b_nle c_4
          refine lv_aload_n hx hb dX11_penalty_17 rfl (lv_at hl 1 rfl) ?_
          refine va_get (D := D) (ci := 11) (v := .ref (a 28)) (C := RX11) (T := TX11) (N := 14) hx hb hT iX11 hown hK hP 0 rfl rfl 7 (by decide) (hT _ t_500) (fun _ h9 => h9) rfl dX11_penalty_18 ?_
          refine lv_iload_n hx hb dX11_penalty_21 rfl (lv_at hl 0 rfl) ?_
          refine lv_iconst (v := 0) hx hb dX11_penalty_22 (by decide) ?_
          refine va_iast hx hb hK hP hD hS 28 0 rfl rfl (vp_inI (by omega) (by omega)) dX11_penalty_23 (fun H locs hP hD hS => ?_)
          rw [yS28] at hP hD
          have hRr : yRr (va_up r3 28 (upd (r3 28) x3_2.toNatClampNeg 0)) := Yr_upd hRr 28 (x3_2.toNatClampNeg) 0 (b_rg _)
          have hEr : mEr [27, 28] _ (va_up r3 28 (upd (r3 28) x3_2.toNatClampNeg 0)) := Er_up hEr 28 _ (by decide)
          obtain ⟨x_13, ex_13⟩ : ∃ y : Int32, y = x3_2 + 1 := ⟨_, rfl⟩
          refine lv_iinc (v := x_13) (lv' := [(2, .int x_13), (0, .ref (a 0)), (1, .ref (a 61))]) hx hb dX11_penalty_24 hl (k := 0) rfl (by rw [ex_13]; rfl) (by decide) rfl (fun ls hl => ?_)
          have hx_13 : x_13.toInt = x3_2.toInt + 1 := by rw [ex_13]; have := b_rg x3_2; exact i_add (a := x3_2.toInt) (b := 1) rfl rfl (by omega) (by omega)
          refine lv_goto (tgt := 11) hx hb dX11_penalty_27 (by decide) ?_
          exact ih3 x_13 (va_up r3 28 (upd (r3 28) x3_2.toNatClampNeg 0)) _ _ _ (by first | omega | (simp only [Int.toNat]; omega)) (by first | omega | decide) hRr hEr (fun k9 h9 => by show upd (r3 28) x3_2.toInt.toNat 0 k9 = 0; unfold upd; by_cases e9 : k9 = x3_2.toInt.toNat; (· rw [if_pos e9]); (· rw [if_neg e9]; exact hx3 k9 (by omega))) hP hD hS (lv_sub hl [0, 1, 2] rfl)
    exact loop_3 _ 0 r _ _ _ (Nat.lt_succ_self _) (by first | omega | decide) hRr hEr (fun k9 h9 => absurd (show k9 < 0 from h9) (Nat.not_lt_zero k9)) hP hD hS hl
  · have c_2 : (i 22).toInt ≠ 0 := b_ne c_2
    refine lv_iconst (v := 0) hx hb dX11_penalty_7 (by decide) ?_
    subst hQ
    exact W.iret (v := 0) hx hb hr (fun t ht hW => ⟨⟨_, r, rfl, ⟨hRr, hEr, (penI_0 (by omega))⟩, by rw [ht]; exact hP, va_K.moved hW.alike hK, hD⟩, hS.F ht⟩) hS.2.2 dX11_penalty_8
set_option maxHeartbeats 4000000 in
set_option maxRecDepth 100000 in
theorem c_X11_paidBack9 (l : Launch) (D : va_G) (cy : Nat → ClassId) (a : Nat → Nat) (i : Nat → Int32) (r : Nat → Nat → Int32) (q : Nat → Option Nat) (tl : va_W) (p0 : Int32) (sz : Nat) (hRi : yRi i) (hRr : yRr r) (d9 : lwT) (hL9 : xLw d9 i r) (hG9 : gLw d9) : Met l yX11_paidBack (Cond.code yX11_paidBack cX11_paidBack 3 (some .int) :: gT) { frames := 5, cells := 0, slots := 0, locals := 122 } (va_Pc [.ref (a 0), .ref (a 61), .int p0] (rM D cy (xW cy a i r q (a 20) (a 12) ++ (hW cy a i r ++ tl)) sz)) (va_Qi (fun (z : Int32) (u : Nat → Nat → Int32) => yRr u ∧ mEr [27, 28] r u ∧ (z = bckI (p0 + sumB (r 63) 3) (i 19) (xDn i d9))) (fun (u : Nat → Nat → Int32) t => va_P D vwCl (xW cy a i u q (a 20) (a 12) ++ (hW cy a i u ++ tl)) t.heap ∧ va_K D vwCl (vT cy) t ∧ va_D (va_A (xW cy a i r q (a 20) (a 12) ++ (hW cy a i r ++ tl)) sz) (xW cy a i u q (a 20) (a 12) ++ (hW cy a i u ++ tl))) (va_A (xW cy a i r q (a 20) (a 12) ++ (hW cy a i r ++ tl)) sz)) 0 0 (va_A (xW cy a i r q (a 20) (a 12) ++ (hW cy a i r ++ tl)) sz) := by
  refine Met.ofQ (cc := cX11_paidBack) (maxL := 3) (ret := (some .int)) (by decide) rfl ?_
  intro p e s m args below meth c s₁ B hml hv Q hQ
  obtain ⟨rfl, hnw, hsz, hP, hK, hD0⟩ := hv
  have hx := B.exec
  have hb := B.bytes
  have hr := B.returns
  have hlocks := B.notSynchronized
  have hT : ∀ w ∈ gT, w.before _ s = true := fun w h => atoms_spec (ws := (Cond.code yX11_paidBack cX11_paidBack 3 (some .int) :: gT)) B.pre w (List.mem_cons_of_mem _ h)
  have hown : s.vm.findClass RX11 = some m.cls := findClass_of_methodNamed B.named
  subst hsz
  have hD := hD0.self (sz := s.heap.size)
  generalize hAe : va_A (xW cy a i r q (a 20) (a 12) ++ (hW cy a i r ++ tl)) s.heap.size = A at hD hQ
  have hA : ∀ q : Nat, s.heap.size ≤ q → A q := fun q h => by rw [← hAe]; exact Or.inr h
  have hS : va_S A s.heap s.heap [] := va_S.rf
  have hl := lv_entry ([.ref (a 0), .ref (a 61), .int p0]) (n := 3) (Nat.le_of_ble_eq_true rfl)
  rw [lg_entry_eq]
  generalize (lg_sl ([.ref (a 0), .ref (a 61), .int p0]) ++ List.replicate (3 - (lg_sl ([.ref (a 0), .ref (a 61), .int p0])).length) Slot.unset).toArray = ls at hl ⊢
  have hl : lv_has ls 3 [(0, .ref (a 0)), (1, .ref (a 61)), (2, .int p0)] := hl
  have hEi : mEi [] i i := Ei_rf
  have hEr : mEr [27, 28] r r := Er_rf
  refine lv_aload_n hx hb dX11_paidBack_0 rfl (lv_at hl 1 rfl) ?_
  refine va_get (D := D) (ci := 3) (v := .int (i 19)) (C := RX3) (T := TX3) (N := 12) hx hb hT iX3 hown hK hP 61 rfl rfl 2 (by decide) (hT _ t_563) (fun _ h9 => h9) rfl dX11_paidBack_1 ?_
  have hg_1 : 0 ≤ (i 19).toInt ∧ (i 19).toInt ≤ 999999 := hRi 19
  refine lv_aload_n hx hb dX11_paidBack_4 rfl (lv_at hl 0 rfl) ?_
  refine lv_aload_n hx hb dX11_paidBack_5 rfl (lv_at hl 1 rfl) ?_
  refine lv_iload_n hx hb dX11_paidBack_6 rfl (lv_at hl 2 rfl) ?_
  refine vp_callSi (W.runV (As := [.ref (a 61), .int p0]) (rest := [.int (i 19)]) ⟨hx, hb, hml, hown, hT⟩ (c_X11_toOwner9 l D cy a i r q tl p0 hRi hRr) (cwV 2 hT (gV t_570 t_571 t_572 t_573 t_2) rfl rfl rfl (by decide +kernel) ⟨Nat.le_of_ble_eq_true rfl, Nat.le_of_ble_eq_true rfl⟩) (rP_v hP hK (va_recv hK hP (ci := 11) (q0 := 0) rfl rfl)) rfl rfl hl.1 rfl (lv_room (Nat.le_of_ble_eq_true rfl)) dX11_paidBack_7 ⟨Nat.le_of_ble_eq_true rfl, Nat.le_of_ble_eq_true rfl⟩) (fun r_2 hr_2 => ?_)
  have hqr_2 : r_2 = ownG (p0 + sumB (r 63) 3) (i 19) := hr_2
  refine lv_isub hx hb dX11_paidBack_10 ?_
  refine lv_topi (fun v_3 ev_3 => ?_)
  refine lv_aload_n hx hb dX11_paidBack_11 rfl (lv_at hl 0 rfl) ?_
  refine lv_aload_n hx hb dX11_paidBack_12 rfl (lv_at hl 1 rfl) ?_
  have hF_4 := rF hD hS hA
  refine va_calli (va_runV (As := [.ref (a 61)]) (rest := [.int v_3]) ⟨hx, hb, hml, hown, hT⟩ (c_X11_penalty9 l D cy a i r q tl _ hRi hRr d9 (xLw_co hL9 rfl (hEr 21 (by decide)) (hEr 22 (by decide)) (hEr 23 (by decide)) (hEr 24 (by decide)) (hEr 25 (by decide)) (hEr 26 (by decide))) hG9) (cwV 1 hT (gV t_574 t_575 t_576 t_577 t_2) rfl rfl rfl (by decide +kernel) ⟨Nat.le_of_ble_eq_true rfl, Nat.le_of_ble_eq_true rfl⟩) (rM_v hnw hP hK hD (va_recv hK hP (ci := 11) (q0 := 0) rfl rfl)) rfl rfl hl.1 rfl (lv_room (Nat.le_of_ble_eq_true rfl)) dX11_paidBack_13 ⟨Nat.le_of_ble_eq_true rfl, Nat.le_of_ble_eq_true rfl⟩) hS (fun q _ h => hF_4 q h) hF_4 (fun r_5 u_6 t H1 locs ht hvm hr_5 hB hz1 hk1 hS => ?_)
  obtain ⟨r6, rfl⟩ : ∃ z, z = u_6 := ⟨_, rfl⟩
  obtain ⟨hP, hK1, hD1⟩ := hB
  rw [ht] at hP
  have hD := hD1.weaken (fun k q _ h => hF_4 q.1 h)
  obtain ⟨hRr, hE2, hr_5⟩ := hr_5
  have hRr : yRr r6 := hRr
  have hE2 : mEr [27, 28] r r6 := hE2
  have hP : va_P D vwCl (xW cy a i r6 q (a 20) (a 12) ++ (hW cy a i r6 ++ tl)) H1 := hP
  have hD : va_D A (xW cy a i r6 q (a 20) (a 12) ++ (hW cy a i r6 ++ tl)) := hD
  have hEr : mEr [27, 28] _ r6 := Er_tr hEr hE2 (by decide)
  have hqr_5 : r_5 = xDn i d9 := hr_5
  refine lv_iadd hx hb dX11_paidBack_16 ?_
  refine lv_topi (fun v_7 ev_7 => ?_)
  subst hQ
  exact W.iret (v := v_7) hx hb hr (fun t ht hW => ⟨⟨_, r6, rfl, ⟨hRr, hEr, (by rw [ev_7, ev_3, hqr_2, hqr_5]; rfl)⟩, by rw [ht]; exact hP, va_K.moved hW.alike hK, hD⟩, hS.F ht⟩) hS.2.2 dX11_paidBack_17
