/-- joins: the class's rows -/
def gjUp (g g2 : Nat → Int32) (s b : Int32) : Prop := ∀ k, g2 k = if 1 ≤ k ∧ k ≤ 9 ∧ (k : Int) ≤ s.toInt then g k + b else g k
def gjFi (g : Nat → Int32) (a b : Int32) : Prop := (∀ k : Nat, b.toInt < (k : Int) → (k : Int) ≤ a.toInt → 0 < (g k).toInt) ∧ (∀ k : Nat, a.toInt < (k : Int) → (k : Int) ≤ b.toInt → (g k).toInt < 0)
def gjCan (g t fr fk fs lr lk ls : Nat → Int32) (i j : Nat) : Prop := (t j).toInt = 0 ∧ (lr j = fr i ∧ lk j = fk i) ∧ gjFi g (fs i) (ls j)
def gjLo (g t fr fk fs lr lk ls : Nat → Int32) (nl : Nat) (i : Nat) (z : Int) : Prop := (∃ j : Nat, j < nl ∧ z = (j : Int) ∧ gjCan g t fr fk fs lr lk ls i j ∧ ∀ k, k < j → ¬ gjCan g t fr fk fs lr lk ls i k) ∨ (z = -2 ∧ ∀ k, k < nl → ¬ gjCan g t fr fk fs lr lk ls i k)
/-- how many more of the first list -/
def gjLk (fr fk fs : Nat → Int32) (nf : Nat) (lr lk ls : Nat → Int32) (nl : Nat) (R K : Int32) (J : Nat → Int32) (a b : Nat) (g : Nat → Int32) : Prop := ∀ s, 1 ≤ s → s ≤ 9 → (g s).toInt = gjFF fr fk fs nf R K a s - gjLL fr fk lr lk ls nl R K J b s
def gjDc (P Q : Nat → Bool) (f l : Nat → Nat) (n m : Nat) (g : Nat → Int32) : Prop := ∀ s, 1 ≤ s → s ≤ 9 → (g s).toInt = gjC P f s n - gjC Q l s m
section JCLS
variable {fr fk fs lr lk ls : Nat → Int32} {nf nl : Nat} {R K : Int32} {J J2 g g2 t : Nat → Int32} {i j a n n2 m m2 : Nat} {P Q : Nat → Bool} {c d : Nat → Nat}
theorem gjC_le {s : Nat} : ∀ n, gjC P c s n ≤ (n : Int) := by
  intro n
  induction n with
  | zero => exact Int.le_refl _
  | succ n ih =>
    rw [gjC]
    by_cases h : P n = true ∧ s ≤ c n
    · rw [if_pos h]; omega
    · rw [if_neg h]; omega
theorem gjDc_0 (h : ∀ k, k < 10 → g k = 0) : gjDc P Q c d 0 0 g := fun s s1 s2 => by
  rw [h s (by omega)]; rfl
theorem gjDc_fn (h : gjDc P Q c d n m g) (hn : n2 = n + 1) (hP : ¬ P n = true) : gjDc P Q c d n2 m g := fun s s1 s2 => by
  subst hn
  rw [h s s1 s2, gjC, if_neg (fun h9 => hP h9.1)]; omega
theorem gjDc_ln (h : gjDc P Q c d n m g) (hm : m2 = m + 1) (hQ : ¬ Q m = true) : gjDc P Q c d n m2 g := fun s s1 s2 => by
  subst hm
  rw [h s s1 s2]
  rw [gjC.eq_2 Q d s m, if_neg (fun h9 => hQ h9.1)]; omega
theorem gjDc_fy {s0 b : Int32} (h : gjDc P Q c d n m g) (hn : n2 = n + 1) (hP : P n = true) (hc : ((c n : Nat) : Int) = s0.toInt) (hn20 : n ≤ 20) (hm20 : m ≤ 20) (hu : gjUp g g2 s0 b) (hb : b.toInt = 1) : gjDc P Q c d n2 m g2 := fun s s1 s2 => by
  subst hn
  have h1 := h s s1 s2
  have h2 := gjC_le (P := P) (c := c) (s := s) n
  have h3 := gjC_p (P := P) (f := c) (s := s) n
  have h4 := gjC_le (P := Q) (c := d) (s := s) m
  have h5 := gjC_p (P := Q) (f := d) (s := s) m
  rw [hu s, gjC]
  by_cases e : s ≤ c n
  · rw [if_pos ⟨s1, s2, by omega⟩, if_pos ⟨hP, e⟩, i_add h1 hb (by omega) (by omega)]; omega
  · rw [if_neg (fun h9 => e (by have := h9.2.2; omega)), if_neg (fun h9 => e h9.2), h1]; omega
theorem gjDc_ly {s0 b : Int32} (h : gjDc P Q c d n m g) (hm : m2 = m + 1) (hQ : Q m = true) (hc : ((d m : Nat) : Int) = s0.toInt) (hn20 : n ≤ 20) (hm20 : m ≤ 20) (hu : gjUp g g2 s0 b) (hb : b.toInt = -1) : gjDc P Q c d n m2 g2 := fun s s1 s2 => by
  subst hm
  have h1 := h s s1 s2
  have h2 := gjC_le (P := P) (c := c) (s := s) n
  have h3 := gjC_p (P := P) (f := c) (s := s) n
  have h4 := gjC_le (P := Q) (c := d) (s := s) m
  have h5 := gjC_p (P := Q) (f := d) (s := s) m
  rw [hu s, gjC.eq_2 Q d s m]
  by_cases e : s ≤ d m
  · rw [if_pos ⟨s1, s2, by omega⟩, if_pos ⟨hQ, e⟩, i_add h1 hb (by omega) (by omega)]; omega
  · rw [if_neg (fun h9 => e (by have := h9.2.2; omega)), if_neg (fun h9 => e h9.2), h1]; omega
theorem gjN_c {f : Nat → Int32} {k : Nat} (h : 0 ≤ (f k).toInt) : ((gjN f k : Nat) : Int) = (f k).toInt := by
  show (((f k).toInt.toNat : Nat) : Int) = _
  omega
/-- the class's test is the one of the groups -/
theorem gjFi_iff {F L : Nat → Int} (hg : ∀ s, 1 ≤ s → s ≤ 9 → (g s).toInt = F s - L s) {x y : Int32} (hx : 1 ≤ x.toInt ∧ x.toInt ≤ 9) (hy : 1 ≤ y.toInt ∧ y.toInt ≤ 9) : gjFi g x y ↔ gjFit F L x.toNatClampNeg y.toNatClampNeg := by
  have ex : x.toNatClampNeg = x.toInt.toNat := rfl
  have ey : y.toNatClampNeg = y.toInt.toNat := rfl
  constructor
  · intro h
    refine ⟨fun s s1 s2 => ?_, fun s s1 s2 => ?_⟩
    · have h1 := h.1 s (by omega) (by omega)
      rw [hg s (by omega) (by omega)] at h1; omega
    · have h1 := h.2 s (by omega) (by omega)
      rw [hg s (by omega) (by omega)] at h1; omega
  · intro h
    refine ⟨fun s s1 s2 => ?_, fun s s1 s2 => ?_⟩
    · have h1 := h.1 s (by omega) (by omega)
      rw [hg s (by omega) (by omega)]; omega
    · have h1 := h.2 s (by omega) (by omega)
      rw [hg s (by omega) (by omega)]; omega
theorem gjCan_iff (hL : gjLk fr fk fs nf lr lk ls nl R K J a a g) (hT : ∀ j : Nat, j < nl → ((t j).toInt = 0 ↔ ∀ i, i < a → fr i = R → fk i = K → (J i).toInt ≠ (j : Int))) (hr : fr a = R) (hk : fk a = K) (hs1 : gjSt fs nf) (hs2 : gjSt ls nl) (ha : a < nf) (hj : j < nl) : gjCan g t fr fk fs lr lk ls a j ↔ gjCd fr fk fs nf lr lk ls nl J a j := by
  unfold gjCan gjCd
  rw [gjQL_iff, hT j hj, hr, hk, gjFi_iff hL (hs1 a ha) (hs2 j hj)]
  exact ⟨fun h => ⟨⟨h.2.1, h.1⟩, h.2.2⟩, fun h => ⟨h.1.2, h.1.1, h.2⟩⟩
theorem gjLo_O {z : Int} (h : gjLo g t fr fk fs lr lk ls nl a z) (hc : ∀ j, j < nl → (gjCan g t fr fk fs lr lk ls a j ↔ gjCd fr fk fs nf lr lk ls nl J a j)) : gjO fr fk fs nf lr lk ls nl J (-2) a z := by
  rcases h with ⟨j, j1, j2, j3, j4⟩ | ⟨z1, z2⟩
  · exact Or.inl ⟨j, j1, j2, (hc j j1).mp j3, fun k hk h9 => j4 k hk ((hc k (by omega)).mpr h9)⟩
  · exact Or.inr ⟨z1, fun k hk h9 => z2 k hk ((hc k hk).mpr h9)⟩
theorem gjLk_n (h : gjLk fr fk fs nf lr lk ls nl R K J a a g) (hg : ¬ (fr a = R ∧ fk a = K)) (hn : n2 = a + 1) : gjLk fr fk fs nf lr lk ls nl R K J n2 n2 g := fun s s1 s2 => by
  subst hn
  rw [gjFF_n hg, gjLL_n (Or.inl hg)]; exact h s s1 s2
theorem gjLk_f {s0 b : Int32} (h : gjLk fr fk fs nf lr lk ls nl R K J a a g) (hr : fr a = R) (hk : fk a = K) (ha : a < nf) (hs : gjSt fs nf) (h20 : nf ≤ 20) (h2l : nl ≤ 20) (e0 : s0 = fs a) (hu : gjUp g g2 s0 b) (hb : b.toInt = -1) : gjLk fr fk fs nf lr lk ls nl R K J (a + 1) a g2 := fun s s1 s2 => by
  have h1 := h s s1 s2
  obtain ⟨b1, b2, b3⟩ := gjSt_N hs ha
  have h2 := gjC_le (P := gjPF fr fk R K a) (c := gjN fs) (s := s) nf
  have h3 := gjC_p (P := gjPF fr fk R K a) (f := gjN fs) (s := s) nf
  have h4 := gjC_le (P := gjQL fr fk lr lk R K J a) (c := gjN ls) (s := s) nl
  have h5 := gjC_p (P := gjQL fr fk lr lk R K J a) (f := gjN ls) (s := s) nl
  rw [hu s, gjFF_s ha hr hk, e0]
  unfold gjd
  unfold gjFF gjLL at *
  by_cases e : s ≤ gjN fs a
  · rw [if_pos ⟨s1, s2, by omega⟩, if_pos e, i_add h1 hb (by omega) (by omega)]; omega
  · rw [if_neg (fun h9 => e (by have := h9.2.2; omega)), if_neg e, h1]
theorem gjLk_l {s0 b : Int32} (h : gjLk fr fk fs nf lr lk ls nl R K J2 (a + 1) a g) (hr : fr a = R) (hk : fk a = K) (hj : j < nl) (hQ : gjQL fr fk lr lk R K J2 a j = true) (hJ : (J2 a).toInt = (j : Int)) (hs : gjSt ls nl) (h20 : nf ≤ 20) (h2l : nl ≤ 20) (e0 : s0 = ls j) (hu : gjUp g g2 s0 b) (hb : b.toInt = 1) : gjLk fr fk fs nf lr lk ls nl R K J2 (a + 1) (a + 1) g2 := fun s s1 s2 => by
  have h1 := h s s1 s2
  obtain ⟨b1, b2, b3⟩ := gjSt_N hs hj
  have h2 := gjC_le (P := gjPF fr fk R K (a + 1)) (c := gjN fs) (s := s) nf
  have h3 := gjC_p (P := gjPF fr fk R K (a + 1)) (f := gjN fs) (s := s) nf
  have h4 := gjC_le (P := gjQL fr fk lr lk R K J2 a) (c := gjN ls) (s := s) nl
  have h5 := gjC_p (P := gjQL fr fk lr lk R K J2 a) (f := gjN ls) (s := s) nl
  rw [hu s, gjLL_s hj hQ hr hk hJ, e0]
  unfold gjd
  unfold gjFF gjLL at *
  by_cases e : s ≤ gjN ls j
  · rw [if_pos ⟨s1, s2, by omega⟩, if_pos e, i_add h1 hb (by omega) (by omega)]; omega
  · rw [if_neg (fun h9 => e (by have := h9.2.2; omega)), if_neg e, h1]
theorem gjLk_u (h : gjLk fr fk fs nf lr lk ls nl R K J2 (a + 1) a g) (hJ : ∀ j : Nat, j < nl → (J2 a).toInt ≠ (j : Int)) : gjLk fr fk fs nf lr lk ls nl R K J2 (a + 1) (a + 1) g := fun s s1 s2 => by
  rw [gjLL_n (Or.inr hJ)]; exact h s s1 s2
theorem gjLk_J {b : Nat} (h : gjLk fr fk fs nf lr lk ls nl R K J a b g) (hJ : ∀ k, k < b → (J2 k).toInt = (J k).toInt) : gjLk fr fk fs nf lr lk ls nl R K J2 a b g := fun s s1 s2 => by
  rw [gjLL_J hJ]; exact h s s1 s2
theorem gjJ_add {fr2 fk2 fs2 lr2 lk2 ls2 : Nat → Int32} {nf2 nl2 : Nat} {U : Int} (h : gjJ fr fk fs nf lr lk ls nl U J) (hn : nf ≤ nf2) (hm : nl ≤ nl2)
    (h1 : ∀ k, k < nf → fr2 k = fr k ∧ fk2 k = fk k ∧ fs2 k = fs k) (h2 : ∀ k, k < nl → lr2 k = lr k ∧ lk2 k = lk k ∧ ls2 k = ls k) (x1 : ∀ k, nf ≤ k → k < nf2 → fr2 k = R ∧ fk2 k = K) (x2 : ∀ k, nl ≤ k → k < nl2 → lr2 k = R ∧ lk2 k = K)
    (hG : ∀ k, k < nf2 → fr2 k = R → fk2 k = K → gjO fr2 fk2 fs2 nf2 lr2 lk2 ls2 nl2 J2 U k (J2 k).toInt) (hO : ∀ k, ¬ (k < nf2 ∧ fr2 k = R ∧ fk2 k = K) → J2 k = J k) : gjJ fr2 fk2 fs2 nf2 lr2 lk2 ls2 nl2 U J2 := by
  intro i hi
  by_cases hg : fr2 i = R ∧ fk2 i = K
  · exact hG i hi hg.1 hg.2
  · have hi1 : i < nf := by
      by_cases e : i < nf
      · exact e
      · exact absurd (x1 i (by omega) hi) hg
    obtain ⟨e1, e2, e3⟩ := h1 i hi1
    have hne : ¬ (fr i = R ∧ fk i = K) := fun h9 => hg (by rw [e1, e2]; exact h9)
    rw [hO i (fun h9 => hg h9.2)]
    refine gjO_co (nf := nf) (nl := nl) hn hm hi1 e1 e2 e3 (fun k hk => ⟨?_, fun hgk => ⟨(h1 k hk).2.2, ?_⟩⟩) (fun k k1 k2 => ?_) (fun k hk => ⟨?_, fun _ => (h2 k hk).2.2⟩) (fun k k1 k2 => ?_) (h i hi1)
    · unfold gjg; rw [(h1 k hk).1, (h1 k hk).2.1]
    · have g1 := gjg_iff.mp hgk
      rw [hO k (fun h9 => hne (by rw [← g1.1, ← g1.2, ← (h1 k hk).1, ← (h1 k hk).2.1]; exact h9.2))]
    · refine Bool.eq_false_iff.mpr (fun h9 => hne ?_)
      have g1 := gjg_iff.mp h9
      have g2 := x1 k k1 k2
      exact ⟨by rw [← g1.1]; exact g2.1, by rw [← g1.2]; exact g2.2⟩
    · unfold gjg; rw [(h2 k hk).1, (h2 k hk).2.1]
    · refine Bool.eq_false_iff.mpr (fun h9 => hne ?_)
      have g1 := gjg_iff.mp h9
      have g2 := x2 k k1 k2
      exact ⟨by rw [← g1.1]; exact g2.1, by rw [← g1.2]; exact g2.2⟩
end JCLS
/-- a home's lists, and what is joined in them -/
def gjX (i : Nat → Int32) (r : Nat → Nat → Int32) : Prop := gjJ (r 66) (r 67) (r 68) (i 23).toNatClampNeg (r 71) (r 72) (r 73) (i 24).toNatClampNeg (-2) (r 75) ∧ gjSt (r 68) (i 23).toNatClampNeg ∧ gjSt (r 73) (i 24).toNatClampNeg
theorem gjSt_u {f : Nat → Int32} {n : Nat} {S : Int32} (h : gjSt f n) (hS : 1 ≤ S.toInt ∧ S.toInt ≤ 9) : gjSt (upd f n S) (n + 1) := by
  intro k hk
  unfold upd
  by_cases e : k = n
  · rw [if_pos e]; exact hS
  · rw [if_neg e]; exact h k (by omega)
theorem upd_o {f : Nat → Int32} {n k : Nat} {v : Int32} (h : k < n) : upd f n v k = f k := if_neg (by omega)
theorem gjX_f {i i2 : Nat → Int32} {r r2 : Nat → Nat → Int32} {R K S : Int32} (h : gjX i r) (h0 : 0 ≤ (i 23).toInt) (e23 : (i2 23).toInt = (i 23).toInt + 1) (e24 : i2 24 = i 24) (a1 : r2 66 = upd (r 66) (i 23).toNatClampNeg R) (a2 : r2 67 = upd (r 67) (i 23).toNatClampNeg K) (a3 : r2 68 = upd (r 68) (i 23).toNatClampNeg S) (hS : 1 ≤ S.toInt ∧ S.toInt ≤ 9) (b1 : r2 71 = r 71) (b2 : r2 72 = r 72) (b3 : r2 73 = r 73)
    (J1 : ∀ k, k < (i2 23).toNatClampNeg → r2 66 k = R → r2 67 k = K → gjO (r2 66) (r2 67) (r2 68) (i2 23).toNatClampNeg (r2 71) (r2 72) (r2 73) (i2 24).toNatClampNeg (r2 75) (-2) k (r2 75 k).toInt) (J2 : ∀ k, ¬ (k < (i2 23).toNatClampNeg ∧ r2 66 k = R ∧ r2 67 k = K) → r2 75 k = r 75 k) : gjX i2 r2 := by
  obtain ⟨h1, h2, h3⟩ := h
  have hN : (i2 23).toNatClampNeg = (i 23).toNatClampNeg + 1 := by show (i2 23).toInt.toNat = (i 23).toInt.toNat + 1; omega
  unfold gjX
  refine ⟨?_, by rw [hN, a3]; exact gjSt_u h2 hS, by rw [e24, b3]; exact h3⟩
  refine gjJ_add (R := R) (K := K) (nf2 := (i2 23).toNatClampNeg) (nl2 := (i2 24).toNatClampNeg) h1 (by omega) (by rw [e24]; exact Nat.le_refl _) (fun k hk => ⟨by rw [a1]; exact upd_o hk, by rw [a2]; exact upd_o hk, by rw [a3]; exact upd_o hk⟩) (fun k hk => ⟨by rw [b1], by rw [b2], by rw [b3]⟩) (fun k k1 k2 => ?_) (fun k k1 k2 => by rw [e24] at k2; omega) J1 J2
  have e : k = (i 23).toNatClampNeg := by omega
  rw [a1, a2, e, upd_s, upd_s]
  exact ⟨rfl, rfl⟩
theorem gjX_l {i i2 : Nat → Int32} {r r2 : Nat → Nat → Int32} {R K S : Int32} (h : gjX i r) (h0 : 0 ≤ (i 24).toInt) (e24 : (i2 24).toInt = (i 24).toInt + 1) (e23 : i2 23 = i 23) (a1 : r2 71 = upd (r 71) (i 24).toNatClampNeg R) (a2 : r2 72 = upd (r 72) (i 24).toNatClampNeg K) (a3 : r2 73 = upd (r 73) (i 24).toNatClampNeg S) (hS : 1 ≤ S.toInt ∧ S.toInt ≤ 9) (b1 : r2 66 = r 66) (b2 : r2 67 = r 67) (b3 : r2 68 = r 68)
    (J1 : ∀ k, k < (i2 23).toNatClampNeg → r2 66 k = R → r2 67 k = K → gjO (r2 66) (r2 67) (r2 68) (i2 23).toNatClampNeg (r2 71) (r2 72) (r2 73) (i2 24).toNatClampNeg (r2 75) (-2) k (r2 75 k).toInt) (J2 : ∀ k, ¬ (k < (i2 23).toNatClampNeg ∧ r2 66 k = R ∧ r2 67 k = K) → r2 75 k = r 75 k) : gjX i2 r2 := by
  obtain ⟨h1, h2, h3⟩ := h
  have hN : (i2 24).toNatClampNeg = (i 24).toNatClampNeg + 1 := by show (i2 24).toInt.toNat = (i 24).toInt.toNat + 1; omega
  unfold gjX
  refine ⟨?_, by rw [e23, b3]; exact h2, by rw [hN, a3]; exact gjSt_u h3 hS⟩
  refine gjJ_add (R := R) (K := K) (nf2 := (i2 23).toNatClampNeg) (nl2 := (i2 24).toNatClampNeg) h1 (by rw [e23]; exact Nat.le_refl _) (by omega) (fun k hk => ⟨by rw [b1], by rw [b2], by rw [b3]⟩) (fun k hk => ⟨by rw [a1]; exact upd_o hk, by rw [a2]; exact upd_o hk, by rw [a3]; exact upd_o hk⟩) (fun k k1 k2 => by rw [e23] at k2; omega) (fun k k1 k2 => ?_) J1 J2
  have e : k = (i 24).toNatClampNeg := by omega
  rw [a1, a2, e, upd_s, upd_s]
  exact ⟨rfl, rfl⟩
theorem gjX_same {i i2 : Nat → Int32} {r r2 : Nat → Nat → Int32} (h : gjX i r) (e1 : i2 23 = i 23) (e2 : i2 24 = i 24) (a1 : r2 66 = r 66) (a2 : r2 67 = r 67) (a3 : r2 68 = r 68) (a4 : r2 71 = r 71) (a5 : r2 72 = r 72) (a6 : r2 73 = r 73) (a7 : r2 75 = r 75) : gjX i2 r2 := by
  unfold gjX
  rw [e1, e2, a1, a2, a3, a4, a5, a6, a7]; exact h
set_option maxHeartbeats 4000000 in
set_option maxRecDepth 100000 in
theorem c_X4_change9 (l : Launch) (D : va_G) (cy : Nat → ClassId) (a : Nat → Nat) (i : Nat → Int32) (r : Nat → Nat → Int32) (q : Nat → Option Nat) (tl : va_W) (p0 p1 : Int32) (sz : Nat) (hRi : yRi i) (hRr : yRr r) : Met l yX4_change (Cond.code yX4_change cX4_change 4 none :: gT) { frames := 1, cells := 0, slots := 0, locals := 24 } (va_Pc [.ref (a 5), .int p0, .int p1] (rQ D cy (xW cy a i r q (a 20) (a 12) ++ tl) sz)) (va_Qv (fun u : Nat → Nat → Int32 => yRr u ∧ mEr [6] r u ∧ (gjUp (r 6) (u 6) p0 p1)) (fun (u : Nat → Nat → Int32) t => va_P D vwCl (xW cy a i u q (a 20) (a 12) ++ tl) t.heap ∧ va_K D vwCl (vT cy) t ∧ va_D (va_A (xW cy a i r q (a 20) (a 12) ++ tl) sz) (xW cy a i u q (a 20) (a 12) ++ tl)) (va_A (xW cy a i r q (a 20) (a 12) ++ tl) sz)) 0 0 (va_A (xW cy a i r q (a 20) (a 12) ++ tl) sz) := by
  refine Met.ofQ (cc := cX4_change) (maxL := 4) (ret := none) (by decide) rfl ?_
  intro p e s m args below meth c s₁ B hml hv Q hQ
  obtain ⟨rfl, hsz, hP, hK, hD0⟩ := hv
  have hx := B.exec
  have hb := B.bytes
  have hr := B.returns
  have hlocks := B.notSynchronized
  have hT : ∀ w ∈ gT, w.before _ s = true := fun w h => atoms_spec (ws := (Cond.code yX4_change cX4_change 4 none :: gT)) B.pre w (List.mem_cons_of_mem _ h)
  have hown : s.vm.findClass RX4 = some m.cls := findClass_of_methodNamed B.named
  subst hsz
  have hD := hD0.self (sz := s.heap.size)
  generalize hAe : va_A (xW cy a i r q (a 20) (a 12) ++ tl) s.heap.size = A at hD hQ
  have hA : ∀ q : Nat, s.heap.size ≤ q → A q := fun q h => by rw [← hAe]; exact Or.inr h
  have hS : va_S A s.heap s.heap [] := va_S.rf
  have hl := lv_entry ([.ref (a 5), .int p0, .int p1]) (n := 4) (Nat.le_of_ble_eq_true rfl)
  rw [lg_entry_eq]
  generalize (lg_sl ([.ref (a 5), .int p0, .int p1]) ++ List.replicate (4 - (lg_sl ([.ref (a 5), .int p0, .int p1])).length) Slot.unset).toArray = ls at hl ⊢
  have hl : lv_has ls 4 [(0, .ref (a 5)), (1, .int p0), (2, .int p1)] := hl
  have hEi : mEi [] i i := Ei_rf
  have hEr : mEr [6] r r := Er_rf
  refine lv_iconst (v := 1) hx hb dX4_change_0 (by decide) ?_
  refine lv_istore_n (lv' := [(3, .int 1), (0, .ref (a 5)), (1, .int p0), (2, .int p1)]) hx hb dX4_change_1 rfl hl (by decide) rfl (fun ls hl => ?_)
  have loop_1 : ∀ (n : Nat) (x1_3 : Int32) (r1 : Nat → Nat → Int32) (H : Heap) (locs : List Loc) (ls : Array Slot), (10 - x1_3.toInt).toNat < n → (0 ≤ x1_3.toInt ∧ x1_3.toInt ≤ 10) → yRr r1 → mEr [6] r r1 → ((∀ k, r1 6 k = if 1 ≤ k ∧ k < x1_3.toNatClampNeg then r 6 k + p1 else r 6 k) ∧ (x1_3.toInt = 1 ∨ x1_3.toInt ≤ p0.toInt + 1) ∧ 1 ≤ x1_3.toInt) → va_P D vwCl (xW cy a i r1 q (a 20) (a 12) ++ tl) H → va_D A (xW cy a i r1 q (a 20) (a 12) ++ tl) → va_S A s.heap H locs → lv_has ls 4 [(3, .int x1_3), (0, .ref (a 5)), (1, .int p0), (2, .int p1)] → W p l e ({ frames := 1, cells := 0, slots := 0, locals := 24 } : Room) s m ([.ref (a 5), .int p0, .int p1] : List Value).toArray below meth c H locs 0 0 Q (F0 m 2 ls []) := by
    intro n
    induction n with
    | zero =>
      intro x1_3 r1 H locs ls hm1 hf1_0 hRr hEr hx1 hP hD hS hl
      exact absurd hm1 (by omega)
    | succ n ih1 =>
      intro x1_3 r1 H locs ls hm1 hf1_0 hRr hEr hx1 hP hD hS hl
      refine lv_iload_n hx hb dX4_change_2 rfl (lv_at hl 0 rfl) ?_
      refine lv_iload_n hx hb dX4_change_3 rfl (lv_at hl 2 rfl) ?_
      refine lv_icmp_gt (tgt := 29) hx hb dX4_change_4 (by decide) (fun c_2 => ?_) (fun c_2 => ?_)
      · have c_2 : p0.toInt < x1_3.toInt := b_lt c_2
        subst hQ
        have hc9 : x1_3.toNatClampNeg = x1_3.toInt.toNat := rfl
        have h1 := hx1.1
        have h2 := hx1.2
        have hU9 : gjUp (r 6) (r1 6) p0 p1 := by
          intro k
          rw [h1 k]
          clear h1 hx1
          by_cases e8 : 1 ≤ k ∧ k < x1_3.toNatClampNeg
          · rw [if_pos e8, if_pos (by omega)]
          · rw [if_neg e8, if_neg (by omega)]
        exact W.vret hx hb hr (fun t ht hW => ⟨⟨r1, rfl, ⟨hRr, hEr, hU9⟩, by rw [ht]; exact hP, va_K.moved hW.alike hK, hD⟩, hS.F ht⟩) hS.2.2 dX4_change_29
      · have c_2 : x1_3.toInt ≤ p0.toInt := b_nlt c_2
        refine lv_iload_n hx hb dX4_change_7 rfl (lv_at hl 0 rfl) ?_
        refine lv_bipush (v := 9) hx hb dX4_change_8 (by decide) ?_
        refine lv_icmp_gt (tgt := 29) hx hb dX4_change_10 (by decide) (fun c_3 => ?_) (fun c_3 => ?_)
        · have c_3 : 9 < x1_3.toInt := b_lt c_3
          subst hQ
          have hc9 : x1_3.toNatClampNeg = x1_3.toInt.toNat := rfl
          have h1 := hx1.1
          have h2 := hx1.2
          have hU9 : gjUp (r 6) (r1 6) p0 p1 := by
            intro k
            rw [h1 k]
            clear h1 hx1
            by_cases e8 : 1 ≤ k ∧ k < x1_3.toNatClampNeg
            · rw [if_pos e8, if_pos (by omega)]
            · rw [if_neg e8, if_neg (by omega)]
          exact W.vret hx hb hr (fun t ht hW => ⟨⟨r1, rfl, ⟨hRr, hEr, hU9⟩, by rw [ht]; exact hP, va_K.moved hW.alike hK, hD⟩, hS.F ht⟩) hS.2.2 dX4_change_29
        · have c_3 : x1_3.toInt ≤ 9 := b_nlt c_3
          refine lv_aload_n hx hb dX4_change_13 rfl (lv_at hl 1 rfl) ?_
          refine va_get (D := D) (ci := 4) (v := .ref (a 6)) (C := RX4) (T := TX4) (N := 2) hx hb hT iX4 hown hK hP 5 rfl rfl 0 (by decide) (hT _ t_407) (fun _ h9 => h9) rfl dX4_change_14 ?_
          refine lv_iload_n hx hb dX4_change_17 rfl (lv_at hl 0 rfl) ?_
          refine lv_dup2_11 hx hb dX4_change_18 rfl rfl ?_
          refine va_iald hx hb hK hP 6 0 rfl rfl (vp_inI (by omega) (by omega)) dX4_change_19 ?_
          refine lv_topi (fun v_4 ev_4 => ?_)
          refine lv_iload_n hx hb dX4_change_20 rfl (lv_at hl 3 rfl) ?_
          refine lv_iadd hx hb dX4_change_21 ?_
          refine lv_topi (fun v_5 ev_5 => ?_)
          refine va_iast hx hb hK hP hD hS 6 0 rfl rfl (vp_inI (by omega) (by omega)) dX4_change_22 (fun H locs hP hD hS => ?_)
          rw [zS6] at hP hD
          have hRr : yRr (va_up r1 6 (upd (r1 6) x1_3.toNatClampNeg v_5)) := Yr_upd hRr 6 (x1_3.toNatClampNeg) v_5 (b_rg _)
          have hEr : mEr [6] _ (va_up r1 6 (upd (r1 6) x1_3.toNatClampNeg v_5)) := Er_up hEr 6 _ (by decide)
          obtain ⟨x_6, ex_6⟩ : ∃ y : Int32, y = x1_3 + 1 := ⟨_, rfl⟩
          refine lv_iinc (v := x_6) (lv' := [(3, .int x_6), (0, .ref (a 5)), (1, .int p0), (2, .int p1)]) hx hb dX4_change_23 hl (k := 0) rfl (by rw [ex_6]; rfl) (by decide) rfl (fun ls hl => ?_)
          have hx_6 : x_6.toInt = x1_3.toInt + 1 := by rw [ex_6]; have := b_rg x1_3; exact i_add (a := x1_3.toInt) (b := 1) rfl rfl (by omega) (by omega)
          refine lv_goto (tgt := 2) hx hb dX4_change_26 (by decide) ?_
          have hk : x_6.toNatClampNeg = x1_3.toNatClampNeg + 1 := by show x_6.toInt.toNat = x1_3.toInt.toNat + 1; omega
          have hq1 : 1 ≤ x1_3.toNatClampNeg := by show 1 ≤ x1_3.toInt.toNat; omega
          have hl9 : v_4 = r 6 (x1_3.toNatClampNeg) := by rw [ev_4, hx1.1, if_neg (by omega)]
          have hU9 : ∀ k, upd (r1 6) (x1_3.toNatClampNeg) v_5 k = if 1 ≤ k ∧ k < x_6.toNatClampNeg then r 6 k + p1 else r 6 k := by
            intro k
            unfold upd
            by_cases e9 : k = x1_3.toNatClampNeg
            · rw [if_pos e9, if_pos (by omega), ev_5, hl9, e9]
            · rw [if_neg e9, hx1.1 k]
              by_cases e8 : 1 ≤ k ∧ k < x1_3.toNatClampNeg
              · rw [if_pos e8, if_pos (by omega)]
              · rw [if_neg e8, if_neg (by omega)]
          exact ih1 x_6 (va_up r1 6 (upd (r1 6) x1_3.toNatClampNeg v_5)) _ _ _ (by first | omega | (simp only [Int.toNat]; omega)) (by first | omega | decide) hRr hEr ⟨hU9, by omega, by omega⟩ hP hD hS (lv_sub hl [0, 1, 2, 3] rfl)
  exact loop_1 _ 1 r _ _ _ (Nat.lt_succ_self _) (by first | omega | decide) hRr hEr ⟨fun k => by rw [if_neg (by have h9 : (1 : Int32).toNatClampNeg = 1 := rfl; omega)], Or.inl rfl, by decide⟩ hP hD hS hl
set_option maxHeartbeats 4000000 in
set_option maxRecDepth 100000 in
theorem c_X4_fits9 (l : Launch) (D : va_G) (cy : Nat → ClassId) (a : Nat → Nat) (i : Nat → Int32) (r : Nat → Nat → Int32) (q : Nat → Option Nat) (tl : va_W) (p0 p1 : Int32) (hRi : yRi i) (hRr : yRr r) (q0 : 0 ≤ p0.toInt ∧ p0.toInt ≤ 9) (q1 : 0 ≤ p1.toInt ∧ p1.toInt ≤ 9) : Met l yX4_fits (Cond.code yX4_fits cX4_fits 4 (some .boolean) :: gT) { frames := 1, cells := 0, slots := 0, locals := 24 } (va_Pc [.ref (a 5), .int p0, .int p1] (rP D cy (xW cy a i r q (a 20) (a 12) ++ tl))) (vp_Si (fun z => BR z (gjFi (r 6) p0 p1) 1 0)) 0 0 (fun _ => False) := by
  refine Met.ofQ (cc := cX4_fits) (maxL := 4) (ret := (some .boolean)) (by decide) rfl ?_
  intro p e s m args below meth c s₁ B hml hv Q hQ
  obtain ⟨rfl, hP, hK⟩ := hv
  have hx := B.exec
  have hb := B.bytes
  have hr := B.returns
  have hlocks := B.notSynchronized
  have hT : ∀ w ∈ gT, w.before _ s = true := fun w h => atoms_spec (ws := (Cond.code yX4_fits cX4_fits 4 (some .boolean) :: gT)) B.pre w (List.mem_cons_of_mem _ h)
  have hown : s.vm.findClass RX4 = some m.cls := findClass_of_methodNamed B.named
  have hl := lv_entry ([.ref (a 5), .int p0, .int p1]) (n := 4) (Nat.le_of_ble_eq_true rfl)
  rw [lg_entry_eq]
  generalize (lg_sl ([.ref (a 5), .int p0, .int p1]) ++ List.replicate (4 - (lg_sl ([.ref (a 5), .int p0, .int p1])).length) Slot.unset).toArray = ls at hl ⊢
  have hl : lv_has ls 4 [(0, .ref (a 5)), (1, .int p0), (2, .int p1)] := hl
  have hEi : mEi [] i i := Ei_rf
  have hEr : mEr [] r r := Er_rf
  refine lv_iload_n hx hb dX4_fits_0 rfl (lv_at hl 2 rfl) ?_
  refine lv_iconst (v := 1) hx hb dX4_fits_1 (by decide) ?_
  refine lv_iadd hx hb dX4_fits_2 ?_
  refine lv_topi (fun v_1 ev_1 => ?_)
  have hv_1 : v_1.toInt = p1.toInt + 1 := by rw [ev_1]; have := b_rg p1; exact i_add (a := p1.toInt) (b := 1) rfl rfl (by omega) (by omega)
  refine lv_istore_n (lv' := [(3, .int v_1), (0, .ref (a 5)), (1, .int p0), (2, .int p1)]) hx hb dX4_fits_3 rfl hl (by decide) rfl (fun ls hl => ?_)
  have loop_2 : ∀ (n : Nat) (x2_3 : Int32) (ls : Array Slot), (10 - x2_3.toInt).toNat < n → (0 ≤ x2_3.toInt ∧ x2_3.toInt ≤ 10) → ((p1.toInt < x2_3.toInt) ∧ ∀ k : Nat, p1.toInt < (k : Int) → (k : Int) < x2_3.toInt → (k : Int) ≤ p0.toInt → 0 < (r 6 k).toInt) → lv_has ls 4 [(3, .int x2_3), (0, .ref (a 5)), (1, .int p0), (2, .int p1)] → W p l e ({ frames := 1, cells := 0, slots := 0, locals := 24 } : Room) s m ([.ref (a 5), .int p0, .int p1] : List Value).toArray below meth c s.heap [] 0 0 Q (F0 m 4 ls []) := by
    intro n
    induction n with
    | zero =>
      intro x2_3 ls hm2 hf2_0 hx2 hl
      exact absurd hm2 (by omega)
    | succ n ih2 =>
      intro x2_3 ls hm2 hf2_0 hx2 hl
      refine lv_iload_n hx hb dX4_fits_4 rfl (lv_at hl 0 rfl) ?_
      refine lv_iload_n hx hb dX4_fits_5 rfl (lv_at hl 2 rfl) ?_
      refine lv_icmp_gt (tgt := 32) hx hb dX4_fits_6 (by decide) (fun c_3 => ?_) (fun c_3 => ?_)
      · have c_3 : p0.toInt < x2_3.toInt := b_lt c_3
        refine lv_iload_n hx hb dX4_fits_32 rfl (lv_at hl 2 rfl) ?_
        refine lv_iconst (v := 1) hx hb dX4_fits_33 (by decide) ?_
        refine lv_iadd hx hb dX4_fits_34 ?_
        refine lv_topi (fun v_4 ev_4 => ?_)
        have hv_4 : v_4.toInt = p0.toInt + 1 := by rw [ev_4]; have := b_rg p0; exact i_add (a := p0.toInt) (b := 1) rfl rfl (by omega) (by omega)
        refine lv_istore_n (lv' := [(3, .int v_4), (0, .ref (a 5)), (1, .int p0), (2, .int p1)]) hx hb dX4_fits_35 rfl hl (by decide) rfl (fun ls hl => ?_)
        have loop_5 : ∀ (n : Nat) (x5_3 : Int32) (ls : Array Slot), (10 - x5_3.toInt).toNat < n → (0 ≤ x5_3.toInt ∧ x5_3.toInt ≤ 10) → ((p0.toInt < x5_3.toInt) ∧ ∀ k : Nat, p0.toInt < (k : Int) → (k : Int) < x5_3.toInt → (k : Int) ≤ p1.toInt → (r 6 k).toInt < 0) → lv_has ls 4 [(3, .int x5_3), (0, .ref (a 5)), (1, .int p0), (2, .int p1)] → W p l e ({ frames := 1, cells := 0, slots := 0, locals := 24 } : Room) s m ([.ref (a 5), .int p0, .int p1] : List Value).toArray below meth c s.heap [] 0 0 Q (F0 m 36 ls []) := by
          intro n
          induction n with
          | zero =>
            intro x5_3 ls hm5 hf5_0 hx5 hl
            exact absurd hm5 (by omega)
          | succ n ih5 =>
            intro x5_3 ls hm5 hf5_0 hx5 hl
            refine lv_iload_n hx hb dX4_fits_36 rfl (lv_at hl 0 rfl) ?_
            refine lv_iload_n hx hb dX4_fits_37 rfl (lv_at hl 3 rfl) ?_
            refine lv_icmp_gt (tgt := 64) hx hb dX4_fits_38 (by decide) (fun c_6 => ?_) (fun c_6 => ?_)
            · have c_6 : p1.toInt < x5_3.toInt := b_lt c_6
              refine lv_iconst (v := 1) hx hb dX4_fits_64 (by decide) ?_
              subst hQ
              exact W.zret hx hb hr rfl (fun t ht hW => ⟨_, rfl, Or.inl ⟨rfl, fun k h1 h2 => hx2.2 k h1 (by omega) h2, fun k h1 h2 => hx5.2 k h1 (by omega) h2⟩, ht⟩) (fun q hq => absurd hq List.not_mem_nil) dX4_fits_65
            · have c_6 : x5_3.toInt ≤ p1.toInt := b_nlt c_6
              refine lv_iload_n hx hb dX4_fits_41 rfl (lv_at hl 0 rfl) ?_
              refine lv_bipush (v := 9) hx hb dX4_fits_42 (by decide) ?_
              refine lv_icmp_gt (tgt := 64) hx hb dX4_fits_44 (by decide) (fun c_7 => by have c_7 : 9 < x5_3.toInt := b_lt c_7; omega) (fun c_7 => ?_)
              have c_7 : x5_3.toInt ≤ 9 := b_nlt c_7
              refine lv_aload_n hx hb dX4_fits_47 rfl (lv_at hl 1 rfl) ?_
              refine va_get (D := D) (ci := 4) (v := .ref (a 6)) (C := RX4) (T := TX4) (N := 2) hx hb hT iX4 hown hK hP 5 rfl rfl 0 (by decide) (hT _ t_407) (fun _ h9 => h9) rfl dX4_fits_48 ?_
              refine lv_iload_n hx hb dX4_fits_51 rfl (lv_at hl 0 rfl) ?_
              refine va_iald hx hb hK hP 6 0 rfl rfl (vp_inI (by omega) (by omega)) dX4_fits_52 ?_
              refine lv_topi (fun v_8 ev_8 => ?_)
              have hwv_8 : v_8.toInt = (r 6 (x5_3.toNatClampNeg)).toInt := congrArg Int32.toInt ev_8
              refine lv_if_lt (tgt := 58) hx hb dX4_fits_53 (by decide) (fun c_9 => ?_) (fun c_9 => ?_)
              · have c_9 : v_8.toInt < 0 := b_lt c_9
                obtain ⟨x_10, ex_10⟩ : ∃ y : Int32, y = x5_3 + 1 := ⟨_, rfl⟩
                refine lv_iinc (v := x_10) (lv' := [(3, .int x_10), (0, .ref (a 5)), (1, .int p0), (2, .int p1)]) hx hb dX4_fits_58 hl (k := 0) rfl (by rw [ex_10]; rfl) (by decide) rfl (fun ls hl => ?_)
                have hx_10 : x_10.toInt = x5_3.toInt + 1 := by rw [ex_10]; have := b_rg x5_3; exact i_add (a := x5_3.toInt) (b := 1) rfl rfl (by omega) (by omega)
                refine lv_goto (tgt := 36) hx hb dX4_fits_61 (by decide) ?_
                have hs9 : ∀ k : Nat, p0.toInt < (k : Int) → (k : Int) < x_10.toInt → (k : Int) ≤ p1.toInt → (r 6 k).toInt < 0 := by
                  intro k h1 h2 h3
                  by_cases e9 : (k : Int) = x5_3.toInt
                  · have e8 : x5_3.toNatClampNeg = k := by show x5_3.toInt.toNat = k; omega
                    rw [← e8]; omega
                  · exact hx5.2 k h1 (by omega) h3
                exact ih5 x_10 _ (by first | omega | (simp only [Int.toNat]; omega)) (by first | omega | decide)  ⟨by omega, hs9⟩  (lv_sub hl [0, 1, 2, 3] rfl)
              · have c_9 : 0 ≤ v_8.toInt := b_nlt c_9
                refine lv_iconst (v := 0) hx hb dX4_fits_56 (by decide) ?_
                subst hQ
                have e8 : ((x5_3.toNatClampNeg : Nat) : Int) = x5_3.toInt := by show ((x5_3.toInt.toNat : Nat) : Int) = _; omega
                exact W.zret hx hb hr rfl (fun t ht hW => ⟨_, rfl, Or.inr ⟨rfl, fun h9 => by have h8 := h9.2 (x5_3.toNatClampNeg) (by omega) (by omega); omega⟩, ht⟩) (fun q hq => absurd hq List.not_mem_nil) dX4_fits_57
        exact loop_5 _ v_4 _ (Nat.lt_succ_self _) (by first | omega | decide)  ⟨by omega, fun k h1 h2 => by omega⟩  hl
      · have c_3 : x2_3.toInt ≤ p0.toInt := b_nlt c_3
        refine lv_iload_n hx hb dX4_fits_9 rfl (lv_at hl 0 rfl) ?_
        refine lv_bipush (v := 9) hx hb dX4_fits_10 (by decide) ?_
        refine lv_icmp_gt (tgt := 32) hx hb dX4_fits_12 (by decide) (fun c_11 => by have c_11 : 9 < x2_3.toInt := b_lt c_11; omega) (fun c_11 => ?_)
        have c_11 : x2_3.toInt ≤ 9 := b_nlt c_11
        refine lv_aload_n hx hb dX4_fits_15 rfl (lv_at hl 1 rfl) ?_
        refine va_get (D := D) (ci := 4) (v := .ref (a 6)) (C := RX4) (T := TX4) (N := 2) hx hb hT iX4 hown hK hP 5 rfl rfl 0 (by decide) (hT _ t_407) (fun _ h9 => h9) rfl dX4_fits_16 ?_
        refine lv_iload_n hx hb dX4_fits_19 rfl (lv_at hl 0 rfl) ?_
        refine va_iald hx hb hK hP 6 0 rfl rfl (vp_inI (by omega) (by omega)) dX4_fits_20 ?_
        refine lv_topi (fun v_12 ev_12 => ?_)
        have hwv_12 : v_12.toInt = (r 6 (x2_3.toNatClampNeg)).toInt := congrArg Int32.toInt ev_12
        refine lv_if_gt (tgt := 26) hx hb dX4_fits_21 (by decide) (fun c_13 => ?_) (fun c_13 => ?_)
        · have c_13 : 0 < v_12.toInt := b_lt c_13
          obtain ⟨x_14, ex_14⟩ : ∃ y : Int32, y = x2_3 + 1 := ⟨_, rfl⟩
          refine lv_iinc (v := x_14) (lv' := [(3, .int x_14), (0, .ref (a 5)), (1, .int p0), (2, .int p1)]) hx hb dX4_fits_26 hl (k := 0) rfl (by rw [ex_14]; rfl) (by decide) rfl (fun ls hl => ?_)
          have hx_14 : x_14.toInt = x2_3.toInt + 1 := by rw [ex_14]; have := b_rg x2_3; exact i_add (a := x2_3.toInt) (b := 1) rfl rfl (by omega) (by omega)
          refine lv_goto (tgt := 4) hx hb dX4_fits_29 (by decide) ?_
          have hs9 : ∀ k : Nat, p1.toInt < (k : Int) → (k : Int) < x_14.toInt → (k : Int) ≤ p0.toInt → 0 < (r 6 k).toInt := by
            intro k h1 h2 h3
            by_cases e9 : (k : Int) = x2_3.toInt
            · have e8 : x2_3.toNatClampNeg = k := by show x2_3.toInt.toNat = k; omega
              rw [← e8]; omega
            · exact hx2.2 k h1 (by omega) h3
          exact ih2 x_14 _ (by first | omega | (simp only [Int.toNat]; omega)) (by first | omega | decide)  ⟨by omega, hs9⟩  (lv_sub hl [0, 1, 2, 3] rfl)
        · have c_13 : v_12.toInt ≤ 0 := b_nlt c_13
          refine lv_iconst (v := 0) hx hb dX4_fits_24 (by decide) ?_
          subst hQ
          have e8 : ((x2_3.toNatClampNeg : Nat) : Int) = x2_3.toInt := by show ((x2_3.toInt.toNat : Nat) : Int) = _; omega
          exact W.zret hx hb hr rfl (fun t ht hW => ⟨_, rfl, Or.inr ⟨rfl, fun h9 => by have h8 := h9.1 (x2_3.toNatClampNeg) (by omega) (by omega); omega⟩, ht⟩) (fun q hq => absurd hq List.not_mem_nil) dX4_fits_25
  exact loop_2 _ v_1 _ (Nat.lt_succ_self _) (by first | omega | decide)  ⟨by omega, fun k h1 h2 => by omega⟩  hl
set_option maxHeartbeats 4000000 in
set_option maxRecDepth 100000 in
theorem c_X10_isOf_r659 (l : Launch) (D : va_G) (cy : Nat → ClassId) (a : Nat → Nat) (i : Nat → Int32) (r : Nat → Nat → Int32) (q : Nat → Option Nat) (tl : va_W) (p0 p1 p2 : Int32) (hRi : yRi i) (hRr : yRr r) (q0 : 0 ≤ p0.toInt ∧ p0.toInt ≤ 19) : Met l yX10_isOf (Cond.code yX10_isOf cX10_isOf 4 (some .boolean) :: gT) { frames := 1, cells := 0, slots := 0, locals := 24 } (va_Pc [.ref (a 65), .int p0, .int p1, .int p2] (rP D cy (xW cy a i r q (a 20) (a 12) ++ (hW cy a i r ++ tl)))) (vp_Si (fun z => BR z (r 66 p0.toNatClampNeg = p1 ∧ r 67 p0.toNatClampNeg = p2) 1 0)) 0 0 (fun _ => False) := by
  refine Met.ofQ (cc := cX10_isOf) (maxL := 4) (ret := (some .boolean)) (by decide) rfl ?_
  intro p e s m args below meth c s₁ B hml hv Q hQ
  obtain ⟨rfl, hP, hK⟩ := hv
  have hx := B.exec
  have hb := B.bytes
  have hr := B.returns
  have hlocks := B.notSynchronized
  have hT : ∀ w ∈ gT, w.before _ s = true := fun w h => atoms_spec (ws := (Cond.code yX10_isOf cX10_isOf 4 (some .boolean) :: gT)) B.pre w (List.mem_cons_of_mem _ h)
  have hown : s.vm.findClass RX10 = some m.cls := findClass_of_methodNamed B.named
  have hl := lv_entry ([.ref (a 65), .int p0, .int p1, .int p2]) (n := 4) (Nat.le_of_ble_eq_true rfl)
  rw [lg_entry_eq]
  generalize (lg_sl ([.ref (a 65), .int p0, .int p1, .int p2]) ++ List.replicate (4 - (lg_sl ([.ref (a 65), .int p0, .int p1, .int p2])).length) Slot.unset).toArray = ls at hl ⊢
  have hl : lv_has ls 4 [(0, .ref (a 65)), (1, .int p0), (2, .int p1), (3, .int p2)] := hl
  have hEi : mEi [] i i := Ei_rf
  have hEr : mEr [] r r := Er_rf
  refine lv_aload_n hx hb dX10_isOf_0 rfl (lv_at hl 0 rfl) ?_
  refine va_get (D := D) (ci := 10) (v := .ref (a 66)) (C := RX10) (T := TX10) (N := 5) hx hb hT iX10 hown hK hP 65 rfl rfl 1 (by decide) (hT _ t_403) (fun _ h9 => h9) rfl dX10_isOf_1 ?_
  refine lv_iload_n hx hb dX10_isOf_4 rfl (lv_at hl 1 rfl) ?_
  refine va_iald hx hb hK hP 66 0 rfl rfl (vp_inI (by omega) (by omega)) dX10_isOf_5 ?_
  refine lv_topi (fun v_1 ev_1 => ?_)
  have hgv_1 : 0 ≤ v_1.toInt ∧ v_1.toInt ≤ 9 := by rw [ev_1]; exact hRr 66 _
  refine lv_iload_n hx hb dX10_isOf_6 rfl (lv_at hl 2 rfl) ?_
  refine lv_icmp_ne (tgt := 24) hx hb dX10_isOf_7 (by decide) (fun c_2 => ?_) (fun c_2 => ?_)
  · have c_2 : v_1.toInt ≠ p1.toInt := b_ne c_2
    refine lv_iconst (v := 0) hx hb dX10_isOf_24 (by decide) ?_
    subst hQ
    exact W.zret hx hb hr rfl (fun t ht hW => ⟨_, rfl, Or.inr ⟨rfl, fun h9 => c_2 (congrArg Int32.toInt (ev_1.trans h9.1))⟩, ht⟩) (fun q hq => absurd hq List.not_mem_nil) dX10_isOf_25
  · have c_2 : v_1.toInt = p1.toInt := b_nne c_2
    refine lv_aload_n hx hb dX10_isOf_10 rfl (lv_at hl 0 rfl) ?_
    refine va_get (D := D) (ci := 10) (v := .ref (a 67)) (C := RX10) (T := TX10) (N := 5) hx hb hT iX10 hown hK hP 65 rfl rfl 2 (by decide) (hT _ t_404) (fun _ h9 => h9) rfl dX10_isOf_11 ?_
    refine lv_iload_n hx hb dX10_isOf_14 rfl (lv_at hl 1 rfl) ?_
    refine va_iald hx hb hK hP 67 0 rfl rfl (vp_inI (by omega) (by omega)) dX10_isOf_15 ?_
    refine lv_topi (fun v_3 ev_3 => ?_)
    have hgv_3 : 0 ≤ v_3.toInt ∧ v_3.toInt ≤ 7 := by rw [ev_3]; exact hRr 67 _
    refine lv_iload_n hx hb dX10_isOf_16 rfl (lv_at hl 3 rfl) ?_
    refine lv_icmp_ne (tgt := 24) hx hb dX10_isOf_17 (by decide) (fun c_4 => ?_) (fun c_4 => ?_)
    · have c_4 : v_3.toInt ≠ p2.toInt := b_ne c_4
      refine lv_iconst (v := 0) hx hb dX10_isOf_24 (by decide) ?_
      subst hQ
      exact W.zret hx hb hr rfl (fun t ht hW => ⟨_, rfl, Or.inr ⟨rfl, fun h9 => c_4 (congrArg Int32.toInt (ev_3.trans h9.2))⟩, ht⟩) (fun q hq => absurd hq List.not_mem_nil) dX10_isOf_25
    · have c_4 : v_3.toInt = p2.toInt := b_nne c_4
      refine lv_iconst (v := 1) hx hb dX10_isOf_20 (by decide) ?_
      refine lv_goto (tgt := 25) hx hb dX10_isOf_21 (by decide) ?_
      subst hQ
      exact W.zret hx hb hr rfl (fun t ht hW => ⟨_, rfl, Or.inl ⟨rfl, ev_1.symm.trans (Int32.toInt_inj.mp c_2), ev_3.symm.trans (Int32.toInt_inj.mp c_4)⟩, ht⟩) (fun q hq => absurd hq List.not_mem_nil) dX10_isOf_25
set_option maxHeartbeats 4000000 in
set_option maxRecDepth 100000 in
theorem c_X10_isOf_r709 (l : Launch) (D : va_G) (cy : Nat → ClassId) (a : Nat → Nat) (i : Nat → Int32) (r : Nat → Nat → Int32) (q : Nat → Option Nat) (tl : va_W) (p0 p1 p2 : Int32) (hRi : yRi i) (hRr : yRr r) (q0 : 0 ≤ p0.toInt ∧ p0.toInt ≤ 19) : Met l yX10_isOf (Cond.code yX10_isOf cX10_isOf 4 (some .boolean) :: gT) { frames := 1, cells := 0, slots := 0, locals := 24 } (va_Pc [.ref (a 70), .int p0, .int p1, .int p2] (rP D cy (xW cy a i r q (a 20) (a 12) ++ (hW cy a i r ++ tl)))) (vp_Si (fun z => BR z (r 71 p0.toNatClampNeg = p1 ∧ r 72 p0.toNatClampNeg = p2) 1 0)) 0 0 (fun _ => False) := by
  refine Met.ofQ (cc := cX10_isOf) (maxL := 4) (ret := (some .boolean)) (by decide) rfl ?_
  intro p e s m args below meth c s₁ B hml hv Q hQ
  obtain ⟨rfl, hP, hK⟩ := hv
  have hx := B.exec
  have hb := B.bytes
  have hr := B.returns
  have hlocks := B.notSynchronized
  have hT : ∀ w ∈ gT, w.before _ s = true := fun w h => atoms_spec (ws := (Cond.code yX10_isOf cX10_isOf 4 (some .boolean) :: gT)) B.pre w (List.mem_cons_of_mem _ h)
  have hown : s.vm.findClass RX10 = some m.cls := findClass_of_methodNamed B.named
  have hl := lv_entry ([.ref (a 70), .int p0, .int p1, .int p2]) (n := 4) (Nat.le_of_ble_eq_true rfl)
  rw [lg_entry_eq]
  generalize (lg_sl ([.ref (a 70), .int p0, .int p1, .int p2]) ++ List.replicate (4 - (lg_sl ([.ref (a 70), .int p0, .int p1, .int p2])).length) Slot.unset).toArray = ls at hl ⊢
  have hl : lv_has ls 4 [(0, .ref (a 70)), (1, .int p0), (2, .int p1), (3, .int p2)] := hl
  have hEi : mEi [] i i := Ei_rf
  have hEr : mEr [] r r := Er_rf
  refine lv_aload_n hx hb dX10_isOf_0 rfl (lv_at hl 0 rfl) ?_
  refine va_get (D := D) (ci := 10) (v := .ref (a 71)) (C := RX10) (T := TX10) (N := 5) hx hb hT iX10 hown hK hP 70 rfl rfl 1 (by decide) (hT _ t_403) (fun _ h9 => h9) rfl dX10_isOf_1 ?_
  refine lv_iload_n hx hb dX10_isOf_4 rfl (lv_at hl 1 rfl) ?_
  refine va_iald hx hb hK hP 71 0 rfl rfl (vp_inI (by omega) (by omega)) dX10_isOf_5 ?_
  refine lv_topi (fun v_1 ev_1 => ?_)
  have hgv_1 : 0 ≤ v_1.toInt ∧ v_1.toInt ≤ 9 := by rw [ev_1]; exact hRr 71 _
  refine lv_iload_n hx hb dX10_isOf_6 rfl (lv_at hl 2 rfl) ?_
  refine lv_icmp_ne (tgt := 24) hx hb dX10_isOf_7 (by decide) (fun c_2 => ?_) (fun c_2 => ?_)
  · have c_2 : v_1.toInt ≠ p1.toInt := b_ne c_2
    refine lv_iconst (v := 0) hx hb dX10_isOf_24 (by decide) ?_
    subst hQ
    exact W.zret hx hb hr rfl (fun t ht hW => ⟨_, rfl, Or.inr ⟨rfl, fun h9 => c_2 (congrArg Int32.toInt (ev_1.trans h9.1))⟩, ht⟩) (fun q hq => absurd hq List.not_mem_nil) dX10_isOf_25
  · have c_2 : v_1.toInt = p1.toInt := b_nne c_2
    refine lv_aload_n hx hb dX10_isOf_10 rfl (lv_at hl 0 rfl) ?_
    refine va_get (D := D) (ci := 10) (v := .ref (a 72)) (C := RX10) (T := TX10) (N := 5) hx hb hT iX10 hown hK hP 70 rfl rfl 2 (by decide) (hT _ t_404) (fun _ h9 => h9) rfl dX10_isOf_11 ?_
    refine lv_iload_n hx hb dX10_isOf_14 rfl (lv_at hl 1 rfl) ?_
    refine va_iald hx hb hK hP 72 0 rfl rfl (vp_inI (by omega) (by omega)) dX10_isOf_15 ?_
    refine lv_topi (fun v_3 ev_3 => ?_)
    have hgv_3 : 0 ≤ v_3.toInt ∧ v_3.toInt ≤ 7 := by rw [ev_3]; exact hRr 72 _
    refine lv_iload_n hx hb dX10_isOf_16 rfl (lv_at hl 3 rfl) ?_
    refine lv_icmp_ne (tgt := 24) hx hb dX10_isOf_17 (by decide) (fun c_4 => ?_) (fun c_4 => ?_)
    · have c_4 : v_3.toInt ≠ p2.toInt := b_ne c_4
      refine lv_iconst (v := 0) hx hb dX10_isOf_24 (by decide) ?_
      subst hQ
      exact W.zret hx hb hr rfl (fun t ht hW => ⟨_, rfl, Or.inr ⟨rfl, fun h9 => c_4 (congrArg Int32.toInt (ev_3.trans h9.2))⟩, ht⟩) (fun q hq => absurd hq List.not_mem_nil) dX10_isOf_25
    · have c_4 : v_3.toInt = p2.toInt := b_nne c_4
      refine lv_iconst (v := 1) hx hb dX10_isOf_20 (by decide) ?_
      refine lv_goto (tgt := 25) hx hb dX10_isOf_21 (by decide) ?_
      subst hQ
      exact W.zret hx hb hr rfl (fun t ht hW => ⟨_, rfl, Or.inl ⟨rfl, ev_1.symm.trans (Int32.toInt_inj.mp c_2), ev_3.symm.trans (Int32.toInt_inj.mp c_4)⟩, ht⟩) (fun q hq => absurd hq List.not_mem_nil) dX10_isOf_25
set_option maxHeartbeats 4000000 in
set_option maxRecDepth 100000 in
theorem c_X4_lowestFit9 (l : Launch) (D : va_G) (cy : Nat → ClassId) (a : Nat → Nat) (i : Nat → Int32) (r : Nat → Nat → Int32) (q : Nat → Option Nat) (tl : va_W) (p0 : Int32) (hRi : yRi i) (hRr : yRr r) (q0 : 0 ≤ p0.toInt ∧ p0.toInt ≤ 19) : Met l yX4_lowestFit (Cond.code yX4_lowestFit cX4_lowestFit 6 (some .int) :: gT) { frames := 2, cells := 0, slots := 0, locals := 47 } (va_Pc [.ref (a 5), .ref (a 61), .int p0] (rP D cy (xW cy a i r q (a 20) (a 12) ++ (hW cy a i r ++ tl)))) (vp_Si (fun z => gjLo (r 6) (r 7) (r 66) (r 67) (r 68) (r 71) (r 72) (r 73) (i 24).toNatClampNeg p0.toNatClampNeg z.toInt)) 0 0 (fun _ => False) := by
  refine Met.ofQ (cc := cX4_lowestFit) (maxL := 6) (ret := (some .int)) (by decide) rfl ?_
  intro p e s m args below meth c s₁ B hml hv Q hQ
  obtain ⟨rfl, hP, hK⟩ := hv
  have hx := B.exec
  have hb := B.bytes
  have hr := B.returns
  have hlocks := B.notSynchronized
  have hT : ∀ w ∈ gT, w.before _ s = true := fun w h => atoms_spec (ws := (Cond.code yX4_lowestFit cX4_lowestFit 6 (some .int) :: gT)) B.pre w (List.mem_cons_of_mem _ h)
  have hown : s.vm.findClass RX4 = some m.cls := findClass_of_methodNamed B.named
  have hl := lv_entry ([.ref (a 5), .ref (a 61), .int p0]) (n := 6) (Nat.le_of_ble_eq_true rfl)
  rw [lg_entry_eq]
  generalize (lg_sl ([.ref (a 5), .ref (a 61), .int p0]) ++ List.replicate (6 - (lg_sl ([.ref (a 5), .ref (a 61), .int p0])).length) Slot.unset).toArray = ls at hl ⊢
  have hl : lv_has ls 6 [(0, .ref (a 5)), (1, .ref (a 61)), (2, .int p0)] := hl
  have hEi : mEi [] i i := Ei_rf
  have hEr : mEr [] r r := Er_rf
  have hg24 : 0 ≤ (i 24).toInt ∧ (i 24).toInt ≤ 20 := hRi 24
  refine lv_aload_n hx hb dX4_lowestFit_0 rfl (lv_at hl 1 rfl) ?_
  refine va_get (D := D) (ci := 3) (v := .ref (a 65)) (C := RX3) (T := TX3) (N := 12) hx hb hT iX3 hown hK hP 61 rfl rfl 9 (by decide) (hT _ t_408) (fun _ h9 => h9) rfl dX4_lowestFit_1 ?_
  refine lv_astore_n (lv' := [(3, .ref (a 65)), (0, .ref (a 5)), (1, .ref (a 61)), (2, .int p0)]) hx hb dX4_lowestFit_4 rfl hl (by decide) rfl (fun ls hl => ?_)
  refine lv_aload_n hx hb dX4_lowestFit_5 rfl (lv_at hl 2 rfl) ?_
  refine va_get (D := D) (ci := 3) (v := .ref (a 70)) (C := RX3) (T := TX3) (N := 12) hx hb hT iX3 hown hK hP 61 rfl rfl 10 (by decide) (hT _ t_410) (fun _ h9 => h9) rfl dX4_lowestFit_6 ?_
  refine lv_astore (lv' := [(4, .ref (a 70)), (3, .ref (a 65)), (0, .ref (a 5)), (1, .ref (a 61)), (2, .int p0)]) hx hb dX4_lowestFit_9 hl (by decide) rfl (fun ls hl => ?_)
  refine lv_iconst (v := 0) hx hb dX4_lowestFit_11 (by decide) ?_
  refine lv_istore (lv' := [(5, .int 0), (4, .ref (a 70)), (3, .ref (a 65)), (0, .ref (a 5)), (1, .ref (a 61)), (2, .int p0)]) hx hb dX4_lowestFit_12 hl (by decide) rfl (fun ls hl => ?_)
  have loop_1 : ∀ (n : Nat) (x1_5 : Int32) (ls : Array Slot), (20 - x1_5.toInt).toNat < n → (0 ≤ x1_5.toInt ∧ x1_5.toInt ≤ 20) → (x1_5.toInt ≤ (i 24).toInt ∧ ∀ k, k < x1_5.toNatClampNeg → ¬ gjCan (r 6) (r 7) (r 66) (r 67) (r 68) (r 71) (r 72) (r 73) p0.toNatClampNeg k) → lv_has ls 6 [(5, .int x1_5), (4, .ref (a 70)), (3, .ref (a 65)), (0, .ref (a 5)), (1, .ref (a 61)), (2, .int p0)] → W p l e ({ frames := 2, cells := 0, slots := 0, locals := 47 } : Room) s m ([.ref (a 5), .ref (a 61), .int p0] : List Value).toArray below meth c s.heap [] 0 0 Q (F0 m 14 ls []) := by
    intro n
    induction n with
    | zero =>
      intro x1_5 ls hm1 hf1_0 hx1 hl
      exact absurd hm1 (by omega)
    | succ n ih1 =>
      intro x1_5 ls hm1 hf1_0 hx1 hl
      refine lv_iload hx hb dX4_lowestFit_14 (lv_at hl 0 rfl) ?_
      refine lv_aload hx hb dX4_lowestFit_16 (lv_at hl 1 rfl) ?_
      refine va_get (D := D) (ci := 10) (v := .int (i 24)) (C := RX10) (T := TX10) (N := 5) hx hb hT iX10 hown hK hP 70 rfl rfl 0 (by decide) (hT _ t_409) (fun _ h9 => h9) rfl dX4_lowestFit_18 ?_
      have hg_2 : 0 ≤ (i 24).toInt ∧ (i 24).toInt ≤ 20 := hRi 24
      refine lv_icmp_ge (tgt := 86) hx hb dX4_lowestFit_21 (by decide) (fun c_3 => ?_) (fun c_3 => ?_)
      · have c_3 : (i 24).toInt ≤ x1_5.toInt := b_le c_3
        refine lv_bipush (v := (-2)) hx hb dX4_lowestFit_86 (by decide) ?_
        subst hQ
        have hk : x1_5.toNatClampNeg = (i 24).toNatClampNeg := by show x1_5.toInt.toNat = (i 24).toInt.toNat; omega
        have hnn := hx1.2
        rw [hk] at hnn
        exact W.iret (v := (-2)) hx hb hr (fun t ht hW => ⟨_, rfl, (Or.inr ⟨rfl, hnn⟩), ht⟩) (fun q hq => absurd hq List.not_mem_nil) dX4_lowestFit_88
      · have c_3 : x1_5.toInt < (i 24).toInt := b_nle c_3
        refine lv_aload_n hx hb dX4_lowestFit_24 rfl (lv_at hl 3 rfl) ?_
        refine va_get (D := D) (ci := 4) (v := .ref (a 7)) (C := RX4) (T := TX4) (N := 2) hx hb hT iX4 hown hK hP 5 rfl rfl 1 (by decide) (hT _ t_411) (fun _ h9 => h9) rfl dX4_lowestFit_25 ?_
        refine lv_iload hx hb dX4_lowestFit_28 (lv_at hl 0 rfl) ?_
        refine va_zald hx hb hK hP 7 2 rfl rfl (vp_inI (by omega) (by omega)) dX4_lowestFit_30 ?_
        refine lv_topi (fun v_4 ev_4 => ?_)
        refine lv_if_ne (tgt := 80) hx hb dX4_lowestFit_31 (by decide) (fun c_5 => ?_) (fun c_5 => ?_)
        · have c_5 : v_4.toInt ≠ 0 := b_ne c_5
          obtain ⟨x_6, ex_6⟩ : ∃ y : Int32, y = x1_5 + 1 := ⟨_, rfl⟩
          refine lv_iinc (v := x_6) (lv' := [(5, .int x_6), (4, .ref (a 70)), (3, .ref (a 65)), (0, .ref (a 5)), (1, .ref (a 61)), (2, .int p0)]) hx hb dX4_lowestFit_80 hl (k := 0) rfl (by rw [ex_6]; rfl) (by decide) rfl (fun ls hl => ?_)
          have hx_6 : x_6.toInt = x1_5.toInt + 1 := by rw [ex_6]; have := b_rg x1_5; exact i_add (a := x1_5.toInt) (b := 1) rfl rfl (by omega) (by omega)
          refine lv_goto (tgt := 14) hx hb dX4_lowestFit_83 (by decide) ?_
          have hk : x_6.toNatClampNeg = x1_5.toNatClampNeg + 1 := by show x_6.toInt.toNat = x1_5.toInt.toNat + 1; omega
          have hno : ¬ gjCan (r 6) (r 7) (r 66) (r 67) (r 68) (r 71) (r 72) (r 73) p0.toNatClampNeg x1_5.toNatClampNeg := fun h9 => c_5 (by rw [ev_4]; exact h9.1)
          exact ih1 x_6 _ (by first | omega | (simp only [Int.toNat]; omega)) (by first | omega | decide)  ⟨by omega, fun k hk2 => (Nat.lt_succ_iff_lt_or_eq.mp (by rw [hk] at hk2; exact hk2)).elim (fun h8 => hx1.2 k h8) (fun h8 => by rw [h8]; exact hno)⟩  (lv_sub hl [0, 1, 2, 3, 4, 5] rfl)
        · have c_5 : v_4.toInt = 0 := b_nne c_5
          refine lv_aload hx hb dX4_lowestFit_34 (lv_at hl 1 rfl) ?_
          refine lv_iload hx hb dX4_lowestFit_36 (lv_at hl 0 rfl) ?_
          refine lv_aload_n hx hb dX4_lowestFit_38 rfl (lv_at hl 2 rfl) ?_
          refine va_get (D := D) (ci := 10) (v := .ref (a 66)) (C := RX10) (T := TX10) (N := 5) hx hb hT iX10 hown hK hP 65 rfl rfl 1 (by decide) (hT _ t_423) (fun _ h9 => h9) rfl dX4_lowestFit_39 ?_
          refine lv_iload_n hx hb dX4_lowestFit_42 rfl (lv_at hl 5 rfl) ?_
          refine va_iald hx hb hK hP 66 0 rfl rfl (vp_inI (by omega) (by omega)) dX4_lowestFit_43 ?_
          refine lv_topi (fun v_7 ev_7 => ?_)
          have hgv_7 : 0 ≤ v_7.toInt ∧ v_7.toInt ≤ 9 := by rw [ev_7]; exact hRr 66 _
          refine lv_aload_n hx hb dX4_lowestFit_44 rfl (lv_at hl 2 rfl) ?_
          refine va_get (D := D) (ci := 10) (v := .ref (a 67)) (C := RX10) (T := TX10) (N := 5) hx hb hT iX10 hown hK hP 65 rfl rfl 2 (by decide) (hT _ t_424) (fun _ h9 => h9) rfl dX4_lowestFit_45 ?_
          refine lv_iload_n hx hb dX4_lowestFit_48 rfl (lv_at hl 5 rfl) ?_
          refine va_iald hx hb hK hP 67 0 rfl rfl (vp_inI (by omega) (by omega)) dX4_lowestFit_49 ?_
          refine lv_topi (fun v_8 ev_8 => ?_)
          have hgv_8 : 0 ≤ v_8.toInt ∧ v_8.toInt ≤ 7 := by rw [ev_8]; exact hRr 67 _
          refine vp_callSi (W.runV (As := [.int x1_5, .int v_7, .int v_8]) (rest := []) ⟨hx, hb, hml, hown, hT⟩ (c_X10_isOf_r709 l D cy a i r q tl x1_5 v_7 v_8 hRi hRr (by first | omega | decide)) (cwV 3 hT (gV t_412 t_414 t_415 t_416 t_413) rfl rfl rfl (by decide +kernel) ⟨Nat.le_of_ble_eq_true rfl, Nat.le_of_ble_eq_true rfl⟩) (rP_v hP hK (va_recv hK hP (ci := 10) (q0 := 70) rfl rfl)) rfl rfl hl.1 rfl (lv_room (Nat.le_of_ble_eq_true rfl)) dX4_lowestFit_50 ⟨Nat.le_of_ble_eq_true rfl, Nat.le_of_ble_eq_true rfl⟩) (fun r_9 hr_9 => ?_)
          have hr_9 : BR r_9 (r 71 x1_5.toNatClampNeg = v_7 ∧ r 72 x1_5.toNatClampNeg = v_8) 1 0 := hr_9
          rcases hr_9 with ⟨rfl, h_10⟩ | ⟨rfl, h_10⟩
          · skip
            refine lv_if_eq (tgt := 80) hx hb dX4_lowestFit_53 (by decide) (fun c_11 => absurd c_11 (by decide)) (fun c_11 => ?_)
            have hgp : r 71 (x1_5.toNatClampNeg) = r 66 p0.toNatClampNeg ∧ r 72 (x1_5.toNatClampNeg) = r 67 p0.toNatClampNeg := by have h9 := h_10; rw [ev_7, ev_8] at h9; exact h9
            refine lv_aload_n hx hb dX4_lowestFit_56 rfl (lv_at hl 3 rfl) ?_
            refine lv_aload_n hx hb dX4_lowestFit_57 rfl (lv_at hl 2 rfl) ?_
            refine va_get (D := D) (ci := 10) (v := .ref (a 68)) (C := RX10) (T := TX10) (N := 5) hx hb hT iX10 hown hK hP 65 rfl rfl 3 (by decide) (hT _ t_417) (fun _ h9 => h9) rfl dX4_lowestFit_58 ?_
            refine lv_iload_n hx hb dX4_lowestFit_61 rfl (lv_at hl 5 rfl) ?_
            refine va_iald hx hb hK hP 68 0 rfl rfl (vp_inI (by omega) (by omega)) dX4_lowestFit_62 ?_
            refine lv_topi (fun v_12 ev_12 => ?_)
            have hgv_12 : 0 ≤ v_12.toInt ∧ v_12.toInt ≤ 9 := by rw [ev_12]; exact hRr 68 _
            refine lv_aload hx hb dX4_lowestFit_63 (lv_at hl 1 rfl) ?_
            refine va_get (D := D) (ci := 10) (v := .ref (a 73)) (C := RX10) (T := TX10) (N := 5) hx hb hT iX10 hown hK hP 70 rfl rfl 3 (by decide) (hT _ t_417) (fun _ h9 => h9) rfl dX4_lowestFit_65 ?_
            refine lv_iload hx hb dX4_lowestFit_68 (lv_at hl 0 rfl) ?_
            refine va_iald hx hb hK hP 73 0 rfl rfl (vp_inI (by omega) (by omega)) dX4_lowestFit_70 ?_
            refine lv_topi (fun v_13 ev_13 => ?_)
            have hgv_13 : 0 ≤ v_13.toInt ∧ v_13.toInt ≤ 9 := by rw [ev_13]; exact hRr 73 _
            refine vp_callSi (W.runV (As := [.int v_12, .int v_13]) (rest := []) ⟨hx, hb, hml, hown, hT⟩ (c_X4_fits9 l D cy a i r q (hW cy a i r ++ tl) v_12 v_13 hRi hRr (by first | omega | decide) (by first | omega | decide)) (cwV 2 hT (gV t_425 t_426 t_427 t_428 t_419) rfl rfl rfl (by decide +kernel) ⟨Nat.le_of_ble_eq_true rfl, Nat.le_of_ble_eq_true rfl⟩) (rP_v hP hK (va_recv hK hP (ci := 4) (q0 := 5) rfl rfl)) rfl rfl hl.1 rfl (lv_room (Nat.le_of_ble_eq_true rfl)) dX4_lowestFit_71 ⟨Nat.le_of_ble_eq_true rfl, Nat.le_of_ble_eq_true rfl⟩) (fun r_14 hr_14 => ?_)
            have hr_14 : BR r_14 (gjFi (r 6) v_12 v_13) 1 0 := hr_14
            rcases hr_14 with ⟨rfl, h_15⟩ | ⟨rfl, h_15⟩
            · skip
              refine lv_if_eq (tgt := 80) hx hb dX4_lowestFit_74 (by decide) (fun c_16 => absurd c_16 (by decide)) (fun c_16 => ?_)
              have hft : gjFi (r 6) (r 68 p0.toNatClampNeg) (r 73 (x1_5.toNatClampNeg)) := by have h9 := h_15; rw [ev_12, ev_13] at h9; exact h9
              refine lv_iload hx hb dX4_lowestFit_77 (lv_at hl 0 rfl) ?_
              subst hQ
              exact W.iret (v := x1_5) hx hb hr (fun t ht hW => ⟨_, rfl, (Or.inl ⟨x1_5.toNatClampNeg, by show x1_5.toInt.toNat < (i 24).toInt.toNat; omega, by show x1_5.toInt = ((x1_5.toInt.toNat : Nat) : Int); omega, ⟨by rw [← ev_4]; exact c_5, hgp, hft⟩, hx1.2⟩), ht⟩) (fun q hq => absurd hq List.not_mem_nil) dX4_lowestFit_79
            · skip
              refine lv_if_eq (tgt := 80) hx hb dX4_lowestFit_74 (by decide) (fun c_17 => ?_) (fun c_17 => absurd (by decide) c_17)
              obtain ⟨x_18, ex_18⟩ : ∃ y : Int32, y = x1_5 + 1 := ⟨_, rfl⟩
              refine lv_iinc (v := x_18) (lv' := [(5, .int x_18), (4, .ref (a 70)), (3, .ref (a 65)), (0, .ref (a 5)), (1, .ref (a 61)), (2, .int p0)]) hx hb dX4_lowestFit_80 hl (k := 0) rfl (by rw [ex_18]; rfl) (by decide) rfl (fun ls hl => ?_)
              have hx_18 : x_18.toInt = x1_5.toInt + 1 := by rw [ex_18]; have := b_rg x1_5; exact i_add (a := x1_5.toInt) (b := 1) rfl rfl (by omega) (by omega)
              refine lv_goto (tgt := 14) hx hb dX4_lowestFit_83 (by decide) ?_
              have hk : x_18.toNatClampNeg = x1_5.toNatClampNeg + 1 := by show x_18.toInt.toNat = x1_5.toInt.toNat + 1; omega
              have hno : ¬ gjCan (r 6) (r 7) (r 66) (r 67) (r 68) (r 71) (r 72) (r 73) p0.toNatClampNeg x1_5.toNatClampNeg := fun h9 => h_15 (by rw [ev_12, ev_13]; exact h9.2.2)
              exact ih1 x_18 _ (by first | omega | (simp only [Int.toNat]; omega)) (by first | omega | decide)  ⟨by omega, fun k hk2 => (Nat.lt_succ_iff_lt_or_eq.mp (by rw [hk] at hk2; exact hk2)).elim (fun h8 => hx1.2 k h8) (fun h8 => by rw [h8]; exact hno)⟩  (lv_sub hl [0, 1, 2, 3, 4, 5] rfl)
          · skip
            refine lv_if_eq (tgt := 80) hx hb dX4_lowestFit_53 (by decide) (fun c_19 => ?_) (fun c_19 => absurd (by decide) c_19)
            obtain ⟨x_20, ex_20⟩ : ∃ y : Int32, y = x1_5 + 1 := ⟨_, rfl⟩
            refine lv_iinc (v := x_20) (lv' := [(5, .int x_20), (4, .ref (a 70)), (3, .ref (a 65)), (0, .ref (a 5)), (1, .ref (a 61)), (2, .int p0)]) hx hb dX4_lowestFit_80 hl (k := 0) rfl (by rw [ex_20]; rfl) (by decide) rfl (fun ls hl => ?_)
            have hx_20 : x_20.toInt = x1_5.toInt + 1 := by rw [ex_20]; have := b_rg x1_5; exact i_add (a := x1_5.toInt) (b := 1) rfl rfl (by omega) (by omega)
            refine lv_goto (tgt := 14) hx hb dX4_lowestFit_83 (by decide) ?_
            have hk : x_20.toNatClampNeg = x1_5.toNatClampNeg + 1 := by show x_20.toInt.toNat = x1_5.toInt.toNat + 1; omega
            have hno : ¬ gjCan (r 6) (r 7) (r 66) (r 67) (r 68) (r 71) (r 72) (r 73) p0.toNatClampNeg x1_5.toNatClampNeg := fun h9 => h_10 (by rw [ev_7, ev_8]; exact h9.2.1)
            exact ih1 x_20 _ (by first | omega | (simp only [Int.toNat]; omega)) (by first | omega | decide)  ⟨by omega, fun k hk2 => (Nat.lt_succ_iff_lt_or_eq.mp (by rw [hk] at hk2; exact hk2)).elim (fun h8 => hx1.2 k h8) (fun h8 => by rw [h8]; exact hno)⟩  (lv_sub hl [0, 1, 2, 3, 4, 5] rfl)
  exact loop_1 _ 0 _ (Nat.lt_succ_self _) (by first | omega | decide)  ⟨by have h9 : (0 : Int32).toInt = 0 := rfl; omega, fun k hk => absurd (show k < 0 from hk) (Nat.not_lt_zero k)⟩  hl
set_option maxHeartbeats 4000000 in
set_option maxRecDepth 100000 in
theorem c_X4_begin9 (l : Launch) (D : va_G) (cy : Nat → ClassId) (a : Nat → Nat) (i : Nat → Int32) (r : Nat → Nat → Int32) (q : Nat → Option Nat) (tl : va_W) (p0 p1 : Int32) (sz : Nat) (hRi : yRi i) (hRr : yRr r) : Met l yX4_begin (Cond.code yX4_begin cX4_begin 5 none :: gT) { frames := 2, cells := 0, slots := 0, locals := 47 } (va_Pc [.ref (a 5), .ref (a 61), .int p0, .int p1] (rQ D cy (xW cy a i r q (a 20) (a 12) ++ (hW cy a i r ++ tl)) sz)) (va_Qv (fun u : Nat → Nat → Int32 => yRr u ∧ mEr [6, 7] r u ∧ (gjLk (r 66) (r 67) (r 68) (i 23).toNatClampNeg (r 71) (r 72) (r 73) (i 24).toNatClampNeg p0 p1 (r 75) 0 0 (u 6) ∧ ∀ k, k < (i 24).toNatClampNeg → (u 7 k).toInt = 0)) (fun (u : Nat → Nat → Int32) t => va_P D vwCl (xW cy a i u q (a 20) (a 12) ++ (hW cy a i u ++ tl)) t.heap ∧ va_K D vwCl (vT cy) t ∧ va_D (va_A (xW cy a i r q (a 20) (a 12) ++ (hW cy a i r ++ tl)) sz) (xW cy a i u q (a 20) (a 12) ++ (hW cy a i u ++ tl))) (va_A (xW cy a i r q (a 20) (a 12) ++ (hW cy a i r ++ tl)) sz)) 0 0 (va_A (xW cy a i r q (a 20) (a 12) ++ (hW cy a i r ++ tl)) sz) := by
  refine Met.ofQ (cc := cX4_begin) (maxL := 5) (ret := none) (by decide) rfl ?_
  intro p e s m args below meth c s₁ B hml hv Q hQ
  obtain ⟨rfl, hsz, hP, hK, hD0⟩ := hv
  have hx := B.exec
  have hb := B.bytes
  have hr := B.returns
  have hlocks := B.notSynchronized
  have hT : ∀ w ∈ gT, w.before _ s = true := fun w h => atoms_spec (ws := (Cond.code yX4_begin cX4_begin 5 none :: gT)) B.pre w (List.mem_cons_of_mem _ h)
  have hown : s.vm.findClass RX4 = some m.cls := findClass_of_methodNamed B.named
  subst hsz
  have hD := hD0.self (sz := s.heap.size)
  generalize hAe : va_A (xW cy a i r q (a 20) (a 12) ++ (hW cy a i r ++ tl)) s.heap.size = A at hD hQ
  have hA : ∀ q : Nat, s.heap.size ≤ q → A q := fun q h => by rw [← hAe]; exact Or.inr h
  have hS : va_S A s.heap s.heap [] := va_S.rf
  have hl := lv_entry ([.ref (a 5), .ref (a 61), .int p0, .int p1]) (n := 5) (Nat.le_of_ble_eq_true rfl)
  rw [lg_entry_eq]
  generalize (lg_sl ([.ref (a 5), .ref (a 61), .int p0, .int p1]) ++ List.replicate (5 - (lg_sl ([.ref (a 5), .ref (a 61), .int p0, .int p1])).length) Slot.unset).toArray = ls at hl ⊢
  have hl : lv_has ls 5 [(0, .ref (a 5)), (1, .ref (a 61)), (2, .int p0), (3, .int p1)] := hl
  have hEi : mEi [] i i := Ei_rf
  have hEr : mEr [6, 7] r r := Er_rf
  have hg23 : 0 ≤ (i 23).toInt ∧ (i 23).toInt ≤ 20 := hRi 23
  have hnf : (i 23).toNatClampNeg ≤ 20 := by show (i 23).toInt.toNat ≤ 20; omega
  have hg24 : 0 ≤ (i 24).toInt ∧ (i 24).toInt ≤ 20 := hRi 24
  have hnl : (i 24).toNatClampNeg ≤ 20 := by show (i 24).toInt.toNat ≤ 20; omega
  have hRr0 : yRr r := hRr
  refine lv_iconst (v := 0) hx hb dX4_begin_0 (by decide) ?_
  refine lv_istore (lv' := [(4, .int 0), (0, .ref (a 5)), (1, .ref (a 61)), (2, .int p0), (3, .int p1)]) hx hb dX4_begin_1 hl (by decide) rfl (fun ls hl => ?_)
  have loop_1 : ∀ (n : Nat) (x1_4 : Int32) (r1 : Nat → Nat → Int32) (H : Heap) (locs : List Loc) (ls : Array Slot), (10 - x1_4.toInt).toNat < n → (0 ≤ x1_4.toInt ∧ x1_4.toInt ≤ 10) → yRr r1 → mEr [6, 7] r r1 → (∀ k, k < x1_4.toNatClampNeg → r1 6 k = 0) → va_P D vwCl (xW cy a i r1 q (a 20) (a 12) ++ (hW cy a i r1 ++ tl)) H → va_D A (xW cy a i r1 q (a 20) (a 12) ++ (hW cy a i r1 ++ tl)) → va_S A s.heap H locs → lv_has ls 5 [(4, .int x1_4), (0, .ref (a 5)), (1, .ref (a 61)), (2, .int p0), (3, .int p1)] → W p l e ({ frames := 2, cells := 0, slots := 0, locals := 47 } : Room) s m ([.ref (a 5), .ref (a 61), .int p0, .int p1] : List Value).toArray below meth c H locs 0 0 Q (F0 m 3 ls []) := by
    intro n
    induction n with
    | zero =>
      intro x1_4 r1 H locs ls hm1 hf1_0 hRr hEr hx1 hP hD hS hl
      exact absurd hm1 (by omega)
    | succ n ih1 =>
      intro x1_4 r1 H locs ls hm1 hf1_0 hRr hEr hx1 hP hD hS hl
      refine lv_iload hx hb dX4_begin_3 (lv_at hl 0 rfl) ?_
      refine lv_bipush (v := 9) hx hb dX4_begin_5 (by decide) ?_
      refine lv_icmp_gt (tgt := 24) hx hb dX4_begin_7 (by decide) (fun c_2 => ?_) (fun c_2 => ?_)
      · have c_2 : 9 < x1_4.toInt := b_lt c_2
        refine lv_iconst (v := 0) hx hb dX4_begin_24 (by decide) ?_
        refine lv_istore (lv' := [(4, .int 0), (0, .ref (a 5)), (1, .ref (a 61)), (2, .int p0), (3, .int p1)]) hx hb dX4_begin_25 hl (by decide) rfl (fun ls hl => ?_)
        have loop_3 : ∀ (n : Nat) (x3_4 : Int32) (r3 : Nat → Nat → Int32) (H : Heap) (locs : List Loc) (ls : Array Slot), (20 - x3_4.toInt).toNat < n → (0 ≤ x3_4.toInt ∧ x3_4.toInt ≤ 20) → yRr r3 → mEr [6, 7] r r3 → (gjDc (gjPF (r 66) (r 67) p0 p1 0) (gjQL (r 66) (r 67) (r 71) (r 72) p0 p1 (r 75) 0) (gjN (r 68)) (gjN (r 73)) x3_4.toNatClampNeg 0 (r3 6) ∧ x3_4.toInt ≤ (i 23).toInt) → va_P D vwCl (xW cy a i r3 q (a 20) (a 12) ++ (hW cy a i r3 ++ tl)) H → va_D A (xW cy a i r3 q (a 20) (a 12) ++ (hW cy a i r3 ++ tl)) → va_S A s.heap H locs → lv_has ls 5 [(4, .int x3_4), (0, .ref (a 5)), (1, .ref (a 61)), (2, .int p0), (3, .int p1)] → W p l e ({ frames := 2, cells := 0, slots := 0, locals := 47 } : Room) s m ([.ref (a 5), .ref (a 61), .int p0, .int p1] : List Value).toArray below meth c H locs 0 0 Q (F0 m 27 ls []) := by
          intro n
          induction n with
          | zero =>
            intro x3_4 r3 H locs ls hm3 hf3_0 hRr hEr hx3 hP hD hS hl
            exact absurd hm3 (by omega)
          | succ n ih3 =>
            intro x3_4 r3 H locs ls hm3 hf3_0 hRr hEr hx3 hP hD hS hl
            refine lv_iload hx hb dX4_begin_27 (lv_at hl 0 rfl) ?_
            refine lv_aload_n hx hb dX4_begin_29 rfl (lv_at hl 2 rfl) ?_
            refine va_get (D := D) (ci := 3) (v := .ref (a 65)) (C := RX3) (T := TX3) (N := 12) hx hb hT iX3 hown hK hP 61 rfl rfl 9 (by decide) (hT _ t_408) (fun _ h9 => h9) rfl dX4_begin_30 ?_
            refine va_get (D := D) (ci := 10) (v := .int (i 23)) (C := RX10) (T := TX10) (N := 5) hx hb hT iX10 hown hK hP 65 rfl rfl 0 (by decide) (hT _ t_409) (fun _ h9 => h9) rfl dX4_begin_33 ?_
            have hg_4 : 0 ≤ (i 23).toInt ∧ (i 23).toInt ≤ 20 := hRi 23
            refine lv_icmp_ge (tgt := 74) hx hb dX4_begin_36 (by decide) (fun c_5 => ?_) (fun c_5 => ?_)
            · have c_5 : (i 23).toInt ≤ x3_4.toInt := b_le c_5
              refine lv_iconst (v := 0) hx hb dX4_begin_74 (by decide) ?_
              refine lv_istore (lv' := [(4, .int 0), (0, .ref (a 5)), (1, .ref (a 61)), (2, .int p0), (3, .int p1)]) hx hb dX4_begin_75 hl (by decide) rfl (fun ls hl => ?_)
              have loop_6 : ∀ (n : Nat) (x6_4 : Int32) (r6 : Nat → Nat → Int32) (H : Heap) (locs : List Loc) (ls : Array Slot), (20 - x6_4.toInt).toNat < n → (0 ≤ x6_4.toInt ∧ x6_4.toInt ≤ 20) → yRr r6 → mEr [6, 7] r r6 → (gjDc (gjPF (r 66) (r 67) p0 p1 0) (gjQL (r 66) (r 67) (r 71) (r 72) p0 p1 (r 75) 0) (gjN (r 68)) (gjN (r 73)) (i 23).toNatClampNeg x6_4.toNatClampNeg (r6 6) ∧ (∀ k, k < x6_4.toNatClampNeg → (r6 7 k).toInt = 0) ∧ x6_4.toInt ≤ (i 24).toInt) → va_P D vwCl (xW cy a i r6 q (a 20) (a 12) ++ (hW cy a i r6 ++ tl)) H → va_D A (xW cy a i r6 q (a 20) (a 12) ++ (hW cy a i r6 ++ tl)) → va_S A s.heap H locs → lv_has ls 5 [(4, .int x6_4), (0, .ref (a 5)), (1, .ref (a 61)), (2, .int p0), (3, .int p1)] → W p l e ({ frames := 2, cells := 0, slots := 0, locals := 47 } : Room) s m ([.ref (a 5), .ref (a 61), .int p0, .int p1] : List Value).toArray below meth c H locs 0 0 Q (F0 m 77 ls []) := by
                intro n
                induction n with
                | zero =>
                  intro x6_4 r6 H locs ls hm6 hf6_0 hRr hEr hx6 hP hD hS hl
                  exact absurd hm6 (by omega)
                | succ n ih6 =>
                  intro x6_4 r6 H locs ls hm6 hf6_0 hRr hEr hx6 hP hD hS hl
                  refine lv_iload hx hb dX4_begin_77 (lv_at hl 0 rfl) ?_
                  refine lv_aload_n hx hb dX4_begin_79 rfl (lv_at hl 2 rfl) ?_
                  refine va_get (D := D) (ci := 3) (v := .ref (a 70)) (C := RX3) (T := TX3) (N := 12) hx hb hT iX3 hown hK hP 61 rfl rfl 10 (by decide) (hT _ t_410) (fun _ h9 => h9) rfl dX4_begin_80 ?_
                  refine va_get (D := D) (ci := 10) (v := .int (i 24)) (C := RX10) (T := TX10) (N := 5) hx hb hT iX10 hown hK hP 70 rfl rfl 0 (by decide) (hT _ t_409) (fun _ h9 => h9) rfl dX4_begin_83 ?_
                  have hg_7 : 0 ≤ (i 24).toInt ∧ (i 24).toInt ≤ 20 := hRi 24
                  refine lv_icmp_ge (tgt := 132) hx hb dX4_begin_86 (by decide) (fun c_8 => ?_) (fun c_8 => ?_)
                  · have c_8 : (i 24).toInt ≤ x6_4.toInt := b_le c_8
                    subst hQ
                    have hk : x6_4.toNatClampNeg = (i 24).toNatClampNeg := by show x6_4.toInt.toNat = (i 24).toInt.toNat; omega
                    have hc9 := hx6
                    rw [hk] at hc9
                    exact W.vret hx hb hr (fun t ht hW => ⟨⟨r6, rfl, ⟨hRr, hEr, ⟨hc9.1, hc9.2.1⟩⟩, by rw [ht]; exact hP, va_K.moved hW.alike hK, hD⟩, hS.F ht⟩) hS.2.2 dX4_begin_132
                  · have c_8 : x6_4.toInt < (i 24).toInt := b_nle c_8
                    refine lv_aload_n hx hb dX4_begin_89 rfl (lv_at hl 1 rfl) ?_
                    refine va_get (D := D) (ci := 4) (v := .ref (a 7)) (C := RX4) (T := TX4) (N := 2) hx hb hT iX4 hown hK hP 5 rfl rfl 1 (by decide) (hT _ t_411) (fun _ h9 => h9) rfl dX4_begin_90 ?_
                    refine lv_iload hx hb dX4_begin_93 (lv_at hl 0 rfl) ?_
                    refine lv_iconst (v := 0) hx hb dX4_begin_95 (by decide) ?_
                    refine va_zast hx hb hK hP hD hS 7 2 rfl rfl (vp_inI (by omega) (by omega)) dX4_begin_96 (fun H locs hP hD hS => ?_)
                    rw [yS7] at hP hD
                    have hRr : yRr (va_up r6 7 (upd (r6 7) x6_4.toNatClampNeg (vp_nar .boolean 0))) := Yr_upd hRr 7 (x6_4.toNatClampNeg) (vp_nar .boolean 0) (b_rg _)
                    have hEr : mEr [6, 7] _ (va_up r6 7 (upd (r6 7) x6_4.toNatClampNeg (vp_nar .boolean 0))) := Er_up hEr 7 _ (by decide)
                    refine lv_aload_n hx hb dX4_begin_97 rfl (lv_at hl 2 rfl) ?_
                    refine va_get (D := D) (ci := 3) (v := .ref (a 70)) (C := RX3) (T := TX3) (N := 12) hx hb hT iX3 hown hK hP 61 rfl rfl 10 (by decide) (hT _ t_410) (fun _ h9 => h9) rfl dX4_begin_98 ?_
                    refine lv_iload hx hb dX4_begin_101 (lv_at hl 0 rfl) ?_
                    refine lv_iload_n hx hb dX4_begin_103 rfl (lv_at hl 3 rfl) ?_
                    refine lv_iload_n hx hb dX4_begin_104 rfl (lv_at hl 4 rfl) ?_
                    refine vp_callSi (W.runV (As := [.int x6_4, .int p0, .int p1]) (rest := []) ⟨hx, hb, hml, hown, hT⟩ (c_X10_isOf_r709 l D cy a i (va_up r6 7 (upd (r6 7) x6_4.toNatClampNeg (vp_nar .boolean 0))) q tl x6_4 p0 p1 hRi hRr (by first | omega | decide)) (cwV 3 hT (gV t_412 t_414 t_415 t_416 t_413) rfl rfl rfl (by decide +kernel) ⟨Nat.le_of_ble_eq_true rfl, Nat.le_of_ble_eq_true rfl⟩) (rP_v hP hK (va_recv hK hP (ci := 10) (q0 := 70) rfl rfl)) rfl rfl hl.1 rfl (lv_room (Nat.le_of_ble_eq_true rfl)) dX4_begin_105 ⟨Nat.le_of_ble_eq_true rfl, Nat.le_of_ble_eq_true rfl⟩) (fun r_9 hr_9 => ?_)
                    have hr_9 : BR r_9 ((va_up r6 7 (upd (r6 7) x6_4.toNatClampNeg (vp_nar .boolean 0))) 71 x6_4.toNatClampNeg = p0 ∧ (va_up r6 7 (upd (r6 7) x6_4.toNatClampNeg (vp_nar .boolean 0))) 72 x6_4.toNatClampNeg = p1) 1 0 := hr_9
                    rcases hr_9 with ⟨rfl, h_10⟩ | ⟨rfl, h_10⟩
                    · skip
                      refine lv_if_eq (tgt := 126) hx hb dX4_begin_108 (by decide) (fun c_11 => absurd c_11 (by decide)) (fun c_11 => ?_)
                      have hg9 : (r 71 (x6_4.toNatClampNeg) = p0 ∧ r 72 (x6_4.toNatClampNeg) = p1) := by have h9 := h_10; rw [hEr 71 (by decide), hEr 72 (by decide)] at h9; exact h9
                      refine lv_aload_n hx hb dX4_begin_111 rfl (lv_at hl 1 rfl) ?_
                      refine lv_aload_n hx hb dX4_begin_112 rfl (lv_at hl 2 rfl) ?_
                      refine va_get (D := D) (ci := 3) (v := .ref (a 70)) (C := RX3) (T := TX3) (N := 12) hx hb hT iX3 hown hK hP 61 rfl rfl 10 (by decide) (hT _ t_410) (fun _ h9 => h9) rfl dX4_begin_113 ?_
                      refine va_get (D := D) (ci := 10) (v := .ref (a 73)) (C := RX10) (T := TX10) (N := 5) hx hb hT iX10 hown hK hP 70 rfl rfl 3 (by decide) (hT _ t_417) (fun _ h9 => h9) rfl dX4_begin_116 ?_
                      refine lv_iload hx hb dX4_begin_119 (lv_at hl 0 rfl) ?_
                      refine va_iald hx hb hK hP 73 0 rfl rfl (vp_inI (by omega) (by omega)) dX4_begin_121 ?_
                      refine lv_topi (fun v_12 ev_12 => ?_)
                      have hgv_12 : 0 ≤ v_12.toInt ∧ v_12.toInt ≤ 9 := by rw [ev_12]; exact hRr 73 _
                      have hsv_12 : v_12 = r 73 (x6_4.toNatClampNeg) := by rw [ev_12, hEr 73 (by decide)]
                      refine lv_iconst (v := (-1)) hx hb dX4_begin_122 (by decide) ?_
                      have hF_13 := rF hD hS hA
                      refine va_callv (va_runV (As := [.int v_12, .int (-1)]) (rest := []) ⟨hx, hb, hml, hown, hT⟩ (c_X4_change9 l D cy a i (va_up r6 7 (upd (r6 7) x6_4.toNatClampNeg (vp_nar .boolean 0))) q (hW cy a i (va_up r6 7 (upd (r6 7) x6_4.toNatClampNeg (vp_nar .boolean 0))) ++ tl) v_12 (-1) _ hRi hRr) (cwV 2 hT (gV t_418 t_420 t_421 t_422 t_419) rfl rfl rfl (by decide +kernel) ⟨Nat.le_of_ble_eq_true rfl, Nat.le_of_ble_eq_true rfl⟩) (rQ_v hP hK hD (va_recv hK hP (ci := 4) (q0 := 5) rfl rfl)) rfl rfl hl.1 rfl (lv_room (Nat.le_of_ble_eq_true rfl)) dX4_begin_123 ⟨Nat.le_of_ble_eq_true rfl, Nat.le_of_ble_eq_true rfl⟩) hS (fun q _ h => hF_13 q h) hF_13 (fun u_15 t H1 locs ht hvm hr_14 hB hz1 hk1 hS => ?_)
                      obtain ⟨r15, rfl⟩ : ∃ z, z = u_15 := ⟨_, rfl⟩
                      obtain ⟨hP, hK1, hD1⟩ := hB
                      rw [ht] at hP
                      have hD := hD1.weaken (fun k q _ h => hF_13 q.1 h)
                      obtain ⟨hRr, hE2, hr_14⟩ := hr_14
                      have hRr : yRr r15 := hRr
                      have hE2 : mEr [6] (va_up r6 7 (upd (r6 7) x6_4.toNatClampNeg (vp_nar .boolean 0))) r15 := hE2
                      have hwe : hW cy a i r15 = hW cy a i (va_up r6 7 (upd (r6 7) x6_4.toNatClampNeg (vp_nar .boolean 0))) := hW_eqE (Ei_rf (T := [])) hE2 rfl rfl
                      have hP : va_P D vwCl (xW cy a i r15 q (a 20) (a 12) ++ (hW cy a i r15 ++ tl)) H1 := by rw [hwe]; exact hP
                      have hD : va_D A (xW cy a i r15 q (a 20) (a 12) ++ (hW cy a i r15 ++ tl)) := by rw [hwe]; exact hD
                      have hEr : mEr [6, 7] _ r15 := Er_tr hEr hE2 (by decide)
                      have hu9 : gjUp ((va_up r6 7 (upd (r6 7) x6_4.toNatClampNeg (vp_nar .boolean 0))) 6) (r15 6) v_12 ((-1) : Int32) := hr_14
                      have hu7 : r15 7 = (va_up r6 7 (upd (r6 7) x6_4.toNatClampNeg (vp_nar .boolean 0))) 7 := hE2 7 (by decide)
                      obtain ⟨x_16, ex_16⟩ : ∃ y : Int32, y = x6_4 + 1 := ⟨_, rfl⟩
                      refine lv_iinc (v := x_16) (lv' := [(4, .int x_16), (0, .ref (a 5)), (1, .ref (a 61)), (2, .int p0), (3, .int p1)]) hx hb dX4_begin_126 hl (k := 0) rfl (by rw [ex_16]; rfl) (by decide) rfl (fun ls hl => ?_)
                      have hx_16 : x_16.toInt = x6_4.toInt + 1 := by rw [ex_16]; have := b_rg x6_4; exact i_add (a := x6_4.toInt) (b := 1) rfl rfl (by omega) (by omega)
                      refine lv_goto (tgt := 77) hx hb dX4_begin_129 (by decide) ?_
                      have hk : x_16.toNatClampNeg = x6_4.toNatClampNeg + 1 := by show x_16.toInt.toNat = x6_4.toInt.toNat + 1; omega
                      have hc7 : ∀ k, k < x_16.toNatClampNeg → (upd (r6 7) (x6_4.toNatClampNeg) (vp_nar .boolean 0) k).toInt = 0 := fun k hk2 => by unfold upd; by_cases e9 : k = x6_4.toNatClampNeg; (· rw [if_pos e9]; decide); (· rw [if_neg e9]; exact hx6.2.1 k (by omega))
                      have hc9 : ((gjN (r 73) (x6_4.toNatClampNeg) : Nat) : Int) = v_12.toInt := by rw [hsv_12]; exact gjN_c (hRr0 73 _).1
                      have hx20 : x6_4.toNatClampNeg ≤ 20 := by show x6_4.toInt.toNat ≤ 20; omega
                      exact ih6 x_16 r15 _ _ _ (by first | omega | (simp only [Int.toNat]; omega)) (by first | omega | decide) hRr hEr ⟨gjDc_ly hx6.1 hk (gjQL_iff.mpr ⟨hg9, fun q9 hq9 => absurd hq9 (Nat.not_lt_zero q9)⟩) hc9 hnf hx20 hu9 (by decide), by rw [hu7]; exact hc7, by omega⟩ hP hD hS (lv_sub hl [0, 1, 2, 3, 4] rfl)
                    · skip
                      refine lv_if_eq (tgt := 126) hx hb dX4_begin_108 (by decide) (fun c_17 => ?_) (fun c_17 => absurd (by decide) c_17)
                      have hg9 : ¬ (r 71 (x6_4.toNatClampNeg) = p0 ∧ r 72 (x6_4.toNatClampNeg) = p1) := by have h9 := h_10; rw [hEr 71 (by decide), hEr 72 (by decide)] at h9; exact h9
                      obtain ⟨x_18, ex_18⟩ : ∃ y : Int32, y = x6_4 + 1 := ⟨_, rfl⟩
                      refine lv_iinc (v := x_18) (lv' := [(4, .int x_18), (0, .ref (a 5)), (1, .ref (a 61)), (2, .int p0), (3, .int p1)]) hx hb dX4_begin_126 hl (k := 0) rfl (by rw [ex_18]; rfl) (by decide) rfl (fun ls hl => ?_)
                      have hx_18 : x_18.toInt = x6_4.toInt + 1 := by rw [ex_18]; have := b_rg x6_4; exact i_add (a := x6_4.toInt) (b := 1) rfl rfl (by omega) (by omega)
                      refine lv_goto (tgt := 77) hx hb dX4_begin_129 (by decide) ?_
                      have hk : x_18.toNatClampNeg = x6_4.toNatClampNeg + 1 := by show x_18.toInt.toNat = x6_4.toInt.toNat + 1; omega
                      have hc7 : ∀ k, k < x_18.toNatClampNeg → (upd (r6 7) (x6_4.toNatClampNeg) (vp_nar .boolean 0) k).toInt = 0 := fun k hk2 => by unfold upd; by_cases e9 : k = x6_4.toNatClampNeg; (· rw [if_pos e9]; decide); (· rw [if_neg e9]; exact hx6.2.1 k (by omega))
                      exact ih6 x_18 (va_up r6 7 (upd (r6 7) x6_4.toNatClampNeg (vp_nar .boolean 0))) _ _ _ (by first | omega | (simp only [Int.toNat]; omega)) (by first | omega | decide) hRr hEr ⟨gjDc_ln hx6.1 hk (fun h9 => hg9 (gjQL_iff.mp h9).1), hc7, by omega⟩ hP hD hS (lv_sub hl [0, 1, 2, 3, 4] rfl)
              have hk : x3_4.toNatClampNeg = (i 23).toNatClampNeg := by show x3_4.toInt.toNat = (i 23).toInt.toNat; omega
              have hc9 := hx3.1
              rw [hk] at hc9
              exact loop_6 _ 0 r3 _ _ _ (Nat.lt_succ_self _) (by first | omega | decide) hRr hEr ⟨hc9, fun k hk => absurd (show k < 0 from hk) (Nat.not_lt_zero k), by have h9 : (0 : Int32).toInt = 0 := rfl; omega⟩ hP hD hS hl
            · have c_5 : x3_4.toInt < (i 23).toInt := b_nle c_5
              refine lv_aload_n hx hb dX4_begin_39 rfl (lv_at hl 2 rfl) ?_
              refine va_get (D := D) (ci := 3) (v := .ref (a 65)) (C := RX3) (T := TX3) (N := 12) hx hb hT iX3 hown hK hP 61 rfl rfl 9 (by decide) (hT _ t_408) (fun _ h9 => h9) rfl dX4_begin_40 ?_
              refine lv_iload hx hb dX4_begin_43 (lv_at hl 0 rfl) ?_
              refine lv_iload_n hx hb dX4_begin_45 rfl (lv_at hl 3 rfl) ?_
              refine lv_iload_n hx hb dX4_begin_46 rfl (lv_at hl 4 rfl) ?_
              refine vp_callSi (W.runV (As := [.int x3_4, .int p0, .int p1]) (rest := []) ⟨hx, hb, hml, hown, hT⟩ (c_X10_isOf_r659 l D cy a i r3 q tl x3_4 p0 p1 hRi hRr (by first | omega | decide)) (cwV 3 hT (gV t_412 t_414 t_415 t_416 t_413) rfl rfl rfl (by decide +kernel) ⟨Nat.le_of_ble_eq_true rfl, Nat.le_of_ble_eq_true rfl⟩) (rP_v hP hK (va_recv hK hP (ci := 10) (q0 := 65) rfl rfl)) rfl rfl hl.1 rfl (lv_room (Nat.le_of_ble_eq_true rfl)) dX4_begin_47 ⟨Nat.le_of_ble_eq_true rfl, Nat.le_of_ble_eq_true rfl⟩) (fun r_19 hr_19 => ?_)
              have hr_19 : BR r_19 (r3 66 x3_4.toNatClampNeg = p0 ∧ r3 67 x3_4.toNatClampNeg = p1) 1 0 := hr_19
              rcases hr_19 with ⟨rfl, h_20⟩ | ⟨rfl, h_20⟩
              · skip
                refine lv_if_eq (tgt := 68) hx hb dX4_begin_50 (by decide) (fun c_21 => absurd c_21 (by decide)) (fun c_21 => ?_)
                have hg9 : (r 66 (x3_4.toNatClampNeg) = p0 ∧ r 67 (x3_4.toNatClampNeg) = p1) := by have h9 := h_20; rw [hEr 66 (by decide), hEr 67 (by decide)] at h9; exact h9
                refine lv_aload_n hx hb dX4_begin_53 rfl (lv_at hl 1 rfl) ?_
                refine lv_aload_n hx hb dX4_begin_54 rfl (lv_at hl 2 rfl) ?_
                refine va_get (D := D) (ci := 3) (v := .ref (a 65)) (C := RX3) (T := TX3) (N := 12) hx hb hT iX3 hown hK hP 61 rfl rfl 9 (by decide) (hT _ t_408) (fun _ h9 => h9) rfl dX4_begin_55 ?_
                refine va_get (D := D) (ci := 10) (v := .ref (a 68)) (C := RX10) (T := TX10) (N := 5) hx hb hT iX10 hown hK hP 65 rfl rfl 3 (by decide) (hT _ t_417) (fun _ h9 => h9) rfl dX4_begin_58 ?_
                refine lv_iload hx hb dX4_begin_61 (lv_at hl 0 rfl) ?_
                refine va_iald hx hb hK hP 68 0 rfl rfl (vp_inI (by omega) (by omega)) dX4_begin_63 ?_
                refine lv_topi (fun v_22 ev_22 => ?_)
                have hgv_22 : 0 ≤ v_22.toInt ∧ v_22.toInt ≤ 9 := by rw [ev_22]; exact hRr 68 _
                have hsv_22 : v_22 = r 68 (x3_4.toNatClampNeg) := by rw [ev_22, hEr 68 (by decide)]
                refine lv_iconst (v := 1) hx hb dX4_begin_64 (by decide) ?_
                have hF_23 := rF hD hS hA
                refine va_callv (va_runV (As := [.int v_22, .int 1]) (rest := []) ⟨hx, hb, hml, hown, hT⟩ (c_X4_change9 l D cy a i r3 q (hW cy a i r3 ++ tl) v_22 1 _ hRi hRr) (cwV 2 hT (gV t_418 t_420 t_421 t_422 t_419) rfl rfl rfl (by decide +kernel) ⟨Nat.le_of_ble_eq_true rfl, Nat.le_of_ble_eq_true rfl⟩) (rQ_v hP hK hD (va_recv hK hP (ci := 4) (q0 := 5) rfl rfl)) rfl rfl hl.1 rfl (lv_room (Nat.le_of_ble_eq_true rfl)) dX4_begin_65 ⟨Nat.le_of_ble_eq_true rfl, Nat.le_of_ble_eq_true rfl⟩) hS (fun q _ h => hF_23 q h) hF_23 (fun u_25 t H1 locs ht hvm hr_24 hB hz1 hk1 hS => ?_)
                obtain ⟨r25, rfl⟩ : ∃ z, z = u_25 := ⟨_, rfl⟩
                obtain ⟨hP, hK1, hD1⟩ := hB
                rw [ht] at hP
                have hD := hD1.weaken (fun k q _ h => hF_23 q.1 h)
                obtain ⟨hRr, hE2, hr_24⟩ := hr_24
                have hRr : yRr r25 := hRr
                have hE2 : mEr [6] r3 r25 := hE2
                have hwe : hW cy a i r25 = hW cy a i r3 := hW_eqE (Ei_rf (T := [])) hE2 rfl rfl
                have hP : va_P D vwCl (xW cy a i r25 q (a 20) (a 12) ++ (hW cy a i r25 ++ tl)) H1 := by rw [hwe]; exact hP
                have hD : va_D A (xW cy a i r25 q (a 20) (a 12) ++ (hW cy a i r25 ++ tl)) := by rw [hwe]; exact hD
                have hEr : mEr [6, 7] _ r25 := Er_tr hEr hE2 (by decide)
                have hu9 : gjUp (r3 6) (r25 6) v_22 (1 : Int32) := hr_24
                have hu7 : r25 7 = r3 7 := hE2 7 (by decide)
                obtain ⟨x_26, ex_26⟩ : ∃ y : Int32, y = x3_4 + 1 := ⟨_, rfl⟩
                refine lv_iinc (v := x_26) (lv' := [(4, .int x_26), (0, .ref (a 5)), (1, .ref (a 61)), (2, .int p0), (3, .int p1)]) hx hb dX4_begin_68 hl (k := 0) rfl (by rw [ex_26]; rfl) (by decide) rfl (fun ls hl => ?_)
                have hx_26 : x_26.toInt = x3_4.toInt + 1 := by rw [ex_26]; have := b_rg x3_4; exact i_add (a := x3_4.toInt) (b := 1) rfl rfl (by omega) (by omega)
                refine lv_goto (tgt := 27) hx hb dX4_begin_71 (by decide) ?_
                have hk : x_26.toNatClampNeg = x3_4.toNatClampNeg + 1 := by show x_26.toInt.toNat = x3_4.toInt.toNat + 1; omega
                have hc9 : ((gjN (r 68) (x3_4.toNatClampNeg) : Nat) : Int) = v_22.toInt := by rw [hsv_22]; exact gjN_c (hRr0 68 _).1
                have hx20 : x3_4.toNatClampNeg ≤ 20 := by show x3_4.toInt.toNat ≤ 20; omega
                exact ih3 x_26 r25 _ _ _ (by first | omega | (simp only [Int.toNat]; omega)) (by first | omega | decide) hRr hEr ⟨gjDc_fy hx3.1 hk (gjPF_iff.mpr ⟨Nat.zero_le _, hg9⟩) hc9 hx20 (Nat.zero_le _) hu9 (by decide), by omega⟩ hP hD hS (lv_sub hl [0, 1, 2, 3, 4] rfl)
              · skip
                refine lv_if_eq (tgt := 68) hx hb dX4_begin_50 (by decide) (fun c_27 => ?_) (fun c_27 => absurd (by decide) c_27)
                have hg9 : ¬ (r 66 (x3_4.toNatClampNeg) = p0 ∧ r 67 (x3_4.toNatClampNeg) = p1) := by have h9 := h_20; rw [hEr 66 (by decide), hEr 67 (by decide)] at h9; exact h9
                obtain ⟨x_28, ex_28⟩ : ∃ y : Int32, y = x3_4 + 1 := ⟨_, rfl⟩
                refine lv_iinc (v := x_28) (lv' := [(4, .int x_28), (0, .ref (a 5)), (1, .ref (a 61)), (2, .int p0), (3, .int p1)]) hx hb dX4_begin_68 hl (k := 0) rfl (by rw [ex_28]; rfl) (by decide) rfl (fun ls hl => ?_)
                have hx_28 : x_28.toInt = x3_4.toInt + 1 := by rw [ex_28]; have := b_rg x3_4; exact i_add (a := x3_4.toInt) (b := 1) rfl rfl (by omega) (by omega)
                refine lv_goto (tgt := 27) hx hb dX4_begin_71 (by decide) ?_
                have hk : x_28.toNatClampNeg = x3_4.toNatClampNeg + 1 := by show x_28.toInt.toNat = x3_4.toInt.toNat + 1; omega
                exact ih3 x_28 r3 _ _ _ (by first | omega | (simp only [Int.toNat]; omega)) (by first | omega | decide) hRr hEr ⟨gjDc_fn hx3.1 hk (fun h9 => hg9 (gjPF_iff.mp h9).2), by omega⟩ hP hD hS (lv_sub hl [0, 1, 2, 3, 4] rfl)
        have h10 : x1_4.toNatClampNeg = 10 := by show x1_4.toInt.toNat = 10; omega
        have hc9 := hx1
        rw [h10] at hc9
        exact loop_3 _ 0 r1 _ _ _ (Nat.lt_succ_self _) (by first | omega | decide) hRr hEr ⟨gjDc_0 hc9, by have h9 : (0 : Int32).toInt = 0 := rfl; omega⟩ hP hD hS hl
      · have c_2 : x1_4.toInt ≤ 9 := b_nlt c_2
        refine lv_aload_n hx hb dX4_begin_10 rfl (lv_at hl 1 rfl) ?_
        refine va_get (D := D) (ci := 4) (v := .ref (a 6)) (C := RX4) (T := TX4) (N := 2) hx hb hT iX4 hown hK hP 5 rfl rfl 0 (by decide) (hT _ t_407) (fun _ h9 => h9) rfl dX4_begin_11 ?_
        refine lv_iload hx hb dX4_begin_14 (lv_at hl 0 rfl) ?_
        refine lv_iconst (v := 0) hx hb dX4_begin_16 (by decide) ?_
        refine va_iast hx hb hK hP hD hS 6 0 rfl rfl (vp_inI (by omega) (by omega)) dX4_begin_17 (fun H locs hP hD hS => ?_)
        rw [yS6] at hP hD
        have hRr : yRr (va_up r1 6 (upd (r1 6) x1_4.toNatClampNeg 0)) := Yr_upd hRr 6 (x1_4.toNatClampNeg) 0 (b_rg _)
        have hEr : mEr [6, 7] _ (va_up r1 6 (upd (r1 6) x1_4.toNatClampNeg 0)) := Er_up hEr 6 _ (by decide)
        obtain ⟨x_29, ex_29⟩ : ∃ y : Int32, y = x1_4 + 1 := ⟨_, rfl⟩
        refine lv_iinc (v := x_29) (lv' := [(4, .int x_29), (0, .ref (a 5)), (1, .ref (a 61)), (2, .int p0), (3, .int p1)]) hx hb dX4_begin_18 hl (k := 0) rfl (by rw [ex_29]; rfl) (by decide) rfl (fun ls hl => ?_)
        have hx_29 : x_29.toInt = x1_4.toInt + 1 := by rw [ex_29]; have := b_rg x1_4; exact i_add (a := x1_4.toInt) (b := 1) rfl rfl (by omega) (by omega)
        refine lv_goto (tgt := 3) hx hb dX4_begin_21 (by decide) ?_
        have hk : x_29.toNatClampNeg = x1_4.toNatClampNeg + 1 := by show x_29.toInt.toNat = x1_4.toInt.toNat + 1; omega
        have hc6 : ∀ k, k < x_29.toNatClampNeg → upd (r1 6) (x1_4.toNatClampNeg) 0 k = 0 := fun k hk2 => by unfold upd; by_cases e9 : k = x1_4.toNatClampNeg; (· rw [if_pos e9]); (· rw [if_neg e9]; exact hx1 k (by omega))
        exact ih1 x_29 (va_up r1 6 (upd (r1 6) x1_4.toNatClampNeg 0)) _ _ _ (by first | omega | (simp only [Int.toNat]; omega)) (by first | omega | decide) hRr hEr hc6 hP hD hS (lv_sub hl [0, 1, 2, 3, 4] rfl)
  exact loop_1 _ 0 r _ _ _ (Nat.lt_succ_self _) (by first | omega | decide) hRr hEr (fun k hk => absurd (show k < 0 from hk) (Nat.not_lt_zero k)) hP hD hS hl
set_option maxHeartbeats 4000000 in
set_option maxRecDepth 100000 in
theorem c_X4_join9 (l : Launch) (D : va_G) (cy : Nat → ClassId) (a : Nat → Nat) (i : Nat → Int32) (r : Nat → Nat → Int32) (q : Nat → Option Nat) (tl : va_W) (p0 p1 : Int32) (sz : Nat) (hRi : yRi i) (hRr : yRr r) (hs1 : gjSt (r 68) (i 23).toNatClampNeg) (hs2 : gjSt (r 73) (i 24).toNatClampNeg) : Met l yX4_join (Cond.code yX4_join cX4_join 7 none :: gT) { frames := 3, cells := 0, slots := 0, locals := 72 } (va_Pc [.ref (a 5), .ref (a 61), .int p0, .int p1] (rQ D cy (xW cy a i r q (a 20) (a 12) ++ (hW cy a i r ++ tl)) sz)) (va_Qv (fun u : Nat → Nat → Int32 => yRr u ∧ mEr [6, 7, 75] r u ∧ ((∀ k, k < (i 23).toNatClampNeg → r 66 k = p0 → r 67 k = p1 → gjO (r 66) (r 67) (r 68) (i 23).toNatClampNeg (r 71) (r 72) (r 73) (i 24).toNatClampNeg (u 75) (-2) k (u 75 k).toInt) ∧ ∀ k, ¬ (k < (i 23).toNatClampNeg ∧ r 66 k = p0 ∧ r 67 k = p1) → u 75 k = r 75 k)) (fun (u : Nat → Nat → Int32) t => va_P D vwCl (xW cy a i u q (a 20) (a 12) ++ (hW cy a i u ++ tl)) t.heap ∧ va_K D vwCl (vT cy) t ∧ va_D (va_A (xW cy a i r q (a 20) (a 12) ++ (hW cy a i r ++ tl)) sz) (xW cy a i u q (a 20) (a 12) ++ (hW cy a i u ++ tl))) (va_A (xW cy a i r q (a 20) (a 12) ++ (hW cy a i r ++ tl)) sz)) 0 0 (va_A (xW cy a i r q (a 20) (a 12) ++ (hW cy a i r ++ tl)) sz) := by
  refine Met.ofQ (cc := cX4_join) (maxL := 7) (ret := none) (by decide) rfl ?_
  intro p e s m args below meth c s₁ B hml hv Q hQ
  obtain ⟨rfl, hsz, hP, hK, hD0⟩ := hv
  have hx := B.exec
  have hb := B.bytes
  have hr := B.returns
  have hlocks := B.notSynchronized
  have hT : ∀ w ∈ gT, w.before _ s = true := fun w h => atoms_spec (ws := (Cond.code yX4_join cX4_join 7 none :: gT)) B.pre w (List.mem_cons_of_mem _ h)
  have hown : s.vm.findClass RX4 = some m.cls := findClass_of_methodNamed B.named
  subst hsz
  have hD := hD0.self (sz := s.heap.size)
  generalize hAe : va_A (xW cy a i r q (a 20) (a 12) ++ (hW cy a i r ++ tl)) s.heap.size = A at hD hQ
  have hA : ∀ q : Nat, s.heap.size ≤ q → A q := fun q h => by rw [← hAe]; exact Or.inr h
  have hS : va_S A s.heap s.heap [] := va_S.rf
  have hl := lv_entry ([.ref (a 5), .ref (a 61), .int p0, .int p1]) (n := 7) (Nat.le_of_ble_eq_true rfl)
  rw [lg_entry_eq]
  generalize (lg_sl ([.ref (a 5), .ref (a 61), .int p0, .int p1]) ++ List.replicate (7 - (lg_sl ([.ref (a 5), .ref (a 61), .int p0, .int p1])).length) Slot.unset).toArray = ls at hl ⊢
  have hl : lv_has ls 7 [(0, .ref (a 5)), (1, .ref (a 61)), (2, .int p0), (3, .int p1)] := hl
  have hEi : mEi [] i i := Ei_rf
  have hEr : mEr [6, 7, 75] r r := Er_rf
  have hg23 : 0 ≤ (i 23).toInt ∧ (i 23).toInt ≤ 20 := hRi 23
  have hnf : (i 23).toNatClampNeg ≤ 20 := by show (i 23).toInt.toNat ≤ 20; omega
  have hg24 : 0 ≤ (i 24).toInt ∧ (i 24).toInt ≤ 20 := hRi 24
  have hnl : (i 24).toNatClampNeg ≤ 20 := by show (i 24).toInt.toNat ≤ 20; omega
  refine lv_aload_n hx hb dX4_join_0 rfl (lv_at hl 1 rfl) ?_
  refine va_get (D := D) (ci := 3) (v := .ref (a 65)) (C := RX3) (T := TX3) (N := 12) hx hb hT iX3 hown hK hP 61 rfl rfl 9 (by decide) (hT _ t_408) (fun _ h9 => h9) rfl dX4_join_1 ?_
  refine lv_astore (lv' := [(4, .ref (a 65)), (0, .ref (a 5)), (1, .ref (a 61)), (2, .int p0), (3, .int p1)]) hx hb dX4_join_4 hl (by decide) rfl (fun ls hl => ?_)
  refine lv_aload_n hx hb dX4_join_6 rfl (lv_at hl 1 rfl) ?_
  refine lv_aload_n hx hb dX4_join_7 rfl (lv_at hl 2 rfl) ?_
  refine lv_iload_n hx hb dX4_join_8 rfl (lv_at hl 3 rfl) ?_
  refine lv_iload_n hx hb dX4_join_9 rfl (lv_at hl 4 rfl) ?_
  have hF_1 := rF hD hS hA
  refine va_callv (va_runV (As := [.ref (a 61), .int p0, .int p1]) (rest := []) ⟨hx, hb, hml, hown, hT⟩ (c_X4_begin9 l D cy a i r q tl p0 p1 _ hRi hRr) (cwV 3 hT (gV t_429 t_430 t_431 t_432 t_419) rfl rfl rfl (by decide +kernel) ⟨Nat.le_of_ble_eq_true rfl, Nat.le_of_ble_eq_true rfl⟩) (rQ_v hP hK hD (va_recv hK hP (ci := 4) (q0 := 5) rfl rfl)) rfl rfl hl.1 rfl (lv_room (Nat.le_of_ble_eq_true rfl)) dX4_join_10 ⟨Nat.le_of_ble_eq_true rfl, Nat.le_of_ble_eq_true rfl⟩) hS (fun q _ h => hF_1 q h) hF_1 (fun u_3 t H1 locs ht hvm hr_2 hB hz1 hk1 hS => ?_)
  obtain ⟨r3, rfl⟩ : ∃ z, z = u_3 := ⟨_, rfl⟩
  obtain ⟨hP, hK1, hD1⟩ := hB
  rw [ht] at hP
  have hD := hD1.weaken (fun k q _ h => hF_1 q.1 h)
  obtain ⟨hRr, hE2, hr_2⟩ := hr_2
  have hRr : yRr r3 := hRr
  have hE2 : mEr [6, 7] r r3 := hE2
  have hP : va_P D vwCl (xW cy a i r3 q (a 20) (a 12) ++ (hW cy a i r3 ++ tl)) H1 := hP
  have hD : va_D A (xW cy a i r3 q (a 20) (a 12) ++ (hW cy a i r3 ++ tl)) := hD
  have hEr : mEr [6, 7, 75] _ r3 := Er_tr hEr hE2 (by decide)
  have hB9 : gjLk (r 66) (r 67) (r 68) (i 23).toNatClampNeg (r 71) (r 72) (r 73) (i 24).toNatClampNeg p0 p1 (r 75) 0 0 (r3 6) ∧ ∀ k, k < (i 24).toNatClampNeg → (r3 7 k).toInt = 0 := hr_2
  obtain ⟨t09, ht09⟩ : ∃ f : Nat → Int32, f = r3 7 := ⟨_, rfl⟩
  have hJ75 : r3 75 = r 75 := hE2 75 (by decide)
  have hz7 : ∀ k, k < (i 24).toNatClampNeg → (t09 k).toInt = 0 := by rw [ht09]; exact hB9.2
  refine lv_iconst (v := 0) hx hb dX4_join_13 (by decide) ?_
  refine lv_istore (lv' := [(5, .int 0), (4, .ref (a 65)), (0, .ref (a 5)), (1, .ref (a 61)), (2, .int p0), (3, .int p1)]) hx hb dX4_join_14 hl (by decide) rfl (fun ls hl => ?_)
  have loop_4 : ∀ (n : Nat) (x4_5 : Int32) (r4 : Nat → Nat → Int32) (H : Heap) (locs : List Loc) (ls : Array Slot), (20 - x4_5.toInt).toNat < n → (0 ≤ x4_5.toInt ∧ x4_5.toInt ≤ 20) → yRr r4 → mEr [6, 7, 75] r r4 → ((gjLk (r 66) (r 67) (r 68) (i 23).toNatClampNeg (r 71) (r 72) (r 73) (i 24).toNatClampNeg p0 p1 (r4 75) x4_5.toNatClampNeg x4_5.toNatClampNeg (r4 6) ∧ gjA (-2) (r 66) (r 67) (r 68) (i 23).toNatClampNeg (r 71) (r 72) (r 73) (i 24).toNatClampNeg p0 p1 x4_5.toNatClampNeg (r 75) (r4 75) t09 (r4 7)) ∧ x4_5.toInt ≤ (i 23).toInt) → va_P D vwCl (xW cy a i r4 q (a 20) (a 12) ++ (hW cy a i r4 ++ tl)) H → va_D A (xW cy a i r4 q (a 20) (a 12) ++ (hW cy a i r4 ++ tl)) → va_S A s.heap H locs → lv_has ls 7 [(5, .int x4_5), (4, .ref (a 65)), (0, .ref (a 5)), (1, .ref (a 61)), (2, .int p0), (3, .int p1)] → W p l e ({ frames := 3, cells := 0, slots := 0, locals := 72 } : Room) s m ([.ref (a 5), .ref (a 61), .int p0, .int p1] : List Value).toArray below meth c H locs 0 0 Q (F0 m 16 ls []) := by
    intro n
    induction n with
    | zero =>
      intro x4_5 r4 H locs ls hm4 hf4_0 hRr hEr hx4 hP hD hS hl
      exact absurd hm4 (by omega)
    | succ n ih4 =>
      intro x4_5 r4 H locs ls hm4 hf4_0 hRr hEr hx4 hP hD hS hl
      refine lv_iload hx hb dX4_join_16 (lv_at hl 0 rfl) ?_
      refine lv_aload hx hb dX4_join_18 (lv_at hl 1 rfl) ?_
      refine va_get (D := D) (ci := 10) (v := .int (i 23)) (C := RX10) (T := TX10) (N := 5) hx hb hT iX10 hown hK hP 65 rfl rfl 0 (by decide) (hT _ t_409) (fun _ h9 => h9) rfl dX4_join_20 ?_
      have hg_5 : 0 ≤ (i 23).toInt ∧ (i 23).toInt ≤ 20 := hRi 23
      refine lv_icmp_ge (tgt := 103) hx hb dX4_join_23 (by decide) (fun c_6 => ?_) (fun c_6 => ?_)
      · have c_6 : (i 23).toInt ≤ x4_5.toInt := b_le c_6
        subst hQ
        have hk : x4_5.toNatClampNeg = (i 23).toNatClampNeg := by show x4_5.toInt.toNat = (i 23).toInt.toNat; omega
        have hA8 := hx4.1.2
        rw [hk] at hA8
        exact W.vret hx hb hr (fun t ht hW => ⟨⟨r4, rfl, ⟨hRr, hEr, ⟨hA8.1, hA8.2.1⟩⟩, by rw [ht]; exact hP, va_K.moved hW.alike hK, hD⟩, hS.F ht⟩) hS.2.2 dX4_join_103
      · have c_6 : x4_5.toInt < (i 23).toInt := b_nle c_6
        refine lv_aload hx hb dX4_join_26 (lv_at hl 1 rfl) ?_
        refine lv_iload hx hb dX4_join_28 (lv_at hl 0 rfl) ?_
        refine lv_iload_n hx hb dX4_join_30 rfl (lv_at hl 4 rfl) ?_
        refine lv_iload_n hx hb dX4_join_31 rfl (lv_at hl 5 rfl) ?_
        refine vp_callSi (W.runV (As := [.int x4_5, .int p0, .int p1]) (rest := []) ⟨hx, hb, hml, hown, hT⟩ (c_X10_isOf_r659 l D cy a i r4 q tl x4_5 p0 p1 hRi hRr (by first | omega | decide)) (cwV 3 hT (gV t_412 t_414 t_415 t_416 t_413) rfl rfl rfl (by decide +kernel) ⟨Nat.le_of_ble_eq_true rfl, Nat.le_of_ble_eq_true rfl⟩) (rP_v hP hK (va_recv hK hP (ci := 10) (q0 := 65) rfl rfl)) rfl rfl hl.1 rfl (lv_room (Nat.le_of_ble_eq_true rfl)) dX4_join_32 ⟨Nat.le_of_ble_eq_true rfl, Nat.le_of_ble_eq_true rfl⟩) (fun r_7 hr_7 => ?_)
        have hr_7 : BR r_7 (r4 66 x4_5.toNatClampNeg = p0 ∧ r4 67 x4_5.toNatClampNeg = p1) 1 0 := hr_7
        rcases hr_7 with ⟨rfl, h_8⟩ | ⟨rfl, h_8⟩
        · skip
          refine lv_if_eq (tgt := 97) hx hb dX4_join_35 (by decide) (fun c_9 => absurd c_9 (by decide)) (fun c_9 => ?_)
          have hg9 : (r 66 (x4_5.toNatClampNeg) = p0 ∧ r 67 (x4_5.toNatClampNeg) = p1) := by have h9 := h_8; rw [hEr 66 (by decide), hEr 67 (by decide)] at h9; exact h9
          refine lv_aload_n hx hb dX4_join_38 rfl (lv_at hl 2 rfl) ?_
          refine lv_aload_n hx hb dX4_join_39 rfl (lv_at hl 3 rfl) ?_
          refine lv_iload hx hb dX4_join_40 (lv_at hl 0 rfl) ?_
          refine vp_callSi (W.runV (As := [.ref (a 61), .int x4_5]) (rest := []) ⟨hx, hb, hml, hown, hT⟩ (c_X4_lowestFit9 l D cy a i r4 q tl x4_5 hRi hRr (by first | omega | decide)) (cwV 2 hT (gV t_433 t_434 t_435 t_436 t_419) rfl rfl rfl (by decide +kernel) ⟨Nat.le_of_ble_eq_true rfl, Nat.le_of_ble_eq_true rfl⟩) (rP_v hP hK (va_recv hK hP (ci := 4) (q0 := 5) rfl rfl)) rfl rfl hl.1 rfl (lv_room (Nat.le_of_ble_eq_true rfl)) dX4_join_42 ⟨Nat.le_of_ble_eq_true rfl, Nat.le_of_ble_eq_true rfl⟩) (fun r_10 hr_10 => ?_)
          have hin : x4_5.toNatClampNeg < (i 23).toNatClampNeg := by show x4_5.toInt.toNat < (i 23).toInt.toNat; omega
          have hlo : gjLo (r4 6) (r4 7) (r4 66) (r4 67) (r4 68) (r4 71) (r4 72) (r4 73) (i 24).toNatClampNeg x4_5.toNatClampNeg r_10.toInt := hr_10
          have hl66 : r4 66 = r 66 := hEr 66 (by decide)
          have hl67 : r4 67 = r 67 := hEr 67 (by decide)
          have hl68 : r4 68 = r 68 := hEr 68 (by decide)
          have hl71 : r4 71 = r 71 := hEr 71 (by decide)
          have hl72 : r4 72 = r 72 := hEr 72 (by decide)
          have hl73 : r4 73 = r 73 := hEr 73 (by decide)
          rw [hl66, hl67, hl68, hl71, hl72, hl73] at hlo
          have hT9 : ∀ j : Nat, j < (i 24).toNatClampNeg → ((r4 7 j).toInt = 0 ↔ ∀ q, q < x4_5.toNatClampNeg → r 66 q = p0 → r 67 q = p1 → (r4 75 q).toInt ≠ (j : Int)) := fun j hj => by rw [hx4.1.2.2.2 j (by omega)]; exact ⟨fun h9 => h9.2, fun h9 => ⟨hz7 j hj, h9⟩⟩
          have ho9 := gjLo_O hlo (fun j hj => gjCan_iff hx4.1.1 hT9 hg9.1 hg9.2 hs1 hs2 hin hj)
          have hzr : -2 ≤ r_10.toInt ∧ r_10.toInt ≤ 19 := by rcases ho9 with ⟨j9, j1, j2, _⟩ | ⟨z1, _⟩ <;> omega
          clear hlo
          refine lv_istore (lv' := [(6, .int r_10), (5, .int x4_5), (4, .ref (a 65)), (0, .ref (a 5)), (1, .ref (a 61)), (2, .int p0), (3, .int p1)]) hx hb dX4_join_45 hl (by decide) rfl (fun ls hl => ?_)
          refine lv_aload_n hx hb dX4_join_47 rfl (lv_at hl 4 rfl) ?_
          refine va_get (D := D) (ci := 3) (v := .ref (a 75)) (C := RX3) (T := TX3) (N := 12) hx hb hT iX3 hown hK hP 61 rfl rfl 11 (by decide) (hT _ t_437) (fun _ h9 => h9) rfl dX4_join_48 ?_
          refine lv_iload hx hb dX4_join_51 (lv_at hl 1 rfl) ?_
          refine lv_iload hx hb dX4_join_53 (lv_at hl 0 rfl) ?_
          refine va_iast hx hb hK hP hD hS 75 0 rfl rfl (vp_inI (by omega) (by omega)) dX4_join_55 (fun H locs hP hD hS => ?_)
          rw [yS75] at hP hD
          have hRr : yRr (va_up r4 75 (upd (r4 75) x4_5.toNatClampNeg r_10)) := Yr_upd hRr 75 (x4_5.toNatClampNeg) r_10 ⟨by show (-2 : Int) ≤ r_10.toInt; omega, by show r_10.toInt ≤ (19 : Int); omega⟩
          have hEr : mEr [6, 7, 75] _ (va_up r4 75 (upd (r4 75) x4_5.toNatClampNeg r_10)) := Er_up hEr 75 _ (by decide)
          refine lv_aload_n hx hb dX4_join_56 rfl (lv_at hl 3 rfl) ?_
          refine lv_aload hx hb dX4_join_57 (lv_at hl 2 rfl) ?_
          refine va_get (D := D) (ci := 10) (v := .ref (a 68)) (C := RX10) (T := TX10) (N := 5) hx hb hT iX10 hown hK hP 65 rfl rfl 3 (by decide) (hT _ t_417) (fun _ h9 => h9) rfl dX4_join_59 ?_
          refine lv_iload hx hb dX4_join_62 (lv_at hl 1 rfl) ?_
          refine va_iald hx hb hK hP 68 0 rfl rfl (vp_inI (by omega) (by omega)) dX4_join_64 ?_
          refine lv_topi (fun v_11 ev_11 => ?_)
          have hgv_11 : 0 ≤ v_11.toInt ∧ v_11.toInt ≤ 9 := by rw [ev_11]; exact hRr 68 _
          have hs64 : v_11 = r 68 (x4_5.toNatClampNeg) := by rw [ev_11]; exact congrFun (hEr 68 (by decide)) _
          refine lv_iconst (v := (-1)) hx hb dX4_join_65 (by decide) ?_
          have hF_12 := rF hD hS hA
          refine va_callv (va_runV (As := [.int v_11, .int (-1)]) (rest := []) ⟨hx, hb, hml, hown, hT⟩ (c_X4_change9 l D cy a i (va_up r4 75 (upd (r4 75) x4_5.toNatClampNeg r_10)) q (hW cy a i (va_up r4 75 (upd (r4 75) x4_5.toNatClampNeg r_10)) ++ tl) v_11 (-1) _ hRi hRr) (cwV 2 hT (gV t_418 t_420 t_421 t_422 t_419) rfl rfl rfl (by decide +kernel) ⟨Nat.le_of_ble_eq_true rfl, Nat.le_of_ble_eq_true rfl⟩) (rQ_v hP hK hD (va_recv hK hP (ci := 4) (q0 := 5) rfl rfl)) rfl rfl hl.1 rfl (lv_room (Nat.le_of_ble_eq_true rfl)) dX4_join_66 ⟨Nat.le_of_ble_eq_true rfl, Nat.le_of_ble_eq_true rfl⟩) hS (fun q _ h => hF_12 q h) hF_12 (fun u_14 t H1 locs ht hvm hr_13 hB hz1 hk1 hS => ?_)
          obtain ⟨r14, rfl⟩ : ∃ z, z = u_14 := ⟨_, rfl⟩
          obtain ⟨hP, hK1, hD1⟩ := hB
          rw [ht] at hP
          have hD := hD1.weaken (fun k q _ h => hF_12 q.1 h)
          obtain ⟨hRr, hE2, hr_13⟩ := hr_13
          have hRr : yRr r14 := hRr
          have hE2 : mEr [6] (va_up r4 75 (upd (r4 75) x4_5.toNatClampNeg r_10)) r14 := hE2
          have hwe : hW cy a i r14 = hW cy a i (va_up r4 75 (upd (r4 75) x4_5.toNatClampNeg r_10)) := hW_eqE (Ei_rf (T := [])) hE2 rfl rfl
          have hP : va_P D vwCl (xW cy a i r14 q (a 20) (a 12) ++ (hW cy a i r14 ++ tl)) H1 := by rw [hwe]; exact hP
          have hD : va_D A (xW cy a i r14 q (a 20) (a 12) ++ (hW cy a i r14 ++ tl)) := by rw [hwe]; exact hD
          have hEr : mEr [6, 7, 75] _ r14 := Er_tr hEr hE2 (by decide)
          have hua : gjUp ((va_up r4 75 (upd (r4 75) x4_5.toNatClampNeg r_10)) 6) (r14 6) v_11 ((-1) : Int32) := hr_13
          have hua7 : r14 7 = (va_up r4 75 (upd (r4 75) x4_5.toNatClampNeg r_10)) 7 := hE2 7 (by decide)
          have hua75 : r14 75 = (va_up r4 75 (upd (r4 75) x4_5.toNatClampNeg r_10)) 75 := hE2 75 (by decide)
          refine lv_iload hx hb dX4_join_69 (lv_at hl 0 rfl) ?_
          refine lv_if_lt (tgt := 97) hx hb dX4_join_71 (by decide) (fun c_15 => ?_) (fun c_15 => ?_)
          · have c_15 : r_10.toInt < 0 := b_lt c_15
            obtain ⟨x_16, ex_16⟩ : ∃ y : Int32, y = x4_5 + 1 := ⟨_, rfl⟩
            refine lv_iinc (v := x_16) (lv' := [(5, .int x_16), (6, .int r_10), (4, .ref (a 65)), (0, .ref (a 5)), (1, .ref (a 61)), (2, .int p0), (3, .int p1)]) hx hb dX4_join_97 hl (k := 1) rfl (by rw [ex_16]; rfl) (by decide) rfl (fun ls hl => ?_)
            have hx_16 : x_16.toInt = x4_5.toInt + 1 := by rw [ex_16]; have := b_rg x4_5; exact i_add (a := x4_5.toInt) (b := 1) rfl rfl (by omega) (by omega)
            refine lv_goto (tgt := 16) hx hb dX4_join_100 (by decide) ?_
            have hk : x_16.toNatClampNeg = x4_5.toNatClampNeg + 1 := by show x_16.toInt.toNat = x4_5.toInt.toNat + 1; omega
            have hJ2 : r14 75 = upd (r4 75) (x4_5.toNatClampNeg) r_10 := hua75
            have eJ : ∀ k, k < x4_5.toNatClampNeg → (r14 75 k).toInt = (r4 75 k).toInt := fun k hk2 => by rw [hJ2]; unfold upd; rw [if_neg (by omega)]
            have eJx : (r14 75 (x4_5.toNatClampNeg)).toInt = r_10.toInt := by rw [hJ2, upd_s]
            have hLa := gjLk_f hx4.1.1 hg9.1 hg9.2 hin hs1 hnf hnl hs64 hua (by decide)
            have hnj : ∀ j : Nat, j < (i 24).toNatClampNeg → (r14 75 (x4_5.toNatClampNeg)).toInt ≠ (j : Int) := fun j _ h9 => by omega
            have hLb : gjLk (r 66) (r 67) (r 68) (i 23).toNatClampNeg (r 71) (r 72) (r 73) (i 24).toNatClampNeg p0 p1 (r14 75) x_16.toNatClampNeg x_16.toNatClampNeg (r14 6) := by rw [hk]; exact gjLk_u (gjLk_J hLa eJ) hnj
            have hAb := gjA_y (J2 := r14 75) (t2 := r14 7) hx4.1.2 hg9.1 hg9.2 hk hJ2 ho9 (fun k _ => by rw [hua7]; exact ⟨fun h9 => ⟨h9, by omega⟩, fun h9 => h9.1⟩)
            exact ih4 x_16 r14 _ _ _ (by first | omega | (simp only [Int.toNat]; omega)) (by first | omega | decide) hRr hEr ⟨⟨hLb, hAb⟩, by omega⟩ hP hD hS (lv_sub hl [0, 2, 3, 4, 5, 6] rfl)
          · have c_15 : 0 ≤ r_10.toInt := b_nlt c_15
            refine lv_aload_n hx hb dX4_join_74 rfl (lv_at hl 3 rfl) ?_
            refine va_get (D := D) (ci := 4) (v := .ref (a 7)) (C := RX4) (T := TX4) (N := 2) hx hb hT iX4 hown hK hP 5 rfl rfl 1 (by decide) (hT _ t_411) (fun _ h9 => h9) rfl dX4_join_75 ?_
            refine lv_iload hx hb dX4_join_78 (lv_at hl 0 rfl) ?_
            refine lv_iconst (v := 1) hx hb dX4_join_80 (by decide) ?_
            refine va_zast hx hb hK hP hD hS 7 2 rfl rfl (vp_inI (by omega) (by omega)) dX4_join_81 (fun H locs hP hD hS => ?_)
            rw [yS7] at hP hD
            have hRr : yRr (va_up r14 7 (upd (r14 7) r_10.toNatClampNeg (vp_nar .boolean 1))) := Yr_upd hRr 7 (r_10.toNatClampNeg) (vp_nar .boolean 1) (b_rg _)
            have hEr : mEr [6, 7, 75] _ (va_up r14 7 (upd (r14 7) r_10.toNatClampNeg (vp_nar .boolean 1))) := Er_up hEr 7 _ (by decide)
            refine lv_aload_n hx hb dX4_join_82 rfl (lv_at hl 3 rfl) ?_
            refine lv_aload_n hx hb dX4_join_83 rfl (lv_at hl 4 rfl) ?_
            refine va_get (D := D) (ci := 3) (v := .ref (a 70)) (C := RX3) (T := TX3) (N := 12) hx hb hT iX3 hown hK hP 61 rfl rfl 10 (by decide) (hT _ t_410) (fun _ h9 => h9) rfl dX4_join_84 ?_
            refine va_get (D := D) (ci := 10) (v := .ref (a 73)) (C := RX10) (T := TX10) (N := 5) hx hb hT iX10 hown hK hP 70 rfl rfl 3 (by decide) (hT _ t_417) (fun _ h9 => h9) rfl dX4_join_87 ?_
            refine lv_iload hx hb dX4_join_90 (lv_at hl 0 rfl) ?_
            refine va_iald hx hb hK hP 73 0 rfl rfl (vp_inI (by omega) (by omega)) dX4_join_92 ?_
            refine lv_topi (fun v_17 ev_17 => ?_)
            have hgv_17 : 0 ≤ v_17.toInt ∧ v_17.toInt ≤ 9 := by rw [ev_17]; exact hRr 73 _
            have hs92 : v_17 = r 73 (r_10.toNatClampNeg) := by rw [ev_17]; exact congrFun (hEr 73 (by decide)) _
            refine lv_iconst (v := 1) hx hb dX4_join_93 (by decide) ?_
            have hF_18 := rF hD hS hA
            refine va_callv (va_runV (As := [.int v_17, .int 1]) (rest := []) ⟨hx, hb, hml, hown, hT⟩ (c_X4_change9 l D cy a i (va_up r14 7 (upd (r14 7) r_10.toNatClampNeg (vp_nar .boolean 1))) q (hW cy a i (va_up r14 7 (upd (r14 7) r_10.toNatClampNeg (vp_nar .boolean 1))) ++ tl) v_17 1 _ hRi hRr) (cwV 2 hT (gV t_418 t_420 t_421 t_422 t_419) rfl rfl rfl (by decide +kernel) ⟨Nat.le_of_ble_eq_true rfl, Nat.le_of_ble_eq_true rfl⟩) (rQ_v hP hK hD (va_recv hK hP (ci := 4) (q0 := 5) rfl rfl)) rfl rfl hl.1 rfl (lv_room (Nat.le_of_ble_eq_true rfl)) dX4_join_94 ⟨Nat.le_of_ble_eq_true rfl, Nat.le_of_ble_eq_true rfl⟩) hS (fun q _ h => hF_18 q h) hF_18 (fun u_20 t H1 locs ht hvm hr_19 hB hz1 hk1 hS => ?_)
            obtain ⟨r20, rfl⟩ : ∃ z, z = u_20 := ⟨_, rfl⟩
            obtain ⟨hP, hK1, hD1⟩ := hB
            rw [ht] at hP
            have hD := hD1.weaken (fun k q _ h => hF_18 q.1 h)
            obtain ⟨hRr, hE2, hr_19⟩ := hr_19
            have hRr : yRr r20 := hRr
            have hE2 : mEr [6] (va_up r14 7 (upd (r14 7) r_10.toNatClampNeg (vp_nar .boolean 1))) r20 := hE2
            have hwe : hW cy a i r20 = hW cy a i (va_up r14 7 (upd (r14 7) r_10.toNatClampNeg (vp_nar .boolean 1))) := hW_eqE (Ei_rf (T := [])) hE2 rfl rfl
            have hP : va_P D vwCl (xW cy a i r20 q (a 20) (a 12) ++ (hW cy a i r20 ++ tl)) H1 := by rw [hwe]; exact hP
            have hD : va_D A (xW cy a i r20 q (a 20) (a 12) ++ (hW cy a i r20 ++ tl)) := by rw [hwe]; exact hD
            have hEr : mEr [6, 7, 75] _ r20 := Er_tr hEr hE2 (by decide)
            have hub : gjUp ((va_up r14 7 (upd (r14 7) r_10.toNatClampNeg (vp_nar .boolean 1))) 6) (r20 6) v_17 (1 : Int32) := hr_19
            have hub7 : r20 7 = (va_up r14 7 (upd (r14 7) r_10.toNatClampNeg (vp_nar .boolean 1))) 7 := hE2 7 (by decide)
            have hub75 : r20 75 = (va_up r14 7 (upd (r14 7) r_10.toNatClampNeg (vp_nar .boolean 1))) 75 := hE2 75 (by decide)
            obtain ⟨x_21, ex_21⟩ : ∃ y : Int32, y = x4_5 + 1 := ⟨_, rfl⟩
            refine lv_iinc (v := x_21) (lv' := [(5, .int x_21), (6, .int r_10), (4, .ref (a 65)), (0, .ref (a 5)), (1, .ref (a 61)), (2, .int p0), (3, .int p1)]) hx hb dX4_join_97 hl (k := 1) rfl (by rw [ex_21]; rfl) (by decide) rfl (fun ls hl => ?_)
            have hx_21 : x_21.toInt = x4_5.toInt + 1 := by rw [ex_21]; have := b_rg x4_5; exact i_add (a := x4_5.toInt) (b := 1) rfl rfl (by omega) (by omega)
            refine lv_goto (tgt := 16) hx hb dX4_join_100 (by decide) ?_
            have hk : x_21.toNatClampNeg = x4_5.toNatClampNeg + 1 := by show x_21.toInt.toNat = x4_5.toInt.toNat + 1; omega
            have hJ2 : r20 75 = upd (r4 75) (x4_5.toNatClampNeg) r_10 := hub75.trans hua75
            have eJ : ∀ k, k < x4_5.toNatClampNeg → (r20 75 k).toInt = (r4 75 k).toInt := fun k hk2 => by rw [hJ2]; unfold upd; rw [if_neg (by omega)]
            have eJx : (r20 75 (x4_5.toNatClampNeg)).toInt = r_10.toInt := by rw [hJ2, upd_s]
            have hLa := gjLk_f hx4.1.1 hg9.1 hg9.2 hin hs1 hnf hnl hs64 hua (by decide)
            have hjz : ((r_10.toNatClampNeg : Nat) : Int) = r_10.toInt := by show ((r_10.toInt.toNat : Nat) : Int) = _; omega
            have hcd : gjCd (r 66) (r 67) (r 68) (i 23).toNatClampNeg (r 71) (r 72) (r 73) (i 24).toNatClampNeg (r4 75) (x4_5.toNatClampNeg) (r_10.toNatClampNeg) ∧ r_10.toNatClampNeg < (i 24).toNatClampNeg := by
              rcases ho9 with ⟨j9, j1, j2, j3, _⟩ | ⟨z1, _⟩
              · have e9 : j9 = r_10.toNatClampNeg := by omega
                rw [e9] at j3 j1; exact ⟨j3, j1⟩
              · omega
            have hQ9 : gjQL (r 66) (r 67) (r 71) (r 72) p0 p1 (r20 75) (x4_5.toNatClampNeg) (r_10.toNatClampNeg) = true := by have h9 := hcd.1.1; rw [hg9.1, hg9.2] at h9; unfold gjQL at *; rw [gjU_J eJ]; exact h9
            have hLb : gjLk (r 66) (r 67) (r 68) (i 23).toNatClampNeg (r 71) (r 72) (r 73) (i 24).toNatClampNeg p0 p1 (r20 75) x_21.toNatClampNeg x_21.toNatClampNeg (r20 6) := by rw [hk]; exact gjLk_l (gjLk_J hLa eJ) hg9.1 hg9.2 hcd.2 hQ9 (eJx.trans hjz.symm) hs2 hnf hnl hs92 hub (by decide)
            have e7 : r20 7 = upd (r4 7) (r_10.toNatClampNeg) (vp_nar .boolean 1) := hub7.trans (by show upd (r14 7) (r_10.toNatClampNeg) (vp_nar .boolean 1) = _; rw [hua7]; rfl)
            have hAb := gjA_y (J2 := r20 75) (t2 := r20 7) hx4.1.2 hg9.1 hg9.2 hk hJ2 ho9 (fun k _ => by rw [e7]; exact gjtk hjz.symm)
            exact ih4 x_21 r20 _ _ _ (by first | omega | (simp only [Int.toNat]; omega)) (by first | omega | decide) hRr hEr ⟨⟨hLb, hAb⟩, by omega⟩ hP hD hS (lv_sub hl [0, 2, 3, 4, 5, 6] rfl)
        · skip
          refine lv_if_eq (tgt := 97) hx hb dX4_join_35 (by decide) (fun c_22 => ?_) (fun c_22 => absurd (by decide) c_22)
          have hg9 : ¬ (r 66 (x4_5.toNatClampNeg) = p0 ∧ r 67 (x4_5.toNatClampNeg) = p1) := by have h9 := h_8; rw [hEr 66 (by decide), hEr 67 (by decide)] at h9; exact h9
          obtain ⟨x_23, ex_23⟩ : ∃ y : Int32, y = x4_5 + 1 := ⟨_, rfl⟩
          refine lv_iinc (v := x_23) (lv' := [(5, .int x_23), (4, .ref (a 65)), (0, .ref (a 5)), (1, .ref (a 61)), (2, .int p0), (3, .int p1)]) hx hb dX4_join_97 hl (k := 0) rfl (by rw [ex_23]; rfl) (by decide) rfl (fun ls hl => ?_)
          have hx_23 : x_23.toInt = x4_5.toInt + 1 := by rw [ex_23]; have := b_rg x4_5; exact i_add (a := x4_5.toInt) (b := 1) rfl rfl (by omega) (by omega)
          refine lv_goto (tgt := 16) hx hb dX4_join_100 (by decide) ?_
          have hk : x_23.toNatClampNeg = x4_5.toNatClampNeg + 1 := by show x_23.toInt.toNat = x4_5.toInt.toNat + 1; omega
          exact ih4 x_23 r4 _ _ _ (by first | omega | (simp only [Int.toNat]; omega)) (by first | omega | decide) hRr hEr ⟨⟨gjLk_n hx4.1.1 hg9 hk, gjA_n hx4.1.2 hg9 hk⟩, by omega⟩ hP hD hS (lv_sub hl [0, 1, 2, 3, 4, 5] rfl)
  have hL0 : gjLk (r 66) (r 67) (r 68) (i 23).toNatClampNeg (r 71) (r 72) (r 73) (i 24).toNatClampNeg p0 p1 (r3 75) 0 0 (r3 6) := by rw [hJ75]; exact hB9.1
  have hA0 : gjA (-2) (r 66) (r 67) (r 68) (i 23).toNatClampNeg (r 71) (r 72) (r 73) (i 24).toNatClampNeg p0 p1 0 (r 75) (r3 75) t09 (r3 7) := by rw [hJ75, ← ht09]; exact gjA_0 (fun k hk => absurd hk (Nat.not_lt_zero k))
  exact loop_4 _ 0 r3 _ _ _ (Nat.lt_succ_self _) (by first | omega | decide) hRr hEr ⟨⟨hL0, hA0⟩, by have h9 : (0 : Int32).toInt = 0 := rfl; omega⟩ hP hD hS hl
set_option maxHeartbeats 4000000 in
set_option maxRecDepth 100000 in
theorem c_X11_listed8 (l : Launch) (D : va_G) (cy : Nat → ClassId) (a : Nat → Nat) (i : Nat → Int32) (r : Nat → Nat → Int32) (q : Nat → Option Nat) (tl : va_W) (p0 p1 p2 : Int32) (sz : Nat) (hRi : yRi i) (hRr : yRr r) (hs1 : gjSt (r 68) (i 23).toNatClampNeg) (hs2 : gjSt (r 73) (i 24).toNatClampNeg) : Met l yX11_listed (Cond.code yX11_listed cX11_listed 5 (some .int) :: gT) { frames := 4, cells := 0, slots := 0, locals := 98 } (va_Pc [.ref (a 0), .ref (a 61), .int p0, .int p1, .int p2] (rQ D cy (xW cy a i r q (a 20) (a 12) ++ (hW cy a i r ++ tl)) sz)) (va_Qi (fun (z : Int32) (u : Nat → Nat → Int32) => yRr u ∧ mEr [6, 7, 75] r u ∧ (z = p0 ∧ (p0.toInt ≠ -1 → (∀ k, k < (i 23).toNatClampNeg → r 66 k = p1 → r 67 k = p2 → gjO (r 66) (r 67) (r 68) (i 23).toNatClampNeg (r 71) (r 72) (r 73) (i 24).toNatClampNeg ((u) 75) (-2) k ((u) 75 k).toInt) ∧ ∀ k, ¬ (k < (i 23).toNatClampNeg ∧ r 66 k = p1 ∧ r 67 k = p2) → (u) 75 k = r 75 k) ∧ (p0.toInt = -1 → u 75 = r 75))) (fun (u : Nat → Nat → Int32) t => va_P D vwCl (xW cy a i u q (a 20) (a 12) ++ (hW cy a i u ++ tl)) t.heap ∧ va_K D vwCl (vT cy) t ∧ va_D (va_A (xW cy a i r q (a 20) (a 12) ++ (hW cy a i r ++ tl)) sz) (xW cy a i u q (a 20) (a 12) ++ (hW cy a i u ++ tl))) (va_A (xW cy a i r q (a 20) (a 12) ++ (hW cy a i r ++ tl)) sz)) 0 0 (va_A (xW cy a i r q (a 20) (a 12) ++ (hW cy a i r ++ tl)) sz) := by
  refine Met.ofQ (cc := cX11_listed) (maxL := 5) (ret := (some .int)) (by decide) rfl ?_
  intro p e s m args below meth c s₁ B hml hv Q hQ
  obtain ⟨rfl, hsz, hP, hK, hD0⟩ := hv
  have hx := B.exec
  have hb := B.bytes
  have hr := B.returns
  have hlocks := B.notSynchronized
  have hT : ∀ w ∈ gT, w.before _ s = true := fun w h => atoms_spec (ws := (Cond.code yX11_listed cX11_listed 5 (some .int) :: gT)) B.pre w (List.mem_cons_of_mem _ h)
  have hown : s.vm.findClass RX11 = some m.cls := findClass_of_methodNamed B.named
  subst hsz
  have hD := hD0.self (sz := s.heap.size)
  generalize hAe : va_A (xW cy a i r q (a 20) (a 12) ++ (hW cy a i r ++ tl)) s.heap.size = A at hD hQ
  have hA : ∀ q : Nat, s.heap.size ≤ q → A q := fun q h => by rw [← hAe]; exact Or.inr h
  have hS : va_S A s.heap s.heap [] := va_S.rf
  have hl := lv_entry ([.ref (a 0), .ref (a 61), .int p0, .int p1, .int p2]) (n := 5) (Nat.le_of_ble_eq_true rfl)
  rw [lg_entry_eq]
  generalize (lg_sl ([.ref (a 0), .ref (a 61), .int p0, .int p1, .int p2]) ++ List.replicate (5 - (lg_sl ([.ref (a 0), .ref (a 61), .int p0, .int p1, .int p2])).length) Slot.unset).toArray = ls at hl ⊢
  have hl : lv_has ls 5 [(0, .ref (a 0)), (1, .ref (a 61)), (2, .int p0), (3, .int p1), (4, .int p2)] := hl
  have hEi : mEi [] i i := Ei_rf
  have hEr : mEr [6, 7, 75] r r := Er_rf
  refine lv_iload_n hx hb dX11_listed_0 rfl (lv_at hl 2 rfl) ?_
  refine lv_iconst (v := (-1)) hx hb dX11_listed_1 (by decide) ?_
  refine lv_icmp_eq (tgt := 16) hx hb dX11_listed_2 (by decide) (fun c_1 => ?_) (fun c_1 => ?_)
  · have c_1 : p0.toInt = (-1) := b_eq c_1
    refine lv_iload_n hx hb dX11_listed_16 rfl (lv_at hl 2 rfl) ?_
    subst hQ
    exact W.iret (v := p0) hx hb hr (fun t ht hW => ⟨⟨_, r, rfl, ⟨hRr, hEr, ⟨rfl, fun h9 => absurd (by omega) h9, fun _ => rfl⟩⟩, by rw [ht]; exact hP, va_K.moved hW.alike hK, hD⟩, hS.F ht⟩) hS.2.2 dX11_listed_17
  · have c_1 : p0.toInt ≠ (-1) := b_ne c_1
    refine lv_aload_n hx hb dX11_listed_5 rfl (lv_at hl 0 rfl) ?_
    refine va_get (D := D) (ci := 11) (v := .ref (a 5)) (C := RX11) (T := TX11) (N := 14) hx hb hT iX11 hown hK hP 0 rfl rfl 3 (by decide) (hT _ t_438) (fun _ h9 => h9) rfl dX11_listed_6 ?_
    refine lv_aload_n hx hb dX11_listed_9 rfl (lv_at hl 1 rfl) ?_
    refine lv_iload_n hx hb dX11_listed_10 rfl (lv_at hl 3 rfl) ?_
    refine lv_iload hx hb dX11_listed_11 (lv_at hl 4 rfl) ?_
    have hF_2 := rF hD hS hA
    refine va_callv (va_runV (As := [.ref (a 61), .int p1, .int p2]) (rest := []) ⟨hx, hb, hml, hown, hT⟩ (c_X4_join9 l D cy a i r q tl p1 p2 _ hRi hRr hs1 hs2) (cwV 3 hT (gV t_439 t_440 t_441 t_442 t_419) rfl rfl rfl (by decide +kernel) ⟨Nat.le_of_ble_eq_true rfl, Nat.le_of_ble_eq_true rfl⟩) (rQ_v hP hK hD (va_recv hK hP (ci := 4) (q0 := 5) rfl rfl)) rfl rfl hl.1 rfl (lv_room (Nat.le_of_ble_eq_true rfl)) dX11_listed_13 ⟨Nat.le_of_ble_eq_true rfl, Nat.le_of_ble_eq_true rfl⟩) hS (fun q _ h => hF_2 q h) hF_2 (fun u_4 t H1 locs ht hvm hr_3 hB hz1 hk1 hS => ?_)
    obtain ⟨r4, rfl⟩ : ∃ z, z = u_4 := ⟨_, rfl⟩
    obtain ⟨hP, hK1, hD1⟩ := hB
    rw [ht] at hP
    have hD := hD1.weaken (fun k q _ h => hF_2 q.1 h)
    obtain ⟨hRr, hE2, hr_3⟩ := hr_3
    have hRr : yRr r4 := hRr
    have hE2 : mEr [6, 7, 75] r r4 := hE2
    have hP : va_P D vwCl (xW cy a i r4 q (a 20) (a 12) ++ (hW cy a i r4 ++ tl)) H1 := hP
    have hD : va_D A (xW cy a i r4 q (a 20) (a 12) ++ (hW cy a i r4 ++ tl)) := hD
    have hEr : mEr [6, 7, 75] _ r4 := Er_tr hEr hE2 (by decide)
    have hJ9 : (∀ k, k < (i 23).toNatClampNeg → r 66 k = p1 → r 67 k = p2 → gjO (r 66) (r 67) (r 68) (i 23).toNatClampNeg (r 71) (r 72) (r 73) (i 24).toNatClampNeg (r4 75) (-2) k (r4 75 k).toInt) ∧ ∀ k, ¬ (k < (i 23).toNatClampNeg ∧ r 66 k = p1 ∧ r 67 k = p2) → r4 75 k = r 75 k := hr_3
    refine lv_iload_n hx hb dX11_listed_16 rfl (lv_at hl 2 rfl) ?_
    subst hQ
    exact W.iret (v := p0) hx hb hr (fun t ht hW => ⟨⟨_, r4, rfl, ⟨hRr, hEr, ⟨rfl, fun _ => hJ9, fun h9 => absurd h9 (by clear hJ9; omega)⟩⟩, by rw [ht]; exact hP, va_K.moved hW.alike hK, hD⟩, hS.F ht⟩) hS.2.2 dX11_listed_17
set_option maxHeartbeats 4000000 in
set_option maxRecDepth 100000 in
theorem c_X11_first.y8 (l : Launch) (D : va_G) (cy : Nat → ClassId) (a : Nat → Nat) (i : Nat → Int32) (r : Nat → Nat → Int32) (q : Nat → Option Nat) (tl : va_W) (p0 p1 p2 p3 p4 : Int32) (sz : Nat) (hRi : yRi i) (hRr : yRr r) (hh : 0 ≤ p0.toInt ∧ p0.toInt < (i 0).toInt) (hq : q p0.toNatClampNeg = some (a 61)) (hX9 : gjX i r) : Met l yX11_first (Cond.code yX11_first cX11_first 7 (some .int) :: gT) { frames := 5, cells := 0, slots := 0, locals := 122 } (va_Pc [.ref (a 0), .int p0, .int p1, .int p2, .int p3, .int p4] (rQ D cy (xW cy a i r q (a 20) (a 12) ++ (hW cy a i r ++ tl)) sz)) (va_Qi (fun (z : Int32) (u : (Nat → Int32) × (Nat → Nat → Int32)) => yRi u.1 ∧ yRr u.2 ∧ mEi [23] i u.1 ∧ mEr [6, 7, 66, 67, 68, 69, 75] r u.2 ∧ ((((((0 ≤ p1.toInt ∧ p1.toInt ≤ 9) ∧ (0 ≤ p2.toInt ∧ p2.toInt ≤ 7) ∧ (1 ≤ p3.toInt ∧ p3.toInt ≤ 9)) ∧ (0 ≤ p4.toInt ∧ p4.toInt ≤ 360) ∧ (i 23).toInt ≤ 19) → z.toInt = (i 23).toInt ∧ (u.1 23).toInt = (i 23).toInt + 1 ∧ u.2 66 = upd (r 66) (i 23).toNatClampNeg p1 ∧ u.2 67 = upd (r 67) (i 23).toNatClampNeg p2 ∧ u.2 68 = upd (r 68) (i 23).toNatClampNeg p3 ∧ u.2 69 = upd (r 69) (i 23).toNatClampNeg p4) ∧ (¬ (((0 ≤ p1.toInt ∧ p1.toInt ≤ 9) ∧ (0 ≤ p2.toInt ∧ p2.toInt ≤ 7) ∧ (1 ≤ p3.toInt ∧ p3.toInt ≤ 9)) ∧ (0 ≤ p4.toInt ∧ p4.toInt ≤ 360) ∧ (i 23).toInt ≤ 19) → z = -1 ∧ u.1 23 = i 23 ∧ u.2 66 = r 66 ∧ u.2 67 = r 67 ∧ u.2 68 = r 68 ∧ u.2 69 = r 69)) ∧ gjX u.1 u.2)) (fun (u : (Nat → Int32) × (Nat → Nat → Int32)) t => va_P D vwCl (xW cy a u.1 u.2 q (a 20) (a 12) ++ (hW cy a u.1 u.2 ++ tl)) t.heap ∧ va_K D vwCl (vT cy) t ∧ va_D (va_A (xW cy a i r q (a 20) (a 12) ++ (hW cy a i r ++ tl)) sz) (xW cy a u.1 u.2 q (a 20) (a 12) ++ (hW cy a u.1 u.2 ++ tl))) (va_A (xW cy a i r q (a 20) (a 12) ++ (hW cy a i r ++ tl)) sz)) 0 0 (va_A (xW cy a i r q (a 20) (a 12) ++ (hW cy a i r ++ tl)) sz) := by
  refine Met.ofQ (cc := cX11_first) (maxL := 7) (ret := (some .int)) (by decide) rfl ?_
  intro p e s m args below meth c s₁ B hml hv Q hQ
  obtain ⟨rfl, hsz, hP, hK, hD0⟩ := hv
  have hx := B.exec
  have hb := B.bytes
  have hr := B.returns
  have hlocks := B.notSynchronized
  have hT : ∀ w ∈ gT, w.before _ s = true := fun w h => atoms_spec (ws := (Cond.code yX11_first cX11_first 7 (some .int) :: gT)) B.pre w (List.mem_cons_of_mem _ h)
  have hown : s.vm.findClass RX11 = some m.cls := findClass_of_methodNamed B.named
  subst hsz
  have hD := hD0.self (sz := s.heap.size)
  generalize hAe : va_A (xW cy a i r q (a 20) (a 12) ++ (hW cy a i r ++ tl)) s.heap.size = A at hD hQ
  have hA : ∀ q : Nat, s.heap.size ≤ q → A q := fun q h => by rw [← hAe]; exact Or.inr h
  have hS : va_S A s.heap s.heap [] := va_S.rf
  have hl := lv_entry ([.ref (a 0), .int p0, .int p1, .int p2, .int p3, .int p4]) (n := 7) (Nat.le_of_ble_eq_true rfl)
  rw [lg_entry_eq]
  generalize (lg_sl ([.ref (a 0), .int p0, .int p1, .int p2, .int p3, .int p4]) ++ List.replicate (7 - (lg_sl ([.ref (a 0), .int p0, .int p1, .int p2, .int p3, .int p4])).length) Slot.unset).toArray = ls at hl ⊢
  have hl : lv_has ls 7 [(0, .ref (a 0)), (1, .int p0), (2, .int p1), (3, .int p2), (4, .int p3), (5, .int p4)] := hl
  have hEi : mEi [23] i i := Ei_rf
  have hEr : mEr [6, 7, 66, 67, 68, 69, 75] r r := Er_rf
  have hg0 : 0 ≤ (i 0).toInt ∧ (i 0).toInt ≤ 6 := hRi 0
  have hg23 : 0 ≤ (i 23).toInt ∧ (i 23).toInt ≤ 20 := hRi 23
  refine lv_aload_n hx hb dX11_first_0 rfl (lv_at hl 0 rfl) ?_
  refine lv_iload_n hx hb dX11_first_1 rfl (lv_at hl 1 rfl) ?_
  refine va_csq (W.runV (As := [.int p0]) (rest := []) ⟨hx, hb, hml, hown, hT⟩ (c_X11_homeAt l D cy a i r q (hW cy a i r ++ tl) p0 hRi hRr) (cwV 1 hT (gV t_443 t_444 t_445 t_446 t_2) rfl rfl rfl (by decide +kernel) ⟨Nat.le_of_ble_eq_true rfl, Nat.le_of_ble_eq_true rfl⟩) (rP_v hP hK (va_recv hK hP (ci := 11) (q0 := 0) rfl rfl)) rfl rfl hl.1 rfl (lv_room (Nat.le_of_ble_eq_true rfl)) dX11_first_2 ⟨Nat.le_of_ble_eq_true rfl, Nat.le_of_ble_eq_true rfl⟩) (fun r_1 hr_1 => ?_)
  obtain rfl : r_1 = some (a 61) := (hr_1.1 hh).trans hq
  refine W.eq (g2 := F0 m 5 ls [.ref (a 61)]) rfl ?_
  refine lv_astore (lv' := [(6, .ref (a 61)), (0, .ref (a 0)), (1, .int p0), (2, .int p1), (3, .int p2), (4, .int p3), (5, .int p4)]) hx hb dX11_first_5 hl (by decide) rfl (fun ls hl => ?_)
  refine lv_aload hx hb dX11_first_7 (lv_at hl 0 rfl) ?_
  refine lv_ifnull hx hb dX11_first_9 ?_
  refine lv_iload_n hx hb dX11_first_12 rfl (lv_at hl 3 rfl) ?_
  refine lv_iload_n hx hb dX11_first_13 rfl (lv_at hl 4 rfl) ?_
  refine lv_iload hx hb dX11_first_14 (lv_at hl 5 rfl) ?_
  refine vp_callSi (W.runS (As := [.int p1, .int p2, .int p3]) (rest := []) ⟨hx, hb, hml, hown, hT⟩ (c_X11_isThing l p1 p2 p3) (va_cwS 3 hT (gS t_450 t_451 t_452 t_2) rfl rfl rfl (by decide +kernel) ⟨Nat.le_of_ble_eq_true rfl, Nat.le_of_ble_eq_true rfl⟩) preT rfl rfl hl.1 rfl (lv_room (Nat.le_of_ble_eq_true rfl)) dX11_first_16 ⟨Nat.le_of_ble_eq_true rfl, Nat.le_of_ble_eq_true rfl⟩) (fun r_2 hr_2 => ?_)
  have hr_2 : BR r_2 ((0 ≤ p1.toInt ∧ p1.toInt ≤ 9) ∧ (0 ≤ p2.toInt ∧ p2.toInt ≤ 7) ∧ (1 ≤ p3.toInt ∧ p3.toInt ≤ 9)) 1 0 := hr_2
  rcases hr_2 with ⟨rfl, h_3⟩ | ⟨rfl, h_3⟩
  · skip
    refine lv_if_eq (tgt := 34) hx hb dX11_first_19 (by decide) (fun c_4 => absurd c_4 (by decide)) (fun c_4 => ?_)
    refine lv_iload hx hb dX11_first_22 (lv_at hl 6 rfl) ?_
    refine lv_iconst (v := 0) hx hb dX11_first_24 (by decide) ?_
    refine lv_sipush (v := 360) hx hb dX11_first_25 (by decide) ?_
    refine vp_callSi (W.runS (As := [.int p4, .int 0, .int 360]) (rest := []) ⟨hx, hb, hml, hown, hT⟩ (c_X11_within l p4 0 360) (va_cwS 3 hT (gS t_1 t_3 t_4 t_2) rfl rfl rfl (by decide +kernel) ⟨Nat.le_of_ble_eq_true rfl, Nat.le_of_ble_eq_true rfl⟩) preT rfl rfl hl.1 rfl (lv_room (Nat.le_of_ble_eq_true rfl)) dX11_first_28 ⟨Nat.le_of_ble_eq_true rfl, Nat.le_of_ble_eq_true rfl⟩) (fun r_5 hr_5 => ?_)
    have hr_5 : BR r_5 (0 ≤ p4.toInt ∧ p4.toInt ≤ 360) 1 0 := hr_5
    rcases hr_5 with ⟨rfl, h_6⟩ | ⟨rfl, h_6⟩
    · skip
      refine lv_if_ne (tgt := 36) hx hb dX11_first_31 (by decide) (fun c_7 => ?_) (fun c_7 => absurd c_7 (by decide))
      refine lv_aload_n hx hb dX11_first_36 rfl (lv_at hl 1 rfl) ?_
      refine lv_aload hx hb dX11_first_37 (lv_at hl 0 rfl) ?_
      refine lv_aload hx hb dX11_first_39 (lv_at hl 0 rfl) ?_
      refine va_get (D := D) (ci := 3) (v := .ref (a 65)) (C := RX3) (T := TX3) (N := 12) hx hb hT iX3 hown hK hP 61 rfl rfl 9 (by decide) (hT _ t_453) (fun _ h9 => h9) rfl dX11_first_41 ?_
      refine lv_iload_n hx hb dX11_first_44 rfl (lv_at hl 3 rfl) ?_
      refine lv_iload_n hx hb dX11_first_45 rfl (lv_at hl 4 rfl) ?_
      refine lv_iload hx hb dX11_first_46 (lv_at hl 5 rfl) ?_
      refine lv_iload hx hb dX11_first_48 (lv_at hl 6 rfl) ?_
      have hF_8 := rF hD hS hA
      refine va_calli (va_runV (As := [.int p1, .int p2, .int p3, .int p4]) (rest := [.ref (a 61), .ref (a 0)]) ⟨hx, hb, hml, hown, hT⟩ (c_X10_add_r659 l D cy a i r q tl p1 p2 p3 p4 _ hRi hRr (by first | omega | decide) (by first | omega | decide) (by first | omega | decide) (by first | omega | decide)) (cwV 4 hT (gV t_454 t_455 t_456 t_457 t_413) rfl rfl rfl (by decide +kernel) ⟨Nat.le_of_ble_eq_true rfl, Nat.le_of_ble_eq_true rfl⟩) (rQ_v hP hK hD (va_recv hK hP (ci := 10) (q0 := 65) rfl rfl)) rfl rfl hl.1 rfl (lv_room (Nat.le_of_ble_eq_true rfl)) dX11_first_50 ⟨Nat.le_of_ble_eq_true rfl, Nat.le_of_ble_eq_true rfl⟩) hS (fun q _ h => hF_8 q h) hF_8 (fun r_9 u_10 t H1 locs ht hvm hr_9 hB hz1 hk1 hS => ?_)
      obtain ⟨i10, r10⟩ := u_10
      obtain ⟨hP, hK1, hD1⟩ := hB
      rw [ht] at hP
      have hD := hD1.weaken (fun k q _ h => hF_8 q.1 h)
      obtain ⟨hRi, hRr, hE1, hE2, hr_9⟩ := hr_9
      have hRi : yRi i10 := hRi
      have hE1 : mEi [23] i i10 := hE1
      have hRr : yRr r10 := hRr
      have hE2 : mEr [66, 67, 68, 69] r r10 := hE2
      have hP : va_P D vwCl (xW cy a i10 r10 q (a 20) (a 12) ++ (hW cy a i10 r10 ++ tl)) H1 := hP
      have hD : va_D A (xW cy a i10 r10 q (a 20) (a 12) ++ (hW cy a i10 r10 ++ tl)) := hD
      have hEi : mEi [23] _ i10 := Ei_tr hEi hE1 (by decide)
      have hEr : mEr [6, 7, 66, 67, 68, 69, 75] _ r10 := Er_tr hEr hE2 (by decide)
      have hr_9 : (((i 23).toInt ≤ 19) → r_9.toInt = (i 23).toInt ∧ (i10 23).toInt = (i 23).toInt + 1 ∧ r10 66 = upd (r 66) (i 23).toNatClampNeg p1 ∧ r10 67 = upd (r 67) (i 23).toNatClampNeg p2 ∧ r10 68 = upd (r 68) (i 23).toNatClampNeg p3 ∧ r10 69 = upd (r 69) (i 23).toNatClampNeg p4) ∧ (¬ ((i 23).toInt ≤ 19) → r_9 = -1 ∧ i10 23 = i 23 ∧ mEr [] r r10) := hr_9
      have ho9 : i10 24 = i 24 := hE1 24 (by decide)
      have hq9 : r10 73 = r 73 := hE2 73 (by decide)
      have hE0 := hE2
      have hst9 : gjSt (r10 68) (i10 23).toNatClampNeg ∧ gjSt (r10 73) (i10 24).toNatClampNeg := by
        by_cases hc9 : (i 23).toInt ≤ 19
        · obtain ⟨k1, k2, k3, k4, k5, k6⟩ := hr_9.1 hc9
          have hN : (i10 23).toNatClampNeg = (i 23).toNatClampNeg + 1 := by show (i10 23).toInt.toNat = (i 23).toInt.toNat + 1; omega
          rw [hN, k5, ho9, hq9]; exact ⟨gjSt_u hX9.2.1 (by omega), hX9.2.2⟩
        · obtain ⟨k1, k2, k3⟩ := hr_9.2 hc9
          rw [k2, k3 68 (by decide), k3 73 (by decide), ho9]; exact hX9.2
      refine lv_iload_n hx hb dX11_first_53 rfl (lv_at hl 3 rfl) ?_
      refine lv_iload_n hx hb dX11_first_54 rfl (lv_at hl 4 rfl) ?_
      have hF_11 := rF hD hS hA
      refine va_calli (va_runV (As := [.ref (a 61), .int r_9, .int p1, .int p2]) (rest := []) ⟨hx, hb, hml, hown, hT⟩ (c_X11_listed8 l D cy a i10 r10 q tl r_9 p1 p2 _ hRi hRr hst9.1 hst9.2) (cwV 4 hT (gV t_458 t_459 t_460 t_461 t_2) rfl rfl rfl (by decide +kernel) ⟨Nat.le_of_ble_eq_true rfl, Nat.le_of_ble_eq_true rfl⟩) (rQ_v hP hK hD (va_recv hK hP (ci := 11) (q0 := 0) rfl rfl)) rfl rfl hl.1 rfl (lv_room (Nat.le_of_ble_eq_true rfl)) dX11_first_55 ⟨Nat.le_of_ble_eq_true rfl, Nat.le_of_ble_eq_true rfl⟩) hS (fun q _ h => hF_11 q h) hF_11 (fun r_12 u_13 t H1 locs ht hvm hr_12 hB hz1 hk1 hS => ?_)
      obtain ⟨r13, rfl⟩ : ∃ z, z = u_13 := ⟨_, rfl⟩
      obtain ⟨hP, hK1, hD1⟩ := hB
      rw [ht] at hP
      have hD := hD1.weaken (fun k q _ h => hF_11 q.1 h)
      obtain ⟨hRr, hE2, hr_12⟩ := hr_12
      have hRr : yRr r13 := hRr
      have hE2 : mEr [6, 7, 75] r10 r13 := hE2
      have hP : va_P D vwCl (xW cy a i10 r13 q (a 20) (a 12) ++ (hW cy a i10 r13 ++ tl)) H1 := hP
      have hD : va_D A (xW cy a i10 r13 q (a 20) (a 12) ++ (hW cy a i10 r13 ++ tl)) := hD
      have hEr : mEr [6, 7, 66, 67, 68, 69, 75] _ r13 := Er_tr hEr hE2 (by decide)
      have hLi : r_12 = r_9 ∧ (r_9.toInt ≠ -1 → (∀ k, k < (i10 23).toNatClampNeg → r10 66 k = p1 → r10 67 k = p2 → gjO (r10 66) (r10 67) (r10 68) (i10 23).toNatClampNeg (r10 71) (r10 72) (r10 73) (i10 24).toNatClampNeg ((r13) 75) (-2) k ((r13) 75 k).toInt) ∧ ∀ k, ¬ (k < (i10 23).toNatClampNeg ∧ r10 66 k = p1 ∧ r10 67 k = p2) → (r13) 75 k = r10 75 k) ∧ (r_9.toInt = -1 → r13 75 = r10 75) := hr_12
      subst hQ
      have hz9 : r_12 = r_9 := hLi.1
      have hl66 : r13 66 = r10 66 := hE2 66 (by decide)
      have hl67 : r13 67 = r10 67 := hE2 67 (by decide)
      have hl68 : r13 68 = r10 68 := hE2 68 (by decide)
      have hl69 : r13 69 = r10 69 := hE2 69 (by decide)
      have hl71 : r13 71 = r10 71 := hE2 71 (by decide)
      have hl72 : r13 72 = r10 72 := hE2 72 (by decide)
      have hl73 : r13 73 = r10 73 := hE2 73 (by decide)
      have hl74 : r13 74 = r10 74 := hE2 74 (by decide)
      have hX8 : gjX i10 r13 := by
        by_cases hc9 : (i 23).toInt ≤ 19
        · obtain ⟨k1, k2, k3, k4, k5, k6⟩ := hr_9.1 hc9
          have hnz : r_9.toInt ≠ -1 := by clear hLi hr_9; omega
          have hj9 := hLi.2.1 hnz
          have hJa : ∀ k, k < (i10 23).toNatClampNeg → r13 66 k = p1 → r13 67 k = p2 → gjO (r13 66) (r13 67) (r13 68) (i10 23).toNatClampNeg (r13 71) (r13 72) (r13 73) (i10 24).toNatClampNeg (r13 75) (-2) k (r13 75 k).toInt := by rw [hl66, hl67, hl68, hl71, hl72, hl73]; exact hj9.1
          have hJb : ∀ k, ¬ (k < (i10 23).toNatClampNeg ∧ r13 66 k = p1 ∧ r13 67 k = p2) → r13 75 k = r 75 k := by rw [hl66, hl67]; intro k hk; exact (hj9.2 k hk).trans (congrFun (hE0 75 (by decide)) k)
          exact gjX_f hX9 (by clear hLi hr_9; omega) k2 ho9 (hl66.trans k3) (hl67.trans k4) (hl68.trans k5) (by clear hLi hr_9; omega) (hl71.trans (hE0 71 (by decide))) (hl72.trans (hE0 72 (by decide))) (hl73.trans (hE0 73 (by decide))) hJa hJb
        · obtain ⟨k1, k2, k3⟩ := hr_9.2 hc9
          have hm1 : r_9.toInt = -1 := by rw [k1]; rfl
          exact gjX_same hX9 k2 ho9 (hl66.trans (k3 66 (by decide))) (hl67.trans (k3 67 (by decide))) (hl68.trans (k3 68 (by decide))) (hl71.trans (k3 71 (by decide))) (hl72.trans (k3 72 (by decide))) (hl73.trans (k3 73 (by decide))) ((hLi.2.2 hm1).trans (k3 75 (by decide)))
      exact W.iret (v := r_12) hx hb hr (fun t ht hW => ⟨⟨_, (i10, r13), rfl, ⟨hRi, hRr, hEi, hEr, ⟨⟨fun h9 => by obtain ⟨k1, k2, k3, k4, k5, k6⟩ := hr_9.1 (by clear hLi hr_9; omega); exact ⟨by rw [hz9]; exact k1, k2, hl66.trans k3, hl67.trans k4, hl68.trans k5, hl69.trans k6⟩, fun h9 => by obtain ⟨k1, k2, k3⟩ := hr_9.2 (by clear hLi hr_9; omega); exact ⟨by rw [hz9]; exact k1, k2, hl66.trans (k3 66 (by decide)), hl67.trans (k3 67 (by decide)), hl68.trans (k3 68 (by decide)), hl69.trans (k3 69 (by decide))⟩⟩, hX8⟩⟩, by rw [ht]; exact hP, va_K.moved hW.alike hK, hD⟩, hS.F ht⟩) hS.2.2 dX11_first_58
    · skip
      refine lv_if_ne (tgt := 36) hx hb dX11_first_31 (by decide) (fun c_14 => absurd (by decide) c_14) (fun c_14 => ?_)
      refine lv_iconst (v := (-1)) hx hb dX11_first_34 (by decide) ?_
      subst hQ
      exact W.iret (v := (-1)) hx hb hr (fun t ht hW => ⟨⟨_, (i, r), rfl, ⟨hRi, hRr, hEi, hEr, ⟨⟨fun h9 => absurd h9 (by omega), fun _ => ⟨rfl, rfl, rfl, rfl, rfl, rfl⟩⟩, hX9⟩⟩, by rw [ht]; exact hP, va_K.moved hW.alike hK, hD⟩, hS.F ht⟩) hS.2.2 dX11_first_35
  · skip
    refine lv_if_eq (tgt := 34) hx hb dX11_first_19 (by decide) (fun c_15 => ?_) (fun c_15 => absurd (by decide) c_15)
    refine lv_iconst (v := (-1)) hx hb dX11_first_34 (by decide) ?_
    subst hQ
    exact W.iret (v := (-1)) hx hb hr (fun t ht hW => ⟨⟨_, (i, r), rfl, ⟨hRi, hRr, hEi, hEr, ⟨⟨fun h9 => absurd h9 (by omega), fun _ => ⟨rfl, rfl, rfl, rfl, rfl, rfl⟩⟩, hX9⟩⟩, by rw [ht]; exact hP, va_K.moved hW.alike hK, hD⟩, hS.F ht⟩) hS.2.2 dX11_first_35
set_option maxHeartbeats 4000000 in
set_option maxRecDepth 100000 in
theorem c_X11_last.y8 (l : Launch) (D : va_G) (cy : Nat → ClassId) (a : Nat → Nat) (i : Nat → Int32) (r : Nat → Nat → Int32) (q : Nat → Option Nat) (tl : va_W) (p0 p1 p2 p3 : Int32) (sz : Nat) (hRi : yRi i) (hRr : yRr r) (hh : 0 ≤ p0.toInt ∧ p0.toInt < (i 0).toInt) (hq : q p0.toNatClampNeg = some (a 61)) (hX9 : gjX i r) : Met l yX11_last (Cond.code yX11_last cX11_last 6 (some .int) :: gT) { frames := 5, cells := 0, slots := 0, locals := 122 } (va_Pc [.ref (a 0), .int p0, .int p1, .int p2, .int p3] (rQ D cy (xW cy a i r q (a 20) (a 12) ++ (hW cy a i r ++ tl)) sz)) (va_Qi (fun (z : Int32) (u : (Nat → Int32) × (Nat → Nat → Int32)) => yRi u.1 ∧ yRr u.2 ∧ mEi [24] i u.1 ∧ mEr [6, 7, 71, 72, 73, 74, 75] r u.2 ∧ ((((((0 ≤ p1.toInt ∧ p1.toInt ≤ 9) ∧ (0 ≤ p2.toInt ∧ p2.toInt ≤ 7) ∧ (1 ≤ p3.toInt ∧ p3.toInt ≤ 9)) ∧ (i 24).toInt ≤ 19) → z.toInt = (i 24).toInt ∧ (u.1 24).toInt = (i 24).toInt + 1 ∧ u.2 71 = upd (r 71) (i 24).toNatClampNeg p1 ∧ u.2 72 = upd (r 72) (i 24).toNatClampNeg p2 ∧ u.2 73 = upd (r 73) (i 24).toNatClampNeg p3) ∧ (¬ (((0 ≤ p1.toInt ∧ p1.toInt ≤ 9) ∧ (0 ≤ p2.toInt ∧ p2.toInt ≤ 7) ∧ (1 ≤ p3.toInt ∧ p3.toInt ≤ 9)) ∧ (i 24).toInt ≤ 19) → z = -1 ∧ u.1 24 = i 24 ∧ u.2 71 = r 71 ∧ u.2 72 = r 72 ∧ u.2 73 = r 73)) ∧ gjX u.1 u.2)) (fun (u : (Nat → Int32) × (Nat → Nat → Int32)) t => va_P D vwCl (xW cy a u.1 u.2 q (a 20) (a 12) ++ (hW cy a u.1 u.2 ++ tl)) t.heap ∧ va_K D vwCl (vT cy) t ∧ va_D (va_A (xW cy a i r q (a 20) (a 12) ++ (hW cy a i r ++ tl)) sz) (xW cy a u.1 u.2 q (a 20) (a 12) ++ (hW cy a u.1 u.2 ++ tl))) (va_A (xW cy a i r q (a 20) (a 12) ++ (hW cy a i r ++ tl)) sz)) 0 0 (va_A (xW cy a i r q (a 20) (a 12) ++ (hW cy a i r ++ tl)) sz) := by
  refine Met.ofQ (cc := cX11_last) (maxL := 6) (ret := (some .int)) (by decide) rfl ?_
  intro p e s m args below meth c s₁ B hml hv Q hQ
  obtain ⟨rfl, hsz, hP, hK, hD0⟩ := hv
  have hx := B.exec
  have hb := B.bytes
  have hr := B.returns
  have hlocks := B.notSynchronized
  have hT : ∀ w ∈ gT, w.before _ s = true := fun w h => atoms_spec (ws := (Cond.code yX11_last cX11_last 6 (some .int) :: gT)) B.pre w (List.mem_cons_of_mem _ h)
  have hown : s.vm.findClass RX11 = some m.cls := findClass_of_methodNamed B.named
  subst hsz
  have hD := hD0.self (sz := s.heap.size)
  generalize hAe : va_A (xW cy a i r q (a 20) (a 12) ++ (hW cy a i r ++ tl)) s.heap.size = A at hD hQ
  have hA : ∀ q : Nat, s.heap.size ≤ q → A q := fun q h => by rw [← hAe]; exact Or.inr h
  have hS : va_S A s.heap s.heap [] := va_S.rf
  have hl := lv_entry ([.ref (a 0), .int p0, .int p1, .int p2, .int p3]) (n := 6) (Nat.le_of_ble_eq_true rfl)
  rw [lg_entry_eq]
  generalize (lg_sl ([.ref (a 0), .int p0, .int p1, .int p2, .int p3]) ++ List.replicate (6 - (lg_sl ([.ref (a 0), .int p0, .int p1, .int p2, .int p3])).length) Slot.unset).toArray = ls at hl ⊢
  have hl : lv_has ls 6 [(0, .ref (a 0)), (1, .int p0), (2, .int p1), (3, .int p2), (4, .int p3)] := hl
  have hEi : mEi [24] i i := Ei_rf
  have hEr : mEr [6, 7, 71, 72, 73, 74, 75] r r := Er_rf
  have hg0 : 0 ≤ (i 0).toInt ∧ (i 0).toInt ≤ 6 := hRi 0
  have hg24 : 0 ≤ (i 24).toInt ∧ (i 24).toInt ≤ 20 := hRi 24
  refine lv_aload_n hx hb dX11_last_0 rfl (lv_at hl 0 rfl) ?_
  refine lv_iload_n hx hb dX11_last_1 rfl (lv_at hl 1 rfl) ?_
  refine va_csq (W.runV (As := [.int p0]) (rest := []) ⟨hx, hb, hml, hown, hT⟩ (c_X11_homeAt l D cy a i r q (hW cy a i r ++ tl) p0 hRi hRr) (cwV 1 hT (gV t_443 t_444 t_445 t_446 t_2) rfl rfl rfl (by decide +kernel) ⟨Nat.le_of_ble_eq_true rfl, Nat.le_of_ble_eq_true rfl⟩) (rP_v hP hK (va_recv hK hP (ci := 11) (q0 := 0) rfl rfl)) rfl rfl hl.1 rfl (lv_room (Nat.le_of_ble_eq_true rfl)) dX11_last_2 ⟨Nat.le_of_ble_eq_true rfl, Nat.le_of_ble_eq_true rfl⟩) (fun r_1 hr_1 => ?_)
  obtain rfl : r_1 = some (a 61) := (hr_1.1 hh).trans hq
  refine W.eq (g2 := F0 m 5 ls [.ref (a 61)]) rfl ?_
  refine lv_astore (lv' := [(5, .ref (a 61)), (0, .ref (a 0)), (1, .int p0), (2, .int p1), (3, .int p2), (4, .int p3)]) hx hb dX11_last_5 hl (by decide) rfl (fun ls hl => ?_)
  refine lv_aload hx hb dX11_last_7 (lv_at hl 0 rfl) ?_
  refine lv_ifnull hx hb dX11_last_9 ?_
  refine lv_iload_n hx hb dX11_last_12 rfl (lv_at hl 3 rfl) ?_
  refine lv_iload_n hx hb dX11_last_13 rfl (lv_at hl 4 rfl) ?_
  refine lv_iload hx hb dX11_last_14 (lv_at hl 5 rfl) ?_
  refine vp_callSi (W.runS (As := [.int p1, .int p2, .int p3]) (rest := []) ⟨hx, hb, hml, hown, hT⟩ (c_X11_isThing l p1 p2 p3) (va_cwS 3 hT (gS t_450 t_451 t_452 t_2) rfl rfl rfl (by decide +kernel) ⟨Nat.le_of_ble_eq_true rfl, Nat.le_of_ble_eq_true rfl⟩) preT rfl rfl hl.1 rfl (lv_room (Nat.le_of_ble_eq_true rfl)) dX11_last_16 ⟨Nat.le_of_ble_eq_true rfl, Nat.le_of_ble_eq_true rfl⟩) (fun r_2 hr_2 => ?_)
  have hr_2 : BR r_2 ((0 ≤ p1.toInt ∧ p1.toInt ≤ 9) ∧ (0 ≤ p2.toInt ∧ p2.toInt ≤ 7) ∧ (1 ≤ p3.toInt ∧ p3.toInt ≤ 9)) 1 0 := hr_2
  rcases hr_2 with ⟨rfl, h_3⟩ | ⟨rfl, h_3⟩
  · skip
    refine lv_if_ne (tgt := 24) hx hb dX11_last_19 (by decide) (fun c_4 => ?_) (fun c_4 => absurd c_4 (by decide))
    refine lv_aload_n hx hb dX11_last_24 rfl (lv_at hl 1 rfl) ?_
    refine lv_aload hx hb dX11_last_25 (lv_at hl 0 rfl) ?_
    refine lv_aload hx hb dX11_last_27 (lv_at hl 0 rfl) ?_
    refine va_get (D := D) (ci := 3) (v := .ref (a 70)) (C := RX3) (T := TX3) (N := 12) hx hb hT iX3 hown hK hP 61 rfl rfl 10 (by decide) (hT _ t_462) (fun _ h9 => h9) rfl dX11_last_29 ?_
    refine lv_iload_n hx hb dX11_last_32 rfl (lv_at hl 3 rfl) ?_
    refine lv_iload_n hx hb dX11_last_33 rfl (lv_at hl 4 rfl) ?_
    refine lv_iload hx hb dX11_last_34 (lv_at hl 5 rfl) ?_
    refine lv_iconst (v := 0) hx hb dX11_last_36 (by decide) ?_
    have hF_5 := rF hD hS hA
    refine va_calli (va_runV (As := [.int p1, .int p2, .int p3, .int 0]) (rest := [.ref (a 61), .ref (a 0)]) ⟨hx, hb, hml, hown, hT⟩ (c_X10_add_r709 l D cy a i r q tl p1 p2 p3 0 _ hRi hRr (by first | omega | decide) (by first | omega | decide) (by first | omega | decide) (by first | omega | decide)) (cwV 4 hT (gV t_454 t_455 t_456 t_457 t_413) rfl rfl rfl (by decide +kernel) ⟨Nat.le_of_ble_eq_true rfl, Nat.le_of_ble_eq_true rfl⟩) (rQ_v hP hK hD (va_recv hK hP (ci := 10) (q0 := 70) rfl rfl)) rfl rfl hl.1 rfl (lv_room (Nat.le_of_ble_eq_true rfl)) dX11_last_37 ⟨Nat.le_of_ble_eq_true rfl, Nat.le_of_ble_eq_true rfl⟩) hS (fun q _ h => hF_5 q h) hF_5 (fun r_6 u_7 t H1 locs ht hvm hr_6 hB hz1 hk1 hS => ?_)
    obtain ⟨i7, r7⟩ := u_7
    obtain ⟨hP, hK1, hD1⟩ := hB
    rw [ht] at hP
    have hD := hD1.weaken (fun k q _ h => hF_5 q.1 h)
    obtain ⟨hRi, hRr, hE1, hE2, hr_6⟩ := hr_6
    have hRi : yRi i7 := hRi
    have hE1 : mEi [24] i i7 := hE1
    have hRr : yRr r7 := hRr
    have hE2 : mEr [71, 72, 73, 74] r r7 := hE2
    have hP : va_P D vwCl (xW cy a i7 r7 q (a 20) (a 12) ++ (hW cy a i7 r7 ++ tl)) H1 := hP
    have hD : va_D A (xW cy a i7 r7 q (a 20) (a 12) ++ (hW cy a i7 r7 ++ tl)) := hD
    have hEi : mEi [24] _ i7 := Ei_tr hEi hE1 (by decide)
    have hEr : mEr [6, 7, 71, 72, 73, 74, 75] _ r7 := Er_tr hEr hE2 (by decide)
    have hr_6 : (((i 24).toInt ≤ 19) → r_6.toInt = (i 24).toInt ∧ (i7 24).toInt = (i 24).toInt + 1 ∧ r7 71 = upd (r 71) (i 24).toNatClampNeg p1 ∧ r7 72 = upd (r 72) (i 24).toNatClampNeg p2 ∧ r7 73 = upd (r 73) (i 24).toNatClampNeg p3 ∧ r7 74 = upd (r 74) (i 24).toNatClampNeg 0) ∧ (¬ ((i 24).toInt ≤ 19) → r_6 = -1 ∧ i7 24 = i 24 ∧ mEr [] r r7) := hr_6
    have ho9 : i7 23 = i 23 := hE1 23 (by decide)
    have hq9 : r7 68 = r 68 := hE2 68 (by decide)
    have hE0 := hE2
    have hst9 : gjSt (r7 68) (i7 23).toNatClampNeg ∧ gjSt (r7 73) (i7 24).toNatClampNeg := by
      by_cases hc9 : (i 24).toInt ≤ 19
      · obtain ⟨k1, k2, k3, k4, k5, k6⟩ := hr_6.1 hc9
        have hN : (i7 24).toNatClampNeg = (i 24).toNatClampNeg + 1 := by show (i7 24).toInt.toNat = (i 24).toInt.toNat + 1; omega
        rw [hN, k5, ho9, hq9]; exact ⟨hX9.2.1, gjSt_u hX9.2.2 (by omega)⟩
      · obtain ⟨k1, k2, k3⟩ := hr_6.2 hc9
        rw [k2, k3 68 (by decide), k3 73 (by decide), ho9]; exact hX9.2
    refine lv_iload_n hx hb dX11_last_40 rfl (lv_at hl 3 rfl) ?_
    refine lv_iload_n hx hb dX11_last_41 rfl (lv_at hl 4 rfl) ?_
    have hF_8 := rF hD hS hA
    refine va_calli (va_runV (As := [.ref (a 61), .int r_6, .int p1, .int p2]) (rest := []) ⟨hx, hb, hml, hown, hT⟩ (c_X11_listed8 l D cy a i7 r7 q tl r_6 p1 p2 _ hRi hRr hst9.1 hst9.2) (cwV 4 hT (gV t_458 t_459 t_460 t_461 t_2) rfl rfl rfl (by decide +kernel) ⟨Nat.le_of_ble_eq_true rfl, Nat.le_of_ble_eq_true rfl⟩) (rQ_v hP hK hD (va_recv hK hP (ci := 11) (q0 := 0) rfl rfl)) rfl rfl hl.1 rfl (lv_room (Nat.le_of_ble_eq_true rfl)) dX11_last_42 ⟨Nat.le_of_ble_eq_true rfl, Nat.le_of_ble_eq_true rfl⟩) hS (fun q _ h => hF_8 q h) hF_8 (fun r_9 u_10 t H1 locs ht hvm hr_9 hB hz1 hk1 hS => ?_)
    obtain ⟨r10, rfl⟩ : ∃ z, z = u_10 := ⟨_, rfl⟩
    obtain ⟨hP, hK1, hD1⟩ := hB
    rw [ht] at hP
    have hD := hD1.weaken (fun k q _ h => hF_8 q.1 h)
    obtain ⟨hRr, hE2, hr_9⟩ := hr_9
    have hRr : yRr r10 := hRr
    have hE2 : mEr [6, 7, 75] r7 r10 := hE2
    have hP : va_P D vwCl (xW cy a i7 r10 q (a 20) (a 12) ++ (hW cy a i7 r10 ++ tl)) H1 := hP
    have hD : va_D A (xW cy a i7 r10 q (a 20) (a 12) ++ (hW cy a i7 r10 ++ tl)) := hD
    have hEr : mEr [6, 7, 71, 72, 73, 74, 75] _ r10 := Er_tr hEr hE2 (by decide)
    have hLi : r_9 = r_6 ∧ (r_6.toInt ≠ -1 → (∀ k, k < (i7 23).toNatClampNeg → r7 66 k = p1 → r7 67 k = p2 → gjO (r7 66) (r7 67) (r7 68) (i7 23).toNatClampNeg (r7 71) (r7 72) (r7 73) (i7 24).toNatClampNeg ((r10) 75) (-2) k ((r10) 75 k).toInt) ∧ ∀ k, ¬ (k < (i7 23).toNatClampNeg ∧ r7 66 k = p1 ∧ r7 67 k = p2) → (r10) 75 k = r7 75 k) ∧ (r_6.toInt = -1 → r10 75 = r7 75) := hr_9
    subst hQ
    have hz9 : r_9 = r_6 := hLi.1
    have hl66 : r10 66 = r7 66 := hE2 66 (by decide)
    have hl67 : r10 67 = r7 67 := hE2 67 (by decide)
    have hl68 : r10 68 = r7 68 := hE2 68 (by decide)
    have hl69 : r10 69 = r7 69 := hE2 69 (by decide)
    have hl71 : r10 71 = r7 71 := hE2 71 (by decide)
    have hl72 : r10 72 = r7 72 := hE2 72 (by decide)
    have hl73 : r10 73 = r7 73 := hE2 73 (by decide)
    have hl74 : r10 74 = r7 74 := hE2 74 (by decide)
    have hX8 : gjX i7 r10 := by
      by_cases hc9 : (i 24).toInt ≤ 19
      · obtain ⟨k1, k2, k3, k4, k5, k6⟩ := hr_6.1 hc9
        have hnz : r_6.toInt ≠ -1 := by clear hLi hr_6; omega
        have hj9 := hLi.2.1 hnz
        have hJa : ∀ k, k < (i7 23).toNatClampNeg → r10 66 k = p1 → r10 67 k = p2 → gjO (r10 66) (r10 67) (r10 68) (i7 23).toNatClampNeg (r10 71) (r10 72) (r10 73) (i7 24).toNatClampNeg (r10 75) (-2) k (r10 75 k).toInt := by rw [hl66, hl67, hl68, hl71, hl72, hl73]; exact hj9.1
        have hJb : ∀ k, ¬ (k < (i7 23).toNatClampNeg ∧ r10 66 k = p1 ∧ r10 67 k = p2) → r10 75 k = r 75 k := by rw [hl66, hl67]; intro k hk; exact (hj9.2 k hk).trans (congrFun (hE0 75 (by decide)) k)
        exact gjX_l hX9 (by clear hLi hr_6; omega) k2 ho9 (hl71.trans k3) (hl72.trans k4) (hl73.trans k5) (by clear hLi hr_6; omega) (hl66.trans (hE0 66 (by decide))) (hl67.trans (hE0 67 (by decide))) (hl68.trans (hE0 68 (by decide))) hJa hJb
      · obtain ⟨k1, k2, k3⟩ := hr_6.2 hc9
        have hm1 : r_6.toInt = -1 := by rw [k1]; rfl
        exact gjX_same hX9 ho9 k2 (hl66.trans (k3 66 (by decide))) (hl67.trans (k3 67 (by decide))) (hl68.trans (k3 68 (by decide))) (hl71.trans (k3 71 (by decide))) (hl72.trans (k3 72 (by decide))) (hl73.trans (k3 73 (by decide))) ((hLi.2.2 hm1).trans (k3 75 (by decide)))
    exact W.iret (v := r_9) hx hb hr (fun t ht hW => ⟨⟨_, (i7, r10), rfl, ⟨hRi, hRr, hEi, hEr, ⟨⟨fun h9 => by obtain ⟨k1, k2, k3, k4, k5, k6⟩ := hr_6.1 (by clear hLi hr_6; omega); exact ⟨by rw [hz9]; exact k1, k2, hl71.trans k3, hl72.trans k4, hl73.trans k5⟩, fun h9 => by obtain ⟨k1, k2, k3⟩ := hr_6.2 (by clear hLi hr_6; omega); exact ⟨by rw [hz9]; exact k1, k2, hl71.trans (k3 71 (by decide)), hl72.trans (k3 72 (by decide)), hl73.trans (k3 73 (by decide))⟩⟩, hX8⟩⟩, by rw [ht]; exact hP, va_K.moved hW.alike hK, hD⟩, hS.F ht⟩) hS.2.2 dX11_last_45
  · skip
    refine lv_if_ne (tgt := 24) hx hb dX11_last_19 (by decide) (fun c_11 => absurd (by decide) c_11) (fun c_11 => ?_)
    refine lv_iconst (v := (-1)) hx hb dX11_last_22 (by decide) ?_
    subst hQ
    exact W.iret (v := (-1)) hx hb hr (fun t ht hW => ⟨⟨_, (i, r), rfl, ⟨hRi, hRr, hEi, hEr, ⟨⟨fun h9 => absurd h9 (by omega), fun _ => ⟨rfl, rfl, rfl, rfl, rfl⟩⟩, hX9⟩⟩, by rw [ht]; exact hP, va_K.moved hW.alike hK, hD⟩, hS.F ht⟩) hS.2.2 dX11_last_23
