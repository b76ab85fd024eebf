/-- a thing in state a may be joined to one in state b -/
def gjFit (F L : Nat → Int) (a b : Nat) : Prop := (∀ s, b < s → s ≤ a → L s < F s) ∧ (∀ s, a < s → s ≤ b → F s < L s)
def gjd (F : Nat → Int) (a : Nat) : Nat → Int := fun s => if s ≤ a then F s - 1 else F s
section JOINS
variable {F L F2 L2 : Nat → Int} {a b n s : Nat}
end JOINS
/-- counts of things -/
def gjC (P : Nat → Bool) (f : Nat → Nat) (s : Nat) : Nat → Int
  | 0 => 0
  | n + 1 => gjC P f s n + (if P n = true ∧ s ≤ f n then 1 else 0)
section COUNTS
variable {P Q : Nat → Bool} {f l : Nat → Nat}
theorem gjC_p {s : Nat} : ∀ n, 0 ≤ gjC P f s n := by
  intro n
  induction n with
  | zero => exact Int.le_refl _
  | succ n ih =>
    rw [gjC]
    by_cases h : P n = true ∧ s ≤ f n
    · rw [if_pos h]; omega
    · rw [if_neg h]; omega
end COUNTS
/-- joins: a group of things by room and kind; what is left of it at a thing of the first list -/
def gjg (fr fk : Nat → Int32) (R K : Int32) (i : Nat) : Bool := decide (fr i = R ∧ fk i = K)
def gjN (fs : Nat → Int32) (i : Nat) : Nat := (fs i).toNatClampNeg
def gjPF (fr fk : Nat → Int32) (R K : Int32) (a i : Nat) : Bool := decide (a ≤ i) && gjg fr fk R K i
def gjU (fr fk : Nat → Int32) (R K : Int32) (J : Nat → Int32) (j : Int) : Nat → Bool
  | 0 => true
  | n + 1 => gjU fr fk R K J j n && !(gjg fr fk R K n && decide ((J n).toInt = j))
def gjQL (fr fk lr lk : Nat → Int32) (R K : Int32) (J : Nat → Int32) (a j : Nat) : Bool := gjg lr lk R K j && gjU fr fk R K J (j : Int) a
def gjFF (fr fk fs : Nat → Int32) (nf : Nat) (R K : Int32) (a s : Nat) : Int := gjC (gjPF fr fk R K a) (gjN fs) s nf
def gjLL (fr fk lr lk ls : Nat → Int32) (nl : Nat) (R K : Int32) (J : Nat → Int32) (a s : Nat) : Int := gjC (gjQL fr fk lr lk R K J a) (gjN ls) s nl
/-- thing i of the first list may be joined to thing j of the last one -/
def gjCd (fr fk fs : Nat → Int32) (nf : Nat) (lr lk ls : Nat → Int32) (nl : Nat) (J : Nat → Int32) (i j : Nat) : Prop :=
  gjQL fr fk lr lk (fr i) (fk i) J i j = true ∧ gjFit (gjFF fr fk fs nf (fr i) (fk i) i) (gjLL fr fk lr lk ls nl (fr i) (fk i) J i) (gjN fs i) (gjN ls j)
/-- what a thing is joined to, given those ahead of it -/
def gjO (fr fk fs : Nat → Int32) (nf : Nat) (lr lk ls : Nat → Int32) (nl : Nat) (J : Nat → Int32) (U : Int) (i : Nat) (z : Int) : Prop :=
  (∃ j : Nat, j < nl ∧ z = (j : Int) ∧ gjCd fr fk fs nf lr lk ls nl J i j ∧ ∀ k, k < j → ¬ gjCd fr fk fs nf lr lk ls nl J i k) ∨ (z = U ∧ ∀ k, k < nl → ¬ gjCd fr fk fs nf lr lk ls nl J i k)
def gjJ (fr fk fs : Nat → Int32) (nf : Nat) (lr lk ls : Nat → Int32) (nl : Nat) (U : Int) (J : Nat → Int32) : Prop := ∀ i, i < nf → gjO fr fk fs nf lr lk ls nl J U i (J i).toInt
section JSPEC
variable {fr fk fs lr lk ls fr2 fk2 fs2 lr2 lk2 ls2 : Nat → Int32} {nf nl nf2 nl2 : Nat} {R K : Int32} {J J2 : Nat → Int32} {U U2 : Int}
theorem gjg_iff {i : Nat} : gjg fr fk R K i = true ↔ fr i = R ∧ fk i = K := ⟨fun h => of_decide_eq_true h, fun h => decide_eq_true h⟩
theorem gjPF_iff {a i : Nat} : gjPF fr fk R K a i = true ↔ a ≤ i ∧ fr i = R ∧ fk i = K := by
  unfold gjPF
  rw [Bool.and_eq_true, gjg_iff]
  exact ⟨fun h => ⟨of_decide_eq_true h.1, h.2⟩, fun h => ⟨decide_eq_true h.1, h.2⟩⟩
theorem gjU_iff {j : Int} : ∀ n, gjU fr fk R K J j n = true ↔ ∀ i, i < n → fr i = R → fk i = K → (J i).toInt ≠ j := by
  intro n
  induction n with
  | zero => exact ⟨fun _ i hi => absurd hi (Nat.not_lt_zero i), fun _ => rfl⟩
  | succ n ih =>
    rw [gjU, Bool.and_eq_true, ih]
    constructor
    · intro h i hi h1 h2 h3
      by_cases e : i = n
      · subst e
        have h4 := h.2
        rw [gjg_iff.mpr ⟨h1, h2⟩, decide_eq_true h3] at h4
        exact absurd h4 (by decide)
      · exact h.1 i (by omega) h1 h2 h3
    · intro h
      refine ⟨fun i hi => h i (by omega), ?_⟩
      cases hg : gjg fr fk R K n with
      | false => rfl
      | true =>
        have h1 := gjg_iff.mp hg
        have h2 := h n (by omega) h1.1 h1.2
        rw [decide_eq_false h2]; rfl
theorem gjQL_iff {a j : Nat} : gjQL fr fk lr lk R K J a j = true ↔ (lr j = R ∧ lk j = K) ∧ ∀ i, i < a → fr i = R → fk i = K → (J i).toInt ≠ (j : Int) := by
  unfold gjQL
  rw [Bool.and_eq_true, gjg_iff, gjU_iff]
theorem gjC_co {P Q : Nat → Bool} {f g : Nat → Nat} {s : Nat} : ∀ n, (∀ i, i < n → P i = Q i ∧ (P i = true → f i = g i)) → gjC P f s n = gjC Q g s n := by
  intro n
  induction n with
  | zero => intro _; rfl
  | succ n ih =>
    intro h
    obtain ⟨h1, h2⟩ := h n (by omega)
    rw [gjC, gjC, ih (fun i hi => h i (by omega)), ← h1]
    by_cases e : P n = true
    · rw [h2 e]
    · rw [if_neg (fun h => e h.1), if_neg (fun h => e h.1)]
theorem gjC_no {P : Nat → Bool} {f : Nat → Nat} {s m : Nat} : ∀ n, (∀ i, m ≤ i → i < n → P i = false) → m ≤ n → gjC P f s n = gjC P f s m := by
  intro n
  induction n with
  | zero => intro _ h; rw [Nat.le_zero.mp h]
  | succ n ih =>
    intro h hm
    by_cases e : m = n + 1
    · rw [e]
    · rw [gjC, ih (fun i h1 h2 => h i h1 (by omega)) (by omega), if_neg (fun h2 => by rw [h n (by omega) (by omega)] at h2; exact absurd h2.1 (by decide))]; omega
/-- one less -/
theorem gjC_rm {P Q : Nat → Bool} {f : Nat → Nat} {s k : Nat} (hk : P k = true) (hq : Q k = false) (he : ∀ i, i ≠ k → Q i = P i) : ∀ n, k < n → gjC Q f s n = gjC P f s n - (if s ≤ f k then 1 else 0) := by
  intro n
  induction n with
  | zero => intro h; omega
  | succ n ih =>
    intro h
    rw [gjC, gjC]
    by_cases e : k = n
    · subst e
      rw [gjC_co (P := Q) (Q := P) (g := f) k (fun i hi => ⟨he i (by omega), fun _ => rfl⟩), if_neg (fun h => by rw [hq] at h; exact absurd h.1 (by decide))]
      by_cases h1 : s ≤ f k
      · rw [if_pos ⟨hk, h1⟩, if_pos h1]; omega
      · rw [if_neg (fun h => h1 h.2), if_neg h1]; omega
    · rw [ih (by omega), he n (by omega)]; omega
theorem gjFF_s {a s : Nat} (ha : a < nf) (h1 : fr a = R) (h2 : fk a = K) : gjFF fr fk fs nf R K (a + 1) s = gjd (gjFF fr fk fs nf R K a) (gjN fs a) s := by
  unfold gjFF gjd
  rw [gjC_rm (P := gjPF fr fk R K a) (Q := gjPF fr fk R K (a + 1)) (k := a) (gjPF_iff.mpr ⟨Nat.le_refl _, h1, h2⟩) (Bool.eq_false_iff.mpr (fun h => by have := (gjPF_iff.mp h).1; omega)) (fun i hi => by
    unfold gjPF
    by_cases e : a ≤ i
    · rw [decide_eq_true e, decide_eq_true (show a + 1 ≤ i by omega)]
    · rw [decide_eq_false e, decide_eq_false (show ¬ a + 1 ≤ i by omega)]) nf ha]
  by_cases e : s ≤ gjN fs a
  · rw [if_pos e, if_pos e]
  · rw [if_neg e, if_neg e]; exact Int.sub_zero _
theorem gjFF_n {a s : Nat} (h : ¬ (fr a = R ∧ fk a = K)) : gjFF fr fk fs nf R K (a + 1) s = gjFF fr fk fs nf R K a s := by
  unfold gjFF
  refine gjC_co nf (fun i _ => ⟨?_, fun _ => rfl⟩)
  unfold gjPF
  by_cases e : i = a
  · subst e
    rw [show gjg fr fk R K i = false from Bool.eq_false_iff.mpr (fun h2 => h (gjg_iff.mp h2)), Bool.and_false, Bool.and_false]
  · by_cases e2 : a ≤ i
    · rw [decide_eq_true e2, decide_eq_true (show a + 1 ≤ i by omega)]
    · rw [decide_eq_false e2, decide_eq_false (show ¬ a + 1 ≤ i by omega)]
theorem gjQL_n {a j : Nat} (h : ¬ (fr a = R ∧ fk a = K) ∨ (J a).toInt ≠ (j : Int)) : gjQL fr fk lr lk R K J (a + 1) j = gjQL fr fk lr lk R K J a j := by
  unfold gjQL
  rw [gjU]
  rcases h with h | h
  · rw [show gjg fr fk R K a = false from Bool.eq_false_iff.mpr (fun h2 => h (gjg_iff.mp h2)), Bool.false_and, Bool.not_false, Bool.and_true]
  · rw [decide_eq_false h, Bool.and_false, Bool.not_false, Bool.and_true]
theorem gjLL_n {a s : Nat} (h : ¬ (fr a = R ∧ fk a = K) ∨ ∀ j : Nat, j < nl → (J a).toInt ≠ (j : Int)) : gjLL fr fk lr lk ls nl R K J (a + 1) s = gjLL fr fk lr lk ls nl R K J a s := by
  unfold gjLL
  exact gjC_co nl (fun j hj => ⟨gjQL_n (h.elim Or.inl (fun h2 => Or.inr (h2 j hj))), fun _ => rfl⟩)
theorem gjLL_s {a j s : Nat} (hj : j < nl) (hQ : gjQL fr fk lr lk R K J a j = true) (h1 : fr a = R) (h2 : fk a = K) (hJ : (J a).toInt = (j : Int)) : gjLL fr fk lr lk ls nl R K J (a + 1) s = gjd (gjLL fr fk lr lk ls nl R K J a) (gjN ls j) s := by
  unfold gjLL gjd
  rw [gjC_rm (P := gjQL fr fk lr lk R K J a) (Q := gjQL fr fk lr lk R K J (a + 1)) (k := j) hQ (Bool.eq_false_iff.mpr (fun h => (gjQL_iff.mp h).2 a (by omega) h1 h2 hJ)) (fun i hi => gjQL_n (Or.inr (by rw [hJ]; omega))) nl hj]
  by_cases e : s ≤ gjN ls j
  · rw [if_pos e, if_pos e]
  · rw [if_neg e, if_neg e]; exact Int.sub_zero _
/-- only those of the group count -/
theorem gjFF_co {a s : Nat} (hn : nf ≤ nf2) (h : ∀ i, i < nf → gjg fr2 fk2 R K i = gjg fr fk R K i ∧ (gjg fr fk R K i = true → fs2 i = fs i)) (hx : ∀ i, nf ≤ i → i < nf2 → gjg fr2 fk2 R K i = false) : gjFF fr2 fk2 fs2 nf2 R K a s = gjFF fr fk fs nf R K a s := by
  unfold gjFF
  rw [gjC_no (m := nf) nf2 (fun i h1 h2 => by unfold gjPF; rw [hx i h1 h2, Bool.and_false]) hn]
  refine gjC_co nf (fun i hi => ⟨by unfold gjPF; rw [(h i hi).1], fun hp => ?_⟩)
  unfold gjPF at hp
  rw [(h i hi).1] at hp
  unfold gjN
  rw [(h i hi).2 ((Bool.and_eq_true _ _).mp hp).2]
theorem gjU_co {j : Int} : ∀ a, (∀ i, i < a → gjg fr2 fk2 R K i = gjg fr fk R K i ∧ (gjg fr fk R K i = true → ((J2 i).toInt = j ↔ (J i).toInt = j))) → gjU fr2 fk2 R K J2 j a = gjU fr fk R K J j a := by
  intro a
  induction a with
  | zero => intro _; rfl
  | succ a ih =>
    intro h
    obtain ⟨h1, h2⟩ := h a (by omega)
    rw [gjU, gjU, ih (fun i hi => h i (by omega)), h1]
    cases hg : gjg fr fk R K a with
    | false => rw [Bool.false_and, Bool.false_and]
    | true =>
      by_cases e : (J a).toInt = j
      · rw [decide_eq_true e, decide_eq_true ((h2 hg).mpr e)]
      · rw [decide_eq_false e, decide_eq_false (fun h3 => e ((h2 hg).mp h3))]
theorem gjLL_co {a s : Nat} (hn : nl ≤ nl2) (hU : ∀ j : Nat, j < nl → gjU fr2 fk2 R K J2 (j : Int) a = gjU fr fk R K J (j : Int) a) (h : ∀ j, j < nl → gjg lr2 lk2 R K j = gjg lr lk R K j ∧ (gjg lr lk R K j = true → ls2 j = ls j)) (hx : ∀ j, nl ≤ j → j < nl2 → gjg lr2 lk2 R K j = false) : gjLL fr2 fk2 lr2 lk2 ls2 nl2 R K J2 a s = gjLL fr fk lr lk ls nl R K J a s := by
  unfold gjLL
  rw [gjC_no (m := nl) nl2 (fun i h1 h2 => by unfold gjQL; rw [hx i h1 h2, Bool.false_and]) hn]
  refine gjC_co nl (fun j hj => ⟨by unfold gjQL; rw [(h j hj).1, hU j hj], fun hp => ?_⟩)
  unfold gjQL at hp
  rw [(h j hj).1] at hp
  unfold gjN
  rw [(h j hj).2 ((Bool.and_eq_true _ _).mp hp).1]
theorem gjFit_co {F L F2 L2 : Nat → Int} {a b : Nat} (h1 : ∀ s, F2 s = F s) (h2 : ∀ s, L2 s = L s) : gjFit F2 L2 a b ↔ gjFit F L a b := by
  rw [show F2 = F from funext h1, show L2 = L from funext h2]
/-- a thing of another group: nothing has changed for it -/
theorem gjO_co {i : Nat} {z : Int} (hn : nf ≤ nf2) (hm : nl ≤ nl2) (hi : i < nf) (er : fr2 i = fr i) (ek : fk2 i = fk i) (es : fs2 i = fs i)
    (hF : ∀ k, k < nf → gjg fr2 fk2 (fr i) (fk i) k = gjg fr fk (fr i) (fk i) k ∧ (gjg fr fk (fr i) (fk i) k = true → fs2 k = fs k ∧ (J2 k).toInt = (J k).toInt)) (hFx : ∀ k, nf ≤ k → k < nf2 → gjg fr2 fk2 (fr i) (fk i) k = false)
    (hL : ∀ j, j < nl → gjg lr2 lk2 (fr i) (fk i) j = gjg lr lk (fr i) (fk i) j ∧ (gjg lr lk (fr i) (fk i) j = true → ls2 j = ls j)) (hLx : ∀ j, nl ≤ j → j < nl2 → gjg lr2 lk2 (fr i) (fk i) j = false)
    (h : gjO fr fk fs nf lr lk ls nl J U i z) : gjO fr2 fk2 fs2 nf2 lr2 lk2 ls2 nl2 J2 U i z := by
  have hU : ∀ j : Nat, gjU fr2 fk2 (fr i) (fk i) J2 (j : Int) i = gjU fr fk (fr i) (fk i) J (j : Int) i := fun j => gjU_co i (fun k hk => ⟨(hF k (by omega)).1, fun hg => by rw [((hF k (by omega)).2 hg).2]⟩)
  have hQ : ∀ j, j < nl → gjQL fr2 fk2 lr2 lk2 (fr2 i) (fk2 i) J2 i j = gjQL fr fk lr lk (fr i) (fk i) J i j := fun j hj => by
    rw [er, ek]; unfold gjQL; rw [(hL j hj).1, hU j]
  have hc : ∀ j, j < nl → (gjCd fr2 fk2 fs2 nf2 lr2 lk2 ls2 nl2 J2 i j ↔ gjCd fr fk fs nf lr lk ls nl J i j) := by
    intro j hj
    unfold gjCd
    rw [hQ j hj]
    constructor
    · intro hh
      refine ⟨hh.1, ?_⟩
      have h2 := hh.2
      rw [er, ek] at h2
      have e3 : gjN ls2 j = gjN ls j := by unfold gjN; rw [(hL j hj).2 (gjg_iff.mpr (gjQL_iff.mp hh.1).1)]
      have e4 : gjN fs2 i = gjN fs i := by unfold gjN; rw [es]
      rw [e3, e4] at h2
      exact (gjFit_co (fun s => gjFF_co hn (fun k hk => ⟨(hF k hk).1, fun hg => ((hF k hk).2 hg).1⟩) hFx) (fun s => gjLL_co hm (fun j _ => hU j) hL hLx)).mp h2
    · intro hh
      refine ⟨hh.1, ?_⟩
      rw [er, ek]
      have e3 : gjN ls2 j = gjN ls j := by unfold gjN; rw [(hL j hj).2 (gjg_iff.mpr (gjQL_iff.mp hh.1).1)]
      have e4 : gjN fs2 i = gjN fs i := by unfold gjN; rw [es]
      rw [e3, e4]
      exact (gjFit_co (fun s => gjFF_co hn (fun k hk => ⟨(hF k hk).1, fun hg => ((hF k hk).2 hg).1⟩) hFx) (fun s => gjLL_co hm (fun j _ => hU j) hL hLx)).mpr hh.2
  have hc2 : ∀ j, nl ≤ j → j < nl2 → ¬ gjCd fr2 fk2 fs2 nf2 lr2 lk2 ls2 nl2 J2 i j := by
    intro j h1 h2 h3
    have h4 := gjg_iff.mpr (gjQL_iff.mp h3.1).1
    rw [er, ek, hLx j h1 h2] at h4
    exact absurd h4 (by decide)
  rcases h with ⟨j, j1, j2, j3, j4⟩ | ⟨z1, z2⟩
  · exact Or.inl ⟨j, by omega, j2, (hc j j1).mpr j3, fun k hk h5 => j4 k hk ((hc k (by omega)).mp h5)⟩
  · refine Or.inr ⟨z1, fun k hk h5 => ?_⟩
    by_cases e : k < nl
    · exact z2 k e ((hc k e).mp h5)
    · exact hc2 k (by omega) hk h5
end JSPEC
section KEPT
variable {f0 l0 f l : Nat → Int32} {a b : Nat} {n : Int}
end KEPT
