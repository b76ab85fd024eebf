/-- joins: sums over states 1 to n; tails of a row of counts -/
def gjS (h : Nat → Int) : Nat → Int
  | 0 => 0
  | n + 1 => gjS h n + h (n + 1)
def gjT (g : Nat → Int) : Nat → Int
  | 0 => 0
  | d + 1 => gjT g d + g (9 - d)
/-- how many of a row have a state of at least s -/
def gjF (g : Nat → Int) (s : Nat) : Int := gjT g (10 - s)
def gjm (x y : Int) : Int := if x ≤ y then x else y
def gjK (F L : Nat → Int) : Int := gjS (fun s => gjm (F s) (L s)) 9
/-- a thing in state a may be joined to one in state b -/
def gjFit (F L : Nat → Int) (a b : Nat) : Prop := (∀ s, b < s → s ≤ a → L s < F s) ∧ (∀ s, a < s → s ≤ b → F s < L s)
def gjd (F : Nat → Int) (a : Nat) : Nat → Int := fun s => if s ≤ a then F s - 1 else F s
def gjB (F L : Nat → Int) (a b s : Nat) : Prop := (b < s ∧ s ≤ a ∧ F s ≤ L s) ∨ (a < s ∧ s ≤ b ∧ L s ≤ F s)
section JOINS
variable {F L F2 L2 : Nat → Int} {a b n s : Nat}
theorem gjS_co {h k : Nat → Int} : ∀ n, (∀ s, 1 ≤ s → s ≤ n → h s = k s) → gjS h n = gjS k n := by
  intro n
  induction n with
  | zero => intro _; rfl
  | succ n ih =>
    intro e
    rw [gjS, gjS, ih (fun s h1 h2 => e s h1 (by omega)), e (n + 1) (by omega) (by omega)]
/-- what a pair takes away: its own lesser state, and one for each state at which it does not fit -/
theorem gjS_pair : ∀ n, ∃ c : Int, 0 ≤ c ∧ gjS (fun s => gjm (F s) (L s)) n = gjS (fun s => gjm (gjd F a s) (gjd L b s)) n + (if a ≤ b then (if a ≤ n then (a : Int) else (n : Int)) else (if b ≤ n then (b : Int) else (n : Int))) + c ∧ (c = 0 ↔ ∀ s, 1 ≤ s → s ≤ n → ¬ gjB F L a b s) := by
  intro n
  induction n with
  | zero =>
    refine ⟨0, Int.le_refl _, ?_, fun _ s h1 h2 => by omega, fun _ => rfl⟩
    show (0 : Int) = 0 + _ + 0
    by_cases h : a ≤ b
    · rw [if_pos h]
      by_cases h2 : a ≤ 0
      · rw [if_pos h2]; omega
      · rw [if_neg h2]; rfl
    · rw [if_neg h]
      by_cases h2 : b ≤ 0
      · rw [if_pos h2]; omega
      · rw [if_neg h2]; rfl
  | succ n ih =>
    obtain ⟨c, c0, e, hc⟩ := ih
    rw [gjS, gjS, e]
    generalize gjS (fun s => gjm (gjd F a s) (gjd L b s)) n = X
    have hst : ∃ d : Int, 0 ≤ d ∧ gjm (F (n + 1)) (L (n + 1)) = gjm (gjd F a (n + 1)) (gjd L b (n + 1)) + (if n + 1 ≤ a ∧ n + 1 ≤ b then 1 else 0) + d ∧ (d = 0 ↔ ¬ gjB F L a b (n + 1)) := by
      unfold gjd gjB gjm
      generalize F (n + 1) = x
      generalize L (n + 1) = y
      by_cases h1 : n + 1 ≤ a
      · by_cases h2 : n + 1 ≤ b
        · exact ⟨0, by omega, by omega, by omega⟩
        · by_cases h3 : x ≤ y
          · exact ⟨1, by omega, by omega, by omega⟩
          · exact ⟨0, by omega, by omega, by omega⟩
      · by_cases h2 : n + 1 ≤ b
        · by_cases h3 : y ≤ x
          · exact ⟨1, by omega, by omega, by omega⟩
          · exact ⟨0, by omega, by omega, by omega⟩
        · exact ⟨0, by omega, by omega, by omega⟩
    obtain ⟨d, d0, f, hd⟩ := hst
    refine ⟨c + d, by omega, ?_, ?_⟩
    · rw [f]
      generalize gjm (gjd F a (n + 1)) (gjd L b (n + 1)) = M
      clear f hd hc e
      omega
    · constructor
      · intro h s h1 h2
        by_cases h3 : s = n + 1
        · rw [h3]; exact hd.mp (by omega)
        · exact hc.mp (by omega) s h1 (by omega)
      · intro h
        have h1 := hc.mpr (fun s h2 h3 => h s h2 (by omega))
        have h2 := hd.mpr (h (n + 1) (by omega) (by omega))
        omega
theorem gjFit_iff : gjFit F L a b ↔ ∀ s, ¬ gjB F L a b s := by
  constructor
  · intro h s hb
    rcases hb with ⟨h1, h2, h3⟩ | ⟨h1, h2, h3⟩
    · have := h.1 s h1 h2; omega
    · have := h.2 s h1 h2; omega
  · intro h
    refine ⟨fun s h1 h2 => ?_, fun s h1 h2 => ?_⟩
    · have h3 := h s
      by_cases h4 : L s < F s
      · exact h4
      · exact absurd (Or.inl ⟨h1, h2, by omega⟩) h3
    · have h3 := h s
      by_cases h4 : F s < L s
      · exact h4
      · exact absurd (Or.inr ⟨h1, h2, by omega⟩) h3
/-- a pair may be taken just if the rest and its own lesser state are all that can be kept -/
theorem gjK_pair (ha : 1 ≤ a) (ha9 : a ≤ 9) (hb : 1 ≤ b) (hb9 : b ≤ 9) : (gjK (gjd F a) (gjd L b) + gjm a b = gjK F L ↔ gjFit F L a b) ∧ gjK (gjd F a) (gjd L b) + gjm a b ≤ gjK F L := by
  obtain ⟨c, c0, e, hc⟩ := gjS_pair (F := F) (L := L) (a := a) (b := b) 9
  have hm : (if a ≤ b then (if a ≤ 9 then (a : Int) else ((9 : Nat) : Int)) else (if b ≤ 9 then (b : Int) else ((9 : Nat) : Int))) = gjm a b := by
    unfold gjm
    by_cases h : a ≤ b
    · rw [if_pos h, if_pos ha9, if_pos (by omega)]
    · rw [if_neg h, if_pos hb9, if_neg (by omega)]
  rw [hm] at e
  unfold gjK
  refine ⟨?_, by omega⟩
  rw [gjFit_iff]
  constructor
  · intro h s hs
    have h1 := hc.mp (by omega)
    exact h1 s (by rcases hs with h | h <;> omega) (by rcases hs with h | h <;> omega) hs
  · intro h
    have := hc.mpr (fun s _ _ => h s)
    omega
theorem gjK_z (h : (∀ s, 1 ≤ s → s ≤ 9 → F s = 0) ∨ (∀ s, 1 ≤ s → s ≤ 9 → L s = 0)) (hF : ∀ s, 1 ≤ s → s ≤ 9 → 0 ≤ F s) (hL : ∀ s, 1 ≤ s → s ≤ 9 → 0 ≤ L s) : gjK F L = 0 := by
  have h0 : ∀ n, gjS (fun _ => 0) n = 0 := by
    intro n
    induction n with
    | zero => rfl
    | succ n ih => rw [gjS, ih]; rfl
  rw [gjK, ← h0 9]
  refine gjS_co 9 (fun s h1 h2 => ?_)
  show gjm (F s) (L s) = 0
  unfold gjm
  have a1 := hF s h1 h2
  have a2 := hL s h1 h2
  rcases h with h | h
  · have := h s h1 h2; rw [if_pos (by omega)]; exact this
  · have := h s h1 h2
    by_cases h3 : F s ≤ L s
    · rw [if_pos h3]; omega
    · rw [if_neg h3]; exact this
theorem gjK_co (h1 : ∀ s, 1 ≤ s → s ≤ 9 → F2 s = F s) (h2 : ∀ s, 1 ≤ s → s ≤ 9 → L2 s = L s) : gjK F2 L2 = gjK F L :=
  gjS_co 9 (fun s a1 a2 => by show gjm (F2 s) (L2 s) = gjm (F s) (L s); rw [h1 s a1 a2, h2 s a1 a2])
end JOINS
/-- tails of rows -/
theorem gjT_co {g h : Nat → Int} : ∀ d, d ≤ 9 → (∀ k, 10 - d ≤ k → k ≤ 9 → g k = h k) → gjT g d = gjT h d := by
  intro d
  induction d with
  | zero => intro _ _; rfl
  | succ d ih =>
    intro hd e
    rw [gjT, gjT, ih (by omega) (fun k h1 h2 => e k (by omega) h2), e (9 - d) (by omega) (by omega)]
theorem gjT_u {g h : Nat → Int} {k : Nat} {c : Int} (hk : k ≤ 9) (e : h k = g k + c) (en : ∀ j, j ≠ k → h j = g j) : ∀ d, d ≤ 9 → gjT h d = gjT g d + (if 10 - d ≤ k then c else 0) := by
  intro d
  induction d with
  | zero => intro _; rw [if_neg (by omega)]; rfl
  | succ d ih =>
    intro hd
    rw [gjT, gjT, ih (by omega)]
    by_cases h1 : 9 - d = k
    · rw [h1, e, if_neg (by omega), if_pos (by omega)]; omega
    · rw [en _ h1]
      by_cases h2 : 10 - d ≤ k
      · rw [if_pos h2, if_pos (by omega)]; omega
      · rw [if_neg h2, if_neg (by omega)]; omega
theorem gjF_u {g h : Nat → Int} {k : Nat} {c : Int} (hk : k ≤ 9) (e : h k = g k + c) (en : ∀ j, j ≠ k → h j = g j) {s : Nat} (h1 : 1 ≤ s) (h9 : s ≤ 9) : gjF h s = gjF g s + (if s ≤ k then c else 0) := by
  unfold gjF
  rw [gjT_u hk e en (10 - s) (by omega)]
  by_cases h2 : s ≤ k
  · rw [if_pos h2, if_pos (by omega)]
  · rw [if_neg h2, if_neg (by omega)]
theorem gjT_0 {g : Nat → Int} : ∀ d, d ≤ 9 → (∀ k, 10 - d ≤ k → k ≤ 9 → g k = 0) → gjT g d = 0 := by
  intro d
  induction d with
  | zero => intro _ _; rfl
  | succ d ih =>
    intro hd e
    rw [gjT, ih (by omega) (fun k h1 h2 => e k (by omega) h2), e (9 - d) (by omega) (by omega)]; rfl
theorem gjT_p {g : Nat → Int} (h : ∀ k, 1 ≤ k → k ≤ 9 → 0 ≤ g k) : ∀ d, d ≤ 9 → 0 ≤ gjT g d := by
  intro d
  induction d with
  | zero => intro _; exact Int.le_refl _
  | succ d ih =>
    intro hd
    have h1 := ih (by omega)
    have h2 := h (9 - d) (by omega) (by omega)
    rw [gjT]; omega
theorem gjT_ge {g : Nat → Int} (h : ∀ k, 1 ≤ k → k ≤ 9 → 0 ≤ g k) {k : Nat} (hk : 1 ≤ k) (hk9 : k ≤ 9) : ∀ d, d ≤ 9 → 10 - d ≤ k → g k ≤ gjT g d := by
  intro d
  induction d with
  | zero => intro _ h2; omega
  | succ d ih =>
    intro hd h2
    rw [gjT]
    have h1 := gjT_p h d (by omega)
    by_cases h3 : 9 - d = k
    · rw [h3]; omega
    · have h4 := ih (by omega) (by omega)
      have h5 := h (9 - d) (by omega) (by omega)
      omega
/-- the rows of counts while the reference pairs the best with the best -/
def gjP (f l : Nat → Int) (a b : Nat) : Prop := (∀ k, 1 ≤ k → k ≤ 9 → 0 ≤ f k ∧ 0 ≤ l k) ∧ (∀ k, a < k → k ≤ 9 → f k = 0) ∧ (∀ k, b < k → k ≤ 9 → l k = 0)
theorem gjP_pair {f l f2 l2 : Nat → Int} {a b : Nat} (h : gjP f l a b) (ha : 1 ≤ a) (ha9 : a ≤ 9) (hb : 1 ≤ b) (hb9 : b ≤ 9) (h1 : f a ≠ 0) (h2 : l b ≠ 0) (e1 : f2 a = f a - 1) (e2 : ∀ j, j ≠ a → f2 j = f j) (e3 : l2 b = l b - 1) (e4 : ∀ j, j ≠ b → l2 j = l j) : gjP f2 l2 a b ∧ gjK (gjF f2) (gjF l2) + gjm a b = gjK (gjF f) (gjF l) := by
  obtain ⟨p1, p2, p3⟩ := h
  refine ⟨⟨fun k k1 k2 => ?_, fun k k1 k2 => ?_, fun k k1 k2 => ?_⟩, ?_⟩
  · have q1 := p1 k k1 k2
    constructor
    · by_cases e : k = a
      · rw [e, e1]; have := (p1 a ha ha9).1; omega
      · rw [e2 k e]; exact q1.1
    · by_cases e : k = b
      · rw [e, e3]; have := (p1 b hb hb9).2; omega
      · rw [e4 k e]; exact q1.2
  · rw [e2 k (by omega)]; exact p2 k k1 k2
  · rw [e4 k (by omega)]; exact p3 k k1 k2
  · have hf : gjFit (gjF f) (gjF l) a b := by
      refine ⟨fun s s1 s2 => ?_, fun s s1 s2 => ?_⟩
      · have z1 : gjF l s = 0 := gjT_0 (10 - s) (by omega) (fun k k1 k2 => p3 k (by omega) k2)
        have z2 : f a ≤ gjF f s := gjT_ge (fun k k1 k2 => (p1 k k1 k2).1) ha ha9 (10 - s) (by omega) (by omega)
        have := (p1 a ha ha9).1
        omega
      · have z1 : gjF f s = 0 := gjT_0 (10 - s) (by omega) (fun k k1 k2 => p2 k (by omega) k2)
        have z2 : l b ≤ gjF l s := gjT_ge (fun k k1 k2 => (p1 k k1 k2).2) hb hb9 (10 - s) (by omega) (by omega)
        have := (p1 b hb hb9).2
        omega
    rw [← (gjK_pair ha ha9 hb hb9).1.mpr hf]
    have c1 : ∀ s, 1 ≤ s → s ≤ 9 → gjF f2 s = gjd (gjF f) a s := fun s s1 s2 => by
      rw [gjF_u (g := f) (c := -1) ha9 (by omega) e2 s1 s2]; unfold gjd
      by_cases h : s ≤ a
      · rw [if_pos h, if_pos h]; omega
      · rw [if_neg h, if_neg h]; omega
    have c2 : ∀ s, 1 ≤ s → s ≤ 9 → gjF l2 s = gjd (gjF l) b s := fun s s1 s2 => by
      rw [gjF_u (g := l) (c := -1) hb9 (by omega) e4 s1 s2]; unfold gjd
      by_cases h : s ≤ b
      · rw [if_pos h, if_pos h]; omega
      · rw [if_neg h, if_neg h]; omega
    rw [gjK_co c1 c2]
theorem gjP_end {f l : Nat → Int} {a b : Nat} (h : gjP f l a b) (h0 : a = 0 ∨ b = 0) : gjK (gjF f) (gjF l) = 0 := by
  obtain ⟨p1, p2, p3⟩ := h
  refine gjK_z ?_ (fun s s1 s2 => gjT_p (fun k k1 k2 => (p1 k k1 k2).1) _ (by omega)) (fun s s1 s2 => gjT_p (fun k k1 k2 => (p1 k k1 k2).2) _ (by omega))
  rcases h0 with h0 | h0
  · exact Or.inl (fun s s1 s2 => gjT_0 _ (by omega) (fun k k1 k2 => p2 k (by omega) k2))
  · exact Or.inr (fun s s1 s2 => gjT_0 _ (by omega) (fun k k1 k2 => p3 k (by omega) k2))
/-- counts of things -/
def gjC (P : Nat → Bool) (f : Nat → Nat) (s : Nat) : Nat → Int
  | 0 => 0
  | n + 1 => gjC P f s n + (if P n = true ∧ s ≤ f n then 1 else 0)
section COUNTS
variable {P Q : Nat → Bool} {f l : Nat → Nat}
theorem gjC_p {s : Nat} : ∀ n, 0 ≤ gjC P f s n := by
  intro n
  induction n with
  | zero => exact Int.le_refl _
  | succ n ih =>
    rw [gjC]
    by_cases h : P n = true ∧ s ≤ f n
    · rw [if_pos h]; omega
    · rw [if_neg h]; omega
theorem gjC_mo {s t : Nat} (h : s ≤ t) : ∀ n, gjC P f t n ≤ gjC P f s n := by
  intro n
  induction n with
  | zero => exact Int.le_refl _
  | succ n ih =>
    rw [gjC, gjC]
    by_cases h1 : P n = true ∧ t ≤ f n
    · rw [if_pos h1, if_pos ⟨h1.1, by omega⟩]; omega
    · rw [if_neg h1]
      by_cases h2 : P n = true ∧ s ≤ f n
      · rw [if_pos h2]; omega
      · rw [if_neg h2]; omega
theorem gjC_st {s t k : Nat} (h : s ≤ t) (hP : P k = true) (h1 : s ≤ f k) (h2 : f k < t) : ∀ n, k < n → gjC P f t n + 1 ≤ gjC P f s n := by
  intro n
  induction n with
  | zero => intro h3; omega
  | succ n ih =>
    intro h3
    rw [gjC, gjC]
    by_cases e : k = n
    · subst e
      have := gjC_mo (P := P) (f := f) h k
      rw [if_neg (show ¬ (P k = true ∧ t ≤ f k) from fun h9 => by have := h9.2; omega), if_pos (show P k = true ∧ s ≤ f k from ⟨hP, h1⟩)]; omega
    · have := ih (by omega)
      by_cases h4 : P n = true ∧ t ≤ f n
      · rw [if_pos h4, if_pos ⟨h4.1, by omega⟩]; omega
      · rw [if_neg h4]
        by_cases h5 : P n = true ∧ s ≤ f n
        · rw [if_pos h5]; omega
        · rw [if_neg h5]; omega
theorem gjC_eq {s t : Nat} (h : s ≤ t) : ∀ n, (∀ k, k < n → P k = true → ¬ (s ≤ f k ∧ f k < t)) → gjC P f s n = gjC P f t n := by
  intro n
  induction n with
  | zero => intro _; rfl
  | succ n ih =>
    intro h1
    rw [gjC, gjC, ih (fun k hk => h1 k (by omega))]
    have h2 := h1 n (by omega)
    by_cases h3 : P n = true ∧ s ≤ f n
    · rw [if_pos h3, if_pos ⟨h3.1, by have := h2 h3.1; omega⟩]
    · rw [if_neg h3, if_neg (fun h4 => h3 ⟨h4.1, by omega⟩)]
theorem gjC_ex {s : Nat} : ∀ n, 0 < gjC P f s n → ∃ k, k < n ∧ P k = true ∧ s ≤ f k := by
  intro n
  induction n with
  | zero => intro h; exact absurd h (by show ¬ (0 : Int) < 0; omega)
  | succ n ih =>
    intro h
    rw [gjC] at h
    by_cases h1 : P n = true ∧ s ≤ f n
    · exact ⟨n, by omega, h1.1, h1.2⟩
    · rw [if_neg h1] at h
      obtain ⟨k, a, b⟩ := ih (by omega)
      exact ⟨k, by omega, b⟩
theorem gjC_least {s : Nat} : ∀ m n, (∃ k, k < n ∧ P k = true ∧ s ≤ f k ∧ f k ≤ m) → ∃ k, k < n ∧ P k = true ∧ s ≤ f k ∧ ∀ j, j < n → P j = true → s ≤ f j → f k ≤ f j := by
  intro m
  induction m with
  | zero =>
    intro n h
    obtain ⟨k, a, b, c, d⟩ := h
    exact ⟨k, a, b, c, fun j _ _ _ => by omega⟩
  | succ m ih =>
    intro n h
    by_cases h2 : ∃ k, k < n ∧ P k = true ∧ s ≤ f k ∧ f k ≤ m
    · exact ih n h2
    · obtain ⟨k, a, b, c, d⟩ := h
      refine ⟨k, a, b, c, fun j j1 j2 j3 => ?_⟩
      by_cases h3 : f j ≤ m
      · exact absurd ⟨j, j1, j2, j3, h3⟩ h2
      · omega
theorem gj_top {p : Nat → Prop} : ∀ n, (∃ s, 1 ≤ s ∧ s ≤ n ∧ p s) → ∃ s, 1 ≤ s ∧ s ≤ n ∧ p s ∧ ∀ t, s < t → t ≤ n → ¬ p t := by
  intro n
  induction n with
  | zero => intro h; obtain ⟨s, a, b, _⟩ := h; omega
  | succ n ih =>
    intro h
    by_cases h1 : p (n + 1)
    · exact ⟨n + 1, by omega, by omega, h1, fun t a b => by omega⟩
    · have h2 : ∃ s, 1 ≤ s ∧ s ≤ n ∧ p s := by
        obtain ⟨s, a, b, c⟩ := h
        exact ⟨s, a, by
          by_cases e : s = n + 1
          · rw [e] at c; exact absurd c h1
          · omega, c⟩
      obtain ⟨s, a, b, c, d⟩ := ih h2
      refine ⟨s, a, by omega, c, fun t t1 t2 => ?_⟩
      by_cases e : t = n + 1
      · rw [e]; exact h1
      · exact d t t1 (by omega)
/-- if a thing fits to none that is left, more of the first list are left at each state up to its own -/
theorem gj_none {nf nl i : Nat} (hi : i < nf) (hP : P i = true) (h9 : f i ≤ 9) (hl : ∀ j, j < nl → l j ≤ 9) (h : ∀ j, j < nl → Q j = true → ¬ gjFit (fun s => gjC P f s nf) (fun s => gjC Q l s nl) (f i) (l j)) : ∀ s, 1 ≤ s → s ≤ f i → gjC Q l s nl < gjC P f s nf := by
  intro s s1 s2
  by_cases hn : gjC Q l s nl < gjC P f s nf
  · exact hn
  · exfalso
    obtain ⟨t, t1, t2, t3, t4⟩ := gj_top (p := fun s => ¬ gjC Q l s nl < gjC P f s nf) (f i) ⟨s, s1, s2, hn⟩
    have t3 : gjC P f t nf ≤ gjC Q l t nl := by have : ¬ gjC Q l t nl < gjC P f t nf := t3; omega
    by_cases hx : ∃ j, j < nl ∧ Q j = true ∧ t ≤ l j ∧ l j < f i + 1
    · obtain ⟨j, j1, j2, j3, j4⟩ := hx
      refine h j j1 j2 ⟨fun u u1 u2 => ?_, fun u u1 u2 => by omega⟩
      have h5 : ¬ ¬ gjC Q l u nl < gjC P f u nf := t4 u (by omega) u2
      exact Decidable.of_not_not h5
    · have e1 : gjC Q l t nl = gjC Q l (f i + 1) nl := gjC_eq (by omega) nl (fun k k1 k2 k3 => hx ⟨k, k1, k2, k3.1, k3.2⟩)
      have e2 := gjC_st (P := P) (f := f) (s := t) (t := f i + 1) (by omega) hP t2 (by omega) nf hi
      have e3 := gjC_p (P := P) (f := f) (s := f i + 1) nf
      obtain ⟨k, k1, k2, k3⟩ := gjC_ex (P := Q) (f := l) (s := f i + 1) nl (by omega)
      obtain ⟨j, j1, j2, j3, j4⟩ := gjC_least (P := Q) (f := l) (s := f i + 1) (l k) nl ⟨k, k1, k2, k3, Nat.le_refl _⟩
      refine h j j1 j2 ⟨fun u u1 u2 => by omega, fun u u1 u2 => ?_⟩
      have e4 : gjC Q l (f i + 1) nl = gjC Q l u nl := gjC_eq (by omega) nl (fun m m1 m2 m3 => by have := j4 m m1 m2 m3.1; omega)
      have e5 := gjC_mo (P := P) (f := f) (s := f i + 1) (t := u) (by omega) nf
      show gjC P f u nf < gjC Q l u nl
      omega
/-- then nothing more can be kept with it than without -/
theorem gjK_none {F L : Nat → Int} {a : Nat} (h : ∀ s, 1 ≤ s → s ≤ a → L s < F s) : gjK (gjd F a) L = gjK F L := by
  refine gjS_co 9 (fun s s1 s2 => ?_)
  show gjm (gjd F a s) (L s) = gjm (F s) (L s)
  unfold gjd gjm
  by_cases e : s ≤ a
  · have := h s s1 e
    rw [if_pos e, if_neg (show ¬ F s ≤ L s by omega)]
    by_cases e2 : F s - 1 ≤ L s
    · rw [if_pos e2]; omega
    · rw [if_neg e2]
  · rw [if_neg e]
end COUNTS
/-- joins: a group of things by room and kind; what is left of it at a thing of the first list -/
def gjg (fr fk : Nat → Int32) (R K : Int32) (i : Nat) : Bool := decide (fr i = R ∧ fk i = K)
def gjN (fs : Nat → Int32) (i : Nat) : Nat := (fs i).toNatClampNeg
def gjPF (fr fk : Nat → Int32) (R K : Int32) (a i : Nat) : Bool := decide (a ≤ i) && gjg fr fk R K i
def gjU (fr fk : Nat → Int32) (R K : Int32) (J : Nat → Int32) (j : Int) : Nat → Bool
  | 0 => true
  | n + 1 => gjU fr fk R K J j n && !(gjg fr fk R K n && decide ((J n).toInt = j))
def gjQL (fr fk lr lk : Nat → Int32) (R K : Int32) (J : Nat → Int32) (a j : Nat) : Bool := gjg lr lk R K j && gjU fr fk R K J (j : Int) a
def gjFF (fr fk fs : Nat → Int32) (nf : Nat) (R K : Int32) (a s : Nat) : Int := gjC (gjPF fr fk R K a) (gjN fs) s nf
def gjLL (fr fk lr lk ls : Nat → Int32) (nl : Nat) (R K : Int32) (J : Nat → Int32) (a s : Nat) : Int := gjC (gjQL fr fk lr lk R K J a) (gjN ls) s nl
/-- thing i of the first list may be joined to thing j of the last one -/
def gjCd (fr fk fs : Nat → Int32) (nf : Nat) (lr lk ls : Nat → Int32) (nl : Nat) (J : Nat → Int32) (i j : Nat) : Prop :=
  gjQL fr fk lr lk (fr i) (fk i) J i j = true ∧ gjFit (gjFF fr fk fs nf (fr i) (fk i) i) (gjLL fr fk lr lk ls nl (fr i) (fk i) J i) (gjN fs i) (gjN ls j)
/-- what a thing is joined to, given those ahead of it -/
def gjO (fr fk fs : Nat → Int32) (nf : Nat) (lr lk ls : Nat → Int32) (nl : Nat) (J : Nat → Int32) (U : Int) (i : Nat) (z : Int) : Prop :=
  (∃ j : Nat, j < nl ∧ z = (j : Int) ∧ gjCd fr fk fs nf lr lk ls nl J i j ∧ ∀ k, k < j → ¬ gjCd fr fk fs nf lr lk ls nl J i k) ∨ (z = U ∧ ∀ k, k < nl → ¬ gjCd fr fk fs nf lr lk ls nl J i k)
def gjJ (fr fk fs : Nat → Int32) (nf : Nat) (lr lk ls : Nat → Int32) (nl : Nat) (U : Int) (J : Nat → Int32) : Prop := ∀ i, i < nf → gjO fr fk fs nf lr lk ls nl J U i (J i).toInt
section JSPEC
variable {fr fk fs lr lk ls fr2 fk2 fs2 lr2 lk2 ls2 : Nat → Int32} {nf nl nf2 nl2 : Nat} {R K : Int32} {J J2 : Nat → Int32} {U U2 : Int}
theorem gjg_iff {i : Nat} : gjg fr fk R K i = true ↔ fr i = R ∧ fk i = K := ⟨fun h => of_decide_eq_true h, fun h => decide_eq_true h⟩
theorem gjPF_iff {a i : Nat} : gjPF fr fk R K a i = true ↔ a ≤ i ∧ fr i = R ∧ fk i = K := by
  unfold gjPF
  rw [Bool.and_eq_true, gjg_iff]
  exact ⟨fun h => ⟨of_decide_eq_true h.1, h.2⟩, fun h => ⟨decide_eq_true h.1, h.2⟩⟩
theorem gjU_iff {j : Int} : ∀ n, gjU fr fk R K J j n = true ↔ ∀ i, i < n → fr i = R → fk i = K → (J i).toInt ≠ j := by
  intro n
  induction n with
  | zero => exact ⟨fun _ i hi => absurd hi (Nat.not_lt_zero i), fun _ => rfl⟩
  | succ n ih =>
    rw [gjU, Bool.and_eq_true, ih]
    constructor
    · intro h i hi h1 h2 h3
      by_cases e : i = n
      · subst e
        have h4 := h.2
        rw [gjg_iff.mpr ⟨h1, h2⟩, decide_eq_true h3] at h4
        exact absurd h4 (by decide)
      · exact h.1 i (by omega) h1 h2 h3
    · intro h
      refine ⟨fun i hi => h i (by omega), ?_⟩
      cases hg : gjg fr fk R K n with
      | false => rfl
      | true =>
        have h1 := gjg_iff.mp hg
        have h2 := h n (by omega) h1.1 h1.2
        rw [decide_eq_false h2]; rfl
theorem gjQL_iff {a j : Nat} : gjQL fr fk lr lk R K J a j = true ↔ (lr j = R ∧ lk j = K) ∧ ∀ i, i < a → fr i = R → fk i = K → (J i).toInt ≠ (j : Int) := by
  unfold gjQL
  rw [Bool.and_eq_true, gjg_iff, gjU_iff]
theorem gjC_co {P Q : Nat → Bool} {f g : Nat → Nat} {s : Nat} : ∀ n, (∀ i, i < n → P i = Q i ∧ (P i = true → f i = g i)) → gjC P f s n = gjC Q g s n := by
  intro n
  induction n with
  | zero => intro _; rfl
  | succ n ih =>
    intro h
    obtain ⟨h1, h2⟩ := h n (by omega)
    rw [gjC, gjC, ih (fun i hi => h i (by omega)), ← h1]
    by_cases e : P n = true
    · rw [h2 e]
    · rw [if_neg (fun h => e h.1), if_neg (fun h => e h.1)]
theorem gjC_no {P : Nat → Bool} {f : Nat → Nat} {s m : Nat} : ∀ n, (∀ i, m ≤ i → i < n → P i = false) → m ≤ n → gjC P f s n = gjC P f s m := by
  intro n
  induction n with
  | zero => intro _ h; rw [Nat.le_zero.mp h]
  | succ n ih =>
    intro h hm
    by_cases e : m = n + 1
    · rw [e]
    · rw [gjC, ih (fun i h1 h2 => h i h1 (by omega)) (by omega), if_neg (fun h2 => by rw [h n (by omega) (by omega)] at h2; exact absurd h2.1 (by decide))]; omega
/-- one less -/
theorem gjC_rm {P Q : Nat → Bool} {f : Nat → Nat} {s k : Nat} (hk : P k = true) (hq : Q k = false) (he : ∀ i, i ≠ k → Q i = P i) : ∀ n, k < n → gjC Q f s n = gjC P f s n - (if s ≤ f k then 1 else 0) := by
  intro n
  induction n with
  | zero => intro h; omega
  | succ n ih =>
    intro h
    rw [gjC, gjC]
    by_cases e : k = n
    · subst e
      rw [gjC_co (P := Q) (Q := P) (g := f) k (fun i hi => ⟨he i (by omega), fun _ => rfl⟩), if_neg (fun h => by rw [hq] at h; exact absurd h.1 (by decide))]
      by_cases h1 : s ≤ f k
      · rw [if_pos ⟨hk, h1⟩, if_pos h1]; omega
      · rw [if_neg (fun h => h1 h.2), if_neg h1]; omega
    · rw [ih (by omega), he n (by omega)]; omega
theorem gjFF_s {a s : Nat} (ha : a < nf) (h1 : fr a = R) (h2 : fk a = K) : gjFF fr fk fs nf R K (a + 1) s = gjd (gjFF fr fk fs nf R K a) (gjN fs a) s := by
  unfold gjFF gjd
  rw [gjC_rm (P := gjPF fr fk R K a) (Q := gjPF fr fk R K (a + 1)) (k := a) (gjPF_iff.mpr ⟨Nat.le_refl _, h1, h2⟩) (Bool.eq_false_iff.mpr (fun h => by have := (gjPF_iff.mp h).1; omega)) (fun i hi => by
    unfold gjPF
    by_cases e : a ≤ i
    · rw [decide_eq_true e, decide_eq_true (show a + 1 ≤ i by omega)]
    · rw [decide_eq_false e, decide_eq_false (show ¬ a + 1 ≤ i by omega)]) nf ha]
  by_cases e : s ≤ gjN fs a
  · rw [if_pos e, if_pos e]
  · rw [if_neg e, if_neg e]; exact Int.sub_zero _
theorem gjFF_n {a s : Nat} (h : ¬ (fr a = R ∧ fk a = K)) : gjFF fr fk fs nf R K (a + 1) s = gjFF fr fk fs nf R K a s := by
  unfold gjFF
  refine gjC_co nf (fun i _ => ⟨?_, fun _ => rfl⟩)
  unfold gjPF
  by_cases e : i = a
  · subst e
    rw [show gjg fr fk R K i = false from Bool.eq_false_iff.mpr (fun h2 => h (gjg_iff.mp h2)), Bool.and_false, Bool.and_false]
  · by_cases e2 : a ≤ i
    · rw [decide_eq_true e2, decide_eq_true (show a + 1 ≤ i by omega)]
    · rw [decide_eq_false e2, decide_eq_false (show ¬ a + 1 ≤ i by omega)]
theorem gjQL_n {a j : Nat} (h : ¬ (fr a = R ∧ fk a = K) ∨ (J a).toInt ≠ (j : Int)) : gjQL fr fk lr lk R K J (a + 1) j = gjQL fr fk lr lk R K J a j := by
  unfold gjQL
  rw [gjU]
  rcases h with h | h
  · rw [show gjg fr fk R K a = false from Bool.eq_false_iff.mpr (fun h2 => h (gjg_iff.mp h2)), Bool.false_and, Bool.not_false, Bool.and_true]
  · rw [decide_eq_false h, Bool.and_false, Bool.not_false, Bool.and_true]
theorem gjLL_n {a s : Nat} (h : ¬ (fr a = R ∧ fk a = K) ∨ ∀ j : Nat, j < nl → (J a).toInt ≠ (j : Int)) : gjLL fr fk lr lk ls nl R K J (a + 1) s = gjLL fr fk lr lk ls nl R K J a s := by
  unfold gjLL
  exact gjC_co nl (fun j hj => ⟨gjQL_n (h.elim Or.inl (fun h2 => Or.inr (h2 j hj))), fun _ => rfl⟩)
theorem gjLL_s {a j s : Nat} (hj : j < nl) (hQ : gjQL fr fk lr lk R K J a j = true) (h1 : fr a = R) (h2 : fk a = K) (hJ : (J a).toInt = (j : Int)) : gjLL fr fk lr lk ls nl R K J (a + 1) s = gjd (gjLL fr fk lr lk ls nl R K J a) (gjN ls j) s := by
  unfold gjLL gjd
  rw [gjC_rm (P := gjQL fr fk lr lk R K J a) (Q := gjQL fr fk lr lk R K J (a + 1)) (k := j) hQ (Bool.eq_false_iff.mpr (fun h => (gjQL_iff.mp h).2 a (by omega) h1 h2 hJ)) (fun i hi => gjQL_n (Or.inr (by rw [hJ]; omega))) nl hj]
  by_cases e : s ≤ gjN ls j
  · rw [if_pos e, if_pos e]
  · rw [if_neg e, if_neg e]; exact Int.sub_zero _
/-- only those of the group count -/
theorem gjFF_co {a s : Nat} (hn : nf ≤ nf2) (h : ∀ i, i < nf → gjg fr2 fk2 R K i = gjg fr fk R K i ∧ (gjg fr fk R K i = true → fs2 i = fs i)) (hx : ∀ i, nf ≤ i → i < nf2 → gjg fr2 fk2 R K i = false) : gjFF fr2 fk2 fs2 nf2 R K a s = gjFF fr fk fs nf R K a s := by
  unfold gjFF
  rw [gjC_no (m := nf) nf2 (fun i h1 h2 => by unfold gjPF; rw [hx i h1 h2, Bool.and_false]) hn]
  refine gjC_co nf (fun i hi => ⟨by unfold gjPF; rw [(h i hi).1], fun hp => ?_⟩)
  unfold gjPF at hp
  rw [(h i hi).1] at hp
  unfold gjN
  rw [(h i hi).2 ((Bool.and_eq_true _ _).mp hp).2]
theorem gjU_co {j : Int} : ∀ a, (∀ i, i < a → gjg fr2 fk2 R K i = gjg fr fk R K i ∧ (gjg fr fk R K i = true → ((J2 i).toInt = j ↔ (J i).toInt = j))) → gjU fr2 fk2 R K J2 j a = gjU fr fk R K J j a := by
  intro a
  induction a with
  | zero => intro _; rfl
  | succ a ih =>
    intro h
    obtain ⟨h1, h2⟩ := h a (by omega)
    rw [gjU, gjU, ih (fun i hi => h i (by omega)), h1]
    cases hg : gjg fr fk R K a with
    | false => rw [Bool.false_and, Bool.false_and]
    | true =>
      by_cases e : (J a).toInt = j
      · rw [decide_eq_true e, decide_eq_true ((h2 hg).mpr e)]
      · rw [decide_eq_false e, decide_eq_false (fun h3 => e ((h2 hg).mp h3))]
theorem gjLL_co {a s : Nat} (hn : nl ≤ nl2) (hU : ∀ j : Nat, j < nl → gjU fr2 fk2 R K J2 (j : Int) a = gjU fr fk R K J (j : Int) a) (h : ∀ j, j < nl → gjg lr2 lk2 R K j = gjg lr lk R K j ∧ (gjg lr lk R K j = true → ls2 j = ls j)) (hx : ∀ j, nl ≤ j → j < nl2 → gjg lr2 lk2 R K j = false) : gjLL fr2 fk2 lr2 lk2 ls2 nl2 R K J2 a s = gjLL fr fk lr lk ls nl R K J a s := by
  unfold gjLL
  rw [gjC_no (m := nl) nl2 (fun i h1 h2 => by unfold gjQL; rw [hx i h1 h2, Bool.false_and]) hn]
  refine gjC_co nl (fun j hj => ⟨by unfold gjQL; rw [(h j hj).1, hU j hj], fun hp => ?_⟩)
  unfold gjQL at hp
  rw [(h j hj).1] at hp
  unfold gjN
  rw [(h j hj).2 ((Bool.and_eq_true _ _).mp hp).1]
theorem gjFit_co {F L F2 L2 : Nat → Int} {a b : Nat} (h1 : ∀ s, F2 s = F s) (h2 : ∀ s, L2 s = L s) : gjFit F2 L2 a b ↔ gjFit F L a b := by
  rw [show F2 = F from funext h1, show L2 = L from funext h2]
/-- a thing of another group: nothing has changed for it -/
theorem gjO_co {i : Nat} {z : Int} (hn : nf ≤ nf2) (hm : nl ≤ nl2) (hi : i < nf) (er : fr2 i = fr i) (ek : fk2 i = fk i) (es : fs2 i = fs i)
    (hF : ∀ k, k < nf → gjg fr2 fk2 (fr i) (fk i) k = gjg fr fk (fr i) (fk i) k ∧ (gjg fr fk (fr i) (fk i) k = true → fs2 k = fs k ∧ (J2 k).toInt = (J k).toInt)) (hFx : ∀ k, nf ≤ k → k < nf2 → gjg fr2 fk2 (fr i) (fk i) k = false)
    (hL : ∀ j, j < nl → gjg lr2 lk2 (fr i) (fk i) j = gjg lr lk (fr i) (fk i) j ∧ (gjg lr lk (fr i) (fk i) j = true → ls2 j = ls j)) (hLx : ∀ j, nl ≤ j → j < nl2 → gjg lr2 lk2 (fr i) (fk i) j = false)
    (h : gjO fr fk fs nf lr lk ls nl J U i z) : gjO fr2 fk2 fs2 nf2 lr2 lk2 ls2 nl2 J2 U i z := by
  have hU : ∀ j : Nat, gjU fr2 fk2 (fr i) (fk i) J2 (j : Int) i = gjU fr fk (fr i) (fk i) J (j : Int) i := fun j => gjU_co i (fun k hk => ⟨(hF k (by omega)).1, fun hg => by rw [((hF k (by omega)).2 hg).2]⟩)
  have hQ : ∀ j, j < nl → gjQL fr2 fk2 lr2 lk2 (fr2 i) (fk2 i) J2 i j = gjQL fr fk lr lk (fr i) (fk i) J i j := fun j hj => by
    rw [er, ek]; unfold gjQL; rw [(hL j hj).1, hU j]
  have hc : ∀ j, j < nl → (gjCd fr2 fk2 fs2 nf2 lr2 lk2 ls2 nl2 J2 i j ↔ gjCd fr fk fs nf lr lk ls nl J i j) := by
    intro j hj
    unfold gjCd
    rw [hQ j hj]
    constructor
    · intro hh
      refine ⟨hh.1, ?_⟩
      have h2 := hh.2
      rw [er, ek] at h2
      have e3 : gjN ls2 j = gjN ls j := by unfold gjN; rw [(hL j hj).2 (gjg_iff.mpr (gjQL_iff.mp hh.1).1)]
      have e4 : gjN fs2 i = gjN fs i := by unfold gjN; rw [es]
      rw [e3, e4] at h2
      exact (gjFit_co (fun s => gjFF_co hn (fun k hk => ⟨(hF k hk).1, fun hg => ((hF k hk).2 hg).1⟩) hFx) (fun s => gjLL_co hm (fun j _ => hU j) hL hLx)).mp h2
    · intro hh
      refine ⟨hh.1, ?_⟩
      rw [er, ek]
      have e3 : gjN ls2 j = gjN ls j := by unfold gjN; rw [(hL j hj).2 (gjg_iff.mpr (gjQL_iff.mp hh.1).1)]
      have e4 : gjN fs2 i = gjN fs i := by unfold gjN; rw [es]
      rw [e3, e4]
      exact (gjFit_co (fun s => gjFF_co hn (fun k hk => ⟨(hF k hk).1, fun hg => ((hF k hk).2 hg).1⟩) hFx) (fun s => gjLL_co hm (fun j _ => hU j) hL hLx)).mpr hh.2
  have hc2 : ∀ j, nl ≤ j → j < nl2 → ¬ gjCd fr2 fk2 fs2 nf2 lr2 lk2 ls2 nl2 J2 i j := by
    intro j h1 h2 h3
    have h4 := gjg_iff.mpr (gjQL_iff.mp h3.1).1
    rw [er, ek, hLx j h1 h2] at h4
    exact absurd h4 (by decide)
  rcases h with ⟨j, j1, j2, j3, j4⟩ | ⟨z1, z2⟩
  · exact Or.inl ⟨j, by omega, j2, (hc j j1).mpr j3, fun k hk h5 => j4 k hk ((hc k (by omega)).mp h5)⟩
  · refine Or.inr ⟨z1, fun k hk h5 => ?_⟩
    by_cases e : k < nl
    · exact z2 k e ((hc k e).mp h5)
    · exact hc2 k (by omega) hk h5
/-- there is one answer alone -/
theorem gjJ_un (h : gjJ fr fk fs nf lr lk ls nl U J) (h2 : gjJ fr fk fs nf lr lk ls nl U2 J2) (hU : U < 0) (hU2 : ∀ j : Nat, j < nl → U2 ≠ (j : Int)) : ∀ n, n ≤ nf → ∀ i, i < n → ((J i).toInt = U ∧ (J2 i).toInt = U2) ∨ ((J i).toInt = (J2 i).toInt ∧ 0 ≤ (J i).toInt ∧ (J i).toInt < (nl : Int)) := by
  intro n
  induction n with
  | zero => intro _ i hi; exact absurd hi (Nat.not_lt_zero i)
  | succ n ih =>
    intro hn i hi
    by_cases e : i < n
    · exact ih (by omega) i e
    · have e : i = n := by omega
      subst e
      have hUe : ∀ j : Nat, j < nl → gjU fr fk (fr i) (fk i) J2 (j : Int) i = gjU fr fk (fr i) (fk i) J (j : Int) i := fun j hj => gjU_co i (fun k hk => ⟨rfl, fun _ => by
        rcases ih (by omega) k hk with ⟨a, b⟩ | ⟨a, b, c⟩
        · rw [a, b]; exact ⟨fun h => absurd h (hU2 j hj), fun h => by omega⟩
        · rw [a]⟩)
      have hc : ∀ j, j < nl → (gjCd fr fk fs nf lr lk ls nl J2 i j ↔ gjCd fr fk fs nf lr lk ls nl J i j) := by
        intro j hj
        unfold gjCd
        have e1 : gjQL fr fk lr lk (fr i) (fk i) J2 i j = gjQL fr fk lr lk (fr i) (fk i) J i j := by unfold gjQL; rw [hUe j hj]
        rw [e1]
        have e2 : ∀ s, gjLL fr fk lr lk ls nl (fr i) (fk i) J2 i s = gjLL fr fk lr lk ls nl (fr i) (fk i) J i s := fun s => gjLL_co (Nat.le_refl _) hUe (fun _ _ => ⟨rfl, fun _ => rfl⟩) (fun j h1 h2 => by omega)
        rw [gjFit_co (fun s => rfl) e2]
      rcases h i (by omega) with ⟨j, j1, j2, j3, j4⟩ | ⟨z1, z2⟩
      · rcases h2 i (by omega) with ⟨k, k1, k2, k3, k4⟩ | ⟨w1, w2⟩
        · have hjk : j = k := by
            rcases Nat.lt_trichotomy j k with h5 | h5 | h5
            · exact absurd ((hc j j1).mpr j3) (k4 j h5)
            · exact h5
            · exact absurd ((hc k k1).mp k3) (j4 k h5)
          exact Or.inr ⟨by rw [j2, k2, hjk], by omega, by omega⟩
        · exact absurd ((hc j j1).mpr j3) (w2 j j1)
      · rcases h2 i (by omega) with ⟨k, k1, k2, k3, k4⟩ | ⟨w1, w2⟩
        · exact absurd ((hc k k1).mp k3) (z2 k k1)
        · exact Or.inl ⟨z1, w1⟩
end JSPEC
/-- the reference's rows of counts -/
def gjI (g : Nat → Int32) : Nat → Int := fun k => (g k).toInt
def gjKR (f l : Nat → Int32) : Int := gjK (gjF (gjI f)) (gjF (gjI l))
def gjN0 (f l : Nat → Int32) : Prop := ∀ k, 1 ≤ k → k ≤ 9 → (0 ≤ (f k).toInt ∧ (f k).toInt ≤ 20) ∧ (0 ≤ (l k).toInt ∧ (l k).toInt ≤ 20)
def gjM (f0 l0 f l : Nat → Int32) (a b : Nat) (n : Int) : Prop := gjP (gjI f) (gjI l) a b ∧ n + gjKR f l = gjKR f0 l0
section KEPT
variable {f0 l0 f l : Nat → Int32} {a b : Nat} {n : Int}
theorem gjS_ge {h : Nat → Int} : ∀ n, (∀ s, 1 ≤ s → s ≤ n → 0 ≤ h s) → 0 ≤ gjS h n := by
  intro n
  induction n with
  | zero => intro _; exact Int.le_refl _
  | succ n ih =>
    intro e
    have h1 := ih (fun s h1 h2 => e s h1 (by omega))
    have h2 := e (n + 1) (by omega) (by omega)
    rw [gjS]; omega
theorem gjS_le {h : Nat → Int} : ∀ n, (∀ s, 1 ≤ s → s ≤ n → h s ≤ 180) → gjS h n ≤ 180 * (n : Int) := by
  intro n
  induction n with
  | zero => intro _; exact Int.le_refl _
  | succ n ih =>
    intro e
    have h1 := ih (fun s h1 h2 => e s h1 (by omega))
    have h2 := e (n + 1) (by omega) (by omega)
    rw [gjS]; omega
theorem gjT_le {g : Nat → Int} (h : ∀ k, 1 ≤ k → k ≤ 9 → g k ≤ 20) : ∀ d, d ≤ 9 → gjT g d ≤ 20 * (d : Int) := by
  intro d
  induction d with
  | zero => intro _; exact Int.le_refl _
  | succ d ih =>
    intro hd
    have h1 := ih (by omega)
    have h2 := h (9 - d) (by omega) (by omega)
    rw [gjT]; omega
theorem gjKR_p (h : gjP (gjI f) (gjI l) a b) : 0 ≤ gjKR f l := by
  refine gjS_ge 9 (fun s s1 s2 => ?_)
  show 0 ≤ gjm (gjF (gjI f) s) (gjF (gjI l) s)
  have h1 : 0 ≤ gjF (gjI f) s := gjT_p (fun k k1 k2 => (h.1 k k1 k2).1) _ (by omega)
  have h2 : 0 ≤ gjF (gjI l) s := gjT_p (fun k k1 k2 => (h.1 k k1 k2).2) _ (by omega)
  unfold gjm
  by_cases e : gjF (gjI f) s ≤ gjF (gjI l) s
  · rw [if_pos e]; exact h1
  · rw [if_neg e]; exact h2
theorem gjKR_le (h : gjN0 f l) : gjKR f l ≤ 1620 := by
  have h0 := gjS_le (h := fun s => gjm (gjF (gjI f) s) (gjF (gjI l) s)) 9 (fun s s1 s2 => by
    show gjm (gjF (gjI f) s) (gjF (gjI l) s) ≤ 180
    have h1 : gjF (gjI f) s ≤ 20 * ((10 - s : Nat) : Int) := gjT_le (fun k k1 k2 => (h k k1 k2).1.2) _ (by omega)
    have h2 : gjF (gjI l) s ≤ 20 * ((10 - s : Nat) : Int) := gjT_le (fun k k1 k2 => (h k k1 k2).2.2) _ (by omega)
    unfold gjm
    by_cases e : gjF (gjI f) s ≤ gjF (gjI l) s
    · rw [if_pos e]; omega
    · rw [if_neg e]; omega)
  unfold gjKR gjK
  omega
theorem gjM_0 (h : gjN0 f0 l0) (e1 : ∀ k, k < 10 → f k = f0 k) (e2 : ∀ k, k < 10 → l k = l0 k) : gjM f0 l0 f l 9 9 0 := by
  refine ⟨⟨fun k k1 k2 => ?_, fun k k1 k2 => by omega, fun k k1 k2 => by omega⟩, ?_⟩
  · unfold gjI; rw [e1 k (by omega), e2 k (by omega)]; exact ⟨(h k k1 k2).1.1, (h k k1 k2).2.1⟩
  · rw [Int.zero_add]
    exact gjK_co (fun s s1 s2 => gjT_co _ (by omega) (fun k k1 k2 => by unfold gjI; rw [e1 k (by omega)])) (fun s s1 s2 => gjT_co _ (by omega) (fun k k1 k2 => by unfold gjI; rw [e2 k (by omega)]))
theorem gjM_a {a2 : Nat} (h : gjM f0 l0 f l a b n) (ha : a = a2 + 1) (e : (f a).toInt = 0) : gjM f0 l0 f l a2 b n := by
  refine ⟨⟨h.1.1, fun k k1 k2 => ?_, h.1.2.2⟩, h.2⟩
  by_cases e2 : k = a
  · rw [e2]; exact e
  · exact h.1.2.1 k (by omega) k2
theorem gjM_b {b2 : Nat} (h : gjM f0 l0 f l a b n) (hb : b = b2 + 1) (e : (l b).toInt = 0) : gjM f0 l0 f l a b2 n := by
  refine ⟨⟨h.1.1, h.1.2.1, fun k k1 k2 => ?_⟩, h.2⟩
  by_cases e2 : k = b
  · rw [e2]; exact e
  · exact h.1.2.2 k (by omega) k2
theorem gjM_p {x y : Int32} {n2 : Int} (h : gjM f0 l0 f l a b n) (ha : 1 ≤ a) (ha9 : a ≤ 9) (hb : 1 ≤ b) (hb9 : b ≤ 9) (h1 : (f a).toInt ≠ 0) (h2 : (l b).toInt ≠ 0) (ex : x.toInt = (f a).toInt - 1) (ey : y.toInt = (l b).toInt - 1) (en : n2 = n + gjm a b) : gjM f0 l0 (upd f a x) (upd l b y) a b n2 := by
  have hp := gjP_pair (f2 := gjI (upd f a x)) (l2 := gjI (upd l b y)) h.1 ha ha9 hb hb9 h1 h2 (by unfold gjI upd; rw [if_pos rfl]; exact ex) (fun j hj => by unfold gjI upd; rw [if_neg hj]) (by unfold gjI upd; rw [if_pos rfl]; exact ey) (fun j hj => by unfold gjI upd; rw [if_neg hj])
  refine ⟨hp.1, ?_⟩
  have h3 := h.2
  have h4 := hp.2
  unfold gjKR at *
  omega
theorem gjM_e (h : gjM f0 l0 f l a b n) (h0 : a = 0 ∨ b = 0) : n = gjKR f0 l0 := by
  have h1 := gjP_end h.1 h0
  have h2 := h.2
  unfold gjKR at *
  omega
theorem gjM_bd (h0 : gjN0 f0 l0) (h : gjM f0 l0 f l a b n) : n ≤ 1620 := by
  have h1 := gjKR_le h0
  have h2 := gjKR_p h.1
  have h3 := h.2
  omega
theorem gjm_lt {x y : Int} (h : x < y) : gjm x y = x := if_pos (by omega)
theorem gjm_ge {x y : Int} (h : y ≤ x) : gjm x y = y := by
  unfold gjm
  by_cases e : x ≤ y
  · rw [if_pos e]; omega
  · rw [if_neg e]
end KEPT
set_option maxHeartbeats 4000000 in
set_option maxRecDepth 100000 in
theorem c_X12_keptMost9 (l : Launch) (D : va_G) (cy : Nat → ClassId) (a : Nat → Nat) (i : Nat → Int32) (r : Nat → Nat → Int32) (rl : Nat → Int64) (sz : Nat) (hRi : mRi i) (hRr : mRr r) (hk9 : gjN0 (r 35) (r 36)) : Met l yX12_keptMost (Cond.code yX12_keptMost cX12_keptMost 4 (some .int) :: gT) { frames := 1, cells := 0, slots := 0, locals := 24 } (va_Pc [.ref (a 0)] (rQ D cy (mW cy a i r rl) sz)) (va_Qi (fun (z : Int32) (u : Nat → Nat → Int32) => mRr u ∧ mEr [37, 38] r u ∧ (z.toInt = gjKR (r 35) (r 36))) (fun (u : Nat → Nat → Int32) t => va_P D vwCl (mW cy a i u rl) t.heap ∧ va_K D vwCl (vT cy) t ∧ va_D (va_A (mW cy a i r rl) sz) (mW cy a i u rl)) (va_A (mW cy a i r rl) sz)) 0 0 (va_A (mW cy a i r rl) sz) := by
  refine Met.ofQ (cc := cX12_keptMost) (maxL := 4) (ret := (some .int)) (by decide) rfl ?_
  intro p e s m args below meth c s₁ B hml hv Q hQ
  obtain ⟨rfl, hsz, hP, hK, hD0⟩ := hv
  have hx := B.exec
  have hb := B.bytes
  have hr := B.returns
  have hlocks := B.notSynchronized
  have hT : ∀ w ∈ gT, w.before _ s = true := fun w h => atoms_spec (ws := (Cond.code yX12_keptMost cX12_keptMost 4 (some .int) :: gT)) B.pre w (List.mem_cons_of_mem _ h)
  have hown : s.vm.findClass RX12 = some m.cls := findClass_of_methodNamed B.named
  subst hsz
  have hD := hD0.self (sz := s.heap.size)
  generalize hAe : va_A (mW cy a i r rl) s.heap.size = A at hD hQ
  have hA : ∀ q : Nat, s.heap.size ≤ q → A q := fun q h => by rw [← hAe]; exact Or.inr h
  have hS : va_S A s.heap s.heap [] := va_S.rf
  have hl := lv_entry ([.ref (a 0)]) (n := 4) (Nat.le_of_ble_eq_true rfl)
  rw [lg_entry_eq]
  generalize (lg_sl ([.ref (a 0)]) ++ List.replicate (4 - (lg_sl ([.ref (a 0)])).length) Slot.unset).toArray = ls at hl ⊢
  have hl : lv_has ls 4 [(0, .ref (a 0))] := hl
  have hEi : mEi [23, 24, 25, 26, 27, 28, 29, 30, 60] i i := Ei_rf
  have hEr : mEr [37, 38] r r := Er_rf
  refine lv_iconst (v := 0) hx hb dX12_keptMost_0 (by decide) ?_
  refine lv_istore_n (lv' := [(1, .int 0), (0, .ref (a 0))]) hx hb dX12_keptMost_1 rfl hl (by decide) rfl (fun ls hl => ?_)
  have loop_1 : ∀ (n : Nat) (x1_1 : Int32) (r1 : Nat → Nat → Int32) (H : Heap) (locs : List Loc) (ls : Array Slot), (10 - x1_1.toInt).toNat < n → (0 ≤ x1_1.toInt ∧ x1_1.toInt ≤ 10) → mRr r1 → mEr [37, 38] r r1 → ((∀ k, k < x1_1.toNatClampNeg → r1 37 k = r 35 k) ∧ ∀ k, k < x1_1.toNatClampNeg → r1 38 k = r 36 k) → va_P D vwCl (mW cy a i r1 rl) H → va_D A (mW cy a i r1 rl) → va_S A s.heap H locs → lv_has ls 4 [(1, .int x1_1), (0, .ref (a 0))] → W p l e ({ frames := 1, cells := 0, slots := 0, locals := 24 } : Room) s m ([.ref (a 0)] : List Value).toArray below meth c H locs 0 0 Q (F0 m 2 ls []) := by
    intro n
    induction n with
    | zero =>
      intro x1_1 r1 H locs ls hm1 hf1_0 hRr hEr hx1 hP hD hS hl
      exact absurd hm1 (by omega)
    | succ n ih1 =>
      intro x1_1 r1 H locs ls hm1 hf1_0 hRr hEr hx1 hP hD hS hl
      refine lv_iload_n hx hb dX12_keptMost_2 rfl (lv_at hl 0 rfl) ?_
      refine lv_bipush (v := 10) hx hb dX12_keptMost_3 (by decide) ?_
      refine lv_icmp_ge (tgt := 38) hx hb dX12_keptMost_5 (by decide) (fun c_2 => ?_) (fun c_2 => ?_)
      · have c_2 : 10 ≤ x1_1.toInt := b_le c_2
        refine lv_iconst (v := 0) hx hb dX12_keptMost_38 (by decide) ?_
        refine lv_istore_n (lv' := [(1, .int 0), (0, .ref (a 0))]) hx hb dX12_keptMost_39 rfl hl (by decide) rfl (fun ls hl => ?_)
        refine lv_bipush (v := 9) hx hb dX12_keptMost_40 (by decide) ?_
        refine lv_istore_n (lv' := [(2, .int 9), (1, .int 0), (0, .ref (a 0))]) hx hb dX12_keptMost_42 rfl hl (by decide) rfl (fun ls hl => ?_)
        refine lv_bipush (v := 9) hx hb dX12_keptMost_43 (by decide) ?_
        refine lv_istore_n (lv' := [(3, .int 9), (2, .int 9), (1, .int 0), (0, .ref (a 0))]) hx hb dX12_keptMost_45 rfl hl (by decide) rfl (fun ls hl => ?_)
        have loop_3 : ∀ (n : Nat) (x3_3 : Int32) (x3_2 : Int32) (x3_1 : Int32) (r3 : Nat → Nat → Int32) (H : Heap) (locs : List Loc) (ls : Array Slot), (x3_2.toInt + x3_3.toInt + gjKR (r3 37) (r3 38)).toNat < n → (0 ≤ x3_3.toInt ∧ x3_3.toInt ≤ 9) → (0 ≤ x3_2.toInt ∧ x3_2.toInt ≤ 9) → (0 ≤ x3_1.toInt ∧ x3_1.toInt ≤ 1620) → mRr r3 → mEr [37, 38] r r3 → (gjM (r 35) (r 36) (r3 37) (r3 38) x3_2.toNatClampNeg x3_3.toNatClampNeg x3_1.toInt) → va_P D vwCl (mW cy a i r3 rl) H → va_D A (mW cy a i r3 rl) → va_S A s.heap H locs → lv_has ls 4 [(3, .int x3_3), (2, .int x3_2), (1, .int x3_1), (0, .ref (a 0))] → W p l e ({ frames := 1, cells := 0, slots := 0, locals := 24 } : Room) s m ([.ref (a 0)] : List Value).toArray below meth c H locs 0 0 Q (F0 m 46 ls []) := by
          intro n
          induction n with
          | zero =>
            intro x3_3 x3_2 x3_1 r3 H locs ls hm3 hf3_0 hf3_1 hf3_2 hRr hEr hx3 hP hD hS hl
            exact absurd hm3 (by omega)
          | succ n ih3 =>
            intro x3_3 x3_2 x3_1 r3 H locs ls hm3 hf3_0 hf3_1 hf3_2 hRr hEr hx3 hP hD hS hl
            refine lv_iload_n hx hb dX12_keptMost_46 rfl (lv_at hl 1 rfl) ?_
            refine lv_if_le (tgt := 130) hx hb dX12_keptMost_47 (by decide) (fun c_4 => ?_) (fun c_4 => ?_)
            · have c_4 : x3_2.toInt ≤ 0 := b_le c_4
              refine lv_iload_n hx hb dX12_keptMost_130 rfl (lv_at hl 2 rfl) ?_
              subst hQ
              have hz9 : x3_2.toNatClampNeg = 0 ∨ x3_3.toNatClampNeg = 0 := by have h9 : x3_2.toNatClampNeg = x3_2.toInt.toNat := rfl; have h8 : x3_3.toNatClampNeg = x3_3.toInt.toNat := rfl; omega
              exact W.iret (v := x3_1) hx hb hr (fun t ht hW => ⟨⟨_, r3, rfl, ⟨hRr, hEr, (gjM_e hx3 hz9)⟩, by rw [ht]; exact hP, va_K.moved hW.alike hK, hD⟩, hS.F ht⟩) hS.2.2 dX12_keptMost_131
            · have c_4 : 0 < x3_2.toInt := b_nle c_4
              refine lv_iload_n hx hb dX12_keptMost_50 rfl (lv_at hl 0 rfl) ?_
              refine lv_if_le (tgt := 130) hx hb dX12_keptMost_51 (by decide) (fun c_5 => ?_) (fun c_5 => ?_)
              · have c_5 : x3_3.toInt ≤ 0 := b_le c_5
                refine lv_iload_n hx hb dX12_keptMost_130 rfl (lv_at hl 2 rfl) ?_
                subst hQ
                have hz9 : x3_2.toNatClampNeg = 0 ∨ x3_3.toNatClampNeg = 0 := by have h9 : x3_2.toNatClampNeg = x3_2.toInt.toNat := rfl; have h8 : x3_3.toNatClampNeg = x3_3.toInt.toNat := rfl; omega
                exact W.iret (v := x3_1) hx hb hr (fun t ht hW => ⟨⟨_, r3, rfl, ⟨hRr, hEr, (gjM_e hx3 hz9)⟩, by rw [ht]; exact hP, va_K.moved hW.alike hK, hD⟩, hS.F ht⟩) hS.2.2 dX12_keptMost_131
              · have c_5 : 0 < x3_3.toInt := b_nle c_5
                refine lv_aload_n hx hb dX12_keptMost_54 rfl (lv_at hl 3 rfl) ?_
                refine va_get (D := D) (ci := 12) (v := .ref (a 37)) (C := RX12) (T := TX12) (N := 91) hx hb hT iX12 hown hK hP 0 rfl rfl 48 (by decide) (hT _ t_39) (fun _ h9 => h9) rfl dX12_keptMost_55 ?_
                refine lv_iload_n hx hb dX12_keptMost_58 rfl (lv_at hl 1 rfl) ?_
                refine va_iald hx hb hK hP 37 0 rfl rfl (vp_inI (by omega) (by omega)) dX12_keptMost_59 ?_
                refine lv_topi (fun v_6 ev_6 => ?_)
                refine lv_if_ne (tgt := 70) hx hb dX12_keptMost_60 (by decide) (fun c_7 => ?_) (fun c_7 => ?_)
                · have c_7 : v_6.toInt ≠ 0 := b_ne c_7
                  refine lv_aload_n hx hb dX12_keptMost_70 rfl (lv_at hl 3 rfl) ?_
                  refine va_get (D := D) (ci := 12) (v := .ref (a 38)) (C := RX12) (T := TX12) (N := 91) hx hb hT iX12 hown hK hP 0 rfl rfl 49 (by decide) (hT _ t_40) (fun _ h9 => h9) rfl dX12_keptMost_71 ?_
                  refine lv_iload_n hx hb dX12_keptMost_74 rfl (lv_at hl 0 rfl) ?_
                  refine va_iald hx hb hK hP 38 0 rfl rfl (vp_inI (by omega) (by omega)) dX12_keptMost_75 ?_
                  refine lv_topi (fun v_8 ev_8 => ?_)
                  refine lv_if_ne (tgt := 86) hx hb dX12_keptMost_76 (by decide) (fun c_9 => ?_) (fun c_9 => ?_)
                  · have c_9 : v_8.toInt ≠ 0 := b_ne c_9
                    refine lv_iload_n hx hb dX12_keptMost_86 rfl (lv_at hl 2 rfl) ?_
                    refine lv_iload_n hx hb dX12_keptMost_87 rfl (lv_at hl 1 rfl) ?_
                    refine lv_iload_n hx hb dX12_keptMost_88 rfl (lv_at hl 0 rfl) ?_
                    refine lv_icmp_ge (tgt := 96) hx hb dX12_keptMost_89 (by decide) (fun c_10 => ?_) (fun c_10 => ?_)
                    · have c_10 : x3_3.toInt ≤ x3_2.toInt := b_le c_10
                      refine lv_iload_n hx hb dX12_keptMost_96 rfl (lv_at hl 0 rfl) ?_
                      refine lv_iadd hx hb dX12_keptMost_97 ?_
                      refine lv_topi (fun v_11 ev_11 => ?_)
                      have hv_11 : v_11.toInt = x3_1.toInt + x3_3.toInt := by rw [ev_11]; have := b_rg x3_1; have := b_rg x3_3; exact i_add (a := x3_1.toInt) (b := x3_3.toInt) rfl rfl (by omega) (by omega)
                      refine lv_istore_n (lv' := [(1, .int v_11), (3, .int x3_3), (2, .int x3_2), (0, .ref (a 0))]) hx hb dX12_keptMost_98 rfl hl (by decide) rfl (fun ls hl => ?_)
                      refine lv_aload_n hx hb dX12_keptMost_99 rfl (lv_at hl 3 rfl) ?_
                      refine va_get (D := D) (ci := 12) (v := .ref (a 37)) (C := RX12) (T := TX12) (N := 91) hx hb hT iX12 hown hK hP 0 rfl rfl 48 (by decide) (hT _ t_39) (fun _ h9 => h9) rfl dX12_keptMost_100 ?_
                      refine lv_iload_n hx hb dX12_keptMost_103 rfl (lv_at hl 2 rfl) ?_
                      refine lv_aload_n hx hb dX12_keptMost_104 rfl (lv_at hl 3 rfl) ?_
                      refine va_get (D := D) (ci := 12) (v := .ref (a 37)) (C := RX12) (T := TX12) (N := 91) hx hb hT iX12 hown hK hP 0 rfl rfl 48 (by decide) (hT _ t_39) (fun _ h9 => h9) rfl dX12_keptMost_105 ?_
                      refine lv_iload_n hx hb dX12_keptMost_108 rfl (lv_at hl 2 rfl) ?_
                      refine va_iald hx hb hK hP 37 0 rfl rfl (vp_inI (by omega) (by omega)) dX12_keptMost_109 ?_
                      refine lv_topi (fun v_12 ev_12 => ?_)
                      refine lv_iconst (v := 1) hx hb dX12_keptMost_110 (by decide) ?_
                      refine lv_isub hx hb dX12_keptMost_111 ?_
                      refine lv_topi (fun v_13 ev_13 => ?_)
                      refine va_iast hx hb hK hP hD hS 37 0 rfl rfl (vp_inI (by omega) (by omega)) dX12_keptMost_112 (fun H locs hP hD hS => ?_)
                      rw [mS37] at hP hD
                      have hRr : mRr (va_up r3 37 (upd (r3 37) x3_2.toNatClampNeg v_13)) := Rr_upd hRr 37 (x3_2.toNatClampNeg) v_13 (b_rg _)
                      have hEr : mEr [37, 38] _ (va_up r3 37 (upd (r3 37) x3_2.toNatClampNeg v_13)) := Er_up hEr 37 _ (by decide)
                      refine lv_aload_n hx hb dX12_keptMost_113 rfl (lv_at hl 3 rfl) ?_
                      refine va_get (D := D) (ci := 12) (v := .ref (a 38)) (C := RX12) (T := TX12) (N := 91) hx hb hT iX12 hown hK hP 0 rfl rfl 49 (by decide) (hT _ t_40) (fun _ h9 => h9) rfl dX12_keptMost_114 ?_
                      refine lv_iload_n hx hb dX12_keptMost_117 rfl (lv_at hl 1 rfl) ?_
                      refine lv_aload_n hx hb dX12_keptMost_118 rfl (lv_at hl 3 rfl) ?_
                      refine va_get (D := D) (ci := 12) (v := .ref (a 38)) (C := RX12) (T := TX12) (N := 91) hx hb hT iX12 hown hK hP 0 rfl rfl 49 (by decide) (hT _ t_40) (fun _ h9 => h9) rfl dX12_keptMost_119 ?_
                      refine lv_iload_n hx hb dX12_keptMost_122 rfl (lv_at hl 1 rfl) ?_
                      refine va_iald hx hb hK hP 38 0 rfl rfl (vp_inI (by omega) (by omega)) dX12_keptMost_123 ?_
                      refine lv_topi (fun v_14 ev_14 => ?_)
                      refine lv_iconst (v := 1) hx hb dX12_keptMost_124 (by decide) ?_
                      refine lv_isub hx hb dX12_keptMost_125 ?_
                      refine lv_topi (fun v_15 ev_15 => ?_)
                      refine va_iast hx hb hK hP hD hS 38 0 rfl rfl (vp_inI (by omega) (by omega)) dX12_keptMost_126 (fun H locs hP hD hS => ?_)
                      rw [mS38] at hP hD
                      have hRr : mRr (va_up (va_up r3 37 (upd (r3 37) x3_2.toNatClampNeg v_13)) 38 (upd (r3 38) x3_3.toNatClampNeg v_15)) := Rr_upd hRr 38 (x3_3.toNatClampNeg) v_15 (b_rg _)
                      have hEr : mEr [37, 38] _ (va_up (va_up r3 37 (upd (r3 37) x3_2.toNatClampNeg v_13)) 38 (upd (r3 38) x3_3.toNatClampNeg v_15)) := Er_up hEr 38 _ (by decide)
                      refine lv_goto (tgt := 46) hx hb dX12_keptMost_127 (by decide) ?_
                      have hA1 : 1 ≤ x3_2.toNatClampNeg ∧ x3_2.toNatClampNeg ≤ 9 := by have h9 : x3_2.toNatClampNeg = x3_2.toInt.toNat := rfl; omega
                      have hB1 : 1 ≤ x3_3.toNatClampNeg ∧ x3_3.toNatClampNeg ≤ 9 := by have h9 : x3_3.toNatClampNeg = x3_3.toInt.toNat := rfl; omega
                      have hAn : ((x3_2.toNatClampNeg : Nat) : Int) = x3_2.toInt := by show ((x3_2.toInt.toNat : Nat) : Int) = _; omega
                      have hBn : ((x3_3.toNatClampNeg : Nat) : Int) = x3_3.toInt := by show ((x3_3.toInt.toNat : Nat) : Int) = _; omega
                      have hmm : v_11.toInt = x3_1.toInt + gjm (x3_2.toNatClampNeg : Nat) (x3_3.toNatClampNeg : Nat) := by rw [hAn, hBn, gjm_ge (by omega)]; omega
                      have q1 : (r3 37 (x3_2.toNatClampNeg)).toInt ≠ 0 := by rw [← ev_6]; omega
                      have q2 : (r3 38 (x3_3.toNatClampNeg)).toInt ≠ 0 := by rw [← ev_8]; omega
                      have g1 := hx3.1.1 _ hA1.1 hA1.2
                      have g2 := hx3.1.1 _ hB1.1 hB1.2
                      have g1 : 0 ≤ (r3 37 (x3_2.toNatClampNeg)).toInt := g1.1
                      have g2 : 0 ≤ (r3 38 (x3_3.toNatClampNeg)).toInt := g2.2
                      have yx1 : 0 ≤ v_12.toInt := by rw [ev_12]; exact g1
                      have x1 : v_13.toInt = (r3 37 (x3_2.toNatClampNeg)).toInt - 1 := by rw [ev_13, ← ev_12]; have h8 := b_rg v_12; exact i_sub (a := v_12.toInt) (b := 1) rfl rfl (by omega) (by omega)
                      have el2 : v_14 = r3 38 (x3_3.toNatClampNeg) := ev_14
                      have yx2 : 0 ≤ v_14.toInt := by rw [el2]; exact g2
                      have x2 : v_15.toInt = (r3 38 (x3_3.toNatClampNeg)).toInt - 1 := by rw [ev_15, ← el2]; have h8 := b_rg v_14; exact i_sub (a := v_14.toInt) (b := 1) rfl rfl (by omega) (by omega)
                      have hM9 : gjM (r 35) (r 36) (upd (r3 37) (x3_2.toNatClampNeg) v_13) (upd (r3 38) (x3_3.toNatClampNeg) v_15) (x3_2.toNatClampNeg) (x3_3.toNatClampNeg) v_11.toInt := gjM_p hx3 hA1.1 hA1.2 hB1.1 hB1.2 q1 q2 x1 x2 hmm
                      have hbd := gjM_bd hk9 hM9
                      have hK9 : v_11.toInt + gjKR ((va_up (va_up r3 37 (upd (r3 37) x3_2.toNatClampNeg v_13)) 38 (upd (r3 38) x3_3.toNatClampNeg v_15)) 37) ((va_up (va_up r3 37 (upd (r3 37) x3_2.toNatClampNeg v_13)) 38 (upd (r3 38) x3_3.toNatClampNeg v_15)) 38) = gjKR (r 35) (r 36) := hM9.2
                      have hP9 : 0 ≤ gjKR ((va_up (va_up r3 37 (upd (r3 37) x3_2.toNatClampNeg v_13)) 38 (upd (r3 38) x3_3.toNatClampNeg v_15)) 37) ((va_up (va_up r3 37 (upd (r3 37) x3_2.toNatClampNeg v_13)) 38 (upd (r3 38) x3_3.toNatClampNeg v_15)) 38) := gjKR_p hM9.1
                      have hK8 := hx3.2
                      exact ih3 x3_3 x3_2 v_11 (va_up (va_up r3 37 (upd (r3 37) x3_2.toNatClampNeg v_13)) 38 (upd (r3 38) x3_3.toNatClampNeg v_15)) _ _ _ (by first | omega | (simp only [Int.toNat]; omega)) (by first | omega | decide) (by first | omega | decide) (by first | omega | decide) hRr hEr hM9 hP hD hS (lv_sub hl [1, 2, 0, 3] rfl)
                    · have c_10 : x3_2.toInt < x3_3.toInt := b_nle c_10
                      refine lv_iload_n hx hb dX12_keptMost_92 rfl (lv_at hl 1 rfl) ?_
                      refine lv_goto (tgt := 97) hx hb dX12_keptMost_93 (by decide) ?_
                      refine lv_iadd hx hb dX12_keptMost_97 ?_
                      refine lv_topi (fun v_16 ev_16 => ?_)
                      have hv_16 : v_16.toInt = x3_1.toInt + x3_2.toInt := by rw [ev_16]; have := b_rg x3_1; have := b_rg x3_2; exact i_add (a := x3_1.toInt) (b := x3_2.toInt) rfl rfl (by omega) (by omega)
                      refine lv_istore_n (lv' := [(1, .int v_16), (3, .int x3_3), (2, .int x3_2), (0, .ref (a 0))]) hx hb dX12_keptMost_98 rfl hl (by decide) rfl (fun ls hl => ?_)
                      refine lv_aload_n hx hb dX12_keptMost_99 rfl (lv_at hl 3 rfl) ?_
                      refine va_get (D := D) (ci := 12) (v := .ref (a 37)) (C := RX12) (T := TX12) (N := 91) hx hb hT iX12 hown hK hP 0 rfl rfl 48 (by decide) (hT _ t_39) (fun _ h9 => h9) rfl dX12_keptMost_100 ?_
                      refine lv_iload_n hx hb dX12_keptMost_103 rfl (lv_at hl 2 rfl) ?_
                      refine lv_aload_n hx hb dX12_keptMost_104 rfl (lv_at hl 3 rfl) ?_
                      refine va_get (D := D) (ci := 12) (v := .ref (a 37)) (C := RX12) (T := TX12) (N := 91) hx hb hT iX12 hown hK hP 0 rfl rfl 48 (by decide) (hT _ t_39) (fun _ h9 => h9) rfl dX12_keptMost_105 ?_
                      refine lv_iload_n hx hb dX12_keptMost_108 rfl (lv_at hl 2 rfl) ?_
                      refine va_iald hx hb hK hP 37 0 rfl rfl (vp_inI (by omega) (by omega)) dX12_keptMost_109 ?_
                      refine lv_topi (fun v_17 ev_17 => ?_)
                      refine lv_iconst (v := 1) hx hb dX12_keptMost_110 (by decide) ?_
                      refine lv_isub hx hb dX12_keptMost_111 ?_
                      refine lv_topi (fun v_18 ev_18 => ?_)
                      refine va_iast hx hb hK hP hD hS 37 0 rfl rfl (vp_inI (by omega) (by omega)) dX12_keptMost_112 (fun H locs hP hD hS => ?_)
                      rw [mS37] at hP hD
                      have hRr : mRr (va_up r3 37 (upd (r3 37) x3_2.toNatClampNeg v_18)) := Rr_upd hRr 37 (x3_2.toNatClampNeg) v_18 (b_rg _)
                      have hEr : mEr [37, 38] _ (va_up r3 37 (upd (r3 37) x3_2.toNatClampNeg v_18)) := Er_up hEr 37 _ (by decide)
                      refine lv_aload_n hx hb dX12_keptMost_113 rfl (lv_at hl 3 rfl) ?_
                      refine va_get (D := D) (ci := 12) (v := .ref (a 38)) (C := RX12) (T := TX12) (N := 91) hx hb hT iX12 hown hK hP 0 rfl rfl 49 (by decide) (hT _ t_40) (fun _ h9 => h9) rfl dX12_keptMost_114 ?_
                      refine lv_iload_n hx hb dX12_keptMost_117 rfl (lv_at hl 1 rfl) ?_
                      refine lv_aload_n hx hb dX12_keptMost_118 rfl (lv_at hl 3 rfl) ?_
                      refine va_get (D := D) (ci := 12) (v := .ref (a 38)) (C := RX12) (T := TX12) (N := 91) hx hb hT iX12 hown hK hP 0 rfl rfl 49 (by decide) (hT _ t_40) (fun _ h9 => h9) rfl dX12_keptMost_119 ?_
                      refine lv_iload_n hx hb dX12_keptMost_122 rfl (lv_at hl 1 rfl) ?_
                      refine va_iald hx hb hK hP 38 0 rfl rfl (vp_inI (by omega) (by omega)) dX12_keptMost_123 ?_
                      refine lv_topi (fun v_19 ev_19 => ?_)
                      refine lv_iconst (v := 1) hx hb dX12_keptMost_124 (by decide) ?_
                      refine lv_isub hx hb dX12_keptMost_125 ?_
                      refine lv_topi (fun v_20 ev_20 => ?_)
                      refine va_iast hx hb hK hP hD hS 38 0 rfl rfl (vp_inI (by omega) (by omega)) dX12_keptMost_126 (fun H locs hP hD hS => ?_)
                      rw [mS38] at hP hD
                      have hRr : mRr (va_up (va_up r3 37 (upd (r3 37) x3_2.toNatClampNeg v_18)) 38 (upd (r3 38) x3_3.toNatClampNeg v_20)) := Rr_upd hRr 38 (x3_3.toNatClampNeg) v_20 (b_rg _)
                      have hEr : mEr [37, 38] _ (va_up (va_up r3 37 (upd (r3 37) x3_2.toNatClampNeg v_18)) 38 (upd (r3 38) x3_3.toNatClampNeg v_20)) := Er_up hEr 38 _ (by decide)
                      refine lv_goto (tgt := 46) hx hb dX12_keptMost_127 (by decide) ?_
                      have hA1 : 1 ≤ x3_2.toNatClampNeg ∧ x3_2.toNatClampNeg ≤ 9 := by have h9 : x3_2.toNatClampNeg = x3_2.toInt.toNat := rfl; omega
                      have hB1 : 1 ≤ x3_3.toNatClampNeg ∧ x3_3.toNatClampNeg ≤ 9 := by have h9 : x3_3.toNatClampNeg = x3_3.toInt.toNat := rfl; omega
                      have hAn : ((x3_2.toNatClampNeg : Nat) : Int) = x3_2.toInt := by show ((x3_2.toInt.toNat : Nat) : Int) = _; omega
                      have hBn : ((x3_3.toNatClampNeg : Nat) : Int) = x3_3.toInt := by show ((x3_3.toInt.toNat : Nat) : Int) = _; omega
                      have hmm : v_16.toInt = x3_1.toInt + gjm (x3_2.toNatClampNeg : Nat) (x3_3.toNatClampNeg : Nat) := by rw [hAn, hBn, gjm_lt (by omega)]; omega
                      have q1 : (r3 37 (x3_2.toNatClampNeg)).toInt ≠ 0 := by rw [← ev_6]; omega
                      have q2 : (r3 38 (x3_3.toNatClampNeg)).toInt ≠ 0 := by rw [← ev_8]; omega
                      have g1 := hx3.1.1 _ hA1.1 hA1.2
                      have g2 := hx3.1.1 _ hB1.1 hB1.2
                      have g1 : 0 ≤ (r3 37 (x3_2.toNatClampNeg)).toInt := g1.1
                      have g2 : 0 ≤ (r3 38 (x3_3.toNatClampNeg)).toInt := g2.2
                      have yx1 : 0 ≤ v_17.toInt := by rw [ev_17]; exact g1
                      have x1 : v_18.toInt = (r3 37 (x3_2.toNatClampNeg)).toInt - 1 := by rw [ev_18, ← ev_17]; have h8 := b_rg v_17; exact i_sub (a := v_17.toInt) (b := 1) rfl rfl (by omega) (by omega)
                      have el2 : v_19 = r3 38 (x3_3.toNatClampNeg) := ev_19
                      have yx2 : 0 ≤ v_19.toInt := by rw [el2]; exact g2
                      have x2 : v_20.toInt = (r3 38 (x3_3.toNatClampNeg)).toInt - 1 := by rw [ev_20, ← el2]; have h8 := b_rg v_19; exact i_sub (a := v_19.toInt) (b := 1) rfl rfl (by omega) (by omega)
                      have hM9 : gjM (r 35) (r 36) (upd (r3 37) (x3_2.toNatClampNeg) v_18) (upd (r3 38) (x3_3.toNatClampNeg) v_20) (x3_2.toNatClampNeg) (x3_3.toNatClampNeg) v_16.toInt := gjM_p hx3 hA1.1 hA1.2 hB1.1 hB1.2 q1 q2 x1 x2 hmm
                      have hbd := gjM_bd hk9 hM9
                      have hK9 : v_16.toInt + gjKR ((va_up (va_up r3 37 (upd (r3 37) x3_2.toNatClampNeg v_18)) 38 (upd (r3 38) x3_3.toNatClampNeg v_20)) 37) ((va_up (va_up r3 37 (upd (r3 37) x3_2.toNatClampNeg v_18)) 38 (upd (r3 38) x3_3.toNatClampNeg v_20)) 38) = gjKR (r 35) (r 36) := hM9.2
                      have hP9 : 0 ≤ gjKR ((va_up (va_up r3 37 (upd (r3 37) x3_2.toNatClampNeg v_18)) 38 (upd (r3 38) x3_3.toNatClampNeg v_20)) 37) ((va_up (va_up r3 37 (upd (r3 37) x3_2.toNatClampNeg v_18)) 38 (upd (r3 38) x3_3.toNatClampNeg v_20)) 38) := gjKR_p hM9.1
                      have hK8 := hx3.2
                      exact ih3 x3_3 x3_2 v_16 (va_up (va_up r3 37 (upd (r3 37) x3_2.toNatClampNeg v_18)) 38 (upd (r3 38) x3_3.toNatClampNeg v_20)) _ _ _ (by first | omega | (simp only [Int.toNat]; omega)) (by first | omega | decide) (by first | omega | decide) (by first | omega | decide) hRr hEr hM9 hP hD hS (lv_sub hl [1, 2, 0, 3] rfl)
                  · have c_9 : v_8.toInt = 0 := b_nne c_9
                    refine lv_iload_n hx hb dX12_keptMost_79 rfl (lv_at hl 0 rfl) ?_
                    refine lv_iconst (v := 1) hx hb dX12_keptMost_80 (by decide) ?_
                    refine lv_isub hx hb dX12_keptMost_81 ?_
                    refine lv_topi (fun v_21 ev_21 => ?_)
                    have hv_21 : v_21.toInt = x3_3.toInt - 1 := by rw [ev_21]; have := b_rg x3_3; exact i_sub (a := x3_3.toInt) (b := 1) rfl rfl (by omega) (by omega)
                    refine lv_istore_n (lv' := [(3, .int v_21), (2, .int x3_2), (1, .int x3_1), (0, .ref (a 0))]) hx hb dX12_keptMost_82 rfl hl (by decide) rfl (fun ls hl => ?_)
                    refine lv_goto (tgt := 46) hx hb dX12_keptMost_83 (by decide) ?_
                    have hk : x3_3.toNatClampNeg = v_21.toNatClampNeg + 1 := by show x3_3.toInt.toNat = v_21.toInt.toNat + 1; omega
                    have hz9 : (r3 38 (x3_3.toNatClampNeg)).toInt = 0 := by rw [← ev_8]; omega
                    have hM9 := gjM_b hx3 hk hz9
                    have hP9 := gjKR_p hM9.1
                    exact ih3 v_21 x3_2 x3_1 r3 _ _ _ (by first | omega | (simp only [Int.toNat]; omega)) (by first | omega | decide) (by first | omega | decide) (by first | omega | decide) hRr hEr hM9 hP hD hS (lv_sub hl [0, 1, 2, 3] rfl)
                · have c_7 : v_6.toInt = 0 := b_nne c_7
                  refine lv_iload_n hx hb dX12_keptMost_63 rfl (lv_at hl 1 rfl) ?_
                  refine lv_iconst (v := 1) hx hb dX12_keptMost_64 (by decide) ?_
                  refine lv_isub hx hb dX12_keptMost_65 ?_
                  refine lv_topi (fun v_22 ev_22 => ?_)
                  have hv_22 : v_22.toInt = x3_2.toInt - 1 := by rw [ev_22]; have := b_rg x3_2; exact i_sub (a := x3_2.toInt) (b := 1) rfl rfl (by omega) (by omega)
                  refine lv_istore_n (lv' := [(2, .int v_22), (3, .int x3_3), (1, .int x3_1), (0, .ref (a 0))]) hx hb dX12_keptMost_66 rfl hl (by decide) rfl (fun ls hl => ?_)
                  refine lv_goto (tgt := 46) hx hb dX12_keptMost_67 (by decide) ?_
                  have hk : x3_2.toNatClampNeg = v_22.toNatClampNeg + 1 := by show x3_2.toInt.toNat = v_22.toInt.toNat + 1; omega
                  have hz9 : (r3 37 (x3_2.toNatClampNeg)).toInt = 0 := by rw [← ev_6]; omega
                  have hM9 := gjM_a hx3 hk hz9
                  have hP9 := gjKR_p hM9.1
                  exact ih3 x3_3 v_22 x3_1 r3 _ _ _ (by first | omega | (simp only [Int.toNat]; omega)) (by first | omega | decide) (by first | omega | decide) (by first | omega | decide) hRr hEr hM9 hP hD hS (lv_sub hl [1, 0, 2, 3] rfl)
        have h10 : x1_1.toNatClampNeg = 10 := by show x1_1.toInt.toNat = 10; omega
        have hc9 := hx1
        rw [h10] at hc9
        have hM9 : gjM (r 35) (r 36) (r1 37) (r1 38) (9 : Int32).toNatClampNeg (9 : Int32).toNatClampNeg (0 : Int32).toInt := gjM_0 hk9 hc9.1 hc9.2
        have hB9 := gjKR_le hk9
        have hK9 : (0 : Int32).toInt + gjKR (r1 37) (r1 38) = gjKR (r 35) (r 36) := hM9.2
        exact loop_3 _ 9 9 0 r1 _ _ _ (Nat.lt_succ_self _) (by first | omega | decide) (by first | omega | decide) (by first | omega | decide) hRr hEr hM9 hP hD hS hl
      · have c_2 : x1_1.toInt < 10 := b_nle c_2
        refine lv_aload_n hx hb dX12_keptMost_8 rfl (lv_at hl 1 rfl) ?_
        have hEr2 := hEr
        refine va_get (D := D) (ci := 12) (v := .ref (a 37)) (C := RX12) (T := TX12) (N := 91) hx hb hT iX12 hown hK hP 0 rfl rfl 48 (by decide) (hT _ t_39) (fun _ h9 => h9) rfl dX12_keptMost_9 ?_
        refine lv_iload_n hx hb dX12_keptMost_12 rfl (lv_at hl 0 rfl) ?_
        refine lv_aload_n hx hb dX12_keptMost_13 rfl (lv_at hl 1 rfl) ?_
        refine va_get (D := D) (ci := 12) (v := .ref (a 35)) (C := RX12) (T := TX12) (N := 91) hx hb hT iX12 hown hK hP 0 rfl rfl 46 (by decide) (hT _ t_41) (fun _ h9 => h9) rfl dX12_keptMost_14 ?_
        refine lv_iload_n hx hb dX12_keptMost_17 rfl (lv_at hl 0 rfl) ?_
        refine va_iald hx hb hK hP 35 0 rfl rfl (vp_inI (by omega) (by omega)) dX12_keptMost_18 ?_
        refine lv_topi (fun v_23 ev_23 => ?_)
        refine va_iast hx hb hK hP hD hS 37 0 rfl rfl (vp_inI (by omega) (by omega)) dX12_keptMost_19 (fun H locs hP hD hS => ?_)
        rw [mS37] at hP hD
        have hRr : mRr (va_up r1 37 (upd (r1 37) x1_1.toNatClampNeg v_23)) := Rr_upd hRr 37 (x1_1.toNatClampNeg) v_23 (b_rg _)
        have hEr : mEr [37, 38] _ (va_up r1 37 (upd (r1 37) x1_1.toNatClampNeg v_23)) := Er_up hEr 37 _ (by decide)
        refine lv_aload_n hx hb dX12_keptMost_20 rfl (lv_at hl 1 rfl) ?_
        refine va_get (D := D) (ci := 12) (v := .ref (a 38)) (C := RX12) (T := TX12) (N := 91) hx hb hT iX12 hown hK hP 0 rfl rfl 49 (by decide) (hT _ t_40) (fun _ h9 => h9) rfl dX12_keptMost_21 ?_
        refine lv_iload_n hx hb dX12_keptMost_24 rfl (lv_at hl 0 rfl) ?_
        refine lv_aload_n hx hb dX12_keptMost_25 rfl (lv_at hl 1 rfl) ?_
        refine va_get (D := D) (ci := 12) (v := .ref (a 36)) (C := RX12) (T := TX12) (N := 91) hx hb hT iX12 hown hK hP 0 rfl rfl 47 (by decide) (hT _ t_42) (fun _ h9 => h9) rfl dX12_keptMost_26 ?_
        refine lv_iload_n hx hb dX12_keptMost_29 rfl (lv_at hl 0 rfl) ?_
        refine va_iald hx hb hK hP 36 0 rfl rfl (vp_inI (by omega) (by omega)) dX12_keptMost_30 ?_
        refine lv_topi (fun v_24 ev_24 => ?_)
        refine va_iast hx hb hK hP hD hS 38 0 rfl rfl (vp_inI (by omega) (by omega)) dX12_keptMost_31 (fun H locs hP hD hS => ?_)
        rw [mS38] at hP hD
        have hRr : mRr (va_up (va_up r1 37 (upd (r1 37) x1_1.toNatClampNeg v_23)) 38 (upd (r1 38) x1_1.toNatClampNeg v_24)) := Rr_upd hRr 38 (x1_1.toNatClampNeg) v_24 (b_rg _)
        have hEr : mEr [37, 38] _ (va_up (va_up r1 37 (upd (r1 37) x1_1.toNatClampNeg v_23)) 38 (upd (r1 38) x1_1.toNatClampNeg v_24)) := Er_up hEr 38 _ (by decide)
        obtain ⟨x_25, ex_25⟩ : ∃ y : Int32, y = x1_1 + 1 := ⟨_, rfl⟩
        refine lv_iinc (v := x_25) (lv' := [(1, .int x_25), (0, .ref (a 0))]) hx hb dX12_keptMost_32 hl (k := 0) rfl (by rw [ex_25]; rfl) (by decide) rfl (fun ls hl => ?_)
        have hx_25 : x_25.toInt = x1_1.toInt + 1 := by rw [ex_25]; have := b_rg x1_1; exact i_add (a := x1_1.toInt) (b := 1) rfl rfl (by omega) (by omega)
        refine lv_goto (tgt := 2) hx hb dX12_keptMost_35 (by decide) ?_
        have hk : x_25.toNatClampNeg = x1_1.toNatClampNeg + 1 := by show x_25.toInt.toNat = x1_1.toInt.toNat + 1; omega
        have hc37 : ∀ k, k < x_25.toNatClampNeg → upd (r1 37) (x1_1.toNatClampNeg) v_23 k = r 35 k := by
          intro k hk2
          unfold upd
          by_cases e9 : k = x1_1.toNatClampNeg
          · rw [if_pos e9, ev_23, e9]; exact congrFun (hEr2 35 (by decide)) _
          · rw [if_neg e9]; exact hx1.1 k (by omega)
        have hc38 : ∀ k, k < x_25.toNatClampNeg → upd (r1 38) (x1_1.toNatClampNeg) v_24 k = r 36 k := by
          intro k hk2
          unfold upd
          by_cases e9 : k = x1_1.toNatClampNeg
          · rw [if_pos e9, ev_24, e9]; exact congrFun (hEr2 36 (by decide)) _
          · rw [if_neg e9]; exact hx1.2 k (by omega)
        exact ih1 x_25 (va_up (va_up r1 37 (upd (r1 37) x1_1.toNatClampNeg v_23)) 38 (upd (r1 38) x1_1.toNatClampNeg v_24)) _ _ _ (by first | omega | (simp only [Int.toNat]; omega)) (by first | omega | decide) hRr hEr ⟨hc37, hc38⟩ hP hD hS (lv_sub hl [0, 1] rfl)
  exact loop_1 _ 0 r _ _ _ (Nat.lt_succ_self _) (by first | omega | decide) hRr hEr ⟨fun k hk => absurd (show k < 0 from hk) (Nat.not_lt_zero k), fun k hk => absurd (show k < 0 from hk) (Nat.not_lt_zero k)⟩ hP hD hS hl
