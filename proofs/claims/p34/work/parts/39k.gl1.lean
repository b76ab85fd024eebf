/-- like ones: the state at last, by the class and by the reference; how many of a kind are worse or gone -/
def lkX (J ls : Nat → Int32) (nl : Int) (k : Nat) : Int := if (J k).toInt < 0 ∨ nl ≤ (J k).toInt then 0 else (ls (J k).toNatClampNeg).toInt
def lkW (S : Nat → Int) (fk fs : Nat → Int32) (kd : Int) : Nat → Int
  | 0 => 0
  | n + 1 => lkW S fk fs kd n + (if (fk n).toInt = kd ∧ S n < (fs n).toInt then 1 else 0)
def lkA (x : Int) : Int := if x < 0 then -x else x
def lkS (u v : Nat → Int) : Nat → Int
  | 0 => 0
  | n + 1 => lkS u v n + 10 * lkA (u n - v n)
def lkD (m1 m2 : Int) (u v : Nat → Int) : Int := lkA (m1 - m2) / 12 + lkS u v 8
theorem lkA_r {x y : Int} (h1 : -y ≤ x) (h2 : x ≤ y) : 0 ≤ lkA x ∧ lkA x ≤ y := by
  unfold lkA
  by_cases h : x < 0
  · rw [if_pos h]; omega
  · rw [if_neg h]; omega
theorem ABS_A {x : Int32} (h : -2147483648 < x.toInt) : (ABS x).toInt = lkA x.toInt := by
  have hr := b_rg x
  unfold lkA
  by_cases e : x.toInt < 0
  · rw [if_pos e]
    have hn : ¬ (0 : Int32) ≤ x := fun h9 => by have h8 := Int32.le_iff_toInt_le.mp h9; have h7 : (0 : Int32).toInt = 0 := rfl; omega
    unfold ABS
    rw [if_neg hn, i_sub (x := 0) (a := 0) (b := x.toInt) rfl rfl (by omega) (by omega)]; omega
  · rw [if_neg e, ← ABS_p (by omega)]
theorem lkW_r {S : Nat → Int} {fk fs : Nat → Int32} {kd : Int} : ∀ n, 0 ≤ lkW S fk fs kd n ∧ lkW S fk fs kd n ≤ (n : Int) := by
  intro n
  induction n with
  | zero => exact ⟨Int.le_refl _, Int.le_refl _⟩
  | succ n ih =>
    rw [lkW]
    by_cases h : (fk n).toInt = kd ∧ S n < (fs n).toInt
    · rw [if_pos h]; omega
    · rw [if_neg h]; omega
theorem lkW_y {S : Nat → Int} {fk fs : Nat → Int32} {kd : Int} {n : Nat} (h : (fk n).toInt = kd ∧ S n < (fs n).toInt) : lkW S fk fs kd (n + 1) = lkW S fk fs kd n + 1 := by rw [lkW, if_pos h]
theorem lkW_n {S : Nat → Int} {fk fs : Nat → Int32} {kd : Int} {n : Nat} (h : ¬ ((fk n).toInt = kd ∧ S n < (fs n).toInt)) : lkW S fk fs kd (n + 1) = lkW S fk fs kd n := by rw [lkW, if_neg h]; omega
theorem lkS_r {u v : Nat → Int} : ∀ n, (∀ k, k < n → (0 ≤ u k ∧ u k ≤ 20) ∧ (0 ≤ v k ∧ v k ≤ 20)) → 0 ≤ lkS u v n ∧ lkS u v n ≤ 200 * (n : Int) := by
  intro n
  induction n with
  | zero => intro _; exact ⟨Int.le_refl _, Int.le_refl _⟩
  | succ n ih =>
    intro h
    have h1 := ih (fun k hk => h k (by omega))
    have h2 := h n (by omega)
    have h3 := lkA_r (x := u n - v n) (y := 20) (by omega) (by omega)
    rw [lkS]; omega
/-- the nearest one so far -/
def lkB (d : Nat → Int) (h n b : Nat) : Prop := b < n ∧ b ≠ h ∧ (∀ g, g < n → g ≠ h → d b ≤ d g) ∧ ∀ g, g < b → g ≠ h → d b < d g
section BEST
variable {d d2 : Nat → Int} {h n b b2 : Nat}
theorem lkB_k (h1 : lkB d h n b) (h2 : n = h ∨ d b ≤ d n) : lkB d h (n + 1) b := by
  obtain ⟨a1, a2, a3, a4⟩ := h1
  refine ⟨by omega, a2, fun g g1 g2 => ?_, a4⟩
  by_cases e : g = n
  · rcases h2 with h2 | h2
    · exact absurd (e.trans h2) g2
    · rw [e]; exact h2
  · exact a3 g (by omega) g2
theorem lkB_s (h1 : lkB d h n b) (hn : n ≠ h) (h2 : d n < d b) : lkB d h (n + 1) n := by
  obtain ⟨a1, a2, a3, a4⟩ := h1
  refine ⟨by omega, hn, fun g g1 g2 => ?_, fun g g1 g2 => by have := a3 g g1 g2; omega⟩
  by_cases e : g = n
  · rw [e]; exact Int.le_refl _
  · have := a3 g (by omega) g2; omega
theorem lkB_0 (h1 : ∀ g, g < n → g = h) (hn : n ≠ h) : lkB d h (n + 1) n := by
  refine ⟨by omega, hn, fun g g1 g2 => ?_, fun g g1 g2 => absurd (h1 g g1) g2⟩
  by_cases e : g = n
  · rw [e]; exact Int.le_refl _
  · exact absurd (h1 g (by omega)) g2
end BEST
/-- the answer -/
def lkZ1 (d : Nat → Int) (h n : Nat) (what z : Int32) : Prop := ∃ b, lkB d h n b ∧ (what.toInt = 0 → z.toInt = (b : Int)) ∧ (what.toInt ≠ 0 → z.toInt = d b)
section HARM
variable {Lj : Nat → (Nat → Int32) → Prop} {Wf : Nat → (Nat → Int32) → Nat → Int} {f : Nat → Int32} {n n2 : Nat} {w w2 : Nat → Int}
end HARM
theorem idiv12 {x : Int32} (h : 0 ≤ x.toInt) : (x / 12).toInt = x.toInt / 12 := by
  obtain ⟨j, hj, rfl⟩ := nI_of (x := x) (fun h2 => by have := b_lt h2; have h3 : (0 : Int32).toInt = 0 := rfl; omega)
  rw [show (12 : Int32) = nI 12 from rfl, pk_div (by omega) (by omega) (by omega), nI_toInt (by omega), nI_toInt (by omega)]
  omega
theorem bk6 {a b c : Int} {n : Nat} (h : (6 - a).toNat < n + 1) (h1 : b = a + 1) (h2 : a < c) (h3 : c ≤ 6) : (6 - b).toNat < n := by omega
