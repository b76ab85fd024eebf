def lcg (x : Nat) : Nat := (25173 * x + 13849) % 65536
def hits (j : Nat) : Nat → Nat → Bool
  | 0, _ => false
  | n + 1, x => Nat.beq (x % 6) j || hits j n (lcg x)
def allR (j : Nat) : Nat → Nat → Bool
  | 0, s => hits j 400 s
  | d + 1, s => allR j d s && allR j d (s + 2 ^ d)
noncomputable def lcgF (x : Nat) : Nat := Nat.mod (Nat.add (Nat.mul 25173 x) 13849) 65536
noncomputable def hitsF (j n : Nat) : Nat → Bool := Nat.rec (motive := fun _ => Nat → Bool) (fun _ => false) (fun _ ih x => cond (Nat.beq (Nat.mod x 6) j) true (ih (lcgF x))) n
noncomputable def allF (j d : Nat) : Nat → Bool := Nat.rec (motive := fun _ => Nat → Bool) (fun s => hitsF j 400 s) (fun d ih s => cond (ih s) (ih (Nat.add s (Nat.pow 2 d))) false) d
theorem hitsF_eq {j : Nat} : ∀ n x, hitsF j n x = hits j n x := by
  intro n
  induction n with
  | zero => intro x; rfl
  | succ n ih =>
    intro x
    show cond (Nat.beq (x % 6) j) true (hitsF j n (lcg x)) = (Nat.beq (x % 6) j || hits j n (lcg x))
    rw [ih]
    cases Nat.beq (x % 6) j <;> rfl
theorem allF_eq {j : Nat} : ∀ d s, allF j d s = allR j d s := by
  intro d
  induction d with
  | zero => intro s; exact hitsF_eq 400 s
  | succ d ih =>
    intro s
    show cond (allF j d s) (allF j d (s + 2 ^ d)) false = (allR j d s && allR j d (s + 2 ^ d))
    rw [ih, ih]
    cases allR j d s <;> rfl
set_option maxRecDepth 100000 in
theorem lcgF_0 : allF 0 16 0 = true := by decide +kernel
theorem lcg_0 : allR 0 16 0 = true := (allF_eq 16 0).symm.trans lcgF_0
set_option maxRecDepth 100000 in
theorem lcgF_1 : allF 1 16 0 = true := by decide +kernel
theorem lcg_1 : allR 1 16 0 = true := (allF_eq 16 0).symm.trans lcgF_1
set_option maxRecDepth 100000 in
theorem lcgF_2 : allF 2 16 0 = true := by decide +kernel
theorem lcg_2 : allR 2 16 0 = true := (allF_eq 16 0).symm.trans lcgF_2
set_option maxRecDepth 100000 in
theorem lcgF_3 : allF 3 16 0 = true := by decide +kernel
theorem lcg_3 : allR 3 16 0 = true := (allF_eq 16 0).symm.trans lcgF_3
set_option maxRecDepth 100000 in
theorem lcgF_4 : allF 4 16 0 = true := by decide +kernel
theorem lcg_4 : allR 4 16 0 = true := (allF_eq 16 0).symm.trans lcgF_4
set_option maxRecDepth 100000 in
theorem lcgF_5 : allF 5 16 0 = true := by decide +kernel
theorem lcg_5 : allR 5 16 0 = true := (allF_eq 16 0).symm.trans lcgF_5
theorem allR_use {j : Nat} : ∀ (d s x : Nat), allR j d s = true → s ≤ x → x < s + 2 ^ d → hits j 400 x = true := by
  intro d
  induction d with
  | zero =>
    intro s x h h1 h2
    have : x = s := by omega
    rw [this]; exact h
  | succ d ih =>
    intro s x h h1 h2
    have h3 : allR j d s = true ∧ allR j d (s + 2 ^ d) = true := by
      have := h
      unfold allR at this
      exact Bool.and_eq_true_iff.mp this
    by_cases hx : x < s + 2 ^ d
    · exact ih s x h3.1 h1 hx
    · exact ih (s + 2 ^ d) x h3.2 (by omega) (by rw [Nat.pow_succ] at h2; omega)
