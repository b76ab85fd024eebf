-- a comparison or a NOT; every NOT and jump stands behind such a one; a test's last step is one
def qB7 (x : Int32) : Prop := 7 ≤ cOp x ∧ cOp x ≤ 10
def qGd (c : Nat → Int32) (n : Nat) : Prop := ∀ k, k < n → 0 ≤ cOp (c k) ∧ cOp (c k) ≤ 12 ∧ (10 ≤ cOp (c k) → 1 ≤ k ∧ qB7 (c (k - 1)))
def qLs (c : Nat → Int32) (n : Nat) : Prop := 1 ≤ n ∧ qB7 (c (n - 1))
def qCl (hf : qE) (c : Nat → Int32) (n : Nat) : Prop := ∀ q, q < hf.2.1 → ∃ e : Nat, hf.2.2 3 q = nI e ∧ e ≤ n ∧ qLs c e
section QIV
variable {tx : Nat → Int} {c c2 w : Nat → Int32} {n n2 m ph ph2 rc rc2 : Nat} {hf : qE} {x : Int32}
end QIV
-- the steps of a law run: the place, and what lies on the stack
abbrev rC := Nat × List Int32
def rK (op : Int) (x y : Int32) : Int32 := if op = 2 then x + y else if op = 3 then x - y else if op = 4 then x * y else if op = 5 then x / y else if op = 6 then x - x / y * y else if op = 7 then (if x.toInt < y.toInt then 1 else 0) else if op = 8 then (if y.toInt < x.toInt then 1 else 0) else (if x.toInt = y.toInt then 1 else 0)
def rStep (c fa : Nat → Int32) (t : Nat) (S : rC) : rC :=
  if t ≤ S.1 then S
  else if cOp (c S.1) = 0 then (S.1 + 1, nI (cV (c S.1)).toNat :: S.2)
  else if cOp (c S.1) = 1 then (S.1 + 1, fa (cV (c S.1)).toNat :: S.2)
  else if cOp (c S.1) = 10 then (S.1 + 1, (1 - S.2.headD 0) :: S.2.tail)
  else if cOp (c S.1) = 11 then (if S.2.headD 0 = 0 then ((cV (c S.1)).toNat, S.2) else (S.1 + 1, S.2.tail))
  else if cOp (c S.1) = 12 then (if S.2.headD 0 = 1 then ((cV (c S.1)).toNat, S.2) else (S.1 + 1, S.2.tail))
  else if (cOp (c S.1) = 5 ∨ cOp (c S.1) = 6) ∧ S.2.headD 0 = 0 then (t, [0])
  else (S.1 + 1, rK (cOp (c S.1)) (S.2.tail.headD 0) (S.2.headD 0) :: S.2.tail.tail)
section RUN
variable {c fa : Nat → Int32} {f t k n : Nat} {S : rC} {l : List Int32} {g : Nat → Nat} {s : Nat → Int32} {x : Int32}
def rBin (x : Int) : Prop := x ≠ 0 ∧ x ≠ 1 ∧ x ≠ 10 ∧ x ≠ 11 ∧ x ≠ 12
theorem rS_b (h : k < t) (ho : rBin (cOp (c k))) : rStep c fa t (k, l) = (if (cOp (c k) = 5 ∨ cOp (c k) = 6) ∧ l.headD 0 = 0 then (t, [0]) else (k + 1, rK (cOp (c k)) (l.tail.headD 0) (l.headD 0) :: l.tail.tail)) := by
  obtain ⟨h0, h1, h2, h3, h4⟩ := ho
  unfold rStep; rw [if_neg (show ¬ t ≤ k by omega), if_neg h0, if_neg h1, if_neg h2, if_neg h3, if_neg h4]
variable {n9 : Int} {j j2 : Nat}
end RUN
