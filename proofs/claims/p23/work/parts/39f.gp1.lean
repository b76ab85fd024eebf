/-- pictures: what is known of two of them by the facts that are not wrong (none: nothing) -/
def gpX (v : Nat → Nat → Option Int) (a b : Nat) (w : Int) : Nat → Nat → Option Int := fun p q =>
  match v p a with
  | none => v p q
  | some x =>
    match v b q with
    | none => v p q
    | some y =>
      match v p q with
      | none => some (x + w + y)
      | some z => some (if z < x + w + y then x + w + y else z)
def gpW (v : Nat → Nat → Option Int) (a b : Nat) (w : Int) : Bool :=
  match v b a with
  | none => false
  | some y => decide (0 < y + w)
def gpF (A B W : Nat → Int32) : Nat → (Nat → Nat → Option Int)
  | 0 => fun p q => if p = q then some 0 else none
  | f + 1 => if gpW (gpF A B W f) (A f).toNatClampNeg (B f).toNatClampNeg (W f).toInt = true then gpF A B W f else gpX (gpF A B W f) (A f).toNatClampNeg (B f).toNatClampNeg (W f).toInt
def gpV (A B W : Nat → Int32) (f : Nat) : Bool := gpW (gpF A B W f) (A f).toNatClampNeg (B f).toNatClampNeg (W f).toInt
def gpC (A B W : Nat → Int32) : Nat → Nat
  | 0 => 0
  | f + 1 => gpC A B W f + (if gpV A B W f = true then 1 else 0)
section PICS
variable {E E2 : Nat → Nat → Int → Prop} {v : Nat → Nat → Option Int} {a b p q r : Nat} {w x y z : Int} {l m : List Nat}
end PICS
def gpR (U : Int) (g : Nat → Int32) (v : Nat → Nat → Option Int) : Prop := ∀ p q, p < 11 → q < 11 → (g (11 * p + q)).toInt = (v p q).getD U
section PICR
variable {U : Int} {g : Nat → Int32} {v v2 : Nat → Nat → Option Int} {P Q p q a b : Nat} {w : Int}
end PICR
section PICM
variable {v : Nat → Nat → Option Int} {p q a b : Nat} {w : Int} {x1 x2 x3 s1 s2 : Int32}
end PICM
/-- the pictures of the two objects: rows of facts, gaps, wrong ones -/
def RPX (im : Nat → Int32) (rm : Nat → Nat → Int32) (i : Nat → Int32) (r : Nat → Nat → Int32) : Prop :=
  gpR (-1000000) (r 60) (gpF (rm 58) (rm 59) (rm 60) (im 72).toNatClampNeg) ∧ (i 16).toInt = (gpC (rm 58) (rm 59) (rm 60) (im 72).toNatClampNeg : Int) ∧ ∀ f, f < (im 72).toNatClampNeg → gpV (rm 58) (rm 59) (rm 60) f = true → (r 59 (gpC (rm 58) (rm 59) (rm 60) f)).toInt = (f : Int)
