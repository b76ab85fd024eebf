/-- the first n of two rows are the same -/
def CP (n : Int) (f g : Nat → Int32) : Prop := ∀ c : Nat, (c : Int) < n → f c = g c
