section BEST
variable {d d2 : Nat → Int} {h n b b2 : Nat}
end BEST
section HARM
variable {Lj : Nat → (Nat → Int32) → Prop} {Wf : Nat → (Nat → Int32) → Nat → Int} {f : Nat → Int32} {n n2 : Nat} {w w2 : Nat → Int}
end HARM
