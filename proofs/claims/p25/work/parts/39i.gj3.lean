section JCLS
variable {fr fk fs lr lk ls : Nat → Int32} {nf nl : Nat} {R K : Int32} {J J2 g g2 t : Nat → Int32} {i j a n n2 m m2 : Nat} {P Q : Nat → Bool} {c d : Nat → Nat}
end JCLS
