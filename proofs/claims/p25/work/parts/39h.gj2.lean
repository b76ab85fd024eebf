section JONE
variable {fr fk fs lr lk ls : Nat → Int32} {nf nl : Nat} {R K : Int32} {J J2 f l t : Nat → Int32} {i j : Nat}
end JONE
section JALL
variable {fr fk fs lr lk ls : Nat → Int32} {nf nl : Nat} {R K : Int32} {J J2 f l t g : Nat → Int32} {i j a n n2 : Nat} {P : Nat → Bool} {c : Nat → Nat}
end JALL
