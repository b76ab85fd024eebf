section JOINS
variable {F L F2 L2 : Nat → Int} {a b n s : Nat}
end JOINS
section COUNTS
variable {P Q : Nat → Bool} {f l : Nat → Nat}
end COUNTS
section JSPEC
variable {fr fk fs lr lk ls fr2 fk2 fs2 lr2 lk2 ls2 : Nat → Int32} {nf nl nf2 nl2 : Nat} {R K : Int32} {J J2 : Nat → Int32} {U U2 : Int}
end JSPEC
section KEPT
variable {f0 l0 f l : Nat → Int32} {a b : Nat} {n : Int}
end KEPT
