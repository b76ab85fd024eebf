section QT
variable {tx : Nat → Int} {i i1 i2 : Nat → Int32} {r r1 r2 : Nat → Nat → Int32} {z : Int32} {ph m k : Nat} {o : Int32}
end QT
