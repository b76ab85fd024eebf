-- the reader of a law's text, as a machine: phase, place, how many are open, how many wait, how many steps, where a sum began, what comes behind it, where the test begins; what waits, the steps
abbrev qE := Nat × Nat × (Nat → Nat → Int32)
abbrev qC := Nat × Nat × Int32 × Nat × Nat × Nat × Nat × qE × (Nat → Int32) × (Nat → Int32)
section QR
variable {tx : Nat → Int} {S T U : qC}
end QR
section QM
variable {tx : Nat → Int} {p m n b rc : Nat} {o : Int32} {hf : qE} {w c : Nat → Int32}
end QM
section QREL
variable {sg op c c2 : Nat → Int32} {n n2 : Nat}
end QREL
section QX
variable {tx : Nat → Int} {ph1 ph2 : Nat} {o : Int32} {K E : Int → Prop} {fx : Prop} {i i1 i2 i3 : Nat → Int32} {r r1 r2 r3 : Nat → Nat → Int32} {z : Int32} {a a2 : Nat}
end QX
