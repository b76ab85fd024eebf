theorem upd_s {f : Nat → Int32} {k : Nat} {v : Int32} : upd f k v k = v := if_pos rfl
def ABS (x : Int32) : Int32 := if 0 ≤ x then x else 0 - x
