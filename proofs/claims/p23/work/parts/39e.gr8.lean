def SPb (rm : Nat → Nat → Int32) (j : Int32) (n : Nat) : Int32 := if (rm 52 n).toInt = j.toInt then rm 54 n - rm 55 n else rm 55 n - rm 54 n
def SPt (rm : Nat → Nat → Int32) (j : Int32) : Nat → Int32
  | 0 => 0
  | n + 1 => if (rm 52 n).toInt = j.toInt ∨ (rm 53 n).toInt = j.toInt then SPt rm j n + 1 else SPt rm j n
def SPa (rm : Nat → Nat → Int32) (j : Int32) : Nat → Int32
  | 0 => 0
  | n + 1 => if (rm 52 n).toInt = j.toInt ∨ (rm 53 n).toInt = j.toInt then SPa rm j n + ABS (SPb rm j n) else SPa rm j n
def SPm (rm : Nat → Nat → Int32) (j : Int32) : Nat → Int32
  | 0 => 0
  | n + 1 => if (rm 52 n).toInt = j.toInt ∨ (rm 53 n).toInt = j.toInt then SPm rm j n + SPb rm j n else SPm rm j n
/-- the class's sums of doubles are those of the reference's list -/
def RSP (im : Nat → Int32) (rm r : Nat → Nat → Int32) : Prop := ∀ j : Nat, j < 6 → r 55 j = SPt rm (nI j) (im 63).toNatClampNeg ∧ r 56 j = SPa rm (nI j) (im 63).toNatClampNeg ∧ r 57 j = SPm rm (nI j) (im 63).toNatClampNeg
