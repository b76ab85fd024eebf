def lcg (x : Nat) : Nat := (25173 * x + 13849) % 65536
def hits (j : Nat) : Nat → Nat → Bool
  | 0, _ => false
  | n + 1, x => Nat.beq (x % 6) j || hits j n (lcg x)
def allR (j : Nat) : Nat → Nat → Bool
  | 0, s => hits j 400 s
  | d + 1, s => allR j d s && allR j d (s + 2 ^ d)
set_option maxRecDepth 100000 in
theorem lcg_0 : allR 0 12 0 = true := by decide +kernel
