def mlo (k : Nat) : Int := ([0, 0, -2147483648, -2147483648, -2147483648, -2147483648, -2147483648, -2147483648, -2147483648, -2147483648, -2147483648, -2147483648, -2147483648, -2147483648, -2147483648, -2147483648, -2147483648, -2147483648, -2147483648, -2147483648, -2147483648, -2147483648, 0, 0, 0, -2147483648, -2147483648, 0, 0, 0, 0, 0, -2147483648, -2147483648, -2147483648, -2147483648, -2147483648, -2147483648, -2147483648, -2147483648, -2147483648, -2147483648, -2147483648, -2147483648, -2147483648, -2147483648, -2147483648, -2147483648, -2147483648, -2147483648, -2147483648, 0, -2147483648, -2147483648, -2147483648, -2147483648, -2147483648, -2147483648, -2147483648, -2147483648, -2147483648, -2147483648, -2147483648, 0, -2147483648, -2147483648, -2147483648, -2147483648, -2147483648, -2147483648, -2147483648, -2147483648, 0, -2147483648, -2147483648, -2147483648, -2147483648, -2147483648, 0, 0, 0, -2147483648, -2147483648, -2147483648, -2147483648, -2147483648, -2147483648, -2147483648, -2147483648, -2147483648, -2147483648] : List Int).getD k (-2147483648)
def mhi (k : Nat) : Int := ([6, 65535, 2147483647, 2147483647, 2147483647, 2147483647, 2147483647, 2147483647, 2147483647, 2147483647, 2147483647, 2147483647, 2147483647, 2147483647, 2147483647, 2147483647, 2147483647, 2147483647, 2147483647, 2147483647, 2147483647, 2147483647, 220, 200, 200, 2147483647, 2147483647, 220, 220, 14, 99999, 14, 2147483647, 2147483647, 2147483647, 2147483647, 2147483647, 2147483647, 2147483647, 2147483647, 2147483647, 2147483647, 2147483647, 2147483647, 2147483647, 2147483647, 2147483647, 2147483647, 2147483647, 2147483647, 2147483647, 30, 2147483647, 2147483647, 2147483647, 2147483647, 2147483647, 2147483647, 2147483647, 2147483647, 2147483647, 2147483647, 2147483647, 40, 2147483647, 2147483647, 2147483647, 2147483647, 2147483647, 2147483647, 2147483647, 2147483647, 30, 2147483647, 2147483647, 2147483647, 2147483647, 2147483647, 1, 30, 65535, 2147483647, 2147483647, 2147483647, 2147483647, 2147483647, 2147483647, 2147483647, 2147483647, 2147483647, 2147483647] : List Int).getD k 2147483647
def qlo (k : Nat) : Int := ([-2147483648, 1, 0, 0, 0, 0, 0, 0, 0, 0, 0, 0, 0, 0, 0, 0, 0, 0, 0, -2147483648, -2147483648, -2147483648, -2147483648, -2147483648, 0, 0, 0, -2147483648, -2147483648, 0, 0, 0, -2147483648, -2147483648, -1, -2147483648, -2147483648, -2147483648, -2147483648, -2147483648, 0, 0, 0, 0, 0, 0, -1, -2147483648, -2147483648, -2147483648, 0, 0, 0, 0, 0, 0, -2147483648, -2147483648, 0, 0, -999, -2147483648, -2147483648, 0, 0, 0, 0, 0, 0, -1, 0, 0, -2147483648] : List Int).getD k (-2147483648)
def qhi (k : Nat) : Int := ([2147483647, 360, 99999, 3, 4, 999999, 999, 999, 99, 999999, 20, 20, 9, 7, 9, 360, 9, 7, 9, 2147483647, 2147483647, 2147483647, 2147483647, 2147483647, 220, 220, 220, 2147483647, 2147483647, 220, 220, 220, 2147483647, 2147483647, 99, 2147483647, 2147483647, 2147483647, 2147483647, 2147483647, 5, 19, 9, 7, 9999, 999999, 9999, 2147483647, 2147483647, 2147483647, 1000000, 1000000, 5, 5, 9999, 9999, 2147483647, 2147483647, 10, 10, 999, 2147483647, 2147483647, 5, 19, 9, 7, 9999, 999999, 9999, 1000000, 1000000, 2147483647] : List Int).getD k 2147483647
def mpr (p : Nat) : Bool := ([true, true, true, true, true, true, true, true, true, true, true, true, true, true, true, true, true, true, true, true, true, false, false, false, false, false, false, true, true, true, true, true, false, false, false, false, false, false, false, false, true, true, true, true, true, true, true, true, false, false, true, true, true, true, true, true, true, false, true, true, true, false, false, true, true, true, true, true, true, true, true, true, true] : List Bool).getD p true
def mRi (i : Nat → Int32) : Prop := ∀ k, mlo k ≤ (i k).toInt ∧ (i k).toInt ≤ mhi k
def mRr (r : Nat → Nat → Int32) : Prop := ∀ p j, qlo p ≤ (r p j).toInt ∧ (r p j).toInt ≤ qhi p
def mEi (T : List Nat) (i0 i : Nat → Int32) : Prop := ∀ k, k ∉ T → i k = i0 k
def mEr (T : List Nat) (r0 r : Nat → Nat → Int32) : Prop := ∀ p, p ∉ T → r p = r0 p
theorem Ri_upd {i : Nat → Int32} (h : mRi i) (k : Nat) (v : Int32) (hv : mlo k ≤ v.toInt ∧ v.toInt ≤ mhi k) : mRi (upd i k v) := by
  intro j
  unfold upd
  by_cases e : j = k
  · rw [if_pos e, e]; exact hv
  · rw [if_neg e]; exact h j
theorem Rr_up {r : Nat → Nat → Int32} (h : mRr r) (p : Nat) (f : Nat → Int32) (hf : ∀ j, qlo p ≤ (f j).toInt ∧ (f j).toInt ≤ qhi p) : mRr (va_up r p f) := by
  intro p2 j
  unfold va_up
  by_cases e : p2 = p
  · rw [if_pos e, e]; exact hf j
  · rw [if_neg e]; exact h p2 j
theorem Rr_upd {r : Nat → Nat → Int32} (h : mRr r) (p j : Nat) (v : Int32) (hv : qlo p ≤ v.toInt ∧ v.toInt ≤ qhi p) : mRr (va_up r p (upd (r p) j v)) := by
  refine Rr_up h p _ (fun j2 => ?_)
  unfold upd
  by_cases e : j2 = j
  · rw [if_pos e]; exact hv
  · rw [if_neg e]; exact h p j2
theorem Ei_rf {T : List Nat} {i : Nat → Int32} : mEi T i i := fun _ _ => rfl
theorem Er_rf {T : List Nat} {r : Nat → Nat → Int32} : mEr T r r := fun _ _ => rfl
theorem Ei_tr {T T2 : List Nat} {i j k : Nat → Int32} (h : mEi T i j) (h2 : mEi T2 j k) (hs : ∀ p ∈ T2, p ∈ T) : mEi T i k := fun q hq => (h2 q (fun h3 => hq (hs q h3))).trans (h q hq)
theorem Er_tr {T T2 : List Nat} {i j k : Nat → Nat → Int32} (h : mEr T i j) (h2 : mEr T2 j k) (hs : ∀ p ∈ T2, p ∈ T) : mEr T i k := fun q hq => (h2 q (fun h3 => hq (hs q h3))).trans (h q hq)
theorem Ei_upd {T : List Nat} {i0 i : Nat → Int32} (h : mEi T i0 i) (k : Nat) (v : Int32) (hk : k ∈ T) : mEi T i0 (upd i k v) := by
  intro j hj
  unfold upd
  by_cases e : j = k
  · rw [e] at hj; exact absurd hk hj
  · rw [if_neg e]; exact h j hj
theorem Er_up {T : List Nat} {r0 r : Nat → Nat → Int32} (h : mEr T r0 r) (p : Nat) (f : Nat → Int32) (hp : p ∈ T) : mEr T r0 (va_up r p f) := by
  intro j hj
  unfold va_up
  by_cases e : j = p
  · rw [e] at hj; exact absurd hp hj
  · rw [if_neg e]; exact h j hj
theorem dec_nat {v : Int32} (h : ¬ v = 0) : (v - 1).toBitVec.toNat + 1 = v.toBitVec.toNat := by
  have h0 : v.toBitVec.toNat ≠ 0 := fun e => h (by
    have : v.toBitVec = 0#32 := BitVec.eq_of_toNat_eq (by rw [e]; rfl)
    exact Int32.toBitVec_inj.mp (by rw [this]; rfl))
  have hl := v.toBitVec.isLt
  rw [Int32.toBitVec_sub, BitVec.toNat_sub]
  have h1 : (Int32.toBitVec 1).toNat = 1 := rfl
  rw [h1]
  omega
