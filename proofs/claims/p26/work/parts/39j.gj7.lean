/-- a home's lists in the reference are those of the class -/
def RLK (rm : Nat → Nat → Int32) (gi : Nat → Nat → Int32) (gr : Nat → Nat → Nat → Int32) (K : Nat) : Prop := rm 10 K = gi K 23 ∧ rm 11 K = gi K 24 ∧ (∀ k, k < 20 → gjH (rm 12) K k = gr K 66 k) ∧ (∀ k, k < 20 → gjH (rm 13) K k = gr K 67 k) ∧ (∀ k, k < 20 → gjH (rm 14) K k = gr K 68 k) ∧ (∀ k, k < 20 → gjH (rm 16) K k = gr K 71 k) ∧ (∀ k, k < 20 → gjH (rm 17) K k = gr K 72 k) ∧ (∀ k, k < 20 → gjH (rm 18) K k = gr K 73 k)
theorem RLK_J {rm : Nat → Nat → Int32} {gi : Nat → Nat → Int32} {gr : Nat → Nat → Nat → Int32} {K : Nat} {U : Int} {J : Nat → Int32} (h : RLK rm gi gr K) (b1 : (gi K 23).toInt ≤ 20) (b2 : (gi K 24).toInt ≤ 20) (hj : gjJ (gjH (rm 12) K) (gjH (rm 13) K) (gjH (rm 14) K) (rm 10 K).toNatClampNeg (gjH (rm 16) K) (gjH (rm 17) K) (gjH (rm 18) K) (rm 11 K).toNatClampNeg U J) : gjJ (gr K 66) (gr K 67) (gr K 68) (gi K 23).toNatClampNeg (gr K 71) (gr K 72) (gr K 73) (gi K 24).toNatClampNeg U J := by
  obtain ⟨e10, e11, e12, e13, e14, e16, e17, e18⟩ := h
  rw [e10, e11] at hj
  have n1 : (gi K 23).toNatClampNeg = (gi K 23).toInt.toNat := rfl
  have n2 : (gi K 24).toNatClampNeg = (gi K 24).toInt.toNat := rfl
  exact gjJ_co hj (fun k hk => ⟨(e12 k (by omega)).symm, (e13 k (by omega)).symm, (e14 k (by omega)).symm, rfl⟩) (fun k hk => ⟨(e16 k (by omega)).symm, (e17 k (by omega)).symm, (e18 k (by omega)).symm⟩)
theorem RLK_S {rm : Nat → Nat → Int32} {gi : Nat → Nat → Int32} {gr : Nat → Nat → Nat → Int32} {K : Nat} (h : RLK rm gi gr K) (b1 : (gi K 23).toInt ≤ 20) (b2 : (gi K 24).toInt ≤ 20) (hX : gjX (gi K) (gr K)) : gjSt (gjH (rm 14) K) (rm 10 K).toNatClampNeg ∧ gjSt (gjH (rm 18) K) (rm 11 K).toNatClampNeg := by
  obtain ⟨e10, e11, e12, e13, e14, e16, e17, e18⟩ := h
  obtain ⟨_, s1, s2⟩ := hX
  have n1 : (gi K 23).toNatClampNeg = (gi K 23).toInt.toNat := rfl
  have n2 : (gi K 24).toNatClampNeg = (gi K 24).toInt.toNat := rfl
  rw [e10, e11]
  exact ⟨fun k hk => by rw [e14 k (by omega)]; exact s1 k hk, fun k hk => by rw [e18 k (by omega)]; exact s2 k hk⟩
