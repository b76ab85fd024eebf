def gjSt (f : Nat → Int32) (n : Nat) : Prop := ∀ k, k < n → 1 ≤ (f k).toInt ∧ (f k).toInt ≤ 9
section JONE
variable {fr fk fs lr lk ls : Nat → Int32} {nf nl : Nat} {R K : Int32} {J J2 f l t : Nat → Int32} {i j : Nat}
theorem gjSt_N {g : Nat → Int32} {n k : Nat} (h : gjSt g n) (hk : k < n) : 1 ≤ gjN g k ∧ gjN g k ≤ 9 ∧ ((gjN g k : Nat) : Int) = (g k).toInt := by
  have h1 := h k hk
  have h2 : gjN g k = (g k).toInt.toNat := rfl
  omega
theorem gjLL_J {a s : Nat} (h : ∀ k, k < a → (J2 k).toInt = (J k).toInt) : gjLL fr fk lr lk ls nl R K J2 a s = gjLL fr fk lr lk ls nl R K J a s :=
  gjLL_co (Nat.le_refl _) (fun j _ => gjU_co a (fun k hk => ⟨rfl, fun _ => by rw [h k hk]⟩)) (fun _ _ => ⟨rfl, fun _ => rfl⟩) (fun j h1 h2 => by omega)
theorem gjU_J {a : Nat} {z : Int} (h : ∀ k, k < a → (J2 k).toInt = (J k).toInt) : gjU fr fk R K J2 z a = gjU fr fk R K J z a := gjU_co a (fun k hk => ⟨rfl, fun _ => by rw [h k hk]⟩)
theorem gjO_J {U z : Int} (h : ∀ k, k < i → (J2 k).toInt = (J k).toInt) (ho : gjO fr fk fs nf lr lk ls nl J U i z) : gjO fr fk fs nf lr lk ls nl J2 U i z := by
  have hc : ∀ k, gjCd fr fk fs nf lr lk ls nl J2 i k ↔ gjCd fr fk fs nf lr lk ls nl J i k := by
    intro k
    unfold gjCd gjQL
    rw [gjU_J h, gjFit_co (fun s => rfl) (fun s => gjLL_J h)]
  rcases ho with ⟨j, j1, j2, j3, j4⟩ | ⟨z1, z2⟩
  · exact Or.inl ⟨j, j1, j2, (hc j).mpr j3, fun k hk h5 => j4 k hk ((hc k).mp h5)⟩
  · exact Or.inr ⟨z1, fun k hk h5 => z2 k hk ((hc k).mp h5)⟩
end JONE
theorem gjtk {t : Nat → Int32} {x : Int32} {k j : Nat} (hx : x.toInt = (j : Int)) : (upd t j (vp_nar .boolean 1) k).toInt = 0 ↔ (t k).toInt = 0 ∧ (k : Int) ≠ x.toInt := by
  unfold upd
  by_cases e : k = j
  · rw [if_pos e]
    exact ⟨fun h => absurd h (by decide), fun h => absurd (by rw [hx, e]) h.2⟩
  · rw [if_neg e]
    exact ⟨fun h => ⟨h, by omega⟩, fun h => h.1⟩
section JALL
variable {fr fk fs lr lk ls : Nat → Int32} {nf nl : Nat} {R K : Int32} {J J2 f l t g : Nat → Int32} {i j a n n2 : Nat} {P : Nat → Bool} {c : Nat → Nat}
/-- all of the group ahead of a are joined; the others are as they were; who is taken -/
def gjA (U : Int) (fr fk fs : Nat → Int32) (nf : Nat) (lr lk ls : Nat → Int32) (nl : Nat) (R K : Int32) (a : Nat) (J0 J t0 t : Nat → Int32) : Prop :=
  (∀ k, k < a → fr k = R → fk k = K → gjO fr fk fs nf lr lk ls nl J U k (J k).toInt) ∧ (∀ k, ¬ (k < a ∧ fr k = R ∧ fk k = K) → J k = J0 k) ∧ (∀ k : Nat, k < 20 → ((t k).toInt = 0 ↔ (t0 k).toInt = 0 ∧ ∀ i, i < a → fr i = R → fk i = K → (J i).toInt ≠ (k : Int)))
theorem gjA_0 {U : Int} (ha : ∀ k, k < a → ¬ (fr k = R ∧ fk k = K)) : gjA U fr fk fs nf lr lk ls nl R K a J J t t :=
  ⟨fun k hk h1 h2 => absurd ⟨h1, h2⟩ (ha k hk), fun _ _ => rfl, fun k _ => ⟨fun h => ⟨h, fun i hi h1 h2 => absurd ⟨h1, h2⟩ (ha i hi)⟩, fun h => h.1⟩⟩
theorem gjA_n {U : Int} {J0 t0 : Nat → Int32} (h : gjA U fr fk fs nf lr lk ls nl R K a J0 J t0 t) (hg : ¬ (fr a = R ∧ fk a = K)) (hn : n2 = a + 1) : gjA U fr fk fs nf lr lk ls nl R K n2 J0 J t0 t := by
  subst hn
  obtain ⟨h1, h2, h3⟩ := h
  refine ⟨fun k hk e1 e2 => ?_, fun k hk => h2 k (fun h9 => hk ⟨by omega, h9.2⟩), fun k hk => ?_⟩
  · by_cases e : k = a
    · rw [e] at e1 e2; exact absurd ⟨e1, e2⟩ hg
    · exact h1 k (by omega) e1 e2
  · rw [h3 k hk]
    refine ⟨fun h9 => ⟨h9.1, fun i hi e1 e2 => ?_⟩, fun h9 => ⟨h9.1, fun i hi e1 e2 => h9.2 i (by omega) e1 e2⟩⟩
    by_cases e : i = a
    · rw [e] at e1 e2; exact absurd ⟨e1, e2⟩ hg
    · exact h9.2 i (by omega) e1 e2
theorem gjA_y {U : Int} {J0 t0 t2 : Nat → Int32} {x : Int32} (h : gjA U fr fk fs nf lr lk ls nl R K a J0 J t0 t) (hr : fr a = R) (hk : fk a = K) (hn : n2 = a + 1) (hJ : J2 = upd J a x) (ho : gjO fr fk fs nf lr lk ls nl J U a x.toInt) (ht : ∀ k : Nat, k < 20 → ((t2 k).toInt = 0 ↔ (t k).toInt = 0 ∧ (k : Int) ≠ x.toInt)) : gjA U fr fk fs nf lr lk ls nl R K n2 J0 J2 t0 t2 := by
  subst hn
  obtain ⟨h1, h2, h3⟩ := h
  have eJ : ∀ k, k ≠ a → J2 k = J k := fun k hk2 => by rw [hJ]; exact if_neg hk2
  have eJa : J2 a = x := by rw [hJ, upd_s]
  refine ⟨fun k hk2 e1 e2 => ?_, fun k hk2 => ?_, fun k hk2 => ?_⟩
  · by_cases e : k = a
    · rw [e, eJa]
      exact gjO_J (fun q hq => by rw [eJ q (by omega)]) ho
    · rw [eJ k e]
      exact gjO_J (fun q hq => by rw [eJ q (by omega)]) (h1 k (by omega) e1 e2)
  · have hne : k ≠ a := fun e => hk2 ⟨by omega, by rw [e]; exact hr, by rw [e]; exact hk⟩
    rw [eJ k hne]
    exact h2 k (fun h9 => hk2 ⟨by omega, h9.2⟩)
  · rw [ht k hk2, h3 k hk2]
    constructor
    · intro h9
      refine ⟨h9.1.1, fun i hi e1 e2 => ?_⟩
      by_cases e : i = a
      · rw [e, eJa]; exact fun h8 => h9.2 h8.symm
      · rw [eJ i e]; exact h9.1.2 i (by omega) e1 e2
    · intro h9
      refine ⟨⟨h9.1, fun i hi e1 e2 => ?_⟩, fun h8 => h9.2 a (by omega) hr hk (by rw [eJa]; exact h8.symm)⟩
      rw [← eJ i (by omega)]; exact h9.2 i (by omega) e1 e2
end JALL
