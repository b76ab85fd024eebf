/-- the reference's rows while it joins a group -/
def gjH (g : Nat → Int32) (h : Nat) : Nat → Int32 := fun k => g (20 * h + k)
def gjSt (f : Nat → Int32) (n : Nat) : Prop := ∀ k, k < n → 1 ≤ (f k).toInt ∧ (f k).toInt ≤ 9
def gjV (fr fk fs : Nat → Int32) (nf : Nat) (lr lk ls : Nat → Int32) (nl : Nat) (R K : Int32) (a b : Nat) (J f l t : Nat → Int32) : Prop :=
  (∀ s, 1 ≤ s → s ≤ 9 → gjF (gjI f) s = gjFF fr fk fs nf R K a s) ∧ (∀ s, 1 ≤ s → s ≤ 9 → gjF (gjI l) s = gjLL fr fk lr lk ls nl R K J b s) ∧ (∀ j : Nat, j < nl → gjg lr lk R K j = true → ((t j).toInt = 0 ↔ gjU fr fk R K J (j : Int) b = true)) ∧ gjN0 f l
section JONE
variable {fr fk fs lr lk ls : Nat → Int32} {nf nl : Nat} {R K : Int32} {J J2 f l t : Nat → Int32} {i j : Nat}
theorem gjSt_N {g : Nat → Int32} {n k : Nat} (h : gjSt g n) (hk : k < n) : 1 ≤ gjN g k ∧ gjN g k ≤ 9 ∧ ((gjN g k : Nat) : Int) = (g k).toInt := by
  have h1 := h k hk
  have h2 : gjN g k = (g k).toInt.toNat := rfl
  omega
theorem gjF_1 {g : Nat → Int} {s : Nat} (h : s ≤ 9) : gjF g s = gjF g (s + 1) + g s := by
  unfold gjF
  rw [show 10 - s = (10 - (s + 1)) + 1 by omega, gjT, show 9 - (10 - (s + 1)) = s by omega]
theorem gjLL_J {a s : Nat} (h : ∀ k, k < a → (J2 k).toInt = (J k).toInt) : gjLL fr fk lr lk ls nl R K J2 a s = gjLL fr fk lr lk ls nl R K J a s :=
  gjLL_co (Nat.le_refl _) (fun j _ => gjU_co a (fun k hk => ⟨rfl, fun _ => by rw [h k hk]⟩)) (fun _ _ => ⟨rfl, fun _ => rfl⟩) (fun j h1 h2 => by omega)
theorem gjU_J {a : Nat} {z : Int} (h : ∀ k, k < a → (J2 k).toInt = (J k).toInt) : gjU fr fk R K J2 z a = gjU fr fk R K J z a := gjU_co a (fun k hk => ⟨rfl, fun _ => by rw [h k hk]⟩)
theorem gjO_J {U z : Int} (h : ∀ k, k < i → (J2 k).toInt = (J k).toInt) (ho : gjO fr fk fs nf lr lk ls nl J U i z) : gjO fr fk fs nf lr lk ls nl J2 U i z := by
  have hc : ∀ k, gjCd fr fk fs nf lr lk ls nl J2 i k ↔ gjCd fr fk fs nf lr lk ls nl J i k := by
    intro k
    unfold gjCd gjQL
    rw [gjU_J h, gjFit_co (fun s => rfl) (fun s => gjLL_J h)]
  rcases ho with ⟨j, j1, j2, j3, j4⟩ | ⟨z1, z2⟩
  · exact Or.inl ⟨j, j1, j2, (hc j).mpr j3, fun k hk h5 => j4 k hk ((hc k).mp h5)⟩
  · exact Or.inr ⟨z1, fun k hk h5 => z2 k hk ((hc k).mp h5)⟩
/-- a pair on trial -/
theorem gj1_test {x : Int32} (hV : gjV fr fk fs nf lr lk ls nl R K (i + 1) i J f l t) (hi : i < nf) (hr : fr i = R) (hk : fk i = K) (hs1 : gjSt fs nf) (hs2 : gjSt ls nl) (hj : j < nl) (hQ : gjQL fr fk lr lk R K J i j = true) (hx : x.toInt = (l (gjN ls j)).toInt - 1) :
    gjN0 f (upd l (gjN ls j) x) ∧ (gjKR f (upd l (gjN ls j) x) + gjm (fs i).toInt (ls j).toInt = gjK (gjFF fr fk fs nf R K i) (gjLL fr fk lr lk ls nl R K J i) ↔ gjCd fr fk fs nf lr lk ls nl J i j) ∧ (∀ s, 1 ≤ s → s ≤ 9 → gjF (gjI (upd l (gjN ls j) x)) s = gjd (gjLL fr fk lr lk ls nl R K J i) (gjN ls j) s) ∧ gjKR f (upd l (gjN ls j) x) = gjK (gjFF fr fk fs nf R K (i + 1)) (gjd (gjLL fr fk lr lk ls nl R K J i) (gjN ls j)) := by
  obtain ⟨v1, v2, v3, v4⟩ := hV
  obtain ⟨a1, a2, a3⟩ := gjSt_N hs1 hi
  obtain ⟨b1, b2, b3⟩ := gjSt_N hs2 hj
  have hpos : 1 ≤ (l (gjN ls j)).toInt := by
    have e1 := gjF_1 (g := gjI l) b2
    have e2 := v2 _ b1 b2
    have e3 := gjC_st (P := gjQL fr fk lr lk R K J i) (f := gjN ls) (s := gjN ls j) (t := gjN ls j + 1) (by omega) hQ (Nat.le_refl _) (by omega) nl hj
    have e4 : gjF (gjI l) (gjN ls j + 1) ≤ gjLL fr fk lr lk ls nl R K J i (gjN ls j + 1) := by
      by_cases e5 : gjN ls j + 1 ≤ 9
      · rw [v2 _ (by omega) e5]; exact Int.le_refl _
      · have e6 : gjF (gjI l) (gjN ls j + 1) = 0 := by unfold gjF; rw [show 10 - (gjN ls j + 1) = 0 by omega]; rfl
        rw [e6]; exact gjC_p nl
    have e7 : gjI l (gjN ls j) = (l (gjN ls j)).toInt := rfl
    unfold gjLL at *
    omega
  have hN : gjN0 f (upd l (gjN ls j) x) := by
    intro k k1 k2
    have h1 := v4 k k1 k2
    refine ⟨h1.1, ?_⟩
    unfold upd
    by_cases e : k = gjN ls j
    · rw [if_pos e, hx]
      have h2 := (v4 _ b1 b2).2
      omega
    · rw [if_neg e]; exact h1.2
  have hL : ∀ s, 1 ≤ s → s ≤ 9 → gjF (gjI (upd l (gjN ls j) x)) s = gjd (gjLL fr fk lr lk ls nl R K J i) (gjN ls j) s := by
    intro s s1 s2
    rw [gjF_u (g := gjI l) (k := gjN ls j) (c := -1) b2 (by unfold gjI upd; rw [if_pos rfl, hx]; omega) (fun k hk => by unfold gjI upd; rw [if_neg hk]) s1 s2, v2 s s1 s2]
    unfold gjd
    by_cases e : s ≤ gjN ls j
    · rw [if_pos e, if_pos e]; omega
    · rw [if_neg e, if_neg e]; omega
  have hF : ∀ s, 1 ≤ s → s ≤ 9 → gjF (gjI f) s = gjd (gjFF fr fk fs nf R K i) (gjN fs i) s := fun s s1 s2 => by rw [v1 s s1 s2, gjFF_s hi hr hk]
  have hK : gjKR f (upd l (gjN ls j) x) = gjK (gjd (gjFF fr fk fs nf R K i) (gjN fs i)) (gjd (gjLL fr fk lr lk ls nl R K J i) (gjN ls j)) := gjK_co hF hL
  refine ⟨hN, ?_, hL, ?_⟩
  · rw [hK, ← a3, ← b3, (gjK_pair a1 a2 b1 b2).1]
    unfold gjCd
    rw [hr, hk]
    exact ⟨fun h => ⟨hQ, h⟩, fun h => h.2⟩
  · exact gjK_co v1 hL
theorem gj1_q (hV : gjV fr fk fs nf lr lk ls nl R K (i + 1) i J f l t) (hj : j < nl) (h1 : (t j).toInt = 0) (h2 : lr j = R ∧ lk j = K) : gjQL fr fk lr lk R K J i j = true := by
  unfold gjQL
  rw [Bool.and_eq_true]
  exact ⟨gjg_iff.mpr h2, (hV.2.2.1 j hj (gjg_iff.mpr h2)).mp h1⟩
theorem gj1_t (hV : gjV fr fk fs nf lr lk ls nl R K (i + 1) i J f l t) (hr : fr i = R) (hk : fk i = K) (hj : j < nl) (h1 : (t j).toInt ≠ 0) : ¬ gjCd fr fk fs nf lr lk ls nl J i j := by
  intro h
  have h2 := h.1
  rw [hr, hk] at h2
  unfold gjQL at h2
  rw [Bool.and_eq_true] at h2
  exact h1 ((hV.2.2.1 j hj h2.1).mpr h2.2)
theorem gj1_g (hr : fr i = R) (hk : fk i = K) (h1 : ¬ (lr j = R ∧ lk j = K)) : ¬ gjCd fr fk fs nf lr lk ls nl J i j := by
  intro h
  have h2 := h.1
  rw [hr, hk] at h2
  exact h1 (gjQL_iff.mp h2).1
/-- a pair is taken -/
theorem gj1_y {x y o : Int32} (hV : gjV fr fk fs nf lr lk ls nl R K (i + 1) i J f l t) (hi : i < nf) (hr : fr i = R) (hk : fk i = K) (hs1 : gjSt fs nf) (hs2 : gjSt ls nl) (hj : j < nl) (hQ : gjQL fr fk lr lk R K J i j = true) (hx : x.toInt = (l (gjN ls j)).toInt - 1) (hy : y.toInt = (j : Int)) (ho : o.toInt ≠ 0) (hJ : J2 = upd J i y) :
    gjV fr fk fs nf lr lk ls nl R K (i + 1) (i + 1) J2 f (upd l (gjN ls j) x) (upd t j o) ∧ gjKR f (upd l (gjN ls j) x) = gjK (gjFF fr fk fs nf R K (i + 1)) (gjLL fr fk lr lk ls nl R K J2 (i + 1)) := by
  obtain ⟨c1, c2, c3, c4⟩ := gj1_test hV hi hr hk hs1 hs2 hj hQ hx
  have eJ : ∀ k, k < i → (J2 k).toInt = (J k).toInt := fun k hk2 => by rw [hJ]; unfold upd; rw [if_neg (by omega)]
  have eJi : (J2 i).toInt = (j : Int) := by rw [hJ, upd_s]; exact hy
  have hQ2 : gjQL fr fk lr lk R K J2 i j = true := by unfold gjQL at *; rw [gjU_J eJ]; exact hQ
  have eL : ∀ s, gjLL fr fk lr lk ls nl R K J2 (i + 1) s = gjd (gjLL fr fk lr lk ls nl R K J i) (gjN ls j) s := fun s => by
    rw [gjLL_s hj hQ2 hr hk eJi]
    unfold gjd
    rw [gjLL_J eJ]
  refine ⟨⟨hV.1, fun s s1 s2 => by rw [eL s]; exact c3 s s1 s2, fun k hk2 hg => ?_, c1⟩, ?_⟩
  · unfold upd
    by_cases e : k = j
    · rw [if_pos e, e]
      constructor
      · intro h; exact absurd h ho
      · intro h
        exact absurd eJi ((gjU_iff (i + 1)).mp h i (by omega) hr hk)
    · rw [if_neg e, hV.2.2.1 k hk2 hg, gjU, gjU_J eJ, decide_eq_false (show ¬ (J2 i).toInt = (k : Int) by omega), Bool.and_false, Bool.not_false, Bool.and_true]
  · rw [c4]
    exact gjK_co (fun _ _ _ => rfl) (fun s _ _ => (eL s).symm)
/-- none fits -/
theorem gj1_n {y : Int32} (hV : gjV fr fk fs nf lr lk ls nl R K (i + 1) i J f l t) (hi : i < nf) (hr : fr i = R) (hk : fk i = K) (hs1 : gjSt fs nf) (hs2 : gjSt ls nl) (hn : ∀ k, k < nl → ¬ gjCd fr fk fs nf lr lk ls nl J i k) (hy : ∀ k : Nat, k < nl → y.toInt ≠ (k : Int)) (hJ : J2 = upd J i y) :
    gjV fr fk fs nf lr lk ls nl R K (i + 1) (i + 1) J2 f l t ∧ gjK (gjFF fr fk fs nf R K i) (gjLL fr fk lr lk ls nl R K J i) = gjK (gjFF fr fk fs nf R K (i + 1)) (gjLL fr fk lr lk ls nl R K J2 (i + 1)) := by
  obtain ⟨v1, v2, v3, v4⟩ := hV
  have eJ : ∀ k, k < i → (J2 k).toInt = (J k).toInt := fun k hk2 => by rw [hJ]; unfold upd; rw [if_neg (by omega)]
  have eJi : (J2 i).toInt = y.toInt := by rw [hJ, upd_s]
  have eL : ∀ s, gjLL fr fk lr lk ls nl R K J2 (i + 1) s = gjLL fr fk lr lk ls nl R K J i s := fun s => by
    rw [gjLL_n (Or.inr (fun j hj => by rw [eJi]; exact hy j hj)), gjLL_J eJ]
  refine ⟨⟨v1, fun s s1 s2 => by rw [eL s]; exact v2 s s1 s2, fun k hk2 hg => ?_, v4⟩, ?_⟩
  · have h9 := hy k hk2
    rw [v3 k hk2 hg, gjU, gjU_J eJ, decide_eq_false (show ¬ (J2 i).toInt = (k : Int) by rw [eJi]; exact h9), Bool.and_false, Bool.not_false, Bool.and_true]
  · obtain ⟨a1, a2, a3⟩ := gjSt_N hs1 hi
    have h1 := gj_none (P := gjPF fr fk R K i) (Q := gjQL fr fk lr lk R K J i) (f := gjN fs) (l := gjN ls) (nf := nf) (nl := nl) (i := i) hi (gjPF_iff.mpr ⟨Nat.le_refl _, hr, hk⟩) a2 (fun k hk2 => (gjSt_N hs2 hk2).2.1) (fun k hk2 hq hf => hn k hk2 (by unfold gjCd; rw [hr, hk]; exact ⟨hq, hf⟩))
    rw [← gjK_none (F := gjFF fr fk fs nf R K i) (L := gjLL fr fk lr lk ls nl R K J i) (a := gjN fs i) h1]
    exact gjK_co (fun s _ _ => (gjFF_s hi hr hk).symm) (fun s _ _ => (eL s).symm)
theorem upd_back {g : Nat → Int32} {k : Nat} {x y : Int32} (h : y = g k) : upd (upd g k x) k y = g := by
  funext j
  unfold upd
  by_cases e : j = k
  · rw [if_pos e, h, e]
  · rw [if_neg e, if_neg e]
end JONE
theorem gjKR_0 {f l : Nat → Int32} (h : gjN0 f l) : 0 ≤ gjKR f l := gjKR_p (a := 9) (b := 9) ⟨fun k k1 k2 => ⟨(h k k1 k2).1.1, (h k k1 k2).2.1⟩, fun k k1 k2 => by omega, fun k k1 k2 => by omega⟩
theorem gjtk {t : Nat → Int32} {x : Int32} {k j : Nat} (hx : x.toInt = (j : Int)) : (upd t j (vp_nar .boolean 1) k).toInt = 0 ↔ (t k).toInt = 0 ∧ (k : Int) ≠ x.toInt := by
  unfold upd
  by_cases e : k = j
  · rw [if_pos e]
    exact ⟨fun h => absurd h (by decide), fun h => absurd (by rw [hx, e]) h.2⟩
  · rw [if_neg e]
    exact ⟨fun h => ⟨h, by omega⟩, fun h => h.1⟩
/-- rows of counts while they are made -/
def gjCnt (g : Nat → Int32) (P : Nat → Bool) (f : Nat → Nat) (n : Nat) : Prop := (∀ s, 1 ≤ s → s ≤ 9 → gjF (gjI g) s = gjC P f s n) ∧ ∀ k, 1 ≤ k → k ≤ 9 → 0 ≤ (g k).toInt ∧ (g k).toInt ≤ (n : Int)
section JALL
variable {fr fk fs lr lk ls : Nat → Int32} {nf nl : Nat} {R K : Int32} {J J2 f l t g : Nat → Int32} {i j a n n2 : Nat} {P : Nat → Bool} {c : Nat → Nat}
theorem gjCnt_0 (h : ∀ k, k < 10 → g k = 0) : gjCnt g P c 0 := by
  refine ⟨fun s s1 s2 => ?_, fun k k1 k2 => ?_⟩
  · exact gjT_0 (10 - s) (by omega) (fun k k1 k2 => by unfold gjI; rw [h k (by omega)]; rfl)
  · rw [h k (by omega)]; exact ⟨by decide, by decide⟩
theorem gjCnt_n (h : gjCnt g P c n) (hn : n2 = n + 1) (hP : ¬ P n = true) : gjCnt g P c n2 := by
  subst hn
  refine ⟨fun s s1 s2 => ?_, fun k k1 k2 => ?_⟩
  · rw [gjC, if_neg (fun h9 => hP h9.1), h.1 s s1 s2]; omega
  · have := h.2 k k1 k2; omega
theorem gjCnt_y {x : Int32} {k : Nat} (h : gjCnt g P c n) (hn : n2 = n + 1) (hP : P n = true) (hk : c n = k) (k1 : 1 ≤ k) (k9 : k ≤ 9) (hx : x.toInt = (g k).toInt + 1) : gjCnt (upd g k x) P c n2 := by
  subst hn
  refine ⟨fun s s1 s2 => ?_, fun k2 a1 a2 => ?_⟩
  · rw [gjF_u (g := gjI g) (k := k) (c := 1) k9 (by unfold gjI upd; rw [if_pos rfl, hx]) (fun q hq => by unfold gjI upd; rw [if_neg hq]) s1 s2, h.1 s s1 s2, gjC, hk]
    by_cases e : s ≤ k
    · rw [if_pos e, if_pos ⟨hP, e⟩]
    · rw [if_neg e, if_neg (fun h9 => e h9.2)]
  · have := h.2 k2 a1 a2
    unfold upd
    by_cases e : k2 = k
    · rw [if_pos e, hx]; rw [e] at this; omega
    · rw [if_neg e]; omega
theorem gjFF_0 : ∀ a, (∀ k, k < a → ¬ (fr k = R ∧ fk k = K)) → ∀ s, gjFF fr fk fs nf R K a s = gjFF fr fk fs nf R K 0 s := by
  intro a
  induction a with
  | zero => intro _ s; rfl
  | succ a ih => intro h s; rw [gjFF_n (h a (by omega)), ih (fun k hk => h k (by omega)) s]
theorem gjLL_0 : ∀ a, (∀ k, k < a → ¬ (fr k = R ∧ fk k = K)) → ∀ s, gjLL fr fk lr lk ls nl R K J a s = gjLL fr fk lr lk ls nl R K J 0 s := by
  intro a
  induction a with
  | zero => intro _ s; rfl
  | succ a ih => intro h s; rw [gjLL_n (Or.inl (h a (by omega))), ih (fun k hk => h k (by omega)) s]
theorem gjV_0 (h1 : gjCnt f (gjPF fr fk R K 0) (gjN fs) nf) (h2 : gjCnt l (gjQL fr fk lr lk R K J 0) (gjN ls) nl) (hnf : nf ≤ 20) (hnl : nl ≤ 20) (ht : ∀ j, j < nl → gjg lr lk R K j = true → (t j).toInt = 0) (ha : ∀ k, k < a → ¬ (fr k = R ∧ fk k = K)) : gjV fr fk fs nf lr lk ls nl R K a a J f l t := by
  refine ⟨fun s s1 s2 => by rw [gjFF_0 a ha]; exact h1.1 s s1 s2, fun s s1 s2 => by rw [gjLL_0 a ha]; exact h2.1 s s1 s2, fun j hj hg => ?_, fun k k1 k2 => ?_⟩
  · exact ⟨fun _ => (gjU_iff a).mpr (fun i hi e1 e2 => absurd ⟨e1, e2⟩ (ha i hi)), fun _ => ht j hj hg⟩
  · have a1 := h1.2 k k1 k2
    have a2 := h2.2 k k1 k2
    omega
theorem gjV_n (hV : gjV fr fk fs nf lr lk ls nl R K a a J f l t) (h : ¬ (fr a = R ∧ fk a = K)) (hn : n2 = a + 1) : gjV fr fk fs nf lr lk ls nl R K n2 n2 J f l t := by
  subst hn
  obtain ⟨v1, v2, v3, v4⟩ := hV
  refine ⟨fun s s1 s2 => by rw [gjFF_n h]; exact v1 s s1 s2, fun s s1 s2 => by rw [gjLL_n (Or.inl h)]; exact v2 s s1 s2, fun j hj hg => ?_, v4⟩
  rw [v3 j hj hg, gjU, show gjg fr fk R K a = false from Bool.eq_false_iff.mpr (fun h2 => h (gjg_iff.mp h2)), Bool.false_and, Bool.not_false, Bool.and_true]
theorem gjV_f {x : Int32} (hV : gjV fr fk fs nf lr lk ls nl R K a a J f l t) (ha : a < nf) (hr : fr a = R) (hk : fk a = K) (hs : gjSt fs nf) (hx : x.toInt = (f (gjN fs a)).toInt - 1) : gjV fr fk fs nf lr lk ls nl R K (a + 1) a J (upd f (gjN fs a) x) l t := by
  obtain ⟨v1, v2, v3, v4⟩ := hV
  obtain ⟨b1, b2, b3⟩ := gjSt_N hs ha
  have hpos : 1 ≤ (f (gjN fs a)).toInt := by
    have e1 := gjF_1 (g := gjI f) b2
    have e2 := v1 _ b1 b2
    have e3 := gjC_st (P := gjPF fr fk R K a) (f := gjN fs) (s := gjN fs a) (t := gjN fs a + 1) (by omega) (gjPF_iff.mpr ⟨Nat.le_refl _, hr, hk⟩) (Nat.le_refl _) (by omega) nf ha
    have e4 : gjF (gjI f) (gjN fs a + 1) ≤ gjFF fr fk fs nf R K a (gjN fs a + 1) := by
      by_cases e5 : gjN fs a + 1 ≤ 9
      · rw [v1 _ (by omega) e5]; exact Int.le_refl _
      · have e6 : gjF (gjI f) (gjN fs a + 1) = 0 := by unfold gjF; rw [show 10 - (gjN fs a + 1) = 0 by omega]; rfl
        rw [e6]; exact gjC_p nf
    have e7 : gjI f (gjN fs a) = (f (gjN fs a)).toInt := rfl
    unfold gjFF at *
    omega
  refine ⟨fun s s1 s2 => ?_, v2, v3, fun k k1 k2 => ?_⟩
  · rw [gjF_u (g := gjI f) (k := gjN fs a) (c := -1) b2 (by unfold gjI upd; rw [if_pos rfl, hx]; omega) (fun k hk => by unfold gjI upd; rw [if_neg hk]) s1 s2, v1 s s1 s2, gjFF_s ha hr hk]
    unfold gjd
    by_cases e : s ≤ gjN fs a
    · rw [if_pos e, if_pos e]; omega
    · rw [if_neg e, if_neg e]; omega
  · have h1 := v4 k k1 k2
    refine ⟨?_, h1.2⟩
    unfold upd
    by_cases e : k = gjN fs a
    · rw [if_pos e, hx]
      have h2 := (v4 _ b1 b2).1
      omega
    · rw [if_neg e]; exact h1.1
/-- all of the group ahead of a are joined; the others are as they were; who is taken -/
def gjA (U : Int) (fr fk fs : Nat → Int32) (nf : Nat) (lr lk ls : Nat → Int32) (nl : Nat) (R K : Int32) (a : Nat) (J0 J t0 t : Nat → Int32) : Prop :=
  (∀ k, k < a → fr k = R → fk k = K → gjO fr fk fs nf lr lk ls nl J U k (J k).toInt) ∧ (∀ k, ¬ (k < a ∧ fr k = R ∧ fk k = K) → J k = J0 k) ∧ (∀ k : Nat, k < 20 → ((t k).toInt = 0 ↔ (t0 k).toInt = 0 ∧ ∀ i, i < a → fr i = R → fk i = K → (J i).toInt ≠ (k : Int)))
theorem gjA_0 {U : Int} (ha : ∀ k, k < a → ¬ (fr k = R ∧ fk k = K)) : gjA U fr fk fs nf lr lk ls nl R K a J J t t :=
  ⟨fun k hk h1 h2 => absurd ⟨h1, h2⟩ (ha k hk), fun _ _ => rfl, fun k _ => ⟨fun h => ⟨h, fun i hi h1 h2 => absurd ⟨h1, h2⟩ (ha i hi)⟩, fun h => h.1⟩⟩
theorem gjA_n {U : Int} {J0 t0 : Nat → Int32} (h : gjA U fr fk fs nf lr lk ls nl R K a J0 J t0 t) (hg : ¬ (fr a = R ∧ fk a = K)) (hn : n2 = a + 1) : gjA U fr fk fs nf lr lk ls nl R K n2 J0 J t0 t := by
  subst hn
  obtain ⟨h1, h2, h3⟩ := h
  refine ⟨fun k hk e1 e2 => ?_, fun k hk => h2 k (fun h9 => hk ⟨by omega, h9.2⟩), fun k hk => ?_⟩
  · by_cases e : k = a
    · rw [e] at e1 e2; exact absurd ⟨e1, e2⟩ hg
    · exact h1 k (by omega) e1 e2
  · rw [h3 k hk]
    refine ⟨fun h9 => ⟨h9.1, fun i hi e1 e2 => ?_⟩, fun h9 => ⟨h9.1, fun i hi e1 e2 => h9.2 i (by omega) e1 e2⟩⟩
    by_cases e : i = a
    · rw [e] at e1 e2; exact absurd ⟨e1, e2⟩ hg
    · exact h9.2 i (by omega) e1 e2
theorem gjA_y {U : Int} {J0 t0 t2 : Nat → Int32} {x : Int32} (h : gjA U fr fk fs nf lr lk ls nl R K a J0 J t0 t) (hr : fr a = R) (hk : fk a = K) (hn : n2 = a + 1) (hJ : J2 = upd J a x) (ho : gjO fr fk fs nf lr lk ls nl J U a x.toInt) (ht : ∀ k : Nat, k < 20 → ((t2 k).toInt = 0 ↔ (t k).toInt = 0 ∧ (k : Int) ≠ x.toInt)) : gjA U fr fk fs nf lr lk ls nl R K n2 J0 J2 t0 t2 := by
  subst hn
  obtain ⟨h1, h2, h3⟩ := h
  have eJ : ∀ k, k ≠ a → J2 k = J k := fun k hk2 => by rw [hJ]; exact if_neg hk2
  have eJa : J2 a = x := by rw [hJ, upd_s]
  refine ⟨fun k hk2 e1 e2 => ?_, fun k hk2 => ?_, fun k hk2 => ?_⟩
  · by_cases e : k = a
    · rw [e, eJa]
      exact gjO_J (fun q hq => by rw [eJ q (by omega)]) ho
    · rw [eJ k e]
      exact gjO_J (fun q hq => by rw [eJ q (by omega)]) (h1 k (by omega) e1 e2)
  · have hne : k ≠ a := fun e => hk2 ⟨by omega, by rw [e]; exact hr, by rw [e]; exact hk⟩
    rw [eJ k hne]
    exact h2 k (fun h9 => hk2 ⟨by omega, h9.2⟩)
  · rw [ht k hk2, h3 k hk2]
    constructor
    · intro h9
      refine ⟨h9.1.1, fun i hi e1 e2 => ?_⟩
      by_cases e : i = a
      · rw [e, eJa]; exact fun h8 => h9.2 h8.symm
      · rw [eJ i e]; exact h9.1.2 i (by omega) e1 e2
    · intro h9
      refine ⟨⟨h9.1, fun i hi e1 e2 => ?_⟩, fun h8 => h9.2 a (by omega) hr hk (by rw [eJa]; exact h8.symm)⟩
      rw [← eJ i (by omega)]; exact h9.2 i (by omega) e1 e2
/-- the groups that are laid when the reference has come to a -/
def gjLA (fr fk : Nat → Int32) (a k : Nat) : Prop := ∃ q, q < a ∧ fr q = fr k ∧ fk q = fk k
def gjY (fr fk fs : Nat → Int32) (nf : Nat) (lr lk ls : Nat → Int32) (nl a : Nat) (J t : Nat → Int32) : Prop :=
  (∀ k, k < nf → gjLA fr fk a k → gjO fr fk fs nf lr lk ls nl J 99 k (J k).toInt) ∧ (∀ k, k < nf → ¬ gjLA fr fk a k → (J k).toInt = -1) ∧ (∀ k : Nat, k < 20 → ((t k).toInt = 0 ↔ ∀ q, q < nf → gjLA fr fk a q → (J q).toInt ≠ (k : Int)))
theorem gjY_0 (hn : nf ≤ 20) (h1 : ∀ k, k < 20 → (J k).toInt = -1) (h2 : ∀ k, k < 20 → (t k).toInt = 0) : gjY fr fk fs nf lr lk ls nl 0 J t := by
  have h0 : ∀ k, ¬ gjLA fr fk 0 k := fun k h => by obtain ⟨q, hq, _⟩ := h; exact absurd hq (Nat.not_lt_zero q)
  exact ⟨fun k _ h => absurd h (h0 k), fun k hk _ => h1 k (by omega), fun k hk => ⟨fun _ q _ h => absurd h (h0 q), fun _ => h2 k hk⟩⟩
theorem gjO_v {z : Int} (h : gjO fr fk fs nf lr lk ls nl J 99 i z) : z ≠ -1 := by
  rcases h with ⟨j, _, h, _⟩ | ⟨h, _⟩ <;> omega
theorem gjY_no (h : gjY fr fk fs nf lr lk ls nl a J t) (ha : a < nf) (e : (J a).toInt = -1) : ¬ gjLA fr fk a a := fun h1 => gjO_v (h.1 a ha h1) e
theorem gjY_ye (h : gjY fr fk fs nf lr lk ls nl a J t) (ha : a < nf) (e : (J a).toInt ≠ -1) : gjLA fr fk a a := by
  by_cases h1 : gjLA fr fk a a
  · exact h1
  · exact absurd (h.2.1 a ha h1) e
theorem gjY_f (h : gjY fr fk fs nf lr lk ls nl a J t) (hn : ¬ gjLA fr fk a a) : ∀ k, k < a → ¬ (fr k = fr a ∧ fk k = fk a) := fun k hk h1 => hn ⟨k, hk, h1.1, h1.2⟩
theorem gjY_t (h : gjY fr fk fs nf lr lk ls nl a J t) (hn : ¬ gjLA fr fk a a) (hl : nl ≤ 20) : ∀ j, j < nl → gjg lr lk (fr a) (fk a) j = true → (t j).toInt = 0 := by
  intro j hj hg
  refine (h.2.2 j (by omega)).mpr (fun q hq hla hJ => ?_)
  rcases h.1 q hq hla with ⟨k, k1, k2, k3, _⟩ | ⟨z1, _⟩
  · have e : k = j := by omega
    rw [e] at k3
    have g1 := (gjQL_iff.mp k3.1).1
    have g2 := gjg_iff.mp hg
    obtain ⟨p, p1, p2, p3⟩ := hla
    exact hn ⟨p, p1, by rw [p2, ← g1.1, g2.1], by rw [p3, ← g1.2, g2.2]⟩
  · omega
theorem gjLA_s {k : Nat} : gjLA fr fk (a + 1) k ↔ gjLA fr fk a k ∨ (fr a = fr k ∧ fk a = fk k) := by
  constructor
  · intro h
    obtain ⟨q, q1, q2, q3⟩ := h
    by_cases e : q = a
    · rw [e] at q2 q3; exact Or.inr ⟨q2, q3⟩
    · exact Or.inl ⟨q, by omega, q2, q3⟩
  · intro h
    rcases h with ⟨q, q1, q2⟩ | h
    · exact ⟨q, by omega, q2⟩
    · exact ⟨a, by omega, h.1, h.2⟩
theorem gjY_k (h : gjY fr fk fs nf lr lk ls nl a J t) (hy : gjLA fr fk a a) (hn : n2 = a + 1) : gjY fr fk fs nf lr lk ls nl n2 J t := by
  subst hn
  have hs : ∀ k, gjLA fr fk (a + 1) k ↔ gjLA fr fk a k := by
    intro k
    rw [gjLA_s]
    refine ⟨fun h1 => h1.elim id (fun h2 => ?_), Or.inl⟩
    obtain ⟨q, q1, q2, q3⟩ := hy
    exact ⟨q, q1, by rw [q2, h2.1], by rw [q3, h2.2]⟩
  refine ⟨fun k hk hl => h.1 k hk ((hs k).mp hl), fun k hk hl => h.2.1 k hk (fun h9 => hl ((hs k).mpr h9)), fun k hk => ?_⟩
  rw [h.2.2 k hk]
  exact ⟨fun h9 q hq hl => h9 q hq ((hs q).mp hl), fun h9 q hq hl => h9 q hq ((hs q).mpr hl)⟩
theorem gjY_s {t2 : Nat → Int32} (h : gjY fr fk fs nf lr lk ls nl a J t) (ha : a < nf) (hn : ¬ gjLA fr fk a a) (hA : gjA 99 fr fk fs nf lr lk ls nl (fr a) (fk a) nf J J2 t t2) (hk : n2 = a + 1) : gjY fr fk fs nf lr lk ls nl n2 J2 t2 := by
  subst hk
  obtain ⟨h1, h2, h3⟩ := h
  obtain ⟨b1, b2, b3⟩ := hA
  have hd : ∀ k, gjLA fr fk a k → ¬ (fr k = fr a ∧ fk k = fk a) := by
    intro k hl he
    obtain ⟨q, q1, q2, q3⟩ := hl
    exact hn ⟨q, q1, by rw [q2, he.1], by rw [q3, he.2]⟩
  refine ⟨fun k hk hl => ?_, fun k hk hl => ?_, fun k hk => ?_⟩
  · rcases gjLA_s.mp hl with hl | hl
    · have e := b2 k (fun h9 => hd k hl h9.2)
      rw [e]
      refine gjO_co (nf := nf) (nl := nl) (Nat.le_refl _) (Nat.le_refl _) hk rfl rfl rfl (fun q hq => ⟨rfl, fun hg => ⟨rfl, ?_⟩⟩) (fun q q1 q2 => by omega) (fun q hq => ⟨rfl, fun _ => rfl⟩) (fun q q1 q2 => by omega) (h1 k hk hl)
      have g := gjg_iff.mp hg
      rw [b2 q (fun h9 => hd k hl ⟨by rw [← g.1, h9.2.1], by rw [← g.2, h9.2.2]⟩)]
    · exact b1 k hk hl.1.symm hl.2.symm
  · have hl1 : ¬ gjLA fr fk a k := fun h9 => hl (gjLA_s.mpr (Or.inl h9))
    rw [b2 k (fun h9 => hl (gjLA_s.mpr (Or.inr ⟨h9.2.1.symm, h9.2.2.symm⟩)))]
    exact h2 k hk hl1
  · rw [b3 k hk, h3 k hk]
    constructor
    · intro h9 q hq hl
      rcases gjLA_s.mp hl with hl | hl
      · rw [b2 q (fun h8 => hd q hl h8.2)]; exact h9.1 q hq hl
      · exact h9.2 q hq hl.1.symm hl.2.symm
    · intro h9
      refine ⟨fun q hq hl => ?_, fun q hq e1 e2 => h9 q hq (gjLA_s.mpr (Or.inr ⟨e1.symm, e2.symm⟩))⟩
      rw [← b2 q (fun h8 => hd q hl h8.2)]
      exact h9 q hq (gjLA_s.mpr (Or.inl hl))
theorem gjY_e (h : gjY fr fk fs nf lr lk ls nl nf J t) : gjJ fr fk fs nf lr lk ls nl 99 J ∧ ∀ k : Nat, k < 20 → ((t k).toInt = 0 ↔ ∀ q, q < nf → (J q).toInt ≠ (k : Int)) := by
  refine ⟨fun k hk => h.1 k hk ⟨k, hk, rfl, rfl⟩, fun k hk => ?_⟩
  rw [h.2.2 k hk]
  exact ⟨fun h9 q hq => h9 q hq ⟨q, hq, rfl, rfl⟩, fun h9 q hq _ => h9 q hq⟩
end JALL
set_option maxHeartbeats 4000000 in
set_option maxRecDepth 100000 in
theorem c_X12_isOf9 (l : Launch) (D : va_G) (cy : Nat → ClassId) (a : Nat → Nat) (i : Nat → Int32) (r : Nat → Nat → Int32) (rl : Nat → Int64) (p0 p1 p2 p3 : Int32) (hRi : mRi i) (hRr : mRr r) (q0 : 0 ≤ p0.toInt ∧ p0.toInt ≤ 5) (q1 : 0 ≤ p1.toInt ∧ p1.toInt ≤ 19) : Met l yX12_isOf (Cond.code yX12_isOf cX12_isOf 5 (some .boolean) :: gT) { frames := 1, cells := 0, slots := 0, locals := 24 } (va_Pc [.ref (a 0), .int p0, .int p1, .int p2, .int p3] (rP D cy (mW cy a i r rl))) (vp_Si (fun z => BR z (r 16 (20 * p0.toInt + p1.toInt).toNat = p2 ∧ r 17 (20 * p0.toInt + p1.toInt).toNat = p3) 1 0)) 0 0 (fun _ => False) := by
  refine Met.ofQ (cc := cX12_isOf) (maxL := 5) (ret := (some .boolean)) (by decide) rfl ?_
  intro p e s m args below meth c s₁ B hml hv Q hQ
  obtain ⟨rfl, hP, hK⟩ := hv
  have hx := B.exec
  have hb := B.bytes
  have hr := B.returns
  have hlocks := B.notSynchronized
  have hT : ∀ w ∈ gT, w.before _ s = true := fun w h => atoms_spec (ws := (Cond.code yX12_isOf cX12_isOf 5 (some .boolean) :: gT)) B.pre w (List.mem_cons_of_mem _ h)
  have hown : s.vm.findClass RX12 = some m.cls := findClass_of_methodNamed B.named
  have hl := lv_entry ([.ref (a 0), .int p0, .int p1, .int p2, .int p3]) (n := 5) (Nat.le_of_ble_eq_true rfl)
  rw [lg_entry_eq]
  generalize (lg_sl ([.ref (a 0), .int p0, .int p1, .int p2, .int p3]) ++ List.replicate (5 - (lg_sl ([.ref (a 0), .int p0, .int p1, .int p2, .int p3])).length) Slot.unset).toArray = ls at hl ⊢
  have hl : lv_has ls 5 [(0, .ref (a 0)), (1, .int p0), (2, .int p1), (3, .int p2), (4, .int p3)] := hl
  have hEi : mEi [23, 24, 25, 26, 27, 28, 29, 30, 60] i i := Ei_rf
  have hEr : mEr [21, 22, 23, 24, 25, 26, 32, 33, 34, 35, 36, 37, 38, 39, 48, 49, 57, 61, 62] r r := Er_rf
  refine lv_aload_n hx hb dX12_isOf_0 rfl (lv_at hl 0 rfl) ?_
  refine va_get (D := D) (ci := 12) (v := .ref (a 16)) (C := RX12) (T := TX12) (N := 91) hx hb hT iX12 hown hK hP 0 rfl rfl 17 (by decide) (hT _ t_28) (fun _ h9 => h9) rfl dX12_isOf_1 ?_
  refine lv_bipush (v := 20) hx hb dX12_isOf_4 (by decide) ?_
  refine lv_iload_n hx hb dX12_isOf_6 rfl (lv_at hl 1 rfl) ?_
  refine lv_imul hx hb dX12_isOf_7 ?_
  refine lv_topi (fun v_1 ev_1 => ?_)
  have hv_1 : v_1.toInt = 20 * p0.toInt := by rw [ev_1]; have := b_rg p0; exact i_mul (a := 20) (b := p0.toInt) rfl rfl (by omega) (by omega)
  refine lv_iload_n hx hb dX12_isOf_8 rfl (lv_at hl 2 rfl) ?_
  refine lv_iadd hx hb dX12_isOf_9 ?_
  refine lv_topi (fun v_2 ev_2 => ?_)
  have hv_2 : v_2.toInt = v_1.toInt + p1.toInt := by rw [ev_2]; have := b_rg v_1; have := b_rg p1; exact i_add (a := v_1.toInt) (b := p1.toInt) rfl rfl (by omega) (by omega)
  refine va_iald hx hb hK hP 16 0 rfl rfl (vp_inI (by omega) (by omega)) dX12_isOf_10 ?_
  refine lv_topi (fun v_3 ev_3 => ?_)
  have hgv_3 : 0 ≤ v_3.toInt ∧ v_3.toInt ≤ 9 := by rw [ev_3]; exact hRr 16 _
  have hwv_3 : v_3 = r 16 (((20 * p0.toInt) + p1.toInt)).toNat := by rw [ev_3]; exact congrArg (r 16) (by show v_2.toInt.toNat = _; omega)
  refine lv_iload_n hx hb dX12_isOf_11 rfl (lv_at hl 3 rfl) ?_
  refine lv_icmp_ne (tgt := 35) hx hb dX12_isOf_12 (by decide) (fun c_4 => ?_) (fun c_4 => ?_)
  · have c_4 : v_3.toInt ≠ p2.toInt := b_ne c_4
    refine lv_iconst (v := 0) hx hb dX12_isOf_35 (by decide) ?_
    subst hQ
    exact W.zret hx hb hr rfl (fun t ht hW => ⟨_, rfl, Or.inr ⟨rfl, fun h9 => c_4 (congrArg Int32.toInt (hwv_3.trans h9.1))⟩, ht⟩) (fun q hq => absurd hq List.not_mem_nil) dX12_isOf_36
  · have c_4 : v_3.toInt = p2.toInt := b_nne c_4
    refine lv_aload_n hx hb dX12_isOf_15 rfl (lv_at hl 0 rfl) ?_
    refine va_get (D := D) (ci := 12) (v := .ref (a 17)) (C := RX12) (T := TX12) (N := 91) hx hb hT iX12 hown hK hP 0 rfl rfl 18 (by decide) (hT _ t_29) (fun _ h9 => h9) rfl dX12_isOf_16 ?_
    refine lv_bipush (v := 20) hx hb dX12_isOf_19 (by decide) ?_
    refine lv_iload_n hx hb dX12_isOf_21 rfl (lv_at hl 1 rfl) ?_
    refine lv_imul hx hb dX12_isOf_22 ?_
    refine lv_topi (fun v_5 ev_5 => ?_)
    have hv_5 : v_5.toInt = 20 * p0.toInt := by rw [ev_5]; have := b_rg p0; exact i_mul (a := 20) (b := p0.toInt) rfl rfl (by omega) (by omega)
    refine lv_iload_n hx hb dX12_isOf_23 rfl (lv_at hl 2 rfl) ?_
    refine lv_iadd hx hb dX12_isOf_24 ?_
    refine lv_topi (fun v_6 ev_6 => ?_)
    have hv_6 : v_6.toInt = v_5.toInt + p1.toInt := by rw [ev_6]; have := b_rg v_5; have := b_rg p1; exact i_add (a := v_5.toInt) (b := p1.toInt) rfl rfl (by omega) (by omega)
    refine va_iald hx hb hK hP 17 0 rfl rfl (vp_inI (by omega) (by omega)) dX12_isOf_25 ?_
    refine lv_topi (fun v_7 ev_7 => ?_)
    have hgv_7 : 0 ≤ v_7.toInt ∧ v_7.toInt ≤ 7 := by rw [ev_7]; exact hRr 17 _
    have hwv_7 : v_7 = r 17 (((20 * p0.toInt) + p1.toInt)).toNat := by rw [ev_7]; exact congrArg (r 17) (by show v_6.toInt.toNat = _; omega)
    refine lv_iload hx hb dX12_isOf_26 (lv_at hl 4 rfl) ?_
    refine lv_icmp_ne (tgt := 35) hx hb dX12_isOf_28 (by decide) (fun c_8 => ?_) (fun c_8 => ?_)
    · have c_8 : v_7.toInt ≠ p3.toInt := b_ne c_8
      refine lv_iconst (v := 0) hx hb dX12_isOf_35 (by decide) ?_
      subst hQ
      exact W.zret hx hb hr rfl (fun t ht hW => ⟨_, rfl, Or.inr ⟨rfl, fun h9 => c_8 (congrArg Int32.toInt (hwv_7.trans h9.2))⟩, ht⟩) (fun q hq => absurd hq List.not_mem_nil) dX12_isOf_36
    · have c_8 : v_7.toInt = p3.toInt := b_nne c_8
      refine lv_iconst (v := 1) hx hb dX12_isOf_31 (by decide) ?_
      refine lv_goto (tgt := 36) hx hb dX12_isOf_32 (by decide) ?_
      subst hQ
      exact W.zret hx hb hr rfl (fun t ht hW => ⟨_, rfl, Or.inl ⟨rfl, hwv_3.symm.trans (Int32.toInt_inj.mp c_4), hwv_7.symm.trans (Int32.toInt_inj.mp c_8)⟩, ht⟩) (fun q hq => absurd hq List.not_mem_nil) dX12_isOf_36
set_option maxHeartbeats 4000000 in
set_option maxRecDepth 100000 in
theorem c_X12_joinsOne9 (l : Launch) (D : va_G) (cy : Nat → ClassId) (a : Nat → Nat) (i : Nat → Int32) (r : Nat → Nat → Int32) (rl : Nat → Int64) (p0 p1 p2 p3 p4 : Int32) (sz : Nat) (hRi : mRi i) (hRr : mRr r) (q0 : 0 ≤ p0.toInt ∧ p0.toInt ≤ 5) (q1 : 0 ≤ p1.toInt ∧ p1.toInt ≤ 19) (hi9 : p1.toInt < (r 10 p0.toNatClampNeg).toInt) (hr9 : gjH (r 12) p0.toNatClampNeg p1.toNatClampNeg = p2) (hk9 : gjH (r 13) p0.toNatClampNeg p1.toNatClampNeg = p3) (hs1 : gjSt (gjH (r 14) p0.toNatClampNeg) (r 10 p0.toNatClampNeg).toNatClampNeg) (hs2 : gjSt (gjH (r 18) p0.toNatClampNeg) (r 11 p0.toNatClampNeg).toNatClampNeg) (hV9 : gjV (gjH (r 12) p0.toNatClampNeg) (gjH (r 13) p0.toNatClampNeg) (gjH (r 14) p0.toNatClampNeg) (r 10 p0.toNatClampNeg).toNatClampNeg (gjH (r 16) p0.toNatClampNeg) (gjH (r 17) p0.toNatClampNeg) (gjH (r 18) p0.toNatClampNeg) (r 11 p0.toNatClampNeg).toNatClampNeg p2 p3 (p1.toNatClampNeg + 1) p1.toNatClampNeg (r 34) (r 35) (r 36) (r 39)) (hm9 : p4.toInt = gjK (gjFF (gjH (r 12) p0.toNatClampNeg) (gjH (r 13) p0.toNatClampNeg) (gjH (r 14) p0.toNatClampNeg) (r 10 p0.toNatClampNeg).toNatClampNeg p2 p3 p1.toNatClampNeg) (gjLL (gjH (r 12) p0.toNatClampNeg) (gjH (r 13) p0.toNatClampNeg) (gjH (r 16) p0.toNatClampNeg) (gjH (r 17) p0.toNatClampNeg) (gjH (r 18) p0.toNatClampNeg) (r 11 p0.toNatClampNeg).toNatClampNeg p2 p3 (r 34) p1.toNatClampNeg)) : Met l yX12_joinsOne (Cond.code yX12_joinsOne cX12_joinsOne 10 (some .int) :: gT) { frames := 2, cells := 0, slots := 0, locals := 48 } (va_Pc [.ref (a 0), .int p0, .int p1, .int p2, .int p3, .int p4] (rQ D cy (mW cy a i r rl) sz)) (va_Qi (fun (z : Int32) (u : Nat → Nat → Int32) => mRr u ∧ mEr [34, 36, 37, 38, 39] r u ∧ (∃ x9 : Int32, u 34 = upd (r 34) p1.toNatClampNeg x9 ∧ gjO (gjH (r 12) p0.toNatClampNeg) (gjH (r 13) p0.toNatClampNeg) (gjH (r 14) p0.toNatClampNeg) (r 10 p0.toNatClampNeg).toNatClampNeg (gjH (r 16) p0.toNatClampNeg) (gjH (r 17) p0.toNatClampNeg) (gjH (r 18) p0.toNatClampNeg) (r 11 p0.toNatClampNeg).toNatClampNeg (r 34) 99 p1.toNatClampNeg x9.toInt ∧ gjV (gjH (r 12) p0.toNatClampNeg) (gjH (r 13) p0.toNatClampNeg) (gjH (r 14) p0.toNatClampNeg) (r 10 p0.toNatClampNeg).toNatClampNeg (gjH (r 16) p0.toNatClampNeg) (gjH (r 17) p0.toNatClampNeg) (gjH (r 18) p0.toNatClampNeg) (r 11 p0.toNatClampNeg).toNatClampNeg p2 p3 (p1.toNatClampNeg + 1) (p1.toNatClampNeg + 1) (u 34) (r 35) (u 36) (u 39) ∧ z.toInt = gjK (gjFF (gjH (r 12) p0.toNatClampNeg) (gjH (r 13) p0.toNatClampNeg) (gjH (r 14) p0.toNatClampNeg) (r 10 p0.toNatClampNeg).toNatClampNeg p2 p3 (p1.toNatClampNeg + 1)) (gjLL (gjH (r 12) p0.toNatClampNeg) (gjH (r 13) p0.toNatClampNeg) (gjH (r 16) p0.toNatClampNeg) (gjH (r 17) p0.toNatClampNeg) (gjH (r 18) p0.toNatClampNeg) (r 11 p0.toNatClampNeg).toNatClampNeg p2 p3 (u 34) (p1.toNatClampNeg + 1)) ∧ ∀ k : Nat, k < 20 → ((u 39 k).toInt = 0 ↔ (r 39 k).toInt = 0 ∧ (k : Int) ≠ x9.toInt))) (fun (u : Nat → Nat → Int32) t => va_P D vwCl (mW cy a i u rl) t.heap ∧ va_K D vwCl (vT cy) t ∧ va_D (va_A (mW cy a i r rl) sz) (mW cy a i u rl)) (va_A (mW cy a i r rl) sz)) 0 0 (va_A (mW cy a i r rl) sz) := by
  refine Met.ofQ (cc := cX12_joinsOne) (maxL := 10) (ret := (some .int)) (by decide) rfl ?_
  intro p e s m args below meth c s₁ B hml hv Q hQ
  obtain ⟨rfl, hsz, hP, hK, hD0⟩ := hv
  have hx := B.exec
  have hb := B.bytes
  have hr := B.returns
  have hlocks := B.notSynchronized
  have hT : ∀ w ∈ gT, w.before _ s = true := fun w h => atoms_spec (ws := (Cond.code yX12_joinsOne cX12_joinsOne 10 (some .int) :: gT)) B.pre w (List.mem_cons_of_mem _ h)
  have hown : s.vm.findClass RX12 = some m.cls := findClass_of_methodNamed B.named
  subst hsz
  have hD := hD0.self (sz := s.heap.size)
  generalize hAe : va_A (mW cy a i r rl) s.heap.size = A at hD hQ
  have hA : ∀ q : Nat, s.heap.size ≤ q → A q := fun q h => by rw [← hAe]; exact Or.inr h
  have hS : va_S A s.heap s.heap [] := va_S.rf
  have hl := lv_entry ([.ref (a 0), .int p0, .int p1, .int p2, .int p3, .int p4]) (n := 10) (Nat.le_of_ble_eq_true rfl)
  rw [lg_entry_eq]
  generalize (lg_sl ([.ref (a 0), .int p0, .int p1, .int p2, .int p3, .int p4]) ++ List.replicate (10 - (lg_sl ([.ref (a 0), .int p0, .int p1, .int p2, .int p3, .int p4])).length) Slot.unset).toArray = ls at hl ⊢
  have hl : lv_has ls 10 [(0, .ref (a 0)), (1, .int p0), (2, .int p1), (3, .int p2), (4, .int p3), (5, .int p4)] := hl
  have hEi : mEi [23, 24, 25, 26, 27, 28, 29, 30, 60] i i := Ei_rf
  have hEr : mEr [34, 36, 37, 38, 39] r r := Er_rf
  have hrg : 0 ≤ (r 10 p0.toNatClampNeg).toInt ∧ (r 10 p0.toNatClampNeg).toInt ≤ 20 := hRr 10 _
  have hrl : 0 ≤ (r 11 p0.toNatClampNeg).toInt ∧ (r 11 p0.toNatClampNeg).toInt ≤ 20 := hRr 11 _
  have hin : p1.toNatClampNeg < (r 10 p0.toNatClampNeg).toNatClampNeg := by show p1.toInt.toNat < (r 10 p0.toNatClampNeg).toInt.toNat; omega
  refine lv_aload_n hx hb dX12_joinsOne_0 rfl (lv_at hl 0 rfl) ?_
  refine va_get (D := D) (ci := 12) (v := .ref (a 14)) (C := RX12) (T := TX12) (N := 91) hx hb hT iX12 hown hK hP 0 rfl rfl 15 (by decide) (hT _ t_38) (fun _ h9 => h9) rfl dX12_joinsOne_1 ?_
  refine lv_bipush (v := 20) hx hb dX12_joinsOne_4 (by decide) ?_
  refine lv_iload_n hx hb dX12_joinsOne_6 rfl (lv_at hl 1 rfl) ?_
  refine lv_imul hx hb dX12_joinsOne_7 ?_
  refine lv_topi (fun v_1 ev_1 => ?_)
  have hv_1 : v_1.toInt = 20 * p0.toInt := by rw [ev_1]; have := b_rg p0; exact i_mul (a := 20) (b := p0.toInt) rfl rfl (by omega) (by omega)
  refine lv_iload_n hx hb dX12_joinsOne_8 rfl (lv_at hl 2 rfl) ?_
  refine lv_iadd hx hb dX12_joinsOne_9 ?_
  refine lv_topi (fun v_2 ev_2 => ?_)
  have hv_2 : v_2.toInt = v_1.toInt + p1.toInt := by rw [ev_2]; have := b_rg v_1; have := b_rg p1; exact i_add (a := v_1.toInt) (b := p1.toInt) rfl rfl (by omega) (by omega)
  refine va_iald hx hb hK hP 14 0 rfl rfl (vp_inI (by omega) (by omega)) dX12_joinsOne_10 ?_
  refine lv_topi (fun v_3 ev_3 => ?_)
  have hgv_3 : 0 ≤ v_3.toInt ∧ v_3.toInt ≤ 9 := by rw [ev_3]; exact hRr 14 _
  have hs10 : v_3.toInt = (gjH (r 14) p0.toNatClampNeg p1.toNatClampNeg).toInt := by rw [ev_3]; exact congrArg (fun k9 => (r 14 k9).toInt) (by show v_2.toInt.toNat = 20 * p0.toInt.toNat + p1.toInt.toNat; omega)
  refine lv_istore (lv' := [(6, .int v_3), (0, .ref (a 0)), (1, .int p0), (2, .int p1), (3, .int p2), (4, .int p3), (5, .int p4)]) hx hb dX12_joinsOne_11 hl (by decide) rfl (fun ls hl => ?_)
  refine lv_iconst (v := 0) hx hb dX12_joinsOne_13 (by decide) ?_
  refine lv_istore (lv' := [(7, .int 0), (6, .int v_3), (0, .ref (a 0)), (1, .int p0), (2, .int p1), (3, .int p2), (4, .int p3), (5, .int p4)]) hx hb dX12_joinsOne_14 hl (by decide) rfl (fun ls hl => ?_)
  have loop_4 : ∀ (n : Nat) (x4_7 : Int32) (r4 : Nat → Nat → Int32) (H : Heap) (locs : List Loc) (ls : Array Slot), (20 - x4_7.toInt).toNat < n → (0 ≤ x4_7.toInt ∧ x4_7.toInt ≤ 20) → mRr r4 → mEr [34, 36, 37, 38, 39] r r4 → ((r4 34 = r 34 ∧ r4 36 = r 36 ∧ r4 39 = r 39) ∧ (∀ k, k < x4_7.toNatClampNeg → ¬ gjCd (gjH (r 12) p0.toNatClampNeg) (gjH (r 13) p0.toNatClampNeg) (gjH (r 14) p0.toNatClampNeg) (r 10 p0.toNatClampNeg).toNatClampNeg (gjH (r 16) p0.toNatClampNeg) (gjH (r 17) p0.toNatClampNeg) (gjH (r 18) p0.toNatClampNeg) (r 11 p0.toNatClampNeg).toNatClampNeg (r 34) p1.toNatClampNeg k) ∧ x4_7.toInt ≤ (r 11 p0.toNatClampNeg).toInt) → va_P D vwCl (mW cy a i r4 rl) H → va_D A (mW cy a i r4 rl) → va_S A s.heap H locs → lv_has ls 10 [(7, .int x4_7), (6, .int v_3), (0, .ref (a 0)), (1, .int p0), (2, .int p1), (3, .int p2), (4, .int p3), (5, .int p4)] → W p l e ({ frames := 2, cells := 0, slots := 0, locals := 48 } : Room) s m ([.ref (a 0), .int p0, .int p1, .int p2, .int p3, .int p4] : List Value).toArray below meth c H locs 0 0 Q (F0 m 16 ls []) := by
    intro n
    induction n with
    | zero =>
      intro x4_7 r4 H locs ls hm4 hf4_0 hRr hEr hx4 hP hD hS hl
      exact absurd hm4 (by omega)
    | succ n ih4 =>
      intro x4_7 r4 H locs ls hm4 hf4_0 hRr hEr hx4 hP hD hS hl
      refine lv_iload hx hb dX12_joinsOne_16 (lv_at hl 0 rfl) ?_
      refine lv_aload_n hx hb dX12_joinsOne_18 rfl (lv_at hl 2 rfl) ?_
      refine va_get (D := D) (ci := 12) (v := .ref (a 11)) (C := RX12) (T := TX12) (N := 91) hx hb hT iX12 hown hK hP 0 rfl rfl 12 (by decide) (hT _ t_43) (fun _ h9 => h9) rfl dX12_joinsOne_19 ?_
      refine lv_iload_n hx hb dX12_joinsOne_22 rfl (lv_at hl 3 rfl) ?_
      refine va_iald hx hb hK hP 11 0 rfl rfl (vp_inI (by omega) (by omega)) dX12_joinsOne_23 ?_
      refine lv_topi (fun v_5 ev_5 => ?_)
      have hgv_5 : 0 ≤ v_5.toInt ∧ v_5.toInt ≤ 20 := by rw [ev_5]; exact hRr 11 _
      have hwv_5 : v_5.toInt = (r4 11 (p0.toNatClampNeg)).toInt := congrArg Int32.toInt ev_5
      have hv23 : v_5.toInt = (r 11 p0.toNatClampNeg).toInt := by rw [ev_5, hEr 11 (by decide)]
      refine lv_icmp_ge (tgt := 152) hx hb dX12_joinsOne_24 (by decide) (fun c_6 => ?_) (fun c_6 => ?_)
      · have c_6 : v_5.toInt ≤ x4_7.toInt := b_le c_6
        refine lv_aload_n hx hb dX12_joinsOne_152 rfl (lv_at hl 2 rfl) ?_
        refine va_get (D := D) (ci := 12) (v := .ref (a 34)) (C := RX12) (T := TX12) (N := 91) hx hb hT iX12 hown hK hP 0 rfl rfl 45 (by decide) (hT _ t_32) (fun _ h9 => h9) rfl dX12_joinsOne_153 ?_
        refine lv_iload_n hx hb dX12_joinsOne_156 rfl (lv_at hl 4 rfl) ?_
        refine lv_bipush (v := 99) hx hb dX12_joinsOne_157 (by decide) ?_
        refine va_iast hx hb hK hP hD hS 34 0 rfl rfl (vp_inI (by omega) (by omega)) dX12_joinsOne_159 (fun H locs hP hD hS => ?_)
        rw [mS34] at hP hD
        have hRr : mRr (va_up r4 34 (upd (r4 34) p1.toNatClampNeg 99)) := Rr_upd hRr 34 (p1.toNatClampNeg) 99 ⟨by decide, by decide⟩
        have hEr : mEr [34, 36, 37, 38, 39] _ (va_up r4 34 (upd (r4 34) p1.toNatClampNeg 99)) := Er_up hEr 34 _ (by decide)
        refine lv_iload hx hb dX12_joinsOne_160 (lv_at hl 7 rfl) ?_
        subst hQ
        have hk : x4_7.toNatClampNeg = (r 11 p0.toNatClampNeg).toNatClampNeg := by show x4_7.toInt.toNat = (r 11 p0.toNatClampNeg).toInt.toNat; omega
        have hnn := hx4.2.1
        rw [hk] at hnn
        have hy9 : ∀ k : Nat, k < (r 11 p0.toNatClampNeg).toNatClampNeg → (99 : Int32).toInt ≠ (k : Int) := by intro k hk2 h8; have h7 : (99 : Int32).toInt = 99 := rfl; have h6 : (r 11 p0.toNatClampNeg).toNatClampNeg = (r 11 p0.toNatClampNeg).toInt.toNat := rfl; omega
        have hJ2 : (va_up r4 34 (upd (r4 34) p1.toNatClampNeg 99)) 34 = upd (r 34) p1.toNatClampNeg 99 := by show upd (r4 34) p1.toNatClampNeg 99 = _; rw [hx4.1.1]
        have hf9 := gj1_n (J2 := (va_up r4 34 (upd (r4 34) p1.toNatClampNeg 99)) 34) hV9 hin hr9 hk9 hs1 hs2 hnn hy9 hJ2
        have e36 : (va_up r4 34 (upd (r4 34) p1.toNatClampNeg 99)) 36 = r 36 := hx4.1.2.1
        have e39 : (va_up r4 34 (upd (r4 34) p1.toNatClampNeg 99)) 39 = r 39 := hx4.1.2.2
        exact W.iret (v := p4) hx hb hr (fun t ht hW => ⟨⟨_, (va_up r4 34 (upd (r4 34) p1.toNatClampNeg 99)), rfl, ⟨hRr, hEr, ⟨99, hJ2, Or.inr ⟨rfl, hnn⟩, by rw [e36, e39]; exact hf9.1, hm9.trans hf9.2, fun k hk2 => by rw [e39]; exact ⟨fun h8 => ⟨h8, fun h7 => by have h6 : (99 : Int32).toInt = 99 := rfl; omega⟩, fun h8 => h8.1⟩⟩⟩, by rw [ht]; exact hP, va_K.moved hW.alike hK, hD⟩, hS.F ht⟩) hS.2.2 dX12_joinsOne_162
      · have c_6 : x4_7.toInt < v_5.toInt := b_nle c_6
        refine lv_aload_n hx hb dX12_joinsOne_27 rfl (lv_at hl 2 rfl) ?_
        refine va_get (D := D) (ci := 12) (v := .ref (a 39)) (C := RX12) (T := TX12) (N := 91) hx hb hT iX12 hown hK hP 0 rfl rfl 50 (by decide) (hT _ t_44) (fun _ h9 => h9) rfl dX12_joinsOne_28 ?_
        refine lv_iload hx hb dX12_joinsOne_31 (lv_at hl 0 rfl) ?_
        refine va_zald hx hb hK hP 39 2 rfl rfl (vp_inI (by omega) (by omega)) dX12_joinsOne_33 ?_
        refine lv_topi (fun v_7 ev_7 => ?_)
        have hj9 : x4_7.toNatClampNeg < (r 11 p0.toNatClampNeg).toNatClampNeg := by show x4_7.toInt.toNat < (r 11 p0.toNatClampNeg).toInt.toNat; omega
        have hv33 : v_7 = r 39 (x4_7.toNatClampNeg) := by rw [ev_7, hx4.1.2.2]
        refine lv_if_ne (tgt := 146) hx hb dX12_joinsOne_34 (by decide) (fun c_8 => ?_) (fun c_8 => ?_)
        · have c_8 : v_7.toInt ≠ 0 := b_ne c_8
          have hno : ¬ gjCd (gjH (r 12) p0.toNatClampNeg) (gjH (r 13) p0.toNatClampNeg) (gjH (r 14) p0.toNatClampNeg) (r 10 p0.toNatClampNeg).toNatClampNeg (gjH (r 16) p0.toNatClampNeg) (gjH (r 17) p0.toNatClampNeg) (gjH (r 18) p0.toNatClampNeg) (r 11 p0.toNatClampNeg).toNatClampNeg (r 34) p1.toNatClampNeg x4_7.toNatClampNeg := gj1_t hV9 hr9 hk9 hj9 (by rw [← hv33]; exact c_8)
          obtain ⟨x_9, ex_9⟩ : ∃ y : Int32, y = x4_7 + 1 := ⟨_, rfl⟩
          refine lv_iinc (v := x_9) (lv' := [(7, .int x_9), (6, .int v_3), (0, .ref (a 0)), (1, .int p0), (2, .int p1), (3, .int p2), (4, .int p3), (5, .int p4)]) hx hb dX12_joinsOne_146 hl (k := 0) rfl (by rw [ex_9]; rfl) (by decide) rfl (fun ls hl => ?_)
          have hx_9 : x_9.toInt = x4_7.toInt + 1 := by rw [ex_9]; have := b_rg x4_7; exact i_add (a := x4_7.toInt) (b := 1) rfl rfl (by omega) (by omega)
          refine lv_goto (tgt := 16) hx hb dX12_joinsOne_149 (by decide) ?_
          have hk : x_9.toNatClampNeg = x4_7.toNatClampNeg + 1 := by show x_9.toInt.toNat = x4_7.toInt.toNat + 1; omega
          exact ih4 x_9 r4 _ _ _ (by first | omega | (simp only [Int.toNat]; omega)) (by first | omega | decide) hRr hEr ⟨hx4.1, (fun k hk2 => (Nat.lt_succ_iff_lt_or_eq.mp (by rw [hk] at hk2; exact hk2)).elim (fun h8 => hx4.2.1 k h8) (fun h8 => by rw [h8]; exact hno)), by omega⟩ hP hD hS (lv_sub hl [0, 1, 2, 3, 4, 5, 6, 7] rfl)
        · have c_8 : v_7.toInt = 0 := b_nne c_8
          refine lv_aload_n hx hb dX12_joinsOne_37 rfl (lv_at hl 2 rfl) ?_
          refine lv_iload_n hx hb dX12_joinsOne_38 rfl (lv_at hl 3 rfl) ?_
          refine lv_iload hx hb dX12_joinsOne_39 (lv_at hl 0 rfl) ?_
          refine lv_iload_n hx hb dX12_joinsOne_41 rfl (lv_at hl 5 rfl) ?_
          refine lv_iload hx hb dX12_joinsOne_42 (lv_at hl 6 rfl) ?_
          refine vp_callSi (W.runV (As := [.int p0, .int x4_7, .int p2, .int p3]) (rest := []) ⟨hx, hb, hml, hown, hT⟩ (c_X12_isOf9 l D cy a i r4 rl p0 x4_7 p2 p3 hRi hRr (by omega) (by omega)) (cwV 4 hT (gV t_45 t_46 t_47 t_48 t_6) rfl rfl rfl (by decide +kernel) ⟨Nat.le_of_ble_eq_true rfl, Nat.le_of_ble_eq_true rfl⟩) (rP_v hP hK (va_recv hK hP (ci := 12) (q0 := 0) rfl rfl)) rfl rfl hl.1 rfl (lv_room (Nat.le_of_ble_eq_true rfl)) dX12_joinsOne_44 ⟨Nat.le_of_ble_eq_true rfl, Nat.le_of_ble_eq_true rfl⟩) (fun r_10 hr_10 => ?_)
          have hr_10 : BR r_10 (r4 16 (20 * p0.toInt + x4_7.toInt).toNat = p2 ∧ r4 17 (20 * p0.toInt + x4_7.toInt).toNat = p3) 1 0 := hr_10
          rcases hr_10 with ⟨rfl, h_11⟩ | ⟨rfl, h_11⟩
          · skip
            refine lv_if_ne (tgt := 53) hx hb dX12_joinsOne_47 (by decide) (fun c_12 => ?_) (fun c_12 => absurd c_12 (by decide))
            have hix : (20 * p0.toInt + x4_7.toInt).toNat = 20 * p0.toNatClampNeg + x4_7.toNatClampNeg := by show _ = 20 * p0.toInt.toNat + x4_7.toInt.toNat; omega
            have hg9 : (gjH (r 16) p0.toNatClampNeg (x4_7.toNatClampNeg) = p2 ∧ gjH (r 17) p0.toNatClampNeg (x4_7.toNatClampNeg) = p3) := by have h9 := h_11; rw [hix, hEr 16 (by decide), hEr 17 (by decide)] at h9; exact h9
            have hQ9 := gj1_q hV9 hj9 (by rw [← hv33]; exact c_8) hg9
            refine lv_aload_n hx hb dX12_joinsOne_53 rfl (lv_at hl 2 rfl) ?_
            refine va_get (D := D) (ci := 12) (v := .ref (a 18)) (C := RX12) (T := TX12) (N := 91) hx hb hT iX12 hown hK hP 0 rfl rfl 19 (by decide) (hT _ t_33) (fun _ h9 => h9) rfl dX12_joinsOne_54 ?_
            refine lv_bipush (v := 20) hx hb dX12_joinsOne_57 (by decide) ?_
            refine lv_iload_n hx hb dX12_joinsOne_59 rfl (lv_at hl 3 rfl) ?_
            refine lv_imul hx hb dX12_joinsOne_60 ?_
            refine lv_topi (fun v_13 ev_13 => ?_)
            have hv_13 : v_13.toInt = 20 * p0.toInt := by rw [ev_13]; have := b_rg p0; exact i_mul (a := 20) (b := p0.toInt) rfl rfl (by omega) (by omega)
            refine lv_iload hx hb dX12_joinsOne_61 (lv_at hl 0 rfl) ?_
            refine lv_iadd hx hb dX12_joinsOne_63 ?_
            refine lv_topi (fun v_14 ev_14 => ?_)
            have hv_14 : v_14.toInt = v_13.toInt + x4_7.toInt := by rw [ev_14]; have := b_rg v_13; have := b_rg x4_7; exact i_add (a := v_13.toInt) (b := x4_7.toInt) rfl rfl (by omega) (by omega)
            refine va_iald hx hb hK hP 18 0 rfl rfl (vp_inI (by omega) (by omega)) dX12_joinsOne_64 ?_
            refine lv_topi (fun v_15 ev_15 => ?_)
            have hgv_15 : 0 ≤ v_15.toInt ∧ v_15.toInt ≤ 9 := by rw [ev_15]; exact hRr 18 _
            have ht64 : v_15 = gjH (r 18) p0.toNatClampNeg (x4_7.toNatClampNeg) := by rw [ev_15, hEr 18 (by decide)]; exact congrArg (r 18) (by show v_14.toInt.toNat = 20 * p0.toInt.toNat + x4_7.toInt.toNat; omega)
            have hN64 : gjN (gjH (r 18) p0.toNatClampNeg) (x4_7.toNatClampNeg) = v_15.toNatClampNeg := by unfold gjN; rw [← ht64]
            have hS64 := hs2 _ hj9
            rw [← ht64] at hS64
            refine lv_istore (lv' := [(8, .int v_15), (7, .int x4_7), (6, .int v_3), (0, .ref (a 0)), (1, .int p0), (2, .int p1), (3, .int p2), (4, .int p3), (5, .int p4)]) hx hb dX12_joinsOne_65 hl (by decide) rfl (fun ls hl => ?_)
            refine lv_aload_n hx hb dX12_joinsOne_67 rfl (lv_at hl 3 rfl) ?_
            refine va_get (D := D) (ci := 12) (v := .ref (a 36)) (C := RX12) (T := TX12) (N := 91) hx hb hT iX12 hown hK hP 0 rfl rfl 47 (by decide) (hT _ t_42) (fun _ h9 => h9) rfl dX12_joinsOne_68 ?_
            refine lv_iload hx hb dX12_joinsOne_71 (lv_at hl 0 rfl) ?_
            refine lv_aload_n hx hb dX12_joinsOne_73 rfl (lv_at hl 3 rfl) ?_
            refine va_get (D := D) (ci := 12) (v := .ref (a 36)) (C := RX12) (T := TX12) (N := 91) hx hb hT iX12 hown hK hP 0 rfl rfl 47 (by decide) (hT _ t_42) (fun _ h9 => h9) rfl dX12_joinsOne_74 ?_
            refine lv_iload hx hb dX12_joinsOne_77 (lv_at hl 0 rfl) ?_
            refine va_iald hx hb hK hP 36 0 rfl rfl (vp_inI (by omega) (by omega)) dX12_joinsOne_79 ?_
            refine lv_topi (fun v_16 ev_16 => ?_)
            refine lv_iconst (v := 1) hx hb dX12_joinsOne_80 (by decide) ?_
            refine lv_isub hx hb dX12_joinsOne_81 ?_
            refine lv_topi (fun v_17 ev_17 => ?_)
            have hl79 : v_16 = r 36 (v_15.toNatClampNeg) := by rw [ev_16, hx4.1.2.1]
            have hb79 := (hV9.2.2.2 (v_15.toNatClampNeg) (by show 1 ≤ v_15.toInt.toNat; omega) (by show v_15.toInt.toNat ≤ 9; omega)).2
            rw [← hl79] at hb79
            have hx81 : v_17.toInt = (r 36 (gjN (gjH (r 18) p0.toNatClampNeg) (x4_7.toNatClampNeg))).toInt - 1 := by rw [hN64, ← hl79, ev_17]; exact i_sub (a := v_16.toInt) (b := 1) rfl rfl (by omega) (by omega)
            have hT9 := gj1_test hV9 hin hr9 hk9 hs1 hs2 hj9 hQ9 hx81
            rw [hN64] at hT9
            refine va_iast hx hb hK hP hD hS 36 0 rfl rfl (vp_inI (by omega) (by omega)) dX12_joinsOne_82 (fun H locs hP hD hS => ?_)
            rw [mS36] at hP hD
            have hRr : mRr (va_up r4 36 (upd (r4 36) v_15.toNatClampNeg v_17)) := Rr_upd hRr 36 (v_15.toNatClampNeg) v_17 (b_rg _)
            have hEr : mEr [34, 36, 37, 38, 39] _ (va_up r4 36 (upd (r4 36) v_15.toNatClampNeg v_17)) := Er_up hEr 36 _ (by decide)
            refine lv_aload_n hx hb dX12_joinsOne_83 rfl (lv_at hl 3 rfl) ?_
            have hE35 : (va_up r4 36 (upd (r4 36) v_15.toNatClampNeg v_17)) 35 = r 35 := hEr 35 (by decide)
            have hE36 : (va_up r4 36 (upd (r4 36) v_15.toNatClampNeg v_17)) 36 = upd (r 36) (v_15.toNatClampNeg) v_17 := by show upd (r4 36) (v_15.toNatClampNeg) v_17 = _; rw [hx4.1.2.1]
            have hJ34 : (va_up r4 36 (upd (r4 36) v_15.toNatClampNeg v_17)) 34 = r 34 := hx4.1.1
            have hJ39 : (va_up r4 36 (upd (r4 36) v_15.toNatClampNeg v_17)) 39 = r 39 := hx4.1.2.2
            have hF_18 := rF hD hS hA
            refine va_calli (va_runV (As := []) (rest := []) ⟨hx, hb, hml, hown, hT⟩ (c_X12_keptMost9 l D cy a i (va_up r4 36 (upd (r4 36) v_15.toNatClampNeg v_17)) rl _ hRi hRr (by rw [hE35, hE36]; exact hT9.1)) (cwV 0 hT (gV t_49 t_50 t_51 t_52 t_6) rfl rfl rfl (by decide +kernel) ⟨Nat.le_of_ble_eq_true rfl, Nat.le_of_ble_eq_true rfl⟩) (rQ_v hP hK hD (va_recv hK hP (ci := 12) (q0 := 0) rfl rfl)) rfl rfl hl.1 rfl (lv_room (Nat.le_of_ble_eq_true rfl)) dX12_joinsOne_84 ⟨Nat.le_of_ble_eq_true rfl, Nat.le_of_ble_eq_true rfl⟩) hS (fun q _ h => hF_18 q h) hF_18 (fun r_19 u_20 t H1 locs ht hvm hr_19 hB hz1 hk1 hS => ?_)
            obtain ⟨r20, rfl⟩ : ∃ z, z = u_20 := ⟨_, rfl⟩
            obtain ⟨hP, hK1, hD1⟩ := hB
            rw [ht] at hP
            have hD := hD1.weaken (fun k q _ h => hF_18 q.1 h)
            have hP : va_P D vwCl (mW cy a i r20 rl) H1 := hP
            have hD : va_D A (mW cy a i r20 rl) := hD
            obtain ⟨hRr, hE2, hr_19⟩ := hr_19
            have hRr : mRr r20 := hRr
            have hEr : mEr [34, 36, 37, 38, 39] _ r20 := Er_tr hEr hE2 (by decide)
            have hz9 : r_19.toInt = gjKR (r 35) (upd (r 36) (v_15.toNatClampNeg) v_17) := by have h9 : r_19.toInt = gjKR ((va_up r4 36 (upd (r4 36) v_15.toNatClampNeg v_17)) 35) ((va_up r4 36 (upd (r4 36) v_15.toNatClampNeg v_17)) 36) := hr_19; rw [hE35, hE36] at h9; exact h9
            have hK34 : r20 34 = r 34 := (hE2 34 (by decide)).trans hJ34
            have hK36 : r20 36 = upd (r 36) (v_15.toNatClampNeg) v_17 := (hE2 36 (by decide)).trans hE36
            have hK39 : r20 39 = r 39 := (hE2 39 (by decide)).trans hJ39
            refine lv_istore (lv' := [(9, .int r_19), (8, .int v_15), (7, .int x4_7), (6, .int v_3), (0, .ref (a 0)), (1, .int p0), (2, .int p1), (3, .int p2), (4, .int p3), (5, .int p4)]) hx hb dX12_joinsOne_87 hl (by decide) rfl (fun ls hl => ?_)
            refine lv_iload hx hb dX12_joinsOne_89 (lv_at hl 0 rfl) ?_
            refine lv_iload hx hb dX12_joinsOne_91 (lv_at hl 3 rfl) ?_
            refine lv_iload hx hb dX12_joinsOne_93 (lv_at hl 1 rfl) ?_
            refine lv_icmp_ge (tgt := 103) hx hb dX12_joinsOne_95 (by decide) (fun c_21 => ?_) (fun c_21 => ?_)
            · have c_21 : v_15.toInt ≤ v_3.toInt := b_le c_21
              refine lv_iload hx hb dX12_joinsOne_103 (lv_at hl 1 rfl) ?_
              refine lv_iadd hx hb dX12_joinsOne_105 ?_
              refine lv_topi (fun v_22 ev_22 => ?_)
              have hmn : gjm (gjH (r 14) p0.toNatClampNeg p1.toNatClampNeg).toInt (gjH (r 18) p0.toNatClampNeg (x4_7.toNatClampNeg)).toInt = v_15.toInt := by rw [← hs10, ← ht64]; exact gjm_ge (by omega)
              have hbd := gjKR_le hT9.1
              have hb0 : 0 ≤ r_19.toInt := by rw [hz9]; exact gjKR_0 hT9.1
              have hsm : v_22.toInt = r_19.toInt + v_15.toInt := by rw [ev_22]; exact i_add (a := r_19.toInt) (b := v_15.toInt) rfl rfl (by omega) (by omega)
              have hiff : v_22.toInt = p4.toInt ↔ gjCd (gjH (r 12) p0.toNatClampNeg) (gjH (r 13) p0.toNatClampNeg) (gjH (r 14) p0.toNatClampNeg) (r 10 p0.toNatClampNeg).toNatClampNeg (gjH (r 16) p0.toNatClampNeg) (gjH (r 17) p0.toNatClampNeg) (gjH (r 18) p0.toNatClampNeg) (r 11 p0.toNatClampNeg).toNatClampNeg (r 34) p1.toNatClampNeg x4_7.toNatClampNeg := by rw [hsm, hm9, hz9, ← hmn]; exact hT9.2.1
              refine lv_iload hx hb dX12_joinsOne_106 (lv_at hl 9 rfl) ?_
              refine lv_icmp_ne (tgt := 130) hx hb dX12_joinsOne_108 (by decide) (fun c_23 => ?_) (fun c_23 => ?_)
              · have c_23 : v_22.toInt ≠ p4.toInt := b_ne c_23
                have hno : ¬ gjCd (gjH (r 12) p0.toNatClampNeg) (gjH (r 13) p0.toNatClampNeg) (gjH (r 14) p0.toNatClampNeg) (r 10 p0.toNatClampNeg).toNatClampNeg (gjH (r 16) p0.toNatClampNeg) (gjH (r 17) p0.toNatClampNeg) (gjH (r 18) p0.toNatClampNeg) (r 11 p0.toNatClampNeg).toNatClampNeg (r 34) p1.toNatClampNeg x4_7.toNatClampNeg := fun h9 => c_23 (hiff.mpr h9)
                clear hiff
                refine lv_aload_n hx hb dX12_joinsOne_130 rfl (lv_at hl 4 rfl) ?_
                refine va_get (D := D) (ci := 12) (v := .ref (a 36)) (C := RX12) (T := TX12) (N := 91) hx hb hT iX12 hown hK hP 0 rfl rfl 47 (by decide) (hT _ t_42) (fun _ h9 => h9) rfl dX12_joinsOne_131 ?_
                refine lv_iload hx hb dX12_joinsOne_134 (lv_at hl 1 rfl) ?_
                refine lv_aload_n hx hb dX12_joinsOne_136 rfl (lv_at hl 4 rfl) ?_
                refine va_get (D := D) (ci := 12) (v := .ref (a 36)) (C := RX12) (T := TX12) (N := 91) hx hb hT iX12 hown hK hP 0 rfl rfl 47 (by decide) (hT _ t_42) (fun _ h9 => h9) rfl dX12_joinsOne_137 ?_
                refine lv_iload hx hb dX12_joinsOne_140 (lv_at hl 1 rfl) ?_
                refine va_iald hx hb hK hP 36 0 rfl rfl (vp_inI (by omega) (by omega)) dX12_joinsOne_142 ?_
                refine lv_topi (fun v_24 ev_24 => ?_)
                refine lv_iconst (v := 1) hx hb dX12_joinsOne_143 (by decide) ?_
                refine lv_iadd hx hb dX12_joinsOne_144 ?_
                refine lv_topi (fun v_25 ev_25 => ?_)
                refine va_iast hx hb hK hP hD hS 36 0 rfl rfl (vp_inI (by omega) (by omega)) dX12_joinsOne_145 (fun H locs hP hD hS => ?_)
                rw [mS36] at hP hD
                have hRr : mRr (va_up r20 36 (upd (r20 36) v_15.toNatClampNeg v_25)) := Rr_upd hRr 36 (v_15.toNatClampNeg) v_25 (b_rg _)
                have hEr : mEr [34, 36, 37, 38, 39] _ (va_up r20 36 (upd (r20 36) v_15.toNatClampNeg v_25)) := Er_up hEr 36 _ (by decide)
                obtain ⟨x_26, ex_26⟩ : ∃ y : Int32, y = x4_7 + 1 := ⟨_, rfl⟩
                refine lv_iinc (v := x_26) (lv' := [(7, .int x_26), (9, .int r_19), (8, .int v_15), (6, .int v_3), (0, .ref (a 0)), (1, .int p0), (2, .int p1), (3, .int p2), (4, .int p3), (5, .int p4)]) hx hb dX12_joinsOne_146 hl (k := 2) rfl (by rw [ex_26]; rfl) (by decide) rfl (fun ls hl => ?_)
                have hx_26 : x_26.toInt = x4_7.toInt + 1 := by rw [ex_26]; have := b_rg x4_7; exact i_add (a := x4_7.toInt) (b := 1) rfl rfl (by omega) (by omega)
                refine lv_goto (tgt := 16) hx hb dX12_joinsOne_149 (by decide) ?_
                have hk : x_26.toNatClampNeg = x4_7.toNatClampNeg + 1 := by show x_26.toInt.toNat = x4_7.toInt.toNat + 1; omega
                have hbk : upd (r20 36) (v_15.toNatClampNeg) v_25 = r 36 := by rw [hK36]; exact upd_back (by rw [ev_25, ev_24, hK36, upd_s, ev_17, Int32.sub_add_cancel]; exact hl79)
                exact ih4 x_26 (va_up r20 36 (upd (r20 36) v_15.toNatClampNeg v_25)) _ _ _ (by first | omega | (simp only [Int.toNat]; omega)) (by first | omega | decide) hRr hEr ⟨⟨hK34, hbk, hK39⟩, (fun k hk2 => (Nat.lt_succ_iff_lt_or_eq.mp (by rw [hk] at hk2; exact hk2)).elim (fun h8 => hx4.2.1 k h8) (fun h8 => by rw [h8]; exact hno)), by omega⟩ hP hD hS (lv_sub hl [0, 3, 4, 5, 6, 7, 8, 9] rfl)
              · have c_23 : v_22.toInt = p4.toInt := b_nne c_23
                have hyes := hiff.mp c_23
                clear hiff
                refine lv_aload_n hx hb dX12_joinsOne_111 rfl (lv_at hl 4 rfl) ?_
                refine va_get (D := D) (ci := 12) (v := .ref (a 34)) (C := RX12) (T := TX12) (N := 91) hx hb hT iX12 hown hK hP 0 rfl rfl 45 (by decide) (hT _ t_32) (fun _ h9 => h9) rfl dX12_joinsOne_112 ?_
                refine lv_iload_n hx hb dX12_joinsOne_115 rfl (lv_at hl 6 rfl) ?_
                refine lv_iload hx hb dX12_joinsOne_116 (lv_at hl 2 rfl) ?_
                refine va_iast hx hb hK hP hD hS 34 0 rfl rfl (vp_inI (by omega) (by omega)) dX12_joinsOne_118 (fun H locs hP hD hS => ?_)
                rw [mS34] at hP hD
                have hRr : mRr (va_up r20 34 (upd (r20 34) p1.toNatClampNeg x4_7)) := Rr_upd hRr 34 (p1.toNatClampNeg) x4_7 ⟨by show (-1 : Int) ≤ x4_7.toInt; omega, by show x4_7.toInt ≤ (99 : Int); omega⟩
                have hEr : mEr [34, 36, 37, 38, 39] _ (va_up r20 34 (upd (r20 34) p1.toNatClampNeg x4_7)) := Er_up hEr 34 _ (by decide)
                refine lv_aload_n hx hb dX12_joinsOne_119 rfl (lv_at hl 4 rfl) ?_
                refine va_get (D := D) (ci := 12) (v := .ref (a 39)) (C := RX12) (T := TX12) (N := 91) hx hb hT iX12 hown hK hP 0 rfl rfl 50 (by decide) (hT _ t_44) (fun _ h9 => h9) rfl dX12_joinsOne_120 ?_
                refine lv_iload hx hb dX12_joinsOne_123 (lv_at hl 2 rfl) ?_
                refine lv_iconst (v := 1) hx hb dX12_joinsOne_125 (by decide) ?_
                refine va_zast hx hb hK hP hD hS 39 2 rfl rfl (vp_inI (by omega) (by omega)) dX12_joinsOne_126 (fun H locs hP hD hS => ?_)
                rw [mS39] at hP hD
                have hRr : mRr (va_up (va_up r20 34 (upd (r20 34) p1.toNatClampNeg x4_7)) 39 (upd (r20 39) x4_7.toNatClampNeg (vp_nar .boolean 1))) := Rr_upd hRr 39 (x4_7.toNatClampNeg) (vp_nar .boolean 1) (b_rg _)
                have hEr : mEr [34, 36, 37, 38, 39] _ (va_up (va_up r20 34 (upd (r20 34) p1.toNatClampNeg x4_7)) 39 (upd (r20 39) x4_7.toNatClampNeg (vp_nar .boolean 1))) := Er_up hEr 39 _ (by decide)
                refine lv_iload hx hb dX12_joinsOne_127 (lv_at hl 0 rfl) ?_
                subst hQ
                have hjn : x4_7.toInt = ((x4_7.toNatClampNeg : Nat) : Int) := by show x4_7.toInt = ((x4_7.toInt.toNat : Nat) : Int); omega
                have hJ2 : (va_up (va_up r20 34 (upd (r20 34) p1.toNatClampNeg x4_7)) 39 (upd (r20 39) x4_7.toNatClampNeg (vp_nar .boolean 1))) 34 = upd (r 34) p1.toNatClampNeg x4_7 := by show upd (r20 34) p1.toNatClampNeg x4_7 = _; rw [hK34]
                have hf9 := gj1_y (J2 := (va_up (va_up r20 34 (upd (r20 34) p1.toNatClampNeg x4_7)) 39 (upd (r20 39) x4_7.toNatClampNeg (vp_nar .boolean 1))) 34) (o := (vp_nar .boolean 1)) hV9 hin hr9 hk9 hs1 hs2 hj9 hQ9 hx81 hjn (by decide) hJ2
                rw [hN64] at hf9
                have e36 : (va_up (va_up r20 34 (upd (r20 34) p1.toNatClampNeg x4_7)) 39 (upd (r20 39) x4_7.toNatClampNeg (vp_nar .boolean 1))) 36 = upd (r 36) (v_15.toNatClampNeg) v_17 := hK36
                have e39 : (va_up (va_up r20 34 (upd (r20 34) p1.toNatClampNeg x4_7)) 39 (upd (r20 39) x4_7.toNatClampNeg (vp_nar .boolean 1))) 39 = upd (r 39) (x4_7.toNatClampNeg) (vp_nar .boolean 1) := by show upd (r20 39) (x4_7.toNatClampNeg) (vp_nar .boolean 1) = _; rw [hK39]
                exact W.iret (v := r_19) hx hb hr (fun t ht hW => ⟨⟨_, (va_up (va_up r20 34 (upd (r20 34) p1.toNatClampNeg x4_7)) 39 (upd (r20 39) x4_7.toNatClampNeg (vp_nar .boolean 1))), rfl, ⟨hRr, hEr, ⟨x4_7, hJ2, Or.inl ⟨_, hj9, hjn, hyes, hx4.2.1⟩, by rw [e36, e39]; exact hf9.1, hz9.trans hf9.2, fun k hk2 => by rw [e39]; exact gjtk hjn⟩⟩, by rw [ht]; exact hP, va_K.moved hW.alike hK, hD⟩, hS.F ht⟩) hS.2.2 dX12_joinsOne_129
            · have c_21 : v_3.toInt < v_15.toInt := b_nle c_21
              refine lv_iload hx hb dX12_joinsOne_98 (lv_at hl 3 rfl) ?_
              refine lv_goto (tgt := 105) hx hb dX12_joinsOne_100 (by decide) ?_
              refine lv_iadd hx hb dX12_joinsOne_105 ?_
              refine lv_topi (fun v_27 ev_27 => ?_)
              have hmn : gjm (gjH (r 14) p0.toNatClampNeg p1.toNatClampNeg).toInt (gjH (r 18) p0.toNatClampNeg (x4_7.toNatClampNeg)).toInt = v_3.toInt := by rw [← hs10, ← ht64]; exact gjm_lt (by omega)
              have hbd := gjKR_le hT9.1
              have hb0 : 0 ≤ r_19.toInt := by rw [hz9]; exact gjKR_0 hT9.1
              have hsm : v_27.toInt = r_19.toInt + v_3.toInt := by rw [ev_27]; exact i_add (a := r_19.toInt) (b := v_3.toInt) rfl rfl (by omega) (by omega)
              have hiff : v_27.toInt = p4.toInt ↔ gjCd (gjH (r 12) p0.toNatClampNeg) (gjH (r 13) p0.toNatClampNeg) (gjH (r 14) p0.toNatClampNeg) (r 10 p0.toNatClampNeg).toNatClampNeg (gjH (r 16) p0.toNatClampNeg) (gjH (r 17) p0.toNatClampNeg) (gjH (r 18) p0.toNatClampNeg) (r 11 p0.toNatClampNeg).toNatClampNeg (r 34) p1.toNatClampNeg x4_7.toNatClampNeg := by rw [hsm, hm9, hz9, ← hmn]; exact hT9.2.1
              refine lv_iload hx hb dX12_joinsOne_106 (lv_at hl 9 rfl) ?_
              refine lv_icmp_ne (tgt := 130) hx hb dX12_joinsOne_108 (by decide) (fun c_28 => ?_) (fun c_28 => ?_)
              · have c_28 : v_27.toInt ≠ p4.toInt := b_ne c_28
                have hno : ¬ gjCd (gjH (r 12) p0.toNatClampNeg) (gjH (r 13) p0.toNatClampNeg) (gjH (r 14) p0.toNatClampNeg) (r 10 p0.toNatClampNeg).toNatClampNeg (gjH (r 16) p0.toNatClampNeg) (gjH (r 17) p0.toNatClampNeg) (gjH (r 18) p0.toNatClampNeg) (r 11 p0.toNatClampNeg).toNatClampNeg (r 34) p1.toNatClampNeg x4_7.toNatClampNeg := fun h9 => c_28 (hiff.mpr h9)
                clear hiff
                refine lv_aload_n hx hb dX12_joinsOne_130 rfl (lv_at hl 4 rfl) ?_
                refine va_get (D := D) (ci := 12) (v := .ref (a 36)) (C := RX12) (T := TX12) (N := 91) hx hb hT iX12 hown hK hP 0 rfl rfl 47 (by decide) (hT _ t_42) (fun _ h9 => h9) rfl dX12_joinsOne_131 ?_
                refine lv_iload hx hb dX12_joinsOne_134 (lv_at hl 1 rfl) ?_
                refine lv_aload_n hx hb dX12_joinsOne_136 rfl (lv_at hl 4 rfl) ?_
                refine va_get (D := D) (ci := 12) (v := .ref (a 36)) (C := RX12) (T := TX12) (N := 91) hx hb hT iX12 hown hK hP 0 rfl rfl 47 (by decide) (hT _ t_42) (fun _ h9 => h9) rfl dX12_joinsOne_137 ?_
                refine lv_iload hx hb dX12_joinsOne_140 (lv_at hl 1 rfl) ?_
                refine va_iald hx hb hK hP 36 0 rfl rfl (vp_inI (by omega) (by omega)) dX12_joinsOne_142 ?_
                refine lv_topi (fun v_29 ev_29 => ?_)
                refine lv_iconst (v := 1) hx hb dX12_joinsOne_143 (by decide) ?_
                refine lv_iadd hx hb dX12_joinsOne_144 ?_
                refine lv_topi (fun v_30 ev_30 => ?_)
                refine va_iast hx hb hK hP hD hS 36 0 rfl rfl (vp_inI (by omega) (by omega)) dX12_joinsOne_145 (fun H locs hP hD hS => ?_)
                rw [mS36] at hP hD
                have hRr : mRr (va_up r20 36 (upd (r20 36) v_15.toNatClampNeg v_30)) := Rr_upd hRr 36 (v_15.toNatClampNeg) v_30 (b_rg _)
                have hEr : mEr [34, 36, 37, 38, 39] _ (va_up r20 36 (upd (r20 36) v_15.toNatClampNeg v_30)) := Er_up hEr 36 _ (by decide)
                obtain ⟨x_31, ex_31⟩ : ∃ y : Int32, y = x4_7 + 1 := ⟨_, rfl⟩
                refine lv_iinc (v := x_31) (lv' := [(7, .int x_31), (9, .int r_19), (8, .int v_15), (6, .int v_3), (0, .ref (a 0)), (1, .int p0), (2, .int p1), (3, .int p2), (4, .int p3), (5, .int p4)]) hx hb dX12_joinsOne_146 hl (k := 2) rfl (by rw [ex_31]; rfl) (by decide) rfl (fun ls hl => ?_)
                have hx_31 : x_31.toInt = x4_7.toInt + 1 := by rw [ex_31]; have := b_rg x4_7; exact i_add (a := x4_7.toInt) (b := 1) rfl rfl (by omega) (by omega)
                refine lv_goto (tgt := 16) hx hb dX12_joinsOne_149 (by decide) ?_
                have hk : x_31.toNatClampNeg = x4_7.toNatClampNeg + 1 := by show x_31.toInt.toNat = x4_7.toInt.toNat + 1; omega
                have hbk : upd (r20 36) (v_15.toNatClampNeg) v_30 = r 36 := by rw [hK36]; exact upd_back (by rw [ev_30, ev_29, hK36, upd_s, ev_17, Int32.sub_add_cancel]; exact hl79)
                exact ih4 x_31 (va_up r20 36 (upd (r20 36) v_15.toNatClampNeg v_30)) _ _ _ (by first | omega | (simp only [Int.toNat]; omega)) (by first | omega | decide) hRr hEr ⟨⟨hK34, hbk, hK39⟩, (fun k hk2 => (Nat.lt_succ_iff_lt_or_eq.mp (by rw [hk] at hk2; exact hk2)).elim (fun h8 => hx4.2.1 k h8) (fun h8 => by rw [h8]; exact hno)), by omega⟩ hP hD hS (lv_sub hl [0, 3, 4, 5, 6, 7, 8, 9] rfl)
              · have c_28 : v_27.toInt = p4.toInt := b_nne c_28
                have hyes := hiff.mp c_28
                clear hiff
                refine lv_aload_n hx hb dX12_joinsOne_111 rfl (lv_at hl 4 rfl) ?_
                refine va_get (D := D) (ci := 12) (v := .ref (a 34)) (C := RX12) (T := TX12) (N := 91) hx hb hT iX12 hown hK hP 0 rfl rfl 45 (by decide) (hT _ t_32) (fun _ h9 => h9) rfl dX12_joinsOne_112 ?_
                refine lv_iload_n hx hb dX12_joinsOne_115 rfl (lv_at hl 6 rfl) ?_
                refine lv_iload hx hb dX12_joinsOne_116 (lv_at hl 2 rfl) ?_
                refine va_iast hx hb hK hP hD hS 34 0 rfl rfl (vp_inI (by omega) (by omega)) dX12_joinsOne_118 (fun H locs hP hD hS => ?_)
                rw [mS34] at hP hD
                have hRr : mRr (va_up r20 34 (upd (r20 34) p1.toNatClampNeg x4_7)) := Rr_upd hRr 34 (p1.toNatClampNeg) x4_7 ⟨by show (-1 : Int) ≤ x4_7.toInt; omega, by show x4_7.toInt ≤ (99 : Int); omega⟩
                have hEr : mEr [34, 36, 37, 38, 39] _ (va_up r20 34 (upd (r20 34) p1.toNatClampNeg x4_7)) := Er_up hEr 34 _ (by decide)
                refine lv_aload_n hx hb dX12_joinsOne_119 rfl (lv_at hl 4 rfl) ?_
                refine va_get (D := D) (ci := 12) (v := .ref (a 39)) (C := RX12) (T := TX12) (N := 91) hx hb hT iX12 hown hK hP 0 rfl rfl 50 (by decide) (hT _ t_44) (fun _ h9 => h9) rfl dX12_joinsOne_120 ?_
                refine lv_iload hx hb dX12_joinsOne_123 (lv_at hl 2 rfl) ?_
                refine lv_iconst (v := 1) hx hb dX12_joinsOne_125 (by decide) ?_
                refine va_zast hx hb hK hP hD hS 39 2 rfl rfl (vp_inI (by omega) (by omega)) dX12_joinsOne_126 (fun H locs hP hD hS => ?_)
                rw [mS39] at hP hD
                have hRr : mRr (va_up (va_up r20 34 (upd (r20 34) p1.toNatClampNeg x4_7)) 39 (upd (r20 39) x4_7.toNatClampNeg (vp_nar .boolean 1))) := Rr_upd hRr 39 (x4_7.toNatClampNeg) (vp_nar .boolean 1) (b_rg _)
                have hEr : mEr [34, 36, 37, 38, 39] _ (va_up (va_up r20 34 (upd (r20 34) p1.toNatClampNeg x4_7)) 39 (upd (r20 39) x4_7.toNatClampNeg (vp_nar .boolean 1))) := Er_up hEr 39 _ (by decide)
                refine lv_iload hx hb dX12_joinsOne_127 (lv_at hl 0 rfl) ?_
                subst hQ
                have hjn : x4_7.toInt = ((x4_7.toNatClampNeg : Nat) : Int) := by show x4_7.toInt = ((x4_7.toInt.toNat : Nat) : Int); omega
                have hJ2 : (va_up (va_up r20 34 (upd (r20 34) p1.toNatClampNeg x4_7)) 39 (upd (r20 39) x4_7.toNatClampNeg (vp_nar .boolean 1))) 34 = upd (r 34) p1.toNatClampNeg x4_7 := by show upd (r20 34) p1.toNatClampNeg x4_7 = _; rw [hK34]
                have hf9 := gj1_y (J2 := (va_up (va_up r20 34 (upd (r20 34) p1.toNatClampNeg x4_7)) 39 (upd (r20 39) x4_7.toNatClampNeg (vp_nar .boolean 1))) 34) (o := (vp_nar .boolean 1)) hV9 hin hr9 hk9 hs1 hs2 hj9 hQ9 hx81 hjn (by decide) hJ2
                rw [hN64] at hf9
                have e36 : (va_up (va_up r20 34 (upd (r20 34) p1.toNatClampNeg x4_7)) 39 (upd (r20 39) x4_7.toNatClampNeg (vp_nar .boolean 1))) 36 = upd (r 36) (v_15.toNatClampNeg) v_17 := hK36
                have e39 : (va_up (va_up r20 34 (upd (r20 34) p1.toNatClampNeg x4_7)) 39 (upd (r20 39) x4_7.toNatClampNeg (vp_nar .boolean 1))) 39 = upd (r 39) (x4_7.toNatClampNeg) (vp_nar .boolean 1) := by show upd (r20 39) (x4_7.toNatClampNeg) (vp_nar .boolean 1) = _; rw [hK39]
                exact W.iret (v := r_19) hx hb hr (fun t ht hW => ⟨⟨_, (va_up (va_up r20 34 (upd (r20 34) p1.toNatClampNeg x4_7)) 39 (upd (r20 39) x4_7.toNatClampNeg (vp_nar .boolean 1))), rfl, ⟨hRr, hEr, ⟨x4_7, hJ2, Or.inl ⟨_, hj9, hjn, hyes, hx4.2.1⟩, by rw [e36, e39]; exact hf9.1, hz9.trans hf9.2, fun k hk2 => by rw [e39]; exact gjtk hjn⟩⟩, by rw [ht]; exact hP, va_K.moved hW.alike hK, hD⟩, hS.F ht⟩) hS.2.2 dX12_joinsOne_129
          · skip
            refine lv_if_ne (tgt := 53) hx hb dX12_joinsOne_47 (by decide) (fun c_32 => absurd (by decide) c_32) (fun c_32 => ?_)
            have hix : (20 * p0.toInt + x4_7.toInt).toNat = 20 * p0.toNatClampNeg + x4_7.toNatClampNeg := by show _ = 20 * p0.toInt.toNat + x4_7.toInt.toNat; omega
            have hg9 : ¬ (gjH (r 16) p0.toNatClampNeg (x4_7.toNatClampNeg) = p2 ∧ gjH (r 17) p0.toNatClampNeg (x4_7.toNatClampNeg) = p3) := by have h9 := h_11; rw [hix, hEr 16 (by decide), hEr 17 (by decide)] at h9; exact h9
            have hno : ¬ gjCd (gjH (r 12) p0.toNatClampNeg) (gjH (r 13) p0.toNatClampNeg) (gjH (r 14) p0.toNatClampNeg) (r 10 p0.toNatClampNeg).toNatClampNeg (gjH (r 16) p0.toNatClampNeg) (gjH (r 17) p0.toNatClampNeg) (gjH (r 18) p0.toNatClampNeg) (r 11 p0.toNatClampNeg).toNatClampNeg (r 34) p1.toNatClampNeg x4_7.toNatClampNeg := gj1_g hr9 hk9 hg9
            refine lv_goto (tgt := 146) hx hb dX12_joinsOne_50 (by decide) ?_
            obtain ⟨x_33, ex_33⟩ : ∃ y : Int32, y = x4_7 + 1 := ⟨_, rfl⟩
            refine lv_iinc (v := x_33) (lv' := [(7, .int x_33), (6, .int v_3), (0, .ref (a 0)), (1, .int p0), (2, .int p1), (3, .int p2), (4, .int p3), (5, .int p4)]) hx hb dX12_joinsOne_146 hl (k := 0) rfl (by rw [ex_33]; rfl) (by decide) rfl (fun ls hl => ?_)
            have hx_33 : x_33.toInt = x4_7.toInt + 1 := by rw [ex_33]; have := b_rg x4_7; exact i_add (a := x4_7.toInt) (b := 1) rfl rfl (by omega) (by omega)
            refine lv_goto (tgt := 16) hx hb dX12_joinsOne_149 (by decide) ?_
            have hk : x_33.toNatClampNeg = x4_7.toNatClampNeg + 1 := by show x_33.toInt.toNat = x4_7.toInt.toNat + 1; omega
            exact ih4 x_33 r4 _ _ _ (by first | omega | (simp only [Int.toNat]; omega)) (by first | omega | decide) hRr hEr ⟨hx4.1, (fun k hk2 => (Nat.lt_succ_iff_lt_or_eq.mp (by rw [hk] at hk2; exact hk2)).elim (fun h8 => hx4.2.1 k h8) (fun h8 => by rw [h8]; exact hno)), by omega⟩ hP hD hS (lv_sub hl [0, 1, 2, 3, 4, 5, 6, 7] rfl)
  exact loop_4 _ 0 r _ _ _ (Nat.lt_succ_self _) (by first | omega | decide) hRr hEr ⟨⟨rfl, rfl, rfl⟩, fun k hk => absurd (show k < 0 from hk) (Nat.not_lt_zero k), by have h9 : (0 : Int32).toInt = 0 := rfl; omega⟩ hP hD hS hl
set_option maxHeartbeats 4000000 in
set_option maxRecDepth 100000 in
theorem c_X12_joinsAll9 (l : Launch) (D : va_G) (cy : Nat → ClassId) (a : Nat → Nat) (i : Nat → Int32) (r : Nat → Nat → Int32) (rl : Nat → Int64) (p0 p1 : Int32) (sz : Nat) (hRi : mRi i) (hRr : mRr r) (q0 : 0 ≤ p0.toInt ∧ p0.toInt ≤ 5) (q1 : 0 ≤ p1.toInt ∧ p1.toInt ≤ 19) (hi9 : p1.toInt < (r 10 p0.toNatClampNeg).toInt) (hs1 : gjSt (gjH (r 14) p0.toNatClampNeg) (r 10 p0.toNatClampNeg).toNatClampNeg) (hs2 : gjSt (gjH (r 18) p0.toNatClampNeg) (r 11 p0.toNatClampNeg).toNatClampNeg) (hf9 : ∀ k, k < p1.toNatClampNeg → ¬ (gjH (r 12) p0.toNatClampNeg k = (gjH (r 12) p0.toNatClampNeg p1.toNatClampNeg) ∧ gjH (r 13) p0.toNatClampNeg k = (gjH (r 13) p0.toNatClampNeg p1.toNatClampNeg))) (ht9 : ∀ j, j < (r 11 p0.toNatClampNeg).toNatClampNeg → gjg (gjH (r 16) p0.toNatClampNeg) (gjH (r 17) p0.toNatClampNeg) (gjH (r 12) p0.toNatClampNeg p1.toNatClampNeg) (gjH (r 13) p0.toNatClampNeg p1.toNatClampNeg) j = true → (r 39 j).toInt = 0) : Met l yX12_joinsAll (Cond.code yX12_joinsAll cX12_joinsAll 8 none :: gT) { frames := 3, cells := 0, slots := 0, locals := 77 } (va_Pc [.ref (a 0), .int p0, .int p1] (rQ D cy (mW cy a i r rl) sz)) (va_Qv (fun u : Nat → Nat → Int32 => mRr u ∧ mEr [34, 35, 36, 37, 38, 39] r u ∧ (gjA 99 (gjH (r 12) p0.toNatClampNeg) (gjH (r 13) p0.toNatClampNeg) (gjH (r 14) p0.toNatClampNeg) (r 10 p0.toNatClampNeg).toNatClampNeg (gjH (r 16) p0.toNatClampNeg) (gjH (r 17) p0.toNatClampNeg) (gjH (r 18) p0.toNatClampNeg) (r 11 p0.toNatClampNeg).toNatClampNeg (gjH (r 12) p0.toNatClampNeg p1.toNatClampNeg) (gjH (r 13) p0.toNatClampNeg p1.toNatClampNeg) (r 10 p0.toNatClampNeg).toNatClampNeg (r 34) (u 34) (r 39) (u 39))) (fun (u : Nat → Nat → Int32) t => va_P D vwCl (mW cy a i u rl) t.heap ∧ va_K D vwCl (vT cy) t ∧ va_D (va_A (mW cy a i r rl) sz) (mW cy a i u rl)) (va_A (mW cy a i r rl) sz)) 0 0 (va_A (mW cy a i r rl) sz) := by
  refine Met.ofQ (cc := cX12_joinsAll) (maxL := 8) (ret := none) (by decide) rfl ?_
  intro p e s m args below meth c s₁ B hml hv Q hQ
  obtain ⟨rfl, hsz, hP, hK, hD0⟩ := hv
  have hx := B.exec
  have hb := B.bytes
  have hr := B.returns
  have hlocks := B.notSynchronized
  have hT : ∀ w ∈ gT, w.before _ s = true := fun w h => atoms_spec (ws := (Cond.code yX12_joinsAll cX12_joinsAll 8 none :: gT)) B.pre w (List.mem_cons_of_mem _ h)
  have hown : s.vm.findClass RX12 = some m.cls := findClass_of_methodNamed B.named
  subst hsz
  have hD := hD0.self (sz := s.heap.size)
  generalize hAe : va_A (mW cy a i r rl) s.heap.size = A at hD hQ
  have hA : ∀ q : Nat, s.heap.size ≤ q → A q := fun q h => by rw [← hAe]; exact Or.inr h
  have hS : va_S A s.heap s.heap [] := va_S.rf
  have hl := lv_entry ([.ref (a 0), .int p0, .int p1]) (n := 8) (Nat.le_of_ble_eq_true rfl)
  rw [lg_entry_eq]
  generalize (lg_sl ([.ref (a 0), .int p0, .int p1]) ++ List.replicate (8 - (lg_sl ([.ref (a 0), .int p0, .int p1])).length) Slot.unset).toArray = ls at hl ⊢
  have hl : lv_has ls 8 [(0, .ref (a 0)), (1, .int p0), (2, .int p1)] := hl
  have hEi : mEi [23, 24, 25, 26, 27, 28, 29, 30, 60] i i := Ei_rf
  have hEr : mEr [34, 35, 36, 37, 38, 39] r r := Er_rf
  have hrg : 0 ≤ (r 10 p0.toNatClampNeg).toInt ∧ (r 10 p0.toNatClampNeg).toInt ≤ 20 := hRr 10 _
  have hrl : 0 ≤ (r 11 p0.toNatClampNeg).toInt ∧ (r 11 p0.toNatClampNeg).toInt ≤ 20 := hRr 11 _
  have hnf : (r 10 p0.toNatClampNeg).toNatClampNeg ≤ 20 := by show (r 10 p0.toNatClampNeg).toInt.toNat ≤ 20; omega
  have hnl : (r 11 p0.toNatClampNeg).toNatClampNeg ≤ 20 := by show (r 11 p0.toNatClampNeg).toInt.toNat ≤ 20; omega
  refine lv_aload_n hx hb dX12_joinsAll_0 rfl (lv_at hl 0 rfl) ?_
  refine va_get (D := D) (ci := 12) (v := .ref (a 12)) (C := RX12) (T := TX12) (N := 91) hx hb hT iX12 hown hK hP 0 rfl rfl 13 (by decide) (hT _ t_30) (fun _ h9 => h9) rfl dX12_joinsAll_1 ?_
  refine lv_bipush (v := 20) hx hb dX12_joinsAll_4 (by decide) ?_
  refine lv_iload_n hx hb dX12_joinsAll_6 rfl (lv_at hl 1 rfl) ?_
  refine lv_imul hx hb dX12_joinsAll_7 ?_
  refine lv_topi (fun v_1 ev_1 => ?_)
  have hv_1 : v_1.toInt = 20 * p0.toInt := by rw [ev_1]; have := b_rg p0; exact i_mul (a := 20) (b := p0.toInt) rfl rfl (by omega) (by omega)
  refine lv_iload_n hx hb dX12_joinsAll_8 rfl (lv_at hl 2 rfl) ?_
  refine lv_iadd hx hb dX12_joinsAll_9 ?_
  refine lv_topi (fun v_2 ev_2 => ?_)
  have hv_2 : v_2.toInt = v_1.toInt + p1.toInt := by rw [ev_2]; have := b_rg v_1; have := b_rg p1; exact i_add (a := v_1.toInt) (b := p1.toInt) rfl rfl (by omega) (by omega)
  refine va_iald hx hb hK hP 12 0 rfl rfl (vp_inI (by omega) (by omega)) dX12_joinsAll_10 ?_
  refine lv_topi (fun v_3 ev_3 => ?_)
  have hgv_3 : 0 ≤ v_3.toInt ∧ v_3.toInt ≤ 9 := by rw [ev_3]; exact hRr 12 _
  have hrm : (gjH (r 12) p0.toNatClampNeg p1.toNatClampNeg) = v_3 := (show v_3 = (gjH (r 12) p0.toNatClampNeg p1.toNatClampNeg) from by rw [ev_3]; exact congrArg (r 12) (by show v_2.toInt.toNat = 20 * p0.toInt.toNat + p1.toInt.toNat; omega)).symm
  refine lv_istore_n (lv' := [(3, .int v_3), (0, .ref (a 0)), (1, .int p0), (2, .int p1)]) hx hb dX12_joinsAll_11 rfl hl (by decide) rfl (fun ls hl => ?_)
  refine lv_aload_n hx hb dX12_joinsAll_12 rfl (lv_at hl 1 rfl) ?_
  refine va_get (D := D) (ci := 12) (v := .ref (a 13)) (C := RX12) (T := TX12) (N := 91) hx hb hT iX12 hown hK hP 0 rfl rfl 14 (by decide) (hT _ t_24) (fun _ h9 => h9) rfl dX12_joinsAll_13 ?_
  refine lv_bipush (v := 20) hx hb dX12_joinsAll_16 (by decide) ?_
  refine lv_iload_n hx hb dX12_joinsAll_18 rfl (lv_at hl 2 rfl) ?_
  refine lv_imul hx hb dX12_joinsAll_19 ?_
  refine lv_topi (fun v_4 ev_4 => ?_)
  have hv_4 : v_4.toInt = 20 * p0.toInt := by rw [ev_4]; have := b_rg p0; exact i_mul (a := 20) (b := p0.toInt) rfl rfl (by omega) (by omega)
  refine lv_iload_n hx hb dX12_joinsAll_20 rfl (lv_at hl 3 rfl) ?_
  refine lv_iadd hx hb dX12_joinsAll_21 ?_
  refine lv_topi (fun v_5 ev_5 => ?_)
  have hv_5 : v_5.toInt = v_4.toInt + p1.toInt := by rw [ev_5]; have := b_rg v_4; have := b_rg p1; exact i_add (a := v_4.toInt) (b := p1.toInt) rfl rfl (by omega) (by omega)
  refine va_iald hx hb hK hP 13 0 rfl rfl (vp_inI (by omega) (by omega)) dX12_joinsAll_22 ?_
  refine lv_topi (fun v_6 ev_6 => ?_)
  have hgv_6 : 0 ≤ v_6.toInt ∧ v_6.toInt ≤ 7 := by rw [ev_6]; exact hRr 13 _
  have hkd : (gjH (r 13) p0.toNatClampNeg p1.toNatClampNeg) = v_6 := (show v_6 = (gjH (r 13) p0.toNatClampNeg p1.toNatClampNeg) from by rw [ev_6]; exact congrArg (r 13) (by show v_5.toInt.toNat = 20 * p0.toInt.toNat + p1.toInt.toNat; omega)).symm
  refine lv_istore (lv' := [(4, .int v_6), (3, .int v_3), (0, .ref (a 0)), (1, .int p0), (2, .int p1)]) hx hb dX12_joinsAll_23 hl (by decide) rfl (fun ls hl => ?_)
  refine lv_iconst (v := 0) hx hb dX12_joinsAll_25 (by decide) ?_
  refine lv_istore (lv' := [(5, .int 0), (4, .int v_6), (3, .int v_3), (0, .ref (a 0)), (1, .int p0), (2, .int p1)]) hx hb dX12_joinsAll_26 hl (by decide) rfl (fun ls hl => ?_)
  have loop_7 : ∀ (n : Nat) (x7_5 : Int32) (r7 : Nat → Nat → Int32) (H : Heap) (locs : List Loc) (ls : Array Slot), (10 - x7_5.toInt).toNat < n → (0 ≤ x7_5.toInt ∧ x7_5.toInt ≤ 10) → mRr r7 → mEr [34, 35, 36, 37, 38, 39] r r7 → ((r7 34 = r 34 ∧ r7 39 = r 39) ∧ (∀ k, k < x7_5.toNatClampNeg → r7 35 k = 0) ∧ ∀ k, k < x7_5.toNatClampNeg → r7 36 k = 0) → va_P D vwCl (mW cy a i r7 rl) H → va_D A (mW cy a i r7 rl) → va_S A s.heap H locs → lv_has ls 8 [(5, .int x7_5), (4, .int v_6), (3, .int v_3), (0, .ref (a 0)), (1, .int p0), (2, .int p1)] → W p l e ({ frames := 3, cells := 0, slots := 0, locals := 77 } : Room) s m ([.ref (a 0), .int p0, .int p1] : List Value).toArray below meth c H locs 0 0 Q (F0 m 28 ls []) := by
    intro n
    induction n with
    | zero =>
      intro x7_5 r7 H locs ls hm7 hf7_0 hRr hEr hx7 hP hD hS hl
      exact absurd hm7 (by omega)
    | succ n ih7 =>
      intro x7_5 r7 H locs ls hm7 hf7_0 hRr hEr hx7 hP hD hS hl
      refine lv_iload hx hb dX12_joinsAll_28 (lv_at hl 0 rfl) ?_
      refine lv_bipush (v := 10) hx hb dX12_joinsAll_30 (by decide) ?_
      refine lv_icmp_ge (tgt := 57) hx hb dX12_joinsAll_32 (by decide) (fun c_8 => ?_) (fun c_8 => ?_)
      · have c_8 : 10 ≤ x7_5.toInt := b_le c_8
        refine lv_iconst (v := 0) hx hb dX12_joinsAll_57 (by decide) ?_
        refine lv_istore (lv' := [(5, .int 0), (4, .int v_6), (3, .int v_3), (0, .ref (a 0)), (1, .int p0), (2, .int p1)]) hx hb dX12_joinsAll_58 hl (by decide) rfl (fun ls hl => ?_)
        have loop_9 : ∀ (n : Nat) (x9_5 : Int32) (r9 : Nat → Nat → Int32) (H : Heap) (locs : List Loc) (ls : Array Slot), (20 - x9_5.toInt).toNat < n → (0 ≤ x9_5.toInt ∧ x9_5.toInt ≤ 20) → mRr r9 → mEr [34, 35, 36, 37, 38, 39] r r9 → ((r9 34 = r 34 ∧ r9 39 = r 39) ∧ (∀ k, k < 10 → r9 36 k = 0) ∧ gjCnt (r9 35) (gjPF (gjH (r 12) p0.toNatClampNeg) (gjH (r 13) p0.toNatClampNeg) (gjH (r 12) p0.toNatClampNeg p1.toNatClampNeg) (gjH (r 13) p0.toNatClampNeg p1.toNatClampNeg) 0) (gjN (gjH (r 14) p0.toNatClampNeg)) x9_5.toNatClampNeg ∧ x9_5.toInt ≤ (r 10 p0.toNatClampNeg).toInt) → va_P D vwCl (mW cy a i r9 rl) H → va_D A (mW cy a i r9 rl) → va_S A s.heap H locs → lv_has ls 8 [(5, .int x9_5), (4, .int v_6), (3, .int v_3), (0, .ref (a 0)), (1, .int p0), (2, .int p1)] → W p l e ({ frames := 3, cells := 0, slots := 0, locals := 77 } : Room) s m ([.ref (a 0), .int p0, .int p1] : List Value).toArray below meth c H locs 0 0 Q (F0 m 60 ls []) := by
          intro n
          induction n with
          | zero =>
            intro x9_5 r9 H locs ls hm9 hf9_0 hRr hEr hx9 hP hD hS hl
            exact absurd hm9 (by omega)
          | succ n ih9 =>
            intro x9_5 r9 H locs ls hm9 hf9_0 hRr hEr hx9 hP hD hS hl
            refine lv_iload hx hb dX12_joinsAll_60 (lv_at hl 0 rfl) ?_
            refine lv_aload_n hx hb dX12_joinsAll_62 rfl (lv_at hl 3 rfl) ?_
            refine va_get (D := D) (ci := 12) (v := .ref (a 10)) (C := RX12) (T := TX12) (N := 91) hx hb hT iX12 hown hK hP 0 rfl rfl 11 (by decide) (hT _ t_16) (fun _ h9 => h9) rfl dX12_joinsAll_63 ?_
            refine lv_iload_n hx hb dX12_joinsAll_66 rfl (lv_at hl 4 rfl) ?_
            refine va_iald hx hb hK hP 10 0 rfl rfl (vp_inI (by omega) (by omega)) dX12_joinsAll_67 ?_
            refine lv_topi (fun v_10 ev_10 => ?_)
            have hgv_10 : 0 ≤ v_10.toInt ∧ v_10.toInt ≤ 20 := by rw [ev_10]; exact hRr 10 _
            have hwv_10 : v_10.toInt = (r9 10 (p0.toNatClampNeg)).toInt := congrArg Int32.toInt ev_10
            have hmv_10 : v_10.toInt = (r 10 p0.toNatClampNeg).toInt := by rw [ev_10, hEr 10 (by decide)]
            refine lv_icmp_ge (tgt := 126) hx hb dX12_joinsAll_68 (by decide) (fun c_11 => ?_) (fun c_11 => ?_)
            · have c_11 : v_10.toInt ≤ x9_5.toInt := b_le c_11
              refine lv_iconst (v := 0) hx hb dX12_joinsAll_126 (by decide) ?_
              refine lv_istore (lv' := [(5, .int 0), (4, .int v_6), (3, .int v_3), (0, .ref (a 0)), (1, .int p0), (2, .int p1)]) hx hb dX12_joinsAll_127 hl (by decide) rfl (fun ls hl => ?_)
              have loop_12 : ∀ (n : Nat) (x12_5 : Int32) (r12 : Nat → Nat → Int32) (H : Heap) (locs : List Loc) (ls : Array Slot), (20 - x12_5.toInt).toNat < n → (0 ≤ x12_5.toInt ∧ x12_5.toInt ≤ 20) → mRr r12 → mEr [34, 35, 36, 37, 38, 39] r r12 → ((r12 34 = r 34 ∧ r12 39 = r 39) ∧ gjCnt (r12 35) (gjPF (gjH (r 12) p0.toNatClampNeg) (gjH (r 13) p0.toNatClampNeg) (gjH (r 12) p0.toNatClampNeg p1.toNatClampNeg) (gjH (r 13) p0.toNatClampNeg p1.toNatClampNeg) 0) (gjN (gjH (r 14) p0.toNatClampNeg)) (r 10 p0.toNatClampNeg).toNatClampNeg ∧ gjCnt (r12 36) (gjQL (gjH (r 12) p0.toNatClampNeg) (gjH (r 13) p0.toNatClampNeg) (gjH (r 16) p0.toNatClampNeg) (gjH (r 17) p0.toNatClampNeg) (gjH (r 12) p0.toNatClampNeg p1.toNatClampNeg) (gjH (r 13) p0.toNatClampNeg p1.toNatClampNeg) (r 34) 0) (gjN (gjH (r 18) p0.toNatClampNeg)) x12_5.toNatClampNeg ∧ x12_5.toInt ≤ (r 11 p0.toNatClampNeg).toInt) → va_P D vwCl (mW cy a i r12 rl) H → va_D A (mW cy a i r12 rl) → va_S A s.heap H locs → lv_has ls 8 [(5, .int x12_5), (4, .int v_6), (3, .int v_3), (0, .ref (a 0)), (1, .int p0), (2, .int p1)] → W p l e ({ frames := 3, cells := 0, slots := 0, locals := 77 } : Room) s m ([.ref (a 0), .int p0, .int p1] : List Value).toArray below meth c H locs 0 0 Q (F0 m 129 ls []) := by
                intro n
                induction n with
                | zero =>
                  intro x12_5 r12 H locs ls hm12 hf12_0 hRr hEr hx12 hP hD hS hl
                  exact absurd hm12 (by omega)
                | succ n ih12 =>
                  intro x12_5 r12 H locs ls hm12 hf12_0 hRr hEr hx12 hP hD hS hl
                  refine lv_iload hx hb dX12_joinsAll_129 (lv_at hl 0 rfl) ?_
                  refine lv_aload_n hx hb dX12_joinsAll_131 rfl (lv_at hl 3 rfl) ?_
                  refine va_get (D := D) (ci := 12) (v := .ref (a 11)) (C := RX12) (T := TX12) (N := 91) hx hb hT iX12 hown hK hP 0 rfl rfl 12 (by decide) (hT _ t_43) (fun _ h9 => h9) rfl dX12_joinsAll_132 ?_
                  refine lv_iload_n hx hb dX12_joinsAll_135 rfl (lv_at hl 4 rfl) ?_
                  refine va_iald hx hb hK hP 11 0 rfl rfl (vp_inI (by omega) (by omega)) dX12_joinsAll_136 ?_
                  refine lv_topi (fun v_13 ev_13 => ?_)
                  have hgv_13 : 0 ≤ v_13.toInt ∧ v_13.toInt ≤ 20 := by rw [ev_13]; exact hRr 11 _
                  have hwv_13 : v_13.toInt = (r12 11 (p0.toNatClampNeg)).toInt := congrArg Int32.toInt ev_13
                  have hmv_13 : v_13.toInt = (r 11 p0.toNatClampNeg).toInt := by rw [ev_13, hEr 11 (by decide)]
                  refine lv_icmp_ge (tgt := 195) hx hb dX12_joinsAll_137 (by decide) (fun c_14 => ?_) (fun c_14 => ?_)
                  · have c_14 : v_13.toInt ≤ x12_5.toInt := b_le c_14
                    refine lv_aload_n hx hb dX12_joinsAll_195 rfl (lv_at hl 3 rfl) ?_
                    have hk : x12_5.toNatClampNeg = (r 11 p0.toNatClampNeg).toNatClampNeg := by show x12_5.toInt.toNat = (r 11 p0.toNatClampNeg).toInt.toNat; omega
                    have hc9 := hx12
                    rw [hk] at hc9
                    have hV0 : gjV (gjH (r 12) p0.toNatClampNeg) (gjH (r 13) p0.toNatClampNeg) (gjH (r 14) p0.toNatClampNeg) (r 10 p0.toNatClampNeg).toNatClampNeg (gjH (r 16) p0.toNatClampNeg) (gjH (r 17) p0.toNatClampNeg) (gjH (r 18) p0.toNatClampNeg) (r 11 p0.toNatClampNeg).toNatClampNeg (gjH (r 12) p0.toNatClampNeg p1.toNatClampNeg) (gjH (r 13) p0.toNatClampNeg p1.toNatClampNeg) p1.toNatClampNeg p1.toNatClampNeg (r 34) (r12 35) (r12 36) (r 39) := gjV_0 hc9.2.1 hc9.2.2.1 hnf hnl ht9 hf9
                    have e34k := hc9.1.1
                    have e39k := hc9.1.2
                    have hF_15 := rF hD hS hA
                    refine va_calli (va_runV (As := []) (rest := []) ⟨hx, hb, hml, hown, hT⟩ (c_X12_keptMost9 l D cy a i r12 rl _ hRi hRr hV0.2.2.2) (cwV 0 hT (gV t_49 t_50 t_51 t_52 t_6) rfl rfl rfl (by decide +kernel) ⟨Nat.le_of_ble_eq_true rfl, Nat.le_of_ble_eq_true rfl⟩) (rQ_v hP hK hD (va_recv hK hP (ci := 12) (q0 := 0) rfl rfl)) rfl rfl hl.1 rfl (lv_room (Nat.le_of_ble_eq_true rfl)) dX12_joinsAll_196 ⟨Nat.le_of_ble_eq_true rfl, Nat.le_of_ble_eq_true rfl⟩) hS (fun q _ h => hF_15 q h) hF_15 (fun r_16 u_17 t H1 locs ht hvm hr_16 hB hz1 hk1 hS => ?_)
                    obtain ⟨r17, rfl⟩ : ∃ z, z = u_17 := ⟨_, rfl⟩
                    obtain ⟨hP, hK1, hD1⟩ := hB
                    rw [ht] at hP
                    have hD := hD1.weaken (fun k q _ h => hF_15 q.1 h)
                    have hP : va_P D vwCl (mW cy a i r17 rl) H1 := hP
                    have hD : va_D A (mW cy a i r17 rl) := hD
                    obtain ⟨hRr, hE2, hr_16⟩ := hr_16
                    have hRr : mRr r17 := hRr
                    have hEr : mEr [34, 35, 36, 37, 38, 39] _ r17 := Er_tr hEr hE2 (by decide)
                    have hz9 : r_16.toInt = gjKR (r12 35) (r12 36) := hr_16
                    have hK34 : r17 34 = r12 34 := hE2 34 (by decide)
                    have hK35 : r17 35 = r12 35 := hE2 35 (by decide)
                    have hK36 : r17 36 = r12 36 := hE2 36 (by decide)
                    have hK39 : r17 39 = r12 39 := hE2 39 (by decide)
                    refine lv_istore (lv' := [(5, .int r_16), (4, .int v_6), (3, .int v_3), (0, .ref (a 0)), (1, .int p0), (2, .int p1)]) hx hb dX12_joinsAll_199 hl (by decide) rfl (fun ls hl => ?_)
                    refine lv_iload_n hx hb dX12_joinsAll_201 rfl (lv_at hl 5 rfl) ?_
                    refine lv_istore (lv' := [(6, .int p1), (5, .int r_16), (4, .int v_6), (3, .int v_3), (0, .ref (a 0)), (1, .int p0), (2, .int p1)]) hx hb dX12_joinsAll_202 hl (by decide) rfl (fun ls hl => ?_)
                    have loop_18 : ∀ (n : Nat) (x18_6 : Int32) (x18_5 : Int32) (r18 : Nat → Nat → Int32) (H : Heap) (locs : List Loc) (ls : Array Slot), (20 - x18_6.toInt).toNat < n → (0 ≤ x18_6.toInt ∧ x18_6.toInt ≤ 20) → mRr r18 → mEr [34, 35, 36, 37, 38, 39] r r18 → ((gjV (gjH (r 12) p0.toNatClampNeg) (gjH (r 13) p0.toNatClampNeg) (gjH (r 14) p0.toNatClampNeg) (r 10 p0.toNatClampNeg).toNatClampNeg (gjH (r 16) p0.toNatClampNeg) (gjH (r 17) p0.toNatClampNeg) (gjH (r 18) p0.toNatClampNeg) (r 11 p0.toNatClampNeg).toNatClampNeg (gjH (r 12) p0.toNatClampNeg p1.toNatClampNeg) (gjH (r 13) p0.toNatClampNeg p1.toNatClampNeg) (x18_6.toNatClampNeg) (x18_6.toNatClampNeg) (r18 34) (r18 35) (r18 36) (r18 39) ∧ x18_5.toInt = gjK (gjFF (gjH (r 12) p0.toNatClampNeg) (gjH (r 13) p0.toNatClampNeg) (gjH (r 14) p0.toNatClampNeg) (r 10 p0.toNatClampNeg).toNatClampNeg (gjH (r 12) p0.toNatClampNeg p1.toNatClampNeg) (gjH (r 13) p0.toNatClampNeg p1.toNatClampNeg) (x18_6.toNatClampNeg)) (gjLL (gjH (r 12) p0.toNatClampNeg) (gjH (r 13) p0.toNatClampNeg) (gjH (r 16) p0.toNatClampNeg) (gjH (r 17) p0.toNatClampNeg) (gjH (r 18) p0.toNatClampNeg) (r 11 p0.toNatClampNeg).toNatClampNeg (gjH (r 12) p0.toNatClampNeg p1.toNatClampNeg) (gjH (r 13) p0.toNatClampNeg p1.toNatClampNeg) (r18 34) (x18_6.toNatClampNeg))) ∧ gjA 99 (gjH (r 12) p0.toNatClampNeg) (gjH (r 13) p0.toNatClampNeg) (gjH (r 14) p0.toNatClampNeg) (r 10 p0.toNatClampNeg).toNatClampNeg (gjH (r 16) p0.toNatClampNeg) (gjH (r 17) p0.toNatClampNeg) (gjH (r 18) p0.toNatClampNeg) (r 11 p0.toNatClampNeg).toNatClampNeg (gjH (r 12) p0.toNatClampNeg p1.toNatClampNeg) (gjH (r 13) p0.toNatClampNeg p1.toNatClampNeg) x18_6.toNatClampNeg (r 34) (r18 34) (r 39) (r18 39) ∧ (p1.toInt ≤ x18_6.toInt ∧ x18_6.toInt ≤ (r 10 p0.toNatClampNeg).toInt)) → va_P D vwCl (mW cy a i r18 rl) H → va_D A (mW cy a i r18 rl) → va_S A s.heap H locs → lv_has ls 8 [(6, .int x18_6), (5, .int x18_5), (4, .int v_6), (3, .int v_3), (0, .ref (a 0)), (1, .int p0), (2, .int p1)] → W p l e ({ frames := 3, cells := 0, slots := 0, locals := 77 } : Room) s m ([.ref (a 0), .int p0, .int p1] : List Value).toArray below meth c H locs 0 0 Q (F0 m 204 ls []) := by
                      intro n
                      induction n with
                      | zero =>
                        intro x18_6 x18_5 r18 H locs ls hm18 hf18_0 hRr hEr hx18 hP hD hS hl
                        exact absurd hm18 (by omega)
                      | succ n ih18 =>
                        intro x18_6 x18_5 r18 H locs ls hm18 hf18_0 hRr hEr hx18 hP hD hS hl
                        refine lv_iload hx hb dX12_joinsAll_204 (lv_at hl 0 rfl) ?_
                        refine lv_aload_n hx hb dX12_joinsAll_206 rfl (lv_at hl 4 rfl) ?_
                        refine va_get (D := D) (ci := 12) (v := .ref (a 10)) (C := RX12) (T := TX12) (N := 91) hx hb hT iX12 hown hK hP 0 rfl rfl 11 (by decide) (hT _ t_16) (fun _ h9 => h9) rfl dX12_joinsAll_207 ?_
                        refine lv_iload_n hx hb dX12_joinsAll_210 rfl (lv_at hl 5 rfl) ?_
                        refine va_iald hx hb hK hP 10 0 rfl rfl (vp_inI (by omega) (by omega)) dX12_joinsAll_211 ?_
                        refine lv_topi (fun v_19 ev_19 => ?_)
                        have hgv_19 : 0 ≤ v_19.toInt ∧ v_19.toInt ≤ 20 := by rw [ev_19]; exact hRr 10 _
                        have hwv_19 : v_19.toInt = (r18 10 (p0.toNatClampNeg)).toInt := congrArg Int32.toInt ev_19
                        have hmv_19 : v_19.toInt = (r 10 p0.toNatClampNeg).toInt := by rw [ev_19, hEr 10 (by decide)]
                        refine lv_icmp_ge (tgt := 281) hx hb dX12_joinsAll_212 (by decide) (fun c_20 => ?_) (fun c_20 => ?_)
                        · have c_20 : v_19.toInt ≤ x18_6.toInt := b_le c_20
                          subst hQ
                          have hk : x18_6.toNatClampNeg = (r 10 p0.toNatClampNeg).toNatClampNeg := by show x18_6.toInt.toNat = (r 10 p0.toNatClampNeg).toInt.toNat; omega
                          have hA8 := hx18.2.1
                          rw [hk] at hA8
                          exact W.vret hx hb hr (fun t ht hW => ⟨⟨r18, rfl, ⟨hRr, hEr, hA8⟩, by rw [ht]; exact hP, va_K.moved hW.alike hK, hD⟩, hS.F ht⟩) hS.2.2 dX12_joinsAll_281
                        · have c_20 : x18_6.toInt < v_19.toInt := b_nle c_20
                          refine lv_aload_n hx hb dX12_joinsAll_215 rfl (lv_at hl 4 rfl) ?_
                          refine lv_iload_n hx hb dX12_joinsAll_216 rfl (lv_at hl 5 rfl) ?_
                          refine lv_iload hx hb dX12_joinsAll_217 (lv_at hl 0 rfl) ?_
                          refine lv_iload_n hx hb dX12_joinsAll_219 rfl (lv_at hl 3 rfl) ?_
                          refine lv_iload hx hb dX12_joinsAll_220 (lv_at hl 2 rfl) ?_
                          refine vp_callSi (W.runV (As := [.int p0, .int x18_6, .int v_3, .int v_6]) (rest := []) ⟨hx, hb, hml, hown, hT⟩ (c_X12_isLike l D cy a i r18 rl p0 x18_6 v_3 v_6 hRi hRr (by omega) (by omega)) (cwV 4 hT (gV t_53 t_54 t_55 t_56 t_6) rfl rfl rfl (by decide +kernel) ⟨Nat.le_of_ble_eq_true rfl, Nat.le_of_ble_eq_true rfl⟩) (rP_v hP hK (va_recv hK hP (ci := 12) (q0 := 0) rfl rfl)) rfl rfl hl.1 rfl (lv_room (Nat.le_of_ble_eq_true rfl)) dX12_joinsAll_222 ⟨Nat.le_of_ble_eq_true rfl, Nat.le_of_ble_eq_true rfl⟩) (fun r_21 hr_21 => ?_)
                          have hr_21 : BR r_21 (r18 12 (20 * p0.toInt + x18_6.toInt).toNat = v_3 ∧ r18 13 (20 * p0.toInt + x18_6.toInt).toNat = v_6) 1 0 := hr_21
                          rcases hr_21 with ⟨rfl, h_22⟩ | ⟨rfl, h_22⟩
                          · skip
                            refine lv_if_ne (tgt := 231) hx hb dX12_joinsAll_225 (by decide) (fun c_23 => ?_) (fun c_23 => absurd c_23 (by decide))
                            have hix : (20 * p0.toInt + x18_6.toInt).toNat = 20 * p0.toNatClampNeg + x18_6.toNatClampNeg := by show _ = 20 * p0.toInt.toNat + x18_6.toInt.toNat; omega
                            have hg9 : (gjH (r 12) p0.toNatClampNeg (x18_6.toNatClampNeg) = (gjH (r 12) p0.toNatClampNeg p1.toNatClampNeg) ∧ gjH (r 13) p0.toNatClampNeg (x18_6.toNatClampNeg) = (gjH (r 13) p0.toNatClampNeg p1.toNatClampNeg)) := by have h9 := h_22; rw [hix, hEr 12 (by decide), hEr 13 (by decide), ← hrm, ← hkd] at h9; exact h9
                            refine lv_aload_n hx hb dX12_joinsAll_231 rfl (lv_at hl 4 rfl) ?_
                            refine va_get (D := D) (ci := 12) (v := .ref (a 14)) (C := RX12) (T := TX12) (N := 91) hx hb hT iX12 hown hK hP 0 rfl rfl 15 (by decide) (hT _ t_38) (fun _ h9 => h9) rfl dX12_joinsAll_232 ?_
                            refine lv_bipush (v := 20) hx hb dX12_joinsAll_235 (by decide) ?_
                            refine lv_iload_n hx hb dX12_joinsAll_237 rfl (lv_at hl 5 rfl) ?_
                            refine lv_imul hx hb dX12_joinsAll_238 ?_
                            refine lv_topi (fun v_24 ev_24 => ?_)
                            have hv_24 : v_24.toInt = 20 * p0.toInt := by rw [ev_24]; have := b_rg p0; exact i_mul (a := 20) (b := p0.toInt) rfl rfl (by omega) (by omega)
                            refine lv_iload hx hb dX12_joinsAll_239 (lv_at hl 0 rfl) ?_
                            refine lv_iadd hx hb dX12_joinsAll_241 ?_
                            refine lv_topi (fun v_25 ev_25 => ?_)
                            have hv_25 : v_25.toInt = v_24.toInt + x18_6.toInt := by rw [ev_25]; have := b_rg v_24; have := b_rg x18_6; exact i_add (a := v_24.toInt) (b := x18_6.toInt) rfl rfl (by omega) (by omega)
                            refine va_iald hx hb hK hP 14 0 rfl rfl (vp_inI (by omega) (by omega)) dX12_joinsAll_242 ?_
                            refine lv_topi (fun v_26 ev_26 => ?_)
                            have hgv_26 : 0 ≤ v_26.toInt ∧ v_26.toInt ≤ 9 := by rw [ev_26]; exact hRr 14 _
                            have hsv_26 : v_26 = gjH (r 14) p0.toNatClampNeg (x18_6.toNatClampNeg) := by rw [ev_26, hEr 14 (by decide)]; exact congrArg (r 14) (by show v_25.toInt.toNat = 20 * p0.toInt.toNat + x18_6.toInt.toNat; omega)
                            have hqv_26 : 1 ≤ v_26.toInt ∧ v_26.toInt ≤ 9 := by rw [hsv_26]; exact hs1 _ (by show x18_6.toInt.toNat < (r 10 p0.toNatClampNeg).toInt.toNat; omega)
                            refine lv_istore (lv' := [(7, .int v_26), (6, .int x18_6), (5, .int x18_5), (4, .int v_6), (3, .int v_3), (0, .ref (a 0)), (1, .int p0), (2, .int p1)]) hx hb dX12_joinsAll_243 hl (by decide) rfl (fun ls hl => ?_)
                            refine lv_aload_n hx hb dX12_joinsAll_245 rfl (lv_at hl 5 rfl) ?_
                            refine va_get (D := D) (ci := 12) (v := .ref (a 35)) (C := RX12) (T := TX12) (N := 91) hx hb hT iX12 hown hK hP 0 rfl rfl 46 (by decide) (hT _ t_41) (fun _ h9 => h9) rfl dX12_joinsAll_246 ?_
                            refine lv_iload hx hb dX12_joinsAll_249 (lv_at hl 0 rfl) ?_
                            refine lv_aload_n hx hb dX12_joinsAll_251 rfl (lv_at hl 5 rfl) ?_
                            refine va_get (D := D) (ci := 12) (v := .ref (a 35)) (C := RX12) (T := TX12) (N := 91) hx hb hT iX12 hown hK hP 0 rfl rfl 46 (by decide) (hT _ t_41) (fun _ h9 => h9) rfl dX12_joinsAll_252 ?_
                            refine lv_iload hx hb dX12_joinsAll_255 (lv_at hl 0 rfl) ?_
                            refine va_iald hx hb hK hP 35 0 rfl rfl (vp_inI (by omega) (by omega)) dX12_joinsAll_257 ?_
                            refine lv_topi (fun v_27 ev_27 => ?_)
                            refine lv_iconst (v := 1) hx hb dX12_joinsAll_258 (by decide) ?_
                            refine lv_isub hx hb dX12_joinsAll_259 ?_
                            refine lv_topi (fun v_28 ev_28 => ?_)
                            have hin : x18_6.toNatClampNeg < (r 10 p0.toNatClampNeg).toNatClampNeg := by show x18_6.toInt.toNat < (r 10 p0.toNatClampNeg).toInt.toNat; omega
                            have hNs : gjN (gjH (r 14) p0.toNatClampNeg) (x18_6.toNatClampNeg) = v_26.toNatClampNeg := by unfold gjN; rw [← hsv_26]
                            have hbc := (hx18.1.1.2.2.2 (v_26.toNatClampNeg) (by show 1 ≤ v_26.toInt.toNat; omega) (by show v_26.toInt.toNat ≤ 9; omega)).1
                            rw [← ev_27] at hbc
                            have hxf : v_28.toInt = (r18 35 (gjN (gjH (r 14) p0.toNatClampNeg) (x18_6.toNatClampNeg))).toInt - 1 := by rw [hNs, ← ev_27, ev_28]; exact i_sub (a := v_27.toInt) (b := 1) rfl rfl (by omega) (by omega)
                            have hV9 := gjV_f hx18.1.1 hin hg9.1 hg9.2 hs1 hxf
                            rw [hNs] at hV9
                            have hm9 := hx18.1.2
                            refine va_iast hx hb hK hP hD hS 35 0 rfl rfl (vp_inI (by omega) (by omega)) dX12_joinsAll_260 (fun H locs hP hD hS => ?_)
                            rw [mS35] at hP hD
                            have hRr : mRr (va_up r18 35 (upd (r18 35) v_26.toNatClampNeg v_28)) := Rr_upd hRr 35 (v_26.toNatClampNeg) v_28 (b_rg _)
                            have hEr : mEr [34, 35, 36, 37, 38, 39] _ (va_up r18 35 (upd (r18 35) v_26.toNatClampNeg v_28)) := Er_up hEr 35 _ (by decide)
                            refine lv_aload_n hx hb dX12_joinsAll_261 rfl (lv_at hl 5 rfl) ?_
                            refine lv_iload_n hx hb dX12_joinsAll_262 rfl (lv_at hl 6 rfl) ?_
                            refine lv_iload hx hb dX12_joinsAll_263 (lv_at hl 1 rfl) ?_
                            refine lv_iload_n hx hb dX12_joinsAll_265 rfl (lv_at hl 4 rfl) ?_
                            refine lv_iload hx hb dX12_joinsAll_266 (lv_at hl 3 rfl) ?_
                            refine lv_iload hx hb dX12_joinsAll_268 (lv_at hl 2 rfl) ?_
                            have hA10 : (va_up r18 35 (upd (r18 35) v_26.toNatClampNeg v_28)) 10 = r 10 := hEr 10 (by decide)
                            have hA11 : (va_up r18 35 (upd (r18 35) v_26.toNatClampNeg v_28)) 11 = r 11 := hEr 11 (by decide)
                            have hA12 : (va_up r18 35 (upd (r18 35) v_26.toNatClampNeg v_28)) 12 = r 12 := hEr 12 (by decide)
                            have hA13 : (va_up r18 35 (upd (r18 35) v_26.toNatClampNeg v_28)) 13 = r 13 := hEr 13 (by decide)
                            have hA14 : (va_up r18 35 (upd (r18 35) v_26.toNatClampNeg v_28)) 14 = r 14 := hEr 14 (by decide)
                            have hA16 : (va_up r18 35 (upd (r18 35) v_26.toNatClampNeg v_28)) 16 = r 16 := hEr 16 (by decide)
                            have hA17 : (va_up r18 35 (upd (r18 35) v_26.toNatClampNeg v_28)) 17 = r 17 := hEr 17 (by decide)
                            have hA18 : (va_up r18 35 (upd (r18 35) v_26.toNatClampNeg v_28)) 18 = r 18 := hEr 18 (by decide)
                            have hF_29 := rF hD hS hA
                            refine va_calli (va_runV (As := [.int p0, .int x18_6, .int v_3, .int v_6, .int x18_5]) (rest := []) ⟨hx, hb, hml, hown, hT⟩ (c_X12_joinsOne9 l D cy a i (va_up r18 35 (upd (r18 35) v_26.toNatClampNeg v_28)) rl p0 x18_6 v_3 v_6 x18_5 _ hRi hRr (by omega) (by omega) (by rw [hA10]; omega) (by rw [hA12, ← hrm]; exact hg9.1) (by rw [hA13, ← hkd]; exact hg9.2) (by rw [hA14, hA10]; exact hs1) (by rw [hA18, hA11]; exact hs2) (by rw [hA10, hA11, hA12, hA13, hA14, hA16, hA17, hA18, ← hrm, ← hkd]; exact hV9) (by rw [hA10, hA11, hA12, hA13, hA14, hA16, hA17, hA18, ← hrm, ← hkd]; exact hm9)) (cwV 5 hT (gV t_57 t_58 t_59 t_60 t_6) rfl rfl rfl (by decide +kernel) ⟨Nat.le_of_ble_eq_true rfl, Nat.le_of_ble_eq_true rfl⟩) (rQ_v hP hK hD (va_recv hK hP (ci := 12) (q0 := 0) rfl rfl)) rfl rfl hl.1 rfl (lv_room (Nat.le_of_ble_eq_true rfl)) dX12_joinsAll_270 ⟨Nat.le_of_ble_eq_true rfl, Nat.le_of_ble_eq_true rfl⟩) hS (fun q _ h => hF_29 q h) hF_29 (fun r_30 u_31 t H1 locs ht hvm hr_30 hB hz1 hk1 hS => ?_)
                            obtain ⟨r31, rfl⟩ : ∃ z, z = u_31 := ⟨_, rfl⟩
                            obtain ⟨hP, hK1, hD1⟩ := hB
                            rw [ht] at hP
                            have hD := hD1.weaken (fun k q _ h => hF_29 q.1 h)
                            have hP : va_P D vwCl (mW cy a i r31 rl) H1 := hP
                            have hD : va_D A (mW cy a i r31 rl) := hD
                            obtain ⟨hRr, hE2, hr_30⟩ := hr_30
                            have hRr : mRr r31 := hRr
                            have hEr : mEr [34, 35, 36, 37, 38, 39] _ r31 := Er_tr hEr hE2 (by decide)
                            have hO9 : ∃ x9 : Int32, r31 34 = upd ((va_up r18 35 (upd (r18 35) v_26.toNatClampNeg v_28)) 34) x18_6.toNatClampNeg x9 ∧ gjO (gjH ((va_up r18 35 (upd (r18 35) v_26.toNatClampNeg v_28)) 12) p0.toNatClampNeg) (gjH ((va_up r18 35 (upd (r18 35) v_26.toNatClampNeg v_28)) 13) p0.toNatClampNeg) (gjH ((va_up r18 35 (upd (r18 35) v_26.toNatClampNeg v_28)) 14) p0.toNatClampNeg) ((va_up r18 35 (upd (r18 35) v_26.toNatClampNeg v_28)) 10 p0.toNatClampNeg).toNatClampNeg (gjH ((va_up r18 35 (upd (r18 35) v_26.toNatClampNeg v_28)) 16) p0.toNatClampNeg) (gjH ((va_up r18 35 (upd (r18 35) v_26.toNatClampNeg v_28)) 17) p0.toNatClampNeg) (gjH ((va_up r18 35 (upd (r18 35) v_26.toNatClampNeg v_28)) 18) p0.toNatClampNeg) ((va_up r18 35 (upd (r18 35) v_26.toNatClampNeg v_28)) 11 p0.toNatClampNeg).toNatClampNeg ((va_up r18 35 (upd (r18 35) v_26.toNatClampNeg v_28)) 34) 99 x18_6.toNatClampNeg x9.toInt ∧ gjV (gjH ((va_up r18 35 (upd (r18 35) v_26.toNatClampNeg v_28)) 12) p0.toNatClampNeg) (gjH ((va_up r18 35 (upd (r18 35) v_26.toNatClampNeg v_28)) 13) p0.toNatClampNeg) (gjH ((va_up r18 35 (upd (r18 35) v_26.toNatClampNeg v_28)) 14) p0.toNatClampNeg) ((va_up r18 35 (upd (r18 35) v_26.toNatClampNeg v_28)) 10 p0.toNatClampNeg).toNatClampNeg (gjH ((va_up r18 35 (upd (r18 35) v_26.toNatClampNeg v_28)) 16) p0.toNatClampNeg) (gjH ((va_up r18 35 (upd (r18 35) v_26.toNatClampNeg v_28)) 17) p0.toNatClampNeg) (gjH ((va_up r18 35 (upd (r18 35) v_26.toNatClampNeg v_28)) 18) p0.toNatClampNeg) ((va_up r18 35 (upd (r18 35) v_26.toNatClampNeg v_28)) 11 p0.toNatClampNeg).toNatClampNeg v_3 v_6 (x18_6.toNatClampNeg + 1) (x18_6.toNatClampNeg + 1) (r31 34) ((va_up r18 35 (upd (r18 35) v_26.toNatClampNeg v_28)) 35) (r31 36) (r31 39) ∧ r_30.toInt = gjK (gjFF (gjH ((va_up r18 35 (upd (r18 35) v_26.toNatClampNeg v_28)) 12) p0.toNatClampNeg) (gjH ((va_up r18 35 (upd (r18 35) v_26.toNatClampNeg v_28)) 13) p0.toNatClampNeg) (gjH ((va_up r18 35 (upd (r18 35) v_26.toNatClampNeg v_28)) 14) p0.toNatClampNeg) ((va_up r18 35 (upd (r18 35) v_26.toNatClampNeg v_28)) 10 p0.toNatClampNeg).toNatClampNeg v_3 v_6 (x18_6.toNatClampNeg + 1)) (gjLL (gjH ((va_up r18 35 (upd (r18 35) v_26.toNatClampNeg v_28)) 12) p0.toNatClampNeg) (gjH ((va_up r18 35 (upd (r18 35) v_26.toNatClampNeg v_28)) 13) p0.toNatClampNeg) (gjH ((va_up r18 35 (upd (r18 35) v_26.toNatClampNeg v_28)) 16) p0.toNatClampNeg) (gjH ((va_up r18 35 (upd (r18 35) v_26.toNatClampNeg v_28)) 17) p0.toNatClampNeg) (gjH ((va_up r18 35 (upd (r18 35) v_26.toNatClampNeg v_28)) 18) p0.toNatClampNeg) ((va_up r18 35 (upd (r18 35) v_26.toNatClampNeg v_28)) 11 p0.toNatClampNeg).toNatClampNeg v_3 v_6 (r31 34) (x18_6.toNatClampNeg + 1)) ∧ ∀ k : Nat, k < 20 → ((r31 39 k).toInt = 0 ↔ ((va_up r18 35 (upd (r18 35) v_26.toNatClampNeg v_28)) 39 k).toInt = 0 ∧ (k : Int) ≠ x9.toInt) := hr_30
                            rw [hA10, hA11, hA12, hA13, hA14, hA16, hA17, hA18, ← hrm, ← hkd] at hO9
                            obtain ⟨x9, o1, o2, o3, o4, o5⟩ := hO9
                            have hE35o : r31 35 = (va_up r18 35 (upd (r18 35) v_26.toNatClampNeg v_28)) 35 := hE2 35 (by decide)
                            refine lv_istore (lv' := [(5, .int r_30), (7, .int v_26), (6, .int x18_6), (4, .int v_6), (3, .int v_3), (0, .ref (a 0)), (1, .int p0), (2, .int p1)]) hx hb dX12_joinsAll_273 hl (by decide) rfl (fun ls hl => ?_)
                            obtain ⟨x_32, ex_32⟩ : ∃ y : Int32, y = x18_6 + 1 := ⟨_, rfl⟩
                            refine lv_iinc (v := x_32) (lv' := [(6, .int x_32), (5, .int r_30), (7, .int v_26), (4, .int v_6), (3, .int v_3), (0, .ref (a 0)), (1, .int p0), (2, .int p1)]) hx hb dX12_joinsAll_275 hl (k := 2) rfl (by rw [ex_32]; rfl) (by decide) rfl (fun ls hl => ?_)
                            have hx_32 : x_32.toInt = x18_6.toInt + 1 := by rw [ex_32]; have := b_rg x18_6; exact i_add (a := x18_6.toInt) (b := 1) rfl rfl (by omega) (by omega)
                            refine lv_goto (tgt := 204) hx hb dX12_joinsAll_278 (by decide) ?_
                            have hk : x_32.toNatClampNeg = x18_6.toNatClampNeg + 1 := by show x_32.toInt.toNat = x18_6.toInt.toNat + 1; omega
                            have p34 : (va_up r18 35 (upd (r18 35) v_26.toNatClampNeg v_28)) 34 = r18 34 := rfl
                            have p39 : (va_up r18 35 (upd (r18 35) v_26.toNatClampNeg v_28)) 39 = r18 39 := rfl
                            have p35 : r31 35 = (va_up r18 35 (upd (r18 35) v_26.toNatClampNeg v_28)) 35 := hE35o
                            have hA8 := gjA_y (J2 := r31 34) (t2 := r31 39) hx18.2.1 hg9.1 hg9.2 hk o1 o2 o5
                            have hV8 : gjV (gjH (r 12) p0.toNatClampNeg) (gjH (r 13) p0.toNatClampNeg) (gjH (r 14) p0.toNatClampNeg) (r 10 p0.toNatClampNeg).toNatClampNeg (gjH (r 16) p0.toNatClampNeg) (gjH (r 17) p0.toNatClampNeg) (gjH (r 18) p0.toNatClampNeg) (r 11 p0.toNatClampNeg).toNatClampNeg (gjH (r 12) p0.toNatClampNeg p1.toNatClampNeg) (gjH (r 13) p0.toNatClampNeg p1.toNatClampNeg) (x_32.toNatClampNeg) (x_32.toNatClampNeg) (r31 34) (r31 35) (r31 36) (r31 39) := by rw [hk, p35]; exact o3
                            have hm8 : r_30.toInt = gjK (gjFF (gjH (r 12) p0.toNatClampNeg) (gjH (r 13) p0.toNatClampNeg) (gjH (r 14) p0.toNatClampNeg) (r 10 p0.toNatClampNeg).toNatClampNeg (gjH (r 12) p0.toNatClampNeg p1.toNatClampNeg) (gjH (r 13) p0.toNatClampNeg p1.toNatClampNeg) (x_32.toNatClampNeg)) (gjLL (gjH (r 12) p0.toNatClampNeg) (gjH (r 13) p0.toNatClampNeg) (gjH (r 16) p0.toNatClampNeg) (gjH (r 17) p0.toNatClampNeg) (gjH (r 18) p0.toNatClampNeg) (r 11 p0.toNatClampNeg).toNatClampNeg (gjH (r 12) p0.toNatClampNeg p1.toNatClampNeg) (gjH (r 13) p0.toNatClampNeg p1.toNatClampNeg) (r31 34) (x_32.toNatClampNeg)) := by rw [hk]; exact o4
                            clear o1 o2 o3 o4 o5
                            exact ih18 x_32 r_30 r31 _ _ _ (by first | omega | (simp only [Int.toNat]; omega)) (by first | omega | decide) hRr hEr ⟨⟨hV8, hm8⟩, hA8, by omega⟩ hP hD hS (lv_sub hl [0, 1, 3, 4, 5, 6, 7] rfl)
                          · skip
                            refine lv_if_ne (tgt := 231) hx hb dX12_joinsAll_225 (by decide) (fun c_33 => absurd (by decide) c_33) (fun c_33 => ?_)
                            have hix : (20 * p0.toInt + x18_6.toInt).toNat = 20 * p0.toNatClampNeg + x18_6.toNatClampNeg := by show _ = 20 * p0.toInt.toNat + x18_6.toInt.toNat; omega
                            have hg9 : ¬ (gjH (r 12) p0.toNatClampNeg (x18_6.toNatClampNeg) = (gjH (r 12) p0.toNatClampNeg p1.toNatClampNeg) ∧ gjH (r 13) p0.toNatClampNeg (x18_6.toNatClampNeg) = (gjH (r 13) p0.toNatClampNeg p1.toNatClampNeg)) := by have h9 := h_22; rw [hix, hEr 12 (by decide), hEr 13 (by decide), ← hrm, ← hkd] at h9; exact h9
                            refine lv_goto (tgt := 275) hx hb dX12_joinsAll_228 (by decide) ?_
                            obtain ⟨x_34, ex_34⟩ : ∃ y : Int32, y = x18_6 + 1 := ⟨_, rfl⟩
                            refine lv_iinc (v := x_34) (lv' := [(6, .int x_34), (5, .int x18_5), (4, .int v_6), (3, .int v_3), (0, .ref (a 0)), (1, .int p0), (2, .int p1)]) hx hb dX12_joinsAll_275 hl (k := 0) rfl (by rw [ex_34]; rfl) (by decide) rfl (fun ls hl => ?_)
                            have hx_34 : x_34.toInt = x18_6.toInt + 1 := by rw [ex_34]; have := b_rg x18_6; exact i_add (a := x18_6.toInt) (b := 1) rfl rfl (by omega) (by omega)
                            refine lv_goto (tgt := 204) hx hb dX12_joinsAll_278 (by decide) ?_
                            have hk : x_34.toNatClampNeg = x18_6.toNatClampNeg + 1 := by show x_34.toInt.toNat = x18_6.toInt.toNat + 1; omega
                            have hV8 := gjV_n hx18.1.1 hg9 hk
                            have hA8 := gjA_n hx18.2.1 hg9 hk
                            have hm8 : x18_5.toInt = gjK (gjFF (gjH (r 12) p0.toNatClampNeg) (gjH (r 13) p0.toNatClampNeg) (gjH (r 14) p0.toNatClampNeg) (r 10 p0.toNatClampNeg).toNatClampNeg (gjH (r 12) p0.toNatClampNeg p1.toNatClampNeg) (gjH (r 13) p0.toNatClampNeg p1.toNatClampNeg) (x_34.toNatClampNeg)) (gjLL (gjH (r 12) p0.toNatClampNeg) (gjH (r 13) p0.toNatClampNeg) (gjH (r 16) p0.toNatClampNeg) (gjH (r 17) p0.toNatClampNeg) (gjH (r 18) p0.toNatClampNeg) (r 11 p0.toNatClampNeg).toNatClampNeg (gjH (r 12) p0.toNatClampNeg p1.toNatClampNeg) (gjH (r 13) p0.toNatClampNeg p1.toNatClampNeg) (r18 34) (x_34.toNatClampNeg)) := by rw [hk]; exact hx18.1.2.trans (gjK_co (fun s _ _ => (gjFF_n hg9).symm) (fun s _ _ => (gjLL_n (Or.inl hg9)).symm))
                            exact ih18 x_34 x18_5 r18 _ _ _ (by first | omega | (simp only [Int.toNat]; omega)) (by first | omega | decide) hRr hEr ⟨⟨hV8, hm8⟩, hA8, by omega⟩ hP hD hS (lv_sub hl [0, 1, 2, 3, 4, 5, 6] rfl)
                    have hV1 : gjV (gjH (r 12) p0.toNatClampNeg) (gjH (r 13) p0.toNatClampNeg) (gjH (r 14) p0.toNatClampNeg) (r 10 p0.toNatClampNeg).toNatClampNeg (gjH (r 16) p0.toNatClampNeg) (gjH (r 17) p0.toNatClampNeg) (gjH (r 18) p0.toNatClampNeg) (r 11 p0.toNatClampNeg).toNatClampNeg (gjH (r 12) p0.toNatClampNeg p1.toNatClampNeg) (gjH (r 13) p0.toNatClampNeg p1.toNatClampNeg) (p1.toNatClampNeg) (p1.toNatClampNeg) (r17 34) (r17 35) (r17 36) (r17 39) := by rw [hK34, hK35, hK36, hK39, e34k, e39k]; exact hV0
                    have hm1 : r_16.toInt = gjK (gjFF (gjH (r 12) p0.toNatClampNeg) (gjH (r 13) p0.toNatClampNeg) (gjH (r 14) p0.toNatClampNeg) (r 10 p0.toNatClampNeg).toNatClampNeg (gjH (r 12) p0.toNatClampNeg p1.toNatClampNeg) (gjH (r 13) p0.toNatClampNeg p1.toNatClampNeg) (p1.toNatClampNeg)) (gjLL (gjH (r 12) p0.toNatClampNeg) (gjH (r 13) p0.toNatClampNeg) (gjH (r 16) p0.toNatClampNeg) (gjH (r 17) p0.toNatClampNeg) (gjH (r 18) p0.toNatClampNeg) (r 11 p0.toNatClampNeg).toNatClampNeg (gjH (r 12) p0.toNatClampNeg p1.toNatClampNeg) (gjH (r 13) p0.toNatClampNeg p1.toNatClampNeg) (r17 34) (p1.toNatClampNeg)) := hz9.trans (by rw [hK34, e34k]; exact gjK_co hV0.1 hV0.2.1)
                    have hA1 : gjA 99 (gjH (r 12) p0.toNatClampNeg) (gjH (r 13) p0.toNatClampNeg) (gjH (r 14) p0.toNatClampNeg) (r 10 p0.toNatClampNeg).toNatClampNeg (gjH (r 16) p0.toNatClampNeg) (gjH (r 17) p0.toNatClampNeg) (gjH (r 18) p0.toNatClampNeg) (r 11 p0.toNatClampNeg).toNatClampNeg (gjH (r 12) p0.toNatClampNeg p1.toNatClampNeg) (gjH (r 13) p0.toNatClampNeg p1.toNatClampNeg) p1.toNatClampNeg (r 34) (r17 34) (r 39) (r17 39) := by rw [hK34, hK39, e34k, e39k]; exact gjA_0 hf9
                    exact loop_18 _ p1 r_16 r17 _ _ _ (Nat.lt_succ_self _) (by first | omega | decide) hRr hEr ⟨⟨hV1, hm1⟩, hA1, by omega⟩ hP hD hS hl
                  · have c_14 : x12_5.toInt < v_13.toInt := b_nle c_14
                    refine lv_aload_n hx hb dX12_joinsAll_140 rfl (lv_at hl 3 rfl) ?_
                    refine lv_iload_n hx hb dX12_joinsAll_141 rfl (lv_at hl 4 rfl) ?_
                    refine lv_iload hx hb dX12_joinsAll_142 (lv_at hl 0 rfl) ?_
                    refine lv_iload_n hx hb dX12_joinsAll_144 rfl (lv_at hl 2 rfl) ?_
                    refine lv_iload hx hb dX12_joinsAll_145 (lv_at hl 1 rfl) ?_
                    refine vp_callSi (W.runV (As := [.int p0, .int x12_5, .int v_3, .int v_6]) (rest := []) ⟨hx, hb, hml, hown, hT⟩ (c_X12_isOf9 l D cy a i r12 rl p0 x12_5 v_3 v_6 hRi hRr (by omega) (by omega)) (cwV 4 hT (gV t_45 t_46 t_47 t_48 t_6) rfl rfl rfl (by decide +kernel) ⟨Nat.le_of_ble_eq_true rfl, Nat.le_of_ble_eq_true rfl⟩) (rP_v hP hK (va_recv hK hP (ci := 12) (q0 := 0) rfl rfl)) rfl rfl hl.1 rfl (lv_room (Nat.le_of_ble_eq_true rfl)) dX12_joinsAll_147 ⟨Nat.le_of_ble_eq_true rfl, Nat.le_of_ble_eq_true rfl⟩) (fun r_35 hr_35 => ?_)
                    have hr_35 : BR r_35 (r12 16 (20 * p0.toInt + x12_5.toInt).toNat = v_3 ∧ r12 17 (20 * p0.toInt + x12_5.toInt).toNat = v_6) 1 0 := hr_35
                    rcases hr_35 with ⟨rfl, h_36⟩ | ⟨rfl, h_36⟩
                    · skip
                      refine lv_if_eq (tgt := 189) hx hb dX12_joinsAll_150 (by decide) (fun c_37 => absurd c_37 (by decide)) (fun c_37 => ?_)
                      have hix : (20 * p0.toInt + x12_5.toInt).toNat = 20 * p0.toNatClampNeg + x12_5.toNatClampNeg := by show _ = 20 * p0.toInt.toNat + x12_5.toInt.toNat; omega
                      have hg9 : (gjH (r 16) p0.toNatClampNeg (x12_5.toNatClampNeg) = (gjH (r 12) p0.toNatClampNeg p1.toNatClampNeg) ∧ gjH (r 17) p0.toNatClampNeg (x12_5.toNatClampNeg) = (gjH (r 13) p0.toNatClampNeg p1.toNatClampNeg)) := by have h9 := h_36; rw [hix, hEr 16 (by decide), hEr 17 (by decide), ← hrm, ← hkd] at h9; exact h9
                      refine lv_aload_n hx hb dX12_joinsAll_153 rfl (lv_at hl 3 rfl) ?_
                      refine va_get (D := D) (ci := 12) (v := .ref (a 36)) (C := RX12) (T := TX12) (N := 91) hx hb hT iX12 hown hK hP 0 rfl rfl 47 (by decide) (hT _ t_42) (fun _ h9 => h9) rfl dX12_joinsAll_154 ?_
                      refine lv_aload_n hx hb dX12_joinsAll_157 rfl (lv_at hl 3 rfl) ?_
                      refine va_get (D := D) (ci := 12) (v := .ref (a 18)) (C := RX12) (T := TX12) (N := 91) hx hb hT iX12 hown hK hP 0 rfl rfl 19 (by decide) (hT _ t_33) (fun _ h9 => h9) rfl dX12_joinsAll_158 ?_
                      refine lv_bipush (v := 20) hx hb dX12_joinsAll_161 (by decide) ?_
                      refine lv_iload_n hx hb dX12_joinsAll_163 rfl (lv_at hl 4 rfl) ?_
                      refine lv_imul hx hb dX12_joinsAll_164 ?_
                      refine lv_topi (fun v_38 ev_38 => ?_)
                      have hv_38 : v_38.toInt = 20 * p0.toInt := by rw [ev_38]; have := b_rg p0; exact i_mul (a := 20) (b := p0.toInt) rfl rfl (by omega) (by omega)
                      refine lv_iload hx hb dX12_joinsAll_165 (lv_at hl 0 rfl) ?_
                      refine lv_iadd hx hb dX12_joinsAll_167 ?_
                      refine lv_topi (fun v_39 ev_39 => ?_)
                      have hv_39 : v_39.toInt = v_38.toInt + x12_5.toInt := by rw [ev_39]; have := b_rg v_38; have := b_rg x12_5; exact i_add (a := v_38.toInt) (b := x12_5.toInt) rfl rfl (by omega) (by omega)
                      refine va_iald hx hb hK hP 18 0 rfl rfl (vp_inI (by omega) (by omega)) dX12_joinsAll_168 ?_
                      refine lv_topi (fun v_40 ev_40 => ?_)
                      have hgv_40 : 0 ≤ v_40.toInt ∧ v_40.toInt ≤ 9 := by rw [ev_40]; exact hRr 18 _
                      have hsv_40 : v_40 = gjH (r 18) p0.toNatClampNeg (x12_5.toNatClampNeg) := by rw [ev_40, hEr 18 (by decide)]; exact congrArg (r 18) (by show v_39.toInt.toNat = 20 * p0.toInt.toNat + x12_5.toInt.toNat; omega)
                      have hqv_40 : 1 ≤ v_40.toInt ∧ v_40.toInt ≤ 9 := by rw [hsv_40]; exact hs2 _ (by show x12_5.toInt.toNat < (r 11 p0.toNatClampNeg).toInt.toNat; omega)
                      refine lv_aload_n hx hb dX12_joinsAll_169 rfl (lv_at hl 3 rfl) ?_
                      refine va_get (D := D) (ci := 12) (v := .ref (a 36)) (C := RX12) (T := TX12) (N := 91) hx hb hT iX12 hown hK hP 0 rfl rfl 47 (by decide) (hT _ t_42) (fun _ h9 => h9) rfl dX12_joinsAll_170 ?_
                      refine lv_aload_n hx hb dX12_joinsAll_173 rfl (lv_at hl 3 rfl) ?_
                      refine va_get (D := D) (ci := 12) (v := .ref (a 18)) (C := RX12) (T := TX12) (N := 91) hx hb hT iX12 hown hK hP 0 rfl rfl 19 (by decide) (hT _ t_33) (fun _ h9 => h9) rfl dX12_joinsAll_174 ?_
                      refine lv_bipush (v := 20) hx hb dX12_joinsAll_177 (by decide) ?_
                      refine lv_iload_n hx hb dX12_joinsAll_179 rfl (lv_at hl 4 rfl) ?_
                      refine lv_imul hx hb dX12_joinsAll_180 ?_
                      refine lv_topi (fun v_41 ev_41 => ?_)
                      have hv_41 : v_41.toInt = 20 * p0.toInt := by rw [ev_41]; have := b_rg p0; exact i_mul (a := 20) (b := p0.toInt) rfl rfl (by omega) (by omega)
                      refine lv_iload hx hb dX12_joinsAll_181 (lv_at hl 0 rfl) ?_
                      refine lv_iadd hx hb dX12_joinsAll_183 ?_
                      refine lv_topi (fun v_42 ev_42 => ?_)
                      have hv_42 : v_42.toInt = v_41.toInt + x12_5.toInt := by rw [ev_42]; have := b_rg v_41; have := b_rg x12_5; exact i_add (a := v_41.toInt) (b := x12_5.toInt) rfl rfl (by omega) (by omega)
                      refine va_iald hx hb hK hP 18 0 rfl rfl (vp_inI (by omega) (by omega)) dX12_joinsAll_184 ?_
                      refine lv_topi (fun v_43 ev_43 => ?_)
                      have hgv_43 : 0 ≤ v_43.toInt ∧ v_43.toInt ≤ 9 := by rw [ev_43]; exact hRr 18 _
                      have hsv_43 : v_43 = gjH (r 18) p0.toNatClampNeg (x12_5.toNatClampNeg) := by rw [ev_43, hEr 18 (by decide)]; exact congrArg (r 18) (by show v_42.toInt.toNat = 20 * p0.toInt.toNat + x12_5.toInt.toNat; omega)
                      have hqv_43 : 1 ≤ v_43.toInt ∧ v_43.toInt ≤ 9 := by rw [hsv_43]; exact hs2 _ (by show x12_5.toInt.toNat < (r 11 p0.toNatClampNeg).toInt.toNat; omega)
                      refine va_iald hx hb hK hP 36 0 rfl rfl (vp_inI (by omega) (by omega)) dX12_joinsAll_185 ?_
                      refine lv_topi (fun v_44 ev_44 => ?_)
                      have hbc := (hx12.2.2.1).2 (v_43.toNatClampNeg) (by show 1 ≤ v_43.toInt.toNat; omega) (by show v_43.toInt.toNat ≤ 9; omega)
                      rw [← ev_44] at hbc
                      have hbn : ((x12_5.toNatClampNeg : Nat) : Int) ≤ 20 := by show ((x12_5.toInt.toNat : Nat) : Int) ≤ 20; omega
                      refine lv_iconst (v := 1) hx hb dX12_joinsAll_186 (by decide) ?_
                      refine lv_iadd hx hb dX12_joinsAll_187 ?_
                      refine lv_topi (fun v_45 ev_45 => ?_)
                      have hv_45 : v_45.toInt = v_44.toInt + 1 := by rw [ev_45]; have := b_rg v_44; exact i_add (a := v_44.toInt) (b := 1) rfl rfl (by omega) (by omega)
                      refine va_iast hx hb hK hP hD hS 36 0 rfl rfl (vp_inI (by omega) (by omega)) dX12_joinsAll_188 (fun H locs hP hD hS => ?_)
                      rw [mS36] at hP hD
                      have hRr : mRr (va_up r12 36 (upd (r12 36) v_40.toNatClampNeg v_45)) := Rr_upd hRr 36 (v_40.toNatClampNeg) v_45 (b_rg _)
                      have hEr : mEr [34, 35, 36, 37, 38, 39] _ (va_up r12 36 (upd (r12 36) v_40.toNatClampNeg v_45)) := Er_up hEr 36 _ (by decide)
                      obtain ⟨x_46, ex_46⟩ : ∃ y : Int32, y = x12_5 + 1 := ⟨_, rfl⟩
                      refine lv_iinc (v := x_46) (lv' := [(5, .int x_46), (4, .int v_6), (3, .int v_3), (0, .ref (a 0)), (1, .int p0), (2, .int p1)]) hx hb dX12_joinsAll_189 hl (k := 0) rfl (by rw [ex_46]; rfl) (by decide) rfl (fun ls hl => ?_)
                      have hx_46 : x_46.toInt = x12_5.toInt + 1 := by rw [ex_46]; have := b_rg x12_5; exact i_add (a := x12_5.toInt) (b := 1) rfl rfl (by omega) (by omega)
                      refine lv_goto (tgt := 129) hx hb dX12_joinsAll_192 (by decide) ?_
                      have hk : x_46.toNatClampNeg = x12_5.toNatClampNeg + 1 := by show x_46.toInt.toNat = x12_5.toInt.toNat + 1; omega
                      have hkk : gjN (gjH (r 18) p0.toNatClampNeg) (x12_5.toNatClampNeg) = v_40.toNatClampNeg := by unfold gjN; rw [← hsv_40]
                      have hs12 : v_40 = v_43 := hsv_40.trans hsv_43.symm
                      have hv9 : v_45.toInt = (r12 36 (v_40.toNatClampNeg)).toInt + 1 := by rw [hs12, ← ev_44]; omega
                      have hC9 := gjCnt_y (x := v_45) hx12.2.2.1 hk (gjQL_iff.mpr ⟨hg9, fun q9 hq9 => absurd hq9 (Nat.not_lt_zero q9)⟩) hkk (by show 1 ≤ v_40.toInt.toNat; omega) (by show v_40.toInt.toNat ≤ 9; omega) hv9
                      exact ih12 x_46 (va_up r12 36 (upd (r12 36) v_40.toNatClampNeg v_45)) _ _ _ (by first | omega | (simp only [Int.toNat]; omega)) (by first | omega | decide) hRr hEr ⟨hx12.1, hx12.2.1, hC9, by omega⟩ hP hD hS (lv_sub hl [0, 1, 2, 3, 4, 5] rfl)
                    · skip
                      refine lv_if_eq (tgt := 189) hx hb dX12_joinsAll_150 (by decide) (fun c_47 => ?_) (fun c_47 => absurd (by decide) c_47)
                      have hix : (20 * p0.toInt + x12_5.toInt).toNat = 20 * p0.toNatClampNeg + x12_5.toNatClampNeg := by show _ = 20 * p0.toInt.toNat + x12_5.toInt.toNat; omega
                      have hg9 : ¬ (gjH (r 16) p0.toNatClampNeg (x12_5.toNatClampNeg) = (gjH (r 12) p0.toNatClampNeg p1.toNatClampNeg) ∧ gjH (r 17) p0.toNatClampNeg (x12_5.toNatClampNeg) = (gjH (r 13) p0.toNatClampNeg p1.toNatClampNeg)) := by have h9 := h_36; rw [hix, hEr 16 (by decide), hEr 17 (by decide), ← hrm, ← hkd] at h9; exact h9
                      obtain ⟨x_48, ex_48⟩ : ∃ y : Int32, y = x12_5 + 1 := ⟨_, rfl⟩
                      refine lv_iinc (v := x_48) (lv' := [(5, .int x_48), (4, .int v_6), (3, .int v_3), (0, .ref (a 0)), (1, .int p0), (2, .int p1)]) hx hb dX12_joinsAll_189 hl (k := 0) rfl (by rw [ex_48]; rfl) (by decide) rfl (fun ls hl => ?_)
                      have hx_48 : x_48.toInt = x12_5.toInt + 1 := by rw [ex_48]; have := b_rg x12_5; exact i_add (a := x12_5.toInt) (b := 1) rfl rfl (by omega) (by omega)
                      refine lv_goto (tgt := 129) hx hb dX12_joinsAll_192 (by decide) ?_
                      have hk : x_48.toNatClampNeg = x12_5.toNatClampNeg + 1 := by show x_48.toInt.toNat = x12_5.toInt.toNat + 1; omega
                      have hC9 := gjCnt_n hx12.2.2.1 hk (fun h9 => hg9 (gjQL_iff.mp h9).1)
                      exact ih12 x_48 r12 _ _ _ (by first | omega | (simp only [Int.toNat]; omega)) (by first | omega | decide) hRr hEr ⟨hx12.1, hx12.2.1, hC9, by omega⟩ hP hD hS (lv_sub hl [0, 1, 2, 3, 4, 5] rfl)
              have hk : x9_5.toNatClampNeg = (r 10 p0.toNatClampNeg).toNatClampNeg := by show x9_5.toInt.toNat = (r 10 p0.toNatClampNeg).toInt.toNat; omega
              have hc9 := hx9
              rw [hk] at hc9
              exact loop_12 _ 0 r9 _ _ _ (Nat.lt_succ_self _) (by first | omega | decide) hRr hEr ⟨hc9.1, hc9.2.2.1, gjCnt_0 hc9.2.1, by have h9 : (0 : Int32).toInt = 0 := rfl; omega⟩ hP hD hS hl
            · have c_11 : x9_5.toInt < v_10.toInt := b_nle c_11
              refine lv_aload_n hx hb dX12_joinsAll_71 rfl (lv_at hl 3 rfl) ?_
              refine lv_iload_n hx hb dX12_joinsAll_72 rfl (lv_at hl 4 rfl) ?_
              refine lv_iload hx hb dX12_joinsAll_73 (lv_at hl 0 rfl) ?_
              refine lv_iload_n hx hb dX12_joinsAll_75 rfl (lv_at hl 2 rfl) ?_
              refine lv_iload hx hb dX12_joinsAll_76 (lv_at hl 1 rfl) ?_
              refine vp_callSi (W.runV (As := [.int p0, .int x9_5, .int v_3, .int v_6]) (rest := []) ⟨hx, hb, hml, hown, hT⟩ (c_X12_isLike l D cy a i r9 rl p0 x9_5 v_3 v_6 hRi hRr (by omega) (by omega)) (cwV 4 hT (gV t_53 t_54 t_55 t_56 t_6) rfl rfl rfl (by decide +kernel) ⟨Nat.le_of_ble_eq_true rfl, Nat.le_of_ble_eq_true rfl⟩) (rP_v hP hK (va_recv hK hP (ci := 12) (q0 := 0) rfl rfl)) rfl rfl hl.1 rfl (lv_room (Nat.le_of_ble_eq_true rfl)) dX12_joinsAll_78 ⟨Nat.le_of_ble_eq_true rfl, Nat.le_of_ble_eq_true rfl⟩) (fun r_49 hr_49 => ?_)
              have hr_49 : BR r_49 (r9 12 (20 * p0.toInt + x9_5.toInt).toNat = v_3 ∧ r9 13 (20 * p0.toInt + x9_5.toInt).toNat = v_6) 1 0 := hr_49
              rcases hr_49 with ⟨rfl, h_50⟩ | ⟨rfl, h_50⟩
              · skip
                refine lv_if_eq (tgt := 120) hx hb dX12_joinsAll_81 (by decide) (fun c_51 => absurd c_51 (by decide)) (fun c_51 => ?_)
                have hix : (20 * p0.toInt + x9_5.toInt).toNat = 20 * p0.toNatClampNeg + x9_5.toNatClampNeg := by show _ = 20 * p0.toInt.toNat + x9_5.toInt.toNat; omega
                have hg9 : (gjH (r 12) p0.toNatClampNeg (x9_5.toNatClampNeg) = (gjH (r 12) p0.toNatClampNeg p1.toNatClampNeg) ∧ gjH (r 13) p0.toNatClampNeg (x9_5.toNatClampNeg) = (gjH (r 13) p0.toNatClampNeg p1.toNatClampNeg)) := by have h9 := h_50; rw [hix, hEr 12 (by decide), hEr 13 (by decide), ← hrm, ← hkd] at h9; exact h9
                refine lv_aload_n hx hb dX12_joinsAll_84 rfl (lv_at hl 3 rfl) ?_
                refine va_get (D := D) (ci := 12) (v := .ref (a 35)) (C := RX12) (T := TX12) (N := 91) hx hb hT iX12 hown hK hP 0 rfl rfl 46 (by decide) (hT _ t_41) (fun _ h9 => h9) rfl dX12_joinsAll_85 ?_
                refine lv_aload_n hx hb dX12_joinsAll_88 rfl (lv_at hl 3 rfl) ?_
                refine va_get (D := D) (ci := 12) (v := .ref (a 14)) (C := RX12) (T := TX12) (N := 91) hx hb hT iX12 hown hK hP 0 rfl rfl 15 (by decide) (hT _ t_38) (fun _ h9 => h9) rfl dX12_joinsAll_89 ?_
                refine lv_bipush (v := 20) hx hb dX12_joinsAll_92 (by decide) ?_
                refine lv_iload_n hx hb dX12_joinsAll_94 rfl (lv_at hl 4 rfl) ?_
                refine lv_imul hx hb dX12_joinsAll_95 ?_
                refine lv_topi (fun v_52 ev_52 => ?_)
                have hv_52 : v_52.toInt = 20 * p0.toInt := by rw [ev_52]; have := b_rg p0; exact i_mul (a := 20) (b := p0.toInt) rfl rfl (by omega) (by omega)
                refine lv_iload hx hb dX12_joinsAll_96 (lv_at hl 0 rfl) ?_
                refine lv_iadd hx hb dX12_joinsAll_98 ?_
                refine lv_topi (fun v_53 ev_53 => ?_)
                have hv_53 : v_53.toInt = v_52.toInt + x9_5.toInt := by rw [ev_53]; have := b_rg v_52; have := b_rg x9_5; exact i_add (a := v_52.toInt) (b := x9_5.toInt) rfl rfl (by omega) (by omega)
                refine va_iald hx hb hK hP 14 0 rfl rfl (vp_inI (by omega) (by omega)) dX12_joinsAll_99 ?_
                refine lv_topi (fun v_54 ev_54 => ?_)
                have hgv_54 : 0 ≤ v_54.toInt ∧ v_54.toInt ≤ 9 := by rw [ev_54]; exact hRr 14 _
                have hsv_54 : v_54 = gjH (r 14) p0.toNatClampNeg (x9_5.toNatClampNeg) := by rw [ev_54, hEr 14 (by decide)]; exact congrArg (r 14) (by show v_53.toInt.toNat = 20 * p0.toInt.toNat + x9_5.toInt.toNat; omega)
                have hqv_54 : 1 ≤ v_54.toInt ∧ v_54.toInt ≤ 9 := by rw [hsv_54]; exact hs1 _ (by show x9_5.toInt.toNat < (r 10 p0.toNatClampNeg).toInt.toNat; omega)
                refine lv_aload_n hx hb dX12_joinsAll_100 rfl (lv_at hl 3 rfl) ?_
                refine va_get (D := D) (ci := 12) (v := .ref (a 35)) (C := RX12) (T := TX12) (N := 91) hx hb hT iX12 hown hK hP 0 rfl rfl 46 (by decide) (hT _ t_41) (fun _ h9 => h9) rfl dX12_joinsAll_101 ?_
                refine lv_aload_n hx hb dX12_joinsAll_104 rfl (lv_at hl 3 rfl) ?_
                refine va_get (D := D) (ci := 12) (v := .ref (a 14)) (C := RX12) (T := TX12) (N := 91) hx hb hT iX12 hown hK hP 0 rfl rfl 15 (by decide) (hT _ t_38) (fun _ h9 => h9) rfl dX12_joinsAll_105 ?_
                refine lv_bipush (v := 20) hx hb dX12_joinsAll_108 (by decide) ?_
                refine lv_iload_n hx hb dX12_joinsAll_110 rfl (lv_at hl 4 rfl) ?_
                refine lv_imul hx hb dX12_joinsAll_111 ?_
                refine lv_topi (fun v_55 ev_55 => ?_)
                have hv_55 : v_55.toInt = 20 * p0.toInt := by rw [ev_55]; have := b_rg p0; exact i_mul (a := 20) (b := p0.toInt) rfl rfl (by omega) (by omega)
                refine lv_iload hx hb dX12_joinsAll_112 (lv_at hl 0 rfl) ?_
                refine lv_iadd hx hb dX12_joinsAll_114 ?_
                refine lv_topi (fun v_56 ev_56 => ?_)
                have hv_56 : v_56.toInt = v_55.toInt + x9_5.toInt := by rw [ev_56]; have := b_rg v_55; have := b_rg x9_5; exact i_add (a := v_55.toInt) (b := x9_5.toInt) rfl rfl (by omega) (by omega)
                refine va_iald hx hb hK hP 14 0 rfl rfl (vp_inI (by omega) (by omega)) dX12_joinsAll_115 ?_
                refine lv_topi (fun v_57 ev_57 => ?_)
                have hgv_57 : 0 ≤ v_57.toInt ∧ v_57.toInt ≤ 9 := by rw [ev_57]; exact hRr 14 _
                have hsv_57 : v_57 = gjH (r 14) p0.toNatClampNeg (x9_5.toNatClampNeg) := by rw [ev_57, hEr 14 (by decide)]; exact congrArg (r 14) (by show v_56.toInt.toNat = 20 * p0.toInt.toNat + x9_5.toInt.toNat; omega)
                have hqv_57 : 1 ≤ v_57.toInt ∧ v_57.toInt ≤ 9 := by rw [hsv_57]; exact hs1 _ (by show x9_5.toInt.toNat < (r 10 p0.toNatClampNeg).toInt.toNat; omega)
                refine va_iald hx hb hK hP 35 0 rfl rfl (vp_inI (by omega) (by omega)) dX12_joinsAll_116 ?_
                refine lv_topi (fun v_58 ev_58 => ?_)
                have hbc := (hx9.2.2.1).2 (v_57.toNatClampNeg) (by show 1 ≤ v_57.toInt.toNat; omega) (by show v_57.toInt.toNat ≤ 9; omega)
                rw [← ev_58] at hbc
                have hbn : ((x9_5.toNatClampNeg : Nat) : Int) ≤ 20 := by show ((x9_5.toInt.toNat : Nat) : Int) ≤ 20; omega
                refine lv_iconst (v := 1) hx hb dX12_joinsAll_117 (by decide) ?_
                refine lv_iadd hx hb dX12_joinsAll_118 ?_
                refine lv_topi (fun v_59 ev_59 => ?_)
                have hv_59 : v_59.toInt = v_58.toInt + 1 := by rw [ev_59]; have := b_rg v_58; exact i_add (a := v_58.toInt) (b := 1) rfl rfl (by omega) (by omega)
                refine va_iast hx hb hK hP hD hS 35 0 rfl rfl (vp_inI (by omega) (by omega)) dX12_joinsAll_119 (fun H locs hP hD hS => ?_)
                rw [mS35] at hP hD
                have hRr : mRr (va_up r9 35 (upd (r9 35) v_54.toNatClampNeg v_59)) := Rr_upd hRr 35 (v_54.toNatClampNeg) v_59 (b_rg _)
                have hEr : mEr [34, 35, 36, 37, 38, 39] _ (va_up r9 35 (upd (r9 35) v_54.toNatClampNeg v_59)) := Er_up hEr 35 _ (by decide)
                obtain ⟨x_60, ex_60⟩ : ∃ y : Int32, y = x9_5 + 1 := ⟨_, rfl⟩
                refine lv_iinc (v := x_60) (lv' := [(5, .int x_60), (4, .int v_6), (3, .int v_3), (0, .ref (a 0)), (1, .int p0), (2, .int p1)]) hx hb dX12_joinsAll_120 hl (k := 0) rfl (by rw [ex_60]; rfl) (by decide) rfl (fun ls hl => ?_)
                have hx_60 : x_60.toInt = x9_5.toInt + 1 := by rw [ex_60]; have := b_rg x9_5; exact i_add (a := x9_5.toInt) (b := 1) rfl rfl (by omega) (by omega)
                refine lv_goto (tgt := 60) hx hb dX12_joinsAll_123 (by decide) ?_
                have hk : x_60.toNatClampNeg = x9_5.toNatClampNeg + 1 := by show x_60.toInt.toNat = x9_5.toInt.toNat + 1; omega
                have hkk : gjN (gjH (r 14) p0.toNatClampNeg) (x9_5.toNatClampNeg) = v_54.toNatClampNeg := by unfold gjN; rw [← hsv_54]
                have hs12 : v_54 = v_57 := hsv_54.trans hsv_57.symm
                have hv9 : v_59.toInt = (r9 35 (v_54.toNatClampNeg)).toInt + 1 := by rw [hs12, ← ev_58]; omega
                have hC9 := gjCnt_y (x := v_59) hx9.2.2.1 hk (gjPF_iff.mpr ⟨Nat.zero_le _, hg9⟩) hkk (by show 1 ≤ v_54.toInt.toNat; omega) (by show v_54.toInt.toNat ≤ 9; omega) hv9
                exact ih9 x_60 (va_up r9 35 (upd (r9 35) v_54.toNatClampNeg v_59)) _ _ _ (by first | omega | (simp only [Int.toNat]; omega)) (by first | omega | decide) hRr hEr ⟨hx9.1, hx9.2.1, hC9, by omega⟩ hP hD hS (lv_sub hl [0, 1, 2, 3, 4, 5] rfl)
              · skip
                refine lv_if_eq (tgt := 120) hx hb dX12_joinsAll_81 (by decide) (fun c_61 => ?_) (fun c_61 => absurd (by decide) c_61)
                have hix : (20 * p0.toInt + x9_5.toInt).toNat = 20 * p0.toNatClampNeg + x9_5.toNatClampNeg := by show _ = 20 * p0.toInt.toNat + x9_5.toInt.toNat; omega
                have hg9 : ¬ (gjH (r 12) p0.toNatClampNeg (x9_5.toNatClampNeg) = (gjH (r 12) p0.toNatClampNeg p1.toNatClampNeg) ∧ gjH (r 13) p0.toNatClampNeg (x9_5.toNatClampNeg) = (gjH (r 13) p0.toNatClampNeg p1.toNatClampNeg)) := by have h9 := h_50; rw [hix, hEr 12 (by decide), hEr 13 (by decide), ← hrm, ← hkd] at h9; exact h9
                obtain ⟨x_62, ex_62⟩ : ∃ y : Int32, y = x9_5 + 1 := ⟨_, rfl⟩
                refine lv_iinc (v := x_62) (lv' := [(5, .int x_62), (4, .int v_6), (3, .int v_3), (0, .ref (a 0)), (1, .int p0), (2, .int p1)]) hx hb dX12_joinsAll_120 hl (k := 0) rfl (by rw [ex_62]; rfl) (by decide) rfl (fun ls hl => ?_)
                have hx_62 : x_62.toInt = x9_5.toInt + 1 := by rw [ex_62]; have := b_rg x9_5; exact i_add (a := x9_5.toInt) (b := 1) rfl rfl (by omega) (by omega)
                refine lv_goto (tgt := 60) hx hb dX12_joinsAll_123 (by decide) ?_
                have hk : x_62.toNatClampNeg = x9_5.toNatClampNeg + 1 := by show x_62.toInt.toNat = x9_5.toInt.toNat + 1; omega
                have hC9 := gjCnt_n hx9.2.2.1 hk (fun h9 => hg9 (gjPF_iff.mp h9).2)
                exact ih9 x_62 r9 _ _ _ (by first | omega | (simp only [Int.toNat]; omega)) (by first | omega | decide) hRr hEr ⟨hx9.1, hx9.2.1, hC9, by omega⟩ hP hD hS (lv_sub hl [0, 1, 2, 3, 4, 5] rfl)
        have h10 : x7_5.toNatClampNeg = 10 := by show x7_5.toInt.toNat = 10; omega
        have hc9 := hx7
        rw [h10] at hc9
        exact loop_9 _ 0 r7 _ _ _ (Nat.lt_succ_self _) (by first | omega | decide) hRr hEr ⟨hc9.1, hc9.2.2, gjCnt_0 hc9.2.1, by have h9 : (0 : Int32).toInt = 0 := rfl; omega⟩ hP hD hS hl
      · have c_8 : x7_5.toInt < 10 := b_nle c_8
        refine lv_aload_n hx hb dX12_joinsAll_35 rfl (lv_at hl 3 rfl) ?_
        refine va_get (D := D) (ci := 12) (v := .ref (a 35)) (C := RX12) (T := TX12) (N := 91) hx hb hT iX12 hown hK hP 0 rfl rfl 46 (by decide) (hT _ t_41) (fun _ h9 => h9) rfl dX12_joinsAll_36 ?_
        refine lv_iload hx hb dX12_joinsAll_39 (lv_at hl 0 rfl) ?_
        refine lv_iconst (v := 0) hx hb dX12_joinsAll_41 (by decide) ?_
        refine va_iast hx hb hK hP hD hS 35 0 rfl rfl (vp_inI (by omega) (by omega)) dX12_joinsAll_42 (fun H locs hP hD hS => ?_)
        rw [mS35] at hP hD
        have hRr : mRr (va_up r7 35 (upd (r7 35) x7_5.toNatClampNeg 0)) := Rr_upd hRr 35 (x7_5.toNatClampNeg) 0 (b_rg _)
        have hEr : mEr [34, 35, 36, 37, 38, 39] _ (va_up r7 35 (upd (r7 35) x7_5.toNatClampNeg 0)) := Er_up hEr 35 _ (by decide)
        refine lv_aload_n hx hb dX12_joinsAll_43 rfl (lv_at hl 3 rfl) ?_
        refine va_get (D := D) (ci := 12) (v := .ref (a 36)) (C := RX12) (T := TX12) (N := 91) hx hb hT iX12 hown hK hP 0 rfl rfl 47 (by decide) (hT _ t_42) (fun _ h9 => h9) rfl dX12_joinsAll_44 ?_
        refine lv_iload hx hb dX12_joinsAll_47 (lv_at hl 0 rfl) ?_
        refine lv_iconst (v := 0) hx hb dX12_joinsAll_49 (by decide) ?_
        refine va_iast hx hb hK hP hD hS 36 0 rfl rfl (vp_inI (by omega) (by omega)) dX12_joinsAll_50 (fun H locs hP hD hS => ?_)
        rw [mS36] at hP hD
        have hRr : mRr (va_up (va_up r7 35 (upd (r7 35) x7_5.toNatClampNeg 0)) 36 (upd (r7 36) x7_5.toNatClampNeg 0)) := Rr_upd hRr 36 (x7_5.toNatClampNeg) 0 (b_rg _)
        have hEr : mEr [34, 35, 36, 37, 38, 39] _ (va_up (va_up r7 35 (upd (r7 35) x7_5.toNatClampNeg 0)) 36 (upd (r7 36) x7_5.toNatClampNeg 0)) := Er_up hEr 36 _ (by decide)
        obtain ⟨x_63, ex_63⟩ : ∃ y : Int32, y = x7_5 + 1 := ⟨_, rfl⟩
        refine lv_iinc (v := x_63) (lv' := [(5, .int x_63), (4, .int v_6), (3, .int v_3), (0, .ref (a 0)), (1, .int p0), (2, .int p1)]) hx hb dX12_joinsAll_51 hl (k := 0) rfl (by rw [ex_63]; rfl) (by decide) rfl (fun ls hl => ?_)
        have hx_63 : x_63.toInt = x7_5.toInt + 1 := by rw [ex_63]; have := b_rg x7_5; exact i_add (a := x7_5.toInt) (b := 1) rfl rfl (by omega) (by omega)
        refine lv_goto (tgt := 28) hx hb dX12_joinsAll_54 (by decide) ?_
        have hk : x_63.toNatClampNeg = x7_5.toNatClampNeg + 1 := by show x_63.toInt.toNat = x7_5.toInt.toNat + 1; omega
        have hc35 : ∀ k, k < x_63.toNatClampNeg → upd (r7 35) (x7_5.toNatClampNeg) 0 k = 0 := fun k hk2 => by unfold upd; by_cases e9 : k = x7_5.toNatClampNeg; (· rw [if_pos e9]); (· rw [if_neg e9]; exact hx7.2.1 k (by omega))
        have hc36 : ∀ k, k < x_63.toNatClampNeg → upd (r7 36) (x7_5.toNatClampNeg) 0 k = 0 := fun k hk2 => by unfold upd; by_cases e9 : k = x7_5.toNatClampNeg; (· rw [if_pos e9]); (· rw [if_neg e9]; exact hx7.2.2 k (by omega))
        exact ih7 x_63 (va_up (va_up r7 35 (upd (r7 35) x7_5.toNatClampNeg 0)) 36 (upd (r7 36) x7_5.toNatClampNeg 0)) _ _ _ (by first | omega | (simp only [Int.toNat]; omega)) (by first | omega | decide) hRr hEr ⟨hx7.1, hc35, hc36⟩ hP hD hS (lv_sub hl [0, 1, 2, 3, 4, 5] rfl)
  exact loop_7 _ 0 r _ _ _ (Nat.lt_succ_self _) (by first | omega | decide) hRr hEr ⟨⟨rfl, rfl⟩, fun k hk => absurd (show k < 0 from hk) (Nat.not_lt_zero k), fun k hk => absurd (show k < 0 from hk) (Nat.not_lt_zero k)⟩ hP hD hS hl
set_option maxHeartbeats 4000000 in
set_option maxRecDepth 100000 in
theorem c_X12_laysJoined9 (l : Launch) (D : va_G) (cy : Nat → ClassId) (a : Nat → Nat) (i : Nat → Int32) (r : Nat → Nat → Int32) (rl : Nat → Int64) (p0 : Int32) (sz : Nat) (hRi : mRi i) (hRr : mRr r) (q0 : 0 ≤ p0.toInt ∧ p0.toInt ≤ 5) (hs1 : gjSt (gjH (r 14) p0.toNatClampNeg) (r 10 p0.toNatClampNeg).toNatClampNeg) (hs2 : gjSt (gjH (r 18) p0.toNatClampNeg) (r 11 p0.toNatClampNeg).toNatClampNeg) : Met l yX12_laysJoined (Cond.code yX12_laysJoined cX12_laysJoined 3 none :: gT) { frames := 4, cells := 0, slots := 0, locals := 104 } (va_Pc [.ref (a 0), .int p0] (rQ D cy (mW cy a i r rl) sz)) (va_Qv (fun u : Nat → Nat → Int32 => mRr u ∧ mEr [34, 35, 36, 37, 38, 39] r u ∧ (gjJ (gjH (r 12) p0.toNatClampNeg) (gjH (r 13) p0.toNatClampNeg) (gjH (r 14) p0.toNatClampNeg) (r 10 p0.toNatClampNeg).toNatClampNeg (gjH (r 16) p0.toNatClampNeg) (gjH (r 17) p0.toNatClampNeg) (gjH (r 18) p0.toNatClampNeg) (r 11 p0.toNatClampNeg).toNatClampNeg 99 (u 34) ∧ ∀ k : Nat, k < 20 → ((u 39 k).toInt = 0 ↔ ∀ q, q < (r 10 p0.toNatClampNeg).toNatClampNeg → (u 34 q).toInt ≠ (k : Int)))) (fun (u : Nat → Nat → Int32) t => va_P D vwCl (mW cy a i u rl) t.heap ∧ va_K D vwCl (vT cy) t ∧ va_D (va_A (mW cy a i r rl) sz) (mW cy a i u rl)) (va_A (mW cy a i r rl) sz)) 0 0 (va_A (mW cy a i r rl) sz) := by
  refine Met.ofQ (cc := cX12_laysJoined) (maxL := 3) (ret := none) (by decide) rfl ?_
  intro p e s m args below meth c s₁ B hml hv Q hQ
  obtain ⟨rfl, hsz, hP, hK, hD0⟩ := hv
  have hx := B.exec
  have hb := B.bytes
  have hr := B.returns
  have hlocks := B.notSynchronized
  have hT : ∀ w ∈ gT, w.before _ s = true := fun w h => atoms_spec (ws := (Cond.code yX12_laysJoined cX12_laysJoined 3 none :: gT)) B.pre w (List.mem_cons_of_mem _ h)
  have hown : s.vm.findClass RX12 = some m.cls := findClass_of_methodNamed B.named
  subst hsz
  have hD := hD0.self (sz := s.heap.size)
  generalize hAe : va_A (mW cy a i r rl) s.heap.size = A at hD hQ
  have hA : ∀ q : Nat, s.heap.size ≤ q → A q := fun q h => by rw [← hAe]; exact Or.inr h
  have hS : va_S A s.heap s.heap [] := va_S.rf
  have hl := lv_entry ([.ref (a 0), .int p0]) (n := 3) (Nat.le_of_ble_eq_true rfl)
  rw [lg_entry_eq]
  generalize (lg_sl ([.ref (a 0), .int p0]) ++ List.replicate (3 - (lg_sl ([.ref (a 0), .int p0])).length) Slot.unset).toArray = ls at hl ⊢
  have hl : lv_has ls 3 [(0, .ref (a 0)), (1, .int p0)] := hl
  have hEi : mEi [23, 24, 25, 26, 27, 28, 29, 30, 60] i i := Ei_rf
  have hEr : mEr [34, 35, 36, 37, 38, 39] r r := Er_rf
  have hrg : 0 ≤ (r 10 p0.toNatClampNeg).toInt ∧ (r 10 p0.toNatClampNeg).toInt ≤ 20 := hRr 10 _
  have hrl : 0 ≤ (r 11 p0.toNatClampNeg).toInt ∧ (r 11 p0.toNatClampNeg).toInt ≤ 20 := hRr 11 _
  refine lv_iconst (v := 0) hx hb dX12_laysJoined_0 (by decide) ?_
  refine lv_istore_n (lv' := [(2, .int 0), (0, .ref (a 0)), (1, .int p0)]) hx hb dX12_laysJoined_1 rfl hl (by decide) rfl (fun ls hl => ?_)
  have loop_1 : ∀ (n : Nat) (x1_2 : Int32) (r1 : Nat → Nat → Int32) (H : Heap) (locs : List Loc) (ls : Array Slot), (20 - x1_2.toInt).toNat < n → (0 ≤ x1_2.toInt ∧ x1_2.toInt ≤ 20) → mRr r1 → mEr [34, 35, 36, 37, 38, 39] r r1 → ((∀ k, k < x1_2.toNatClampNeg → (r1 34 k).toInt = -1) ∧ ∀ k, k < x1_2.toNatClampNeg → (r1 39 k).toInt = 0) → va_P D vwCl (mW cy a i r1 rl) H → va_D A (mW cy a i r1 rl) → va_S A s.heap H locs → lv_has ls 3 [(2, .int x1_2), (0, .ref (a 0)), (1, .int p0)] → W p l e ({ frames := 4, cells := 0, slots := 0, locals := 104 } : Room) s m ([.ref (a 0), .int p0] : List Value).toArray below meth c H locs 0 0 Q (F0 m 2 ls []) := by
    intro n
    induction n with
    | zero =>
      intro x1_2 r1 H locs ls hm1 hf1_0 hRr hEr hx1 hP hD hS hl
      exact absurd hm1 (by omega)
    | succ n ih1 =>
      intro x1_2 r1 H locs ls hm1 hf1_0 hRr hEr hx1 hP hD hS hl
      refine lv_iload_n hx hb dX12_laysJoined_2 rfl (lv_at hl 0 rfl) ?_
      refine lv_bipush (v := 20) hx hb dX12_laysJoined_3 (by decide) ?_
      refine lv_icmp_ge (tgt := 28) hx hb dX12_laysJoined_5 (by decide) (fun c_2 => ?_) (fun c_2 => ?_)
      · have c_2 : 20 ≤ x1_2.toInt := b_le c_2
        refine lv_iconst (v := 0) hx hb dX12_laysJoined_28 (by decide) ?_
        refine lv_istore_n (lv' := [(2, .int 0), (0, .ref (a 0)), (1, .int p0)]) hx hb dX12_laysJoined_29 rfl hl (by decide) rfl (fun ls hl => ?_)
        have loop_3 : ∀ (n : Nat) (x3_2 : Int32) (r3 : Nat → Nat → Int32) (H : Heap) (locs : List Loc) (ls : Array Slot), (20 - x3_2.toInt).toNat < n → (0 ≤ x3_2.toInt ∧ x3_2.toInt ≤ 20) → mRr r3 → mEr [34, 35, 36, 37, 38, 39] r r3 → (gjY (gjH (r 12) p0.toNatClampNeg) (gjH (r 13) p0.toNatClampNeg) (gjH (r 14) p0.toNatClampNeg) (r 10 p0.toNatClampNeg).toNatClampNeg (gjH (r 16) p0.toNatClampNeg) (gjH (r 17) p0.toNatClampNeg) (gjH (r 18) p0.toNatClampNeg) (r 11 p0.toNatClampNeg).toNatClampNeg (x3_2.toNatClampNeg) (r3 34) (r3 39) ∧ x3_2.toInt ≤ (r 10 p0.toNatClampNeg).toInt) → va_P D vwCl (mW cy a i r3 rl) H → va_D A (mW cy a i r3 rl) → va_S A s.heap H locs → lv_has ls 3 [(2, .int x3_2), (0, .ref (a 0)), (1, .int p0)] → W p l e ({ frames := 4, cells := 0, slots := 0, locals := 104 } : Room) s m ([.ref (a 0), .int p0] : List Value).toArray below meth c H locs 0 0 Q (F0 m 30 ls []) := by
          intro n
          induction n with
          | zero =>
            intro x3_2 r3 H locs ls hm3 hf3_0 hRr hEr hx3 hP hD hS hl
            exact absurd hm3 (by omega)
          | succ n ih3 =>
            intro x3_2 r3 H locs ls hm3 hf3_0 hRr hEr hx3 hP hD hS hl
            refine lv_iload_n hx hb dX12_laysJoined_30 rfl (lv_at hl 0 rfl) ?_
            refine lv_aload_n hx hb dX12_laysJoined_31 rfl (lv_at hl 1 rfl) ?_
            refine va_get (D := D) (ci := 12) (v := .ref (a 10)) (C := RX12) (T := TX12) (N := 91) hx hb hT iX12 hown hK hP 0 rfl rfl 11 (by decide) (hT _ t_16) (fun _ h9 => h9) rfl dX12_laysJoined_32 ?_
            refine lv_iload_n hx hb dX12_laysJoined_35 rfl (lv_at hl 2 rfl) ?_
            refine va_iald hx hb hK hP 10 0 rfl rfl (vp_inI (by omega) (by omega)) dX12_laysJoined_36 ?_
            refine lv_topi (fun v_4 ev_4 => ?_)
            have hgv_4 : 0 ≤ v_4.toInt ∧ v_4.toInt ≤ 20 := by rw [ev_4]; exact hRr 10 _
            have hwv_4 : v_4.toInt = (r3 10 (p0.toNatClampNeg)).toInt := congrArg Int32.toInt ev_4
            have hmv_4 : v_4.toInt = (r 10 p0.toNatClampNeg).toInt := by rw [ev_4, hEr 10 (by decide)]
            refine lv_icmp_ge (tgt := 62) hx hb dX12_laysJoined_37 (by decide) (fun c_5 => ?_) (fun c_5 => ?_)
            · have c_5 : v_4.toInt ≤ x3_2.toInt := b_le c_5
              subst hQ
              have hk : x3_2.toNatClampNeg = (r 10 p0.toNatClampNeg).toNatClampNeg := by show x3_2.toInt.toNat = (r 10 p0.toNatClampNeg).toInt.toNat; omega
              have hY8 := hx3.1
              rw [hk] at hY8
              exact W.vret hx hb hr (fun t ht hW => ⟨⟨r3, rfl, ⟨hRr, hEr, (gjY_e hY8)⟩, by rw [ht]; exact hP, va_K.moved hW.alike hK, hD⟩, hS.F ht⟩) hS.2.2 dX12_laysJoined_62
            · have c_5 : x3_2.toInt < v_4.toInt := b_nle c_5
              refine lv_aload_n hx hb dX12_laysJoined_40 rfl (lv_at hl 1 rfl) ?_
              refine va_get (D := D) (ci := 12) (v := .ref (a 34)) (C := RX12) (T := TX12) (N := 91) hx hb hT iX12 hown hK hP 0 rfl rfl 45 (by decide) (hT _ t_32) (fun _ h9 => h9) rfl dX12_laysJoined_41 ?_
              refine lv_iload_n hx hb dX12_laysJoined_44 rfl (lv_at hl 0 rfl) ?_
              refine va_iald hx hb hK hP 34 0 rfl rfl (vp_inI (by omega) (by omega)) dX12_laysJoined_45 ?_
              refine lv_topi (fun v_6 ev_6 => ?_)
              have hgv_6 : -1 ≤ v_6.toInt ∧ v_6.toInt ≤ 99 := by rw [ev_6]; exact hRr 34 _
              have hin : x3_2.toNatClampNeg < (r 10 p0.toNatClampNeg).toNatClampNeg := by show x3_2.toInt.toNat < (r 10 p0.toNatClampNeg).toInt.toNat; omega
              refine lv_iconst (v := (-1)) hx hb dX12_laysJoined_46 (by decide) ?_
              refine lv_icmp_ne (tgt := 56) hx hb dX12_laysJoined_47 (by decide) (fun c_7 => ?_) (fun c_7 => ?_)
              · have c_7 : v_6.toInt ≠ (-1) := b_ne c_7
                have hyy := gjY_ye hx3.1 hin (by rw [← ev_6]; exact c_7)
                obtain ⟨x_8, ex_8⟩ : ∃ y : Int32, y = x3_2 + 1 := ⟨_, rfl⟩
                refine lv_iinc (v := x_8) (lv' := [(2, .int x_8), (0, .ref (a 0)), (1, .int p0)]) hx hb dX12_laysJoined_56 hl (k := 0) rfl (by rw [ex_8]; rfl) (by decide) rfl (fun ls hl => ?_)
                have hx_8 : x_8.toInt = x3_2.toInt + 1 := by rw [ex_8]; have := b_rg x3_2; exact i_add (a := x3_2.toInt) (b := 1) rfl rfl (by omega) (by omega)
                refine lv_goto (tgt := 30) hx hb dX12_laysJoined_59 (by decide) ?_
                have hk : x_8.toNatClampNeg = x3_2.toNatClampNeg + 1 := by show x_8.toInt.toNat = x3_2.toInt.toNat + 1; omega
                exact ih3 x_8 r3 _ _ _ (by first | omega | (simp only [Int.toNat]; omega)) (by first | omega | decide) hRr hEr ⟨gjY_k hx3.1 hyy hk, by omega⟩ hP hD hS (lv_sub hl [0, 1, 2] rfl)
              · have c_7 : v_6.toInt = (-1) := b_nne c_7
                have hnn := gjY_no hx3.1 hin (by rw [← ev_6]; exact c_7)
                have hnl : (r 11 p0.toNatClampNeg).toNatClampNeg ≤ 20 := by show (r 11 p0.toNatClampNeg).toInt.toNat ≤ 20; omega
                refine lv_aload_n hx hb dX12_laysJoined_50 rfl (lv_at hl 1 rfl) ?_
                refine lv_iload_n hx hb dX12_laysJoined_51 rfl (lv_at hl 2 rfl) ?_
                refine lv_iload_n hx hb dX12_laysJoined_52 rfl (lv_at hl 0 rfl) ?_
                have hA10 : r3 10 = r 10 := hEr 10 (by decide)
                have hA11 : r3 11 = r 11 := hEr 11 (by decide)
                have hA12 : r3 12 = r 12 := hEr 12 (by decide)
                have hA13 : r3 13 = r 13 := hEr 13 (by decide)
                have hA14 : r3 14 = r 14 := hEr 14 (by decide)
                have hA16 : r3 16 = r 16 := hEr 16 (by decide)
                have hA17 : r3 17 = r 17 := hEr 17 (by decide)
                have hA18 : r3 18 = r 18 := hEr 18 (by decide)
                have hF_9 := rF hD hS hA
                refine va_callv (va_runV (As := [.int p0, .int x3_2]) (rest := []) ⟨hx, hb, hml, hown, hT⟩ (c_X12_joinsAll9 l D cy a i r3 rl p0 x3_2 _ hRi hRr (by omega) (by omega) (by rw [hA10]; omega) (by rw [hA14, hA10]; exact hs1) (by rw [hA18, hA11]; exact hs2) (by rw [hA12, hA13]; exact gjY_f hx3.1 hnn) (by rw [hA11, hA12, hA13, hA16, hA17]; exact gjY_t hx3.1 hnn hnl)) (cwV 2 hT (gV t_61 t_62 t_63 t_64 t_6) rfl rfl rfl (by decide +kernel) ⟨Nat.le_of_ble_eq_true rfl, Nat.le_of_ble_eq_true rfl⟩) (rQ_v hP hK hD (va_recv hK hP (ci := 12) (q0 := 0) rfl rfl)) rfl rfl hl.1 rfl (lv_room (Nat.le_of_ble_eq_true rfl)) dX12_laysJoined_53 ⟨Nat.le_of_ble_eq_true rfl, Nat.le_of_ble_eq_true rfl⟩) hS (fun q _ h => hF_9 q h) hF_9 (fun u_11 t H1 locs ht hvm hr_10 hB hz1 hk1 hS => ?_)
                obtain ⟨r11, rfl⟩ : ∃ z, z = u_11 := ⟨_, rfl⟩
                obtain ⟨hP, hK1, hD1⟩ := hB
                rw [ht] at hP
                have hD := hD1.weaken (fun k q _ h => hF_9 q.1 h)
                have hP : va_P D vwCl (mW cy a i r11 rl) H1 := hP
                have hD : va_D A (mW cy a i r11 rl) := hD
                obtain ⟨hRr, hE2, hr_10⟩ := hr_10
                have hRr : mRr r11 := hRr
                have hEr : mEr [34, 35, 36, 37, 38, 39] _ r11 := Er_tr hEr hE2 (by decide)
                have hJ9 : gjA 99 (gjH (r3 12) p0.toNatClampNeg) (gjH (r3 13) p0.toNatClampNeg) (gjH (r3 14) p0.toNatClampNeg) (r3 10 p0.toNatClampNeg).toNatClampNeg (gjH (r3 16) p0.toNatClampNeg) (gjH (r3 17) p0.toNatClampNeg) (gjH (r3 18) p0.toNatClampNeg) (r3 11 p0.toNatClampNeg).toNatClampNeg (gjH (r3 12) p0.toNatClampNeg x3_2.toNatClampNeg) (gjH (r3 13) p0.toNatClampNeg x3_2.toNatClampNeg) (r3 10 p0.toNatClampNeg).toNatClampNeg (r3 34) (r11 34) (r3 39) (r11 39) := hr_10
                rw [hA10, hA11, hA12, hA13, hA14, hA16, hA17, hA18] at hJ9
                obtain ⟨x_12, ex_12⟩ : ∃ y : Int32, y = x3_2 + 1 := ⟨_, rfl⟩
                refine lv_iinc (v := x_12) (lv' := [(2, .int x_12), (0, .ref (a 0)), (1, .int p0)]) hx hb dX12_laysJoined_56 hl (k := 0) rfl (by rw [ex_12]; rfl) (by decide) rfl (fun ls hl => ?_)
                have hx_12 : x_12.toInt = x3_2.toInt + 1 := by rw [ex_12]; have := b_rg x3_2; exact i_add (a := x3_2.toInt) (b := 1) rfl rfl (by omega) (by omega)
                refine lv_goto (tgt := 30) hx hb dX12_laysJoined_59 (by decide) ?_
                have hk : x_12.toNatClampNeg = x3_2.toNatClampNeg + 1 := by show x_12.toInt.toNat = x3_2.toInt.toNat + 1; omega
                have hY8 := gjY_s (J2 := r11 34) (t2 := r11 39) hx3.1 hin hnn hJ9 hk
                exact ih3 x_12 r11 _ _ _ (by first | omega | (simp only [Int.toNat]; omega)) (by first | omega | decide) hRr hEr ⟨hY8, by omega⟩ hP hD hS (lv_sub hl [0, 1, 2] rfl)
        have h20 : x1_2.toNatClampNeg = 20 := by show x1_2.toInt.toNat = 20; omega
        have hc9 := hx1
        rw [h20] at hc9
        have hnf : (r 10 p0.toNatClampNeg).toNatClampNeg ≤ 20 := by show (r 10 p0.toNatClampNeg).toInt.toNat ≤ 20; omega
        exact loop_3 _ 0 r1 _ _ _ (Nat.lt_succ_self _) (by first | omega | decide) hRr hEr ⟨gjY_0 hnf hc9.1 hc9.2, by have h9 : (0 : Int32).toInt = 0 := rfl; omega⟩ hP hD hS hl
      · have c_2 : x1_2.toInt < 20 := b_nle c_2
        refine lv_aload_n hx hb dX12_laysJoined_8 rfl (lv_at hl 1 rfl) ?_
        refine va_get (D := D) (ci := 12) (v := .ref (a 34)) (C := RX12) (T := TX12) (N := 91) hx hb hT iX12 hown hK hP 0 rfl rfl 45 (by decide) (hT _ t_32) (fun _ h9 => h9) rfl dX12_laysJoined_9 ?_
        refine lv_iload_n hx hb dX12_laysJoined_12 rfl (lv_at hl 0 rfl) ?_
        refine lv_iconst (v := (-1)) hx hb dX12_laysJoined_13 (by decide) ?_
        refine va_iast hx hb hK hP hD hS 34 0 rfl rfl (vp_inI (by omega) (by omega)) dX12_laysJoined_14 (fun H locs hP hD hS => ?_)
        rw [mS34] at hP hD
        have hRr : mRr (va_up r1 34 (upd (r1 34) x1_2.toNatClampNeg (-1))) := Rr_upd hRr 34 (x1_2.toNatClampNeg) (-1) ⟨by decide, by decide⟩
        have hEr : mEr [34, 35, 36, 37, 38, 39] _ (va_up r1 34 (upd (r1 34) x1_2.toNatClampNeg (-1))) := Er_up hEr 34 _ (by decide)
        refine lv_aload_n hx hb dX12_laysJoined_15 rfl (lv_at hl 1 rfl) ?_
        refine va_get (D := D) (ci := 12) (v := .ref (a 39)) (C := RX12) (T := TX12) (N := 91) hx hb hT iX12 hown hK hP 0 rfl rfl 50 (by decide) (hT _ t_44) (fun _ h9 => h9) rfl dX12_laysJoined_16 ?_
        refine lv_iload_n hx hb dX12_laysJoined_19 rfl (lv_at hl 0 rfl) ?_
        refine lv_iconst (v := 0) hx hb dX12_laysJoined_20 (by decide) ?_
        refine va_zast hx hb hK hP hD hS 39 2 rfl rfl (vp_inI (by omega) (by omega)) dX12_laysJoined_21 (fun H locs hP hD hS => ?_)
        rw [mS39] at hP hD
        have hRr : mRr (va_up (va_up r1 34 (upd (r1 34) x1_2.toNatClampNeg (-1))) 39 (upd (r1 39) x1_2.toNatClampNeg (vp_nar .boolean 0))) := Rr_upd hRr 39 (x1_2.toNatClampNeg) (vp_nar .boolean 0) (b_rg _)
        have hEr : mEr [34, 35, 36, 37, 38, 39] _ (va_up (va_up r1 34 (upd (r1 34) x1_2.toNatClampNeg (-1))) 39 (upd (r1 39) x1_2.toNatClampNeg (vp_nar .boolean 0))) := Er_up hEr 39 _ (by decide)
        obtain ⟨x_13, ex_13⟩ : ∃ y : Int32, y = x1_2 + 1 := ⟨_, rfl⟩
        refine lv_iinc (v := x_13) (lv' := [(2, .int x_13), (0, .ref (a 0)), (1, .int p0)]) hx hb dX12_laysJoined_22 hl (k := 0) rfl (by rw [ex_13]; rfl) (by decide) rfl (fun ls hl => ?_)
        have hx_13 : x_13.toInt = x1_2.toInt + 1 := by rw [ex_13]; have := b_rg x1_2; exact i_add (a := x1_2.toInt) (b := 1) rfl rfl (by omega) (by omega)
        refine lv_goto (tgt := 2) hx hb dX12_laysJoined_25 (by decide) ?_
        have hk : x_13.toNatClampNeg = x1_2.toNatClampNeg + 1 := by show x_13.toInt.toNat = x1_2.toInt.toNat + 1; omega
        have hc34 : ∀ k, k < x_13.toNatClampNeg → (upd (r1 34) (x1_2.toNatClampNeg) (-1) k).toInt = -1 := fun k hk2 => by unfold upd; by_cases e9 : k = x1_2.toNatClampNeg; (· rw [if_pos e9]; decide); (· rw [if_neg e9]; exact hx1.1 k (by omega))
        have hc39 : ∀ k, k < x_13.toNatClampNeg → (upd (r1 39) (x1_2.toNatClampNeg) (vp_nar .boolean 0) k).toInt = 0 := fun k hk2 => by unfold upd; by_cases e9 : k = x1_2.toNatClampNeg; (· rw [if_pos e9]; decide); (· rw [if_neg e9]; exact hx1.2 k (by omega))
        exact ih1 x_13 (va_up (va_up r1 34 (upd (r1 34) x1_2.toNatClampNeg (-1))) 39 (upd (r1 39) x1_2.toNatClampNeg (vp_nar .boolean 0))) _ _ _ (by first | omega | (simp only [Int.toNat]; omega)) (by first | omega | decide) hRr hEr ⟨hc34, hc39⟩ hP hD hS (lv_sub hl [0, 1, 2] rfl)
  exact loop_1 _ 0 r _ _ _ (Nat.lt_succ_self _) (by first | omega | decide) hRr hEr ⟨fun k hk => absurd (show k < 0 from hk) (Nat.not_lt_zero k), fun k hk => absurd (show k < 0 from hk) (Nat.not_lt_zero k)⟩ hP hD hS hl
