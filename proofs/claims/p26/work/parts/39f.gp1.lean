/-- pictures: what is known of two of them by the facts that are not wrong (none: nothing) -/
def gpX (v : Nat → Nat → Option Int) (a b : Nat) (w : Int) : Nat → Nat → Option Int := fun p q =>
  match v p a with
  | none => v p q
  | some x =>
    match v b q with
    | none => v p q
    | some y =>
      match v p q with
      | none => some (x + w + y)
      | some z => some (if z < x + w + y then x + w + y else z)
def gpW (v : Nat → Nat → Option Int) (a b : Nat) (w : Int) : Bool :=
  match v b a with
  | none => false
  | some y => decide (0 < y + w)
def gpF (A B W : Nat → Int32) : Nat → (Nat → Nat → Option Int)
  | 0 => fun p q => if p = q then some 0 else none
  | f + 1 => if gpW (gpF A B W f) (A f).toNatClampNeg (B f).toNatClampNeg (W f).toInt = true then gpF A B W f else gpX (gpF A B W f) (A f).toNatClampNeg (B f).toNatClampNeg (W f).toInt
def gpV (A B W : Nat → Int32) (f : Nat) : Bool := gpW (gpF A B W f) (A f).toNatClampNeg (B f).toNatClampNeg (W f).toInt
def gpC (A B W : Nat → Int32) : Nat → Nat
  | 0 => 0
  | f + 1 => gpC A B W f + (if gpV A B W f = true then 1 else 0)
/-- a way over facts, and its end -/
def gpT (E : Nat → Nat → Int → Prop) : List Nat → Nat → Int → Prop
  | [], _, x => x = 0
  | c :: l, p, x => ∃ w y, E p c w ∧ gpT E l c y ∧ x = w + y
def gpN : List Nat → Nat → Nat
  | [], p => p
  | c :: l, _ => gpN l c
def gpS (E : Nat → Nat → Int → Prop) (p q : Nat) (x : Int) : Prop := ∃ l, gpT E l p x ∧ gpN l p = q ∧ (p :: l).Nodup ∧ ∀ c ∈ p :: l, c < 11
def gpI (E : Nat → Nat → Int → Prop) (v : Nat → Nat → Option Int) : Prop :=
  (∀ p, p < 11 → v p p = some 0) ∧
  (∀ a b w, E a b w → a < 11 ∧ b < 11 ∧ (-999 ≤ w ∧ w ≤ 999) ∧ ∃ y, v a b = some y ∧ w ≤ y) ∧
  (∀ p r q x y, p < 11 → r < 11 → q < 11 → v p r = some x → v r q = some y → ∃ z, v p q = some z ∧ x + y ≤ z) ∧
  (∀ p q x, p < 11 → q < 11 → v p q = some x → gpS E p q x)
section PICS
variable {E E2 : Nat → Nat → Int → Prop} {v : Nat → Nat → Option Int} {a b p q r : Nat} {w x y z : Int} {l m : List Nat}
theorem gpT_mo (h : ∀ c d u, E c d u → E2 c d u) : ∀ (l : List Nat) (p : Nat) (x : Int), gpT E l p x → gpT E2 l p x := by
  intro l
  induction l with
  | nil => intro p x h1; exact h1
  | cons c l ih =>
    intro p x h1
    obtain ⟨w, y, h2, h3, h4⟩ := h1
    exact ⟨w, y, h _ _ _ h2, ih c y h3, h4⟩
theorem gpT_bd (h : ∀ c d u, E c d u → -999 ≤ u ∧ u ≤ 999) : ∀ (l : List Nat) (p : Nat) (x : Int), gpT E l p x → -999 * (l.length : Int) ≤ x ∧ x ≤ 999 * (l.length : Int) := by
  intro l
  induction l with
  | nil =>
    intro p x h1
    have h2 : x = 0 := h1
    rw [h2]; exact ⟨by decide, by decide⟩
  | cons c l ih =>
    intro p x h1
    obtain ⟨w, y, h2, h3, h4⟩ := h1
    have h5 := ih c y h3
    have h6 := h _ _ _ h2
    rw [List.length_cons]
    omega
theorem gpT_N (h : ∀ c d u, E c d u → d < 11) : ∀ (l : List Nat) (p : Nat) (x : Int), p < 11 → gpT E l p x → gpN l p < 11 := by
  intro l
  induction l with
  | nil => intro p x hp _; exact hp
  | cons c l ih =>
    intro p x hp h1
    obtain ⟨w, y, h2, h3, h4⟩ := h1
    exact ih c y (h _ _ _ h2) h3
theorem gpN_app : ∀ (l : List Nat) (p : Nat), gpN (l ++ b :: m) p = gpN m b := by
  intro l
  induction l with
  | nil => intro p; rfl
  | cons c l ih => intro p; exact ih c
theorem gpT_app (h2 : gpT E m b y) : ∀ (l : List Nat) (p : Nat) (x : Int), gpT E l p x → E (gpN l p) b w → gpT E (l ++ b :: m) p (x + w + y) := by
  intro l
  induction l with
  | nil =>
    intro p x h1 h3
    have h4 : x = 0 := h1
    exact ⟨w, y, h3, h2, by omega⟩
  | cons c l ih =>
    intro p x h1 h3
    obtain ⟨u, t, h4, h5, h6⟩ := h1
    exact ⟨u, t + w + y, h4, ih c t h5 h3, by omega⟩
theorem gpI_e (h : gpI E v) : ∀ c d u, E c d u → d < 11 := fun c d u he => (h.2.1 c d u he).2.1
theorem gpI_bd (h : gpI E v) (hp : p < 11) (hq : q < 11) (hv : v p q = some x) : -9990 ≤ x ∧ x ≤ 9990 := by
  obtain ⟨l, h1, h2, h3, h4⟩ := h.2.2.2 p q x hp hq hv
  have h5 := gpT_bd (fun c d u he => (h.2.1 c d u he).2.2.1) l p x h1
  have h6 := List.Nodup.length_le_of_subset h3 (l₂ := List.range 11) (fun c hc => List.mem_range.mpr (h4 c hc))
  rw [List.length_range, List.length_cons] at h6
  omega
theorem gpT_le (h : gpI E v) : ∀ (l : List Nat) (p : Nat) (x : Int), p < 11 → gpT E l p x → ∃ z, v p (gpN l p) = some z ∧ x ≤ z := by
  intro l
  induction l with
  | nil =>
    intro p x hp h1
    have h2 : x = 0 := h1
    exact ⟨0, h.1 p hp, by omega⟩
  | cons c l ih =>
    intro p x hp h1
    obtain ⟨w, y, h2, h3, h4⟩ := h1
    obtain ⟨_, hc, _, y0, e0, l0⟩ := h.2.1 p c w h2
    obtain ⟨z1, e1, l1⟩ := ih c y hc h3
    obtain ⟨z, e2, l2⟩ := h.2.2.1 p c (gpN l c) y0 z1 hp hc (gpT_N (gpI_e h) l c y hc h3) e0 e1
    exact ⟨z, e2, by omega⟩
theorem gpT_sp (h : gpI E v) : ∀ (l : List Nat) (p : Nat) (x : Int), p < 11 → gpT E l p x → r ∈ p :: l → r < 11 ∧ ∃ x1 x2 X1 X2, v p r = some X1 ∧ v r (gpN l p) = some X2 ∧ x = x1 + x2 ∧ x1 ≤ X1 ∧ x2 ≤ X2 := by
  intro l
  induction l with
  | nil =>
    intro p x hp h1 hr
    have h2 : x = 0 := h1
    have h3 : r = p := List.mem_singleton.mp hr
    rw [h3]
    exact ⟨hp, 0, 0, 0, 0, h.1 p hp, h.1 p hp, by omega, by omega, by omega⟩
  | cons c l ih =>
    intro p x hp h1 hr
    by_cases e : r = p
    · rw [e]
      obtain ⟨z, e1, l1⟩ := gpT_le h (c :: l) p x hp h1
      exact ⟨hp, 0, x, 0, z, h.1 p hp, e1, by omega, by omega, l1⟩
    · obtain ⟨w, y, h2, h3, h4⟩ := h1
      obtain ⟨_, hc, _, y0, e0, l0⟩ := h.2.1 p c w h2
      have hr2 : r ∈ c :: l := (List.mem_cons.mp hr).resolve_left e
      obtain ⟨hr11, x1, x2, X1, X2, a1, a2, a3, a4, a5⟩ := ih c y hc h3 hr2
      obtain ⟨z, e2, l2⟩ := h.2.2.1 p c r y0 X1 hp hc hr11 e0 a1
      exact ⟨hr11, w + x1, x2, z, X2, e2, a2, by omega, by omega, a5⟩
theorem gpX_1 (h : v p a = none) : gpX v a b w p q = v p q := by simp only [gpX, h]
theorem gpX_2 (h : v b q = none) : gpX v a b w p q = v p q := by
  cases h1 : v p a with
  | none => exact gpX_1 h1
  | some x => simp only [gpX, h1, h]
theorem gpX_3 (h1 : v p a = some x) (h2 : v b q = some y) (h3 : v p q = none) : gpX v a b w p q = some (x + w + y) := by simp only [gpX, h1, h2, h3]
theorem gpX_4 (h1 : v p a = some x) (h2 : v b q = some y) (h3 : v p q = some z) : gpX v a b w p q = some (if z < x + w + y then x + w + y else z) := by simp only [gpX, h1, h2, h3]
theorem gpX_ch (h : gpX v a b w p q = some z) : v p q = some z ∨ ∃ x y, v p a = some x ∧ v b q = some y ∧ z = x + w + y ∧ ∀ z0, v p q = some z0 → z0 < z := by
  cases h1 : v p a with
  | none => rw [gpX_1 h1] at h; exact Or.inl h
  | some x =>
    cases h2 : v b q with
    | none => rw [gpX_2 h2] at h; exact Or.inl h
    | some y =>
      cases h3 : v p q with
      | none =>
        rw [gpX_3 h1 h2 h3] at h
        exact Or.inr ⟨x, y, rfl, rfl, (Option.some.inj h).symm, fun z0 h4 => absurd h4 (by intro h5; cases h5)⟩
      | some z0 =>
        rw [gpX_4 h1 h2 h3] at h
        have h4 := Option.some.inj h
        by_cases h5 : z0 < x + w + y
        · rw [if_pos h5] at h4
          exact Or.inr ⟨x, y, rfl, rfl, h4.symm, fun z1 h6 => by have h7 := Option.some.inj h6; omega⟩
        · rw [if_neg h5] at h4
          exact Or.inl (by rw [h4])
theorem gpX_mo (h : v p q = some z) : ∃ z2, gpX v a b w p q = some z2 ∧ z ≤ z2 := by
  cases h1 : v p a with
  | none => exact ⟨z, (gpX_1 h1).trans h, Int.le_refl _⟩
  | some x =>
    cases h2 : v b q with
    | none => exact ⟨z, (gpX_2 h2).trans h, Int.le_refl _⟩
    | some y =>
      refine ⟨_, gpX_4 h1 h2 h, ?_⟩
      by_cases h5 : z < x + w + y
      · rw [if_pos h5]; omega
      · rw [if_neg h5]; exact Int.le_refl _
theorem gpX_nw (h1 : v p a = some x) (h2 : v b q = some y) : ∃ z2, gpX v a b w p q = some z2 ∧ x + w + y ≤ z2 := by
  cases h3 : v p q with
  | none => exact ⟨_, gpX_3 h1 h2 h3, Int.le_refl _⟩
  | some z =>
    refine ⟨_, gpX_4 h1 h2 h3, ?_⟩
    by_cases h5 : z < x + w + y
    · rw [if_pos h5]; exact Int.le_refl _
    · rw [if_neg h5]; omega
theorem gpX_I (h : gpI E v) (ha : a < 11) (hb : b < 11) (hw : -999 ≤ w ∧ w ≤ 999) (hn : ∀ y, v b a = some y → y + w ≤ 0) : gpI (fun c d u => E c d u ∨ (c = a ∧ d = b ∧ u = w)) (gpX v a b w) := by
  refine ⟨?_, ?_, ?_, ?_⟩
  · intro p hp
    cases h1 : v p a with
    | none => rw [gpX_1 h1]; exact h.1 p hp
    | some x =>
      cases h2 : v b p with
      | none => rw [gpX_2 h2]; exact h.1 p hp
      | some y =>
        obtain ⟨z, e1, l1⟩ := h.2.2.1 b p a y x hb hp ha h2 h1
        rw [gpX_4 h1 h2 (h.1 p hp), if_neg (by have h3 := hn z e1; omega)]
  · intro c d u he
    rcases he with he | ⟨e1, e2, e3⟩
    · obtain ⟨h1, h2, h3, y0, h4, h5⟩ := h.2.1 c d u he
      obtain ⟨z2, h6, h7⟩ := gpX_mo (a := a) (b := b) (w := w) h4
      exact ⟨h1, h2, h3, z2, h6, by omega⟩
    · rw [e1, e2, e3]
      obtain ⟨z2, h6, h7⟩ := gpX_nw (w := w) (h.1 a ha) (h.1 b hb)
      exact ⟨ha, hb, hw, z2, h6, by omega⟩
  · intro p r q x y hp hr hq h1 h2
    rcases gpX_ch h1 with h1 | ⟨x1, y1, h1, h3, h4, _⟩
    · rcases gpX_ch h2 with h2 | ⟨x2, y2, h2, h5, h6, _⟩
      · obtain ⟨z, e1, l1⟩ := h.2.2.1 p r q x y hp hr hq h1 h2
        obtain ⟨z2, e2, l2⟩ := gpX_mo (a := a) (b := b) (w := w) e1
        exact ⟨z2, e2, by omega⟩
      · obtain ⟨z, e1, l1⟩ := h.2.2.1 p r a x x2 hp hr ha h1 h2
        obtain ⟨z2, e2, l2⟩ := gpX_nw (w := w) e1 h5
        exact ⟨z2, e2, by omega⟩
    · rcases gpX_ch h2 with h2 | ⟨x2, y2, h2, h5, h6, _⟩
      · obtain ⟨z, e1, l1⟩ := h.2.2.1 b r q y1 y hb hr hq h3 h2
        obtain ⟨z2, e2, l2⟩ := gpX_nw (w := w) h1 e1
        exact ⟨z2, e2, by omega⟩
      · obtain ⟨z, e1, l1⟩ := h.2.2.1 b r a y1 x2 hb hr ha h3 h2
        have h7 := hn z e1
        obtain ⟨z2, e2, l2⟩ := gpX_nw (w := w) h1 h5
        exact ⟨z2, e2, by omega⟩
  · intro p q x hp hq h1
    rcases gpX_ch h1 with h1 | ⟨x1, y1, h1, h3, h4, h5⟩
    · obtain ⟨l, g1, g2, g3, g4⟩ := h.2.2.2 p q x hp hq h1
      exact ⟨l, gpT_mo (fun c d u he => Or.inl he) l p x g1, g2, g3, g4⟩
    · obtain ⟨l, g1, g2, g3, g4⟩ := h.2.2.2 p a x1 hp ha h1
      obtain ⟨m, f1, f2, f3, f4⟩ := h.2.2.2 b q y1 hb hq h3
      have hd : ∀ c, c ∈ p :: l → c ∈ b :: m → False := by
        intro c hc hc2
        obtain ⟨hc11, u1, u2, U1, U2, i1, i2, i3, i4, i5⟩ := gpT_sp h l p x1 hp g1 hc
        obtain ⟨_, t1, t2, T1, T2, j1, j2, j3, j4, j5⟩ := gpT_sp h m b y1 hb f1 hc2
        rw [g2] at i2; rw [f2] at j2
        obtain ⟨z1, k1, k2⟩ := h.2.2.1 b c a T1 U2 hb hc11 ha j1 i2
        obtain ⟨z2, k3, k4⟩ := h.2.2.1 p c q U1 T2 hp hc11 hq i1 j2
        have k5 := hn z1 k1
        have k6 := h5 z2 k3
        omega
      refine ⟨l ++ b :: m, ?_, ?_, ?_, ?_⟩
      · rw [h4]
        exact gpT_app (gpT_mo (fun c d u he => Or.inl he) m b y1 f1) l p x1 (gpT_mo (fun c d u he => Or.inl he) l p x1 g1) (Or.inr ⟨g2, rfl, rfl⟩)
      · rw [gpN_app]; exact f2
      · rw [← List.cons_append]
        exact List.nodup_append.mpr ⟨g3, f3, fun c hc d hd2 e => hd c hc (by rw [e]; exact hd2)⟩
      · rw [← List.cons_append]
        intro c hc
        rcases List.mem_append.mp hc with hc | hc
        · exact g4 c hc
        · exact f4 c hc
theorem gpW_n (h : gpW v a b w = false) : ∀ y, v b a = some y → y + w ≤ 0 := by
  intro y hy
  unfold gpW at h
  rw [hy] at h
  have h2 := of_decide_eq_false h
  omega
end PICS
/-- what a step needs to know -/
def gpB (v : Nat → Nat → Option Int) : Prop := ∀ p q x, p < 11 → q < 11 → v p q = some x → -9990 ≤ x ∧ x ≤ 9990
def gpR (U : Int) (g : Nat → Int32) (v : Nat → Nat → Option Int) : Prop := ∀ p q, p < 11 → q < 11 → (g (11 * p + q)).toInt = (v p q).getD U
section PICR
variable {U : Int} {g : Nat → Int32} {v v2 : Nat → Nat → Option Int} {P Q p q a b : Nat} {w : Int}
end PICR
theorem gpF_I {A B W : Nat → Int32} (hA : ∀ f, 0 ≤ (A f).toInt ∧ (A f).toInt ≤ 10) (hB : ∀ f, 0 ≤ (B f).toInt ∧ (B f).toInt ≤ 10) (hW : ∀ f, -999 ≤ (W f).toInt ∧ (W f).toInt ≤ 999) : ∀ n, ∃ E, gpI E (gpF A B W n) := by
  intro n
  induction n with
  | zero =>
    refine ⟨fun _ _ _ => False, ?_, ?_, ?_, ?_⟩
    · intro p _; exact if_pos rfl
    · intro a b w h; exact absurd h id
    · intro p r q x y _ _ _ h1 h2
      have e1 : p = r := by
        by_cases e : p = r
        · exact e
        · have h3 : (if p = r then some (0 : Int) else none) = some x := h1
          rw [if_neg e] at h3; cases h3
      have e2 : r = q := by
        by_cases e : r = q
        · exact e
        · have h3 : (if r = q then some (0 : Int) else none) = some y := h2
          rw [if_neg e] at h3; cases h3
      subst e1; subst e2
      have h3 : (if p = p then some (0 : Int) else none) = some x := h1
      have h4 : (if p = p then some (0 : Int) else none) = some y := h2
      rw [if_pos rfl] at h3 h4
      have h5 := Option.some.inj h3
      have h6 := Option.some.inj h4
      exact ⟨0, if_pos rfl, by omega⟩
    · intro p q x hp _ h1
      have e1 : p = q := by
        by_cases e : p = q
        · exact e
        · have h3 : (if p = q then some (0 : Int) else none) = some x := h1
          rw [if_neg e] at h3; cases h3
      subst e1
      have h3 : (if p = p then some (0 : Int) else none) = some x := h1
      rw [if_pos rfl] at h3
      refine ⟨[], (Option.some.inj h3).symm, rfl, ?_, ?_⟩
      · exact List.nodup_cons.mpr ⟨List.not_mem_nil, List.nodup_nil⟩
      · intro c hc; rw [List.mem_singleton.mp hc]; exact hp
  | succ n ih =>
    obtain ⟨E, h⟩ := ih
    by_cases e : gpW (gpF A B W n) (A n).toNatClampNeg (B n).toNatClampNeg (W n).toInt = true
    · exact ⟨E, by rw [gpF, if_pos e]; exact h⟩
    · refine ⟨fun c d u => E c d u ∨ (c = (A n).toNatClampNeg ∧ d = (B n).toNatClampNeg ∧ u = (W n).toInt), ?_⟩
      · rw [gpF, if_neg e]
        exact gpX_I h (by show (A n).toInt.toNat < 11; have := hA n; omega) (by show (B n).toInt.toNat < 11; have := hB n; omega) (hW n) (gpW_n (Bool.eq_false_iff.mpr e))
theorem gpF_B {A B W : Nat → Int32} (hA : ∀ f, 0 ≤ (A f).toInt ∧ (A f).toInt ≤ 10) (hB : ∀ f, 0 ≤ (B f).toInt ∧ (B f).toInt ≤ 10) (hW : ∀ f, -999 ≤ (W f).toInt ∧ (W f).toInt ≤ 999) (n : Nat) : gpB (gpF A B W n) := by
  obtain ⟨E, h⟩ := gpF_I hA hB hW n
  exact fun p q x hp hq hv => gpI_bd h hp hq hv
section PICM
variable {v : Nat → Nat → Option Int} {p q a b : Nat} {w : Int} {x1 x2 x3 s1 s2 : Int32}
end PICM
/-- the pictures of the two objects: rows of facts, gaps, wrong ones -/
def RPX (im : Nat → Int32) (rm : Nat → Nat → Int32) (i : Nat → Int32) (r : Nat → Nat → Int32) : Prop :=
  gpR (-1000000) (r 60) (gpF (rm 58) (rm 59) (rm 60) (im 72).toNatClampNeg) ∧ (i 16).toInt = (gpC (rm 58) (rm 59) (rm 60) (im 72).toNatClampNeg : Int) ∧ ∀ f, f < (im 72).toNatClampNeg → gpV (rm 58) (rm 59) (rm 60) f = true → (r 59 (gpC (rm 58) (rm 59) (rm 60) f)).toInt = (f : Int)
