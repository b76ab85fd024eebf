/-- pictures: what is known of two of them by the facts that are not wrong (none: nothing) -/
def gpX (v : Nat → Nat → Option Int) (a b : Nat) (w : Int) : Nat → Nat → Option Int := fun p q =>
  match v p a with
  | none => v p q
  | some x =>
    match v b q with
    | none => v p q
    | some y =>
      match v p q with
      | none => some (x + w + y)
      | some z => some (if z < x + w + y then x + w + y else z)
def gpW (v : Nat → Nat → Option Int) (a b : Nat) (w : Int) : Bool :=
  match v b a with
  | none => false
  | some y => decide (0 < y + w)
def gpF (A B W : Nat → Int32) : Nat → (Nat → Nat → Option Int)
  | 0 => fun p q => if p = q then some 0 else none
  | f + 1 => if gpW (gpF A B W f) (A f).toNatClampNeg (B f).toNatClampNeg (W f).toInt = true then gpF A B W f else gpX (gpF A B W f) (A f).toNatClampNeg (B f).toNatClampNeg (W f).toInt
def gpV (A B W : Nat → Int32) (f : Nat) : Bool := gpW (gpF A B W f) (A f).toNatClampNeg (B f).toNatClampNeg (W f).toInt
def gpC (A B W : Nat → Int32) : Nat → Nat
  | 0 => 0
  | f + 1 => gpC A B W f + (if gpV A B W f = true then 1 else 0)
/-- a way over facts, and its end -/
def gpT (E : Nat → Nat → Int → Prop) : List Nat → Nat → Int → Prop
  | [], _, x => x = 0
  | c :: l, p, x => ∃ w y, E p c w ∧ gpT E l c y ∧ x = w + y
def gpN : List Nat → Nat → Nat
  | [], p => p
  | c :: l, _ => gpN l c
def gpS (E : Nat → Nat → Int → Prop) (p q : Nat) (x : Int) : Prop := ∃ l, gpT E l p x ∧ gpN l p = q ∧ (p :: l).Nodup ∧ ∀ c ∈ p :: l, c < 11
def gpI (E : Nat → Nat → Int → Prop) (v : Nat → Nat → Option Int) : Prop :=
  (∀ p, p < 11 → v p p = some 0) ∧
  (∀ a b w, E a b w → a < 11 ∧ b < 11 ∧ (-999 ≤ w ∧ w ≤ 999) ∧ ∃ y, v a b = some y ∧ w ≤ y) ∧
  (∀ p r q x y, p < 11 → r < 11 → q < 11 → v p r = some x → v r q = some y → ∃ z, v p q = some z ∧ x + y ≤ z) ∧
  (∀ p q x, p < 11 → q < 11 → v p q = some x → gpS E p q x)
section PICS
variable {E E2 : Nat → Nat → Int → Prop} {v : Nat → Nat → Option Int} {a b p q r : Nat} {w x y z : Int} {l m : List Nat}
theorem gpT_mo (h : ∀ c d u, E c d u → E2 c d u) : ∀ (l : List Nat) (p : Nat) (x : Int), gpT E l p x → gpT E2 l p x := by
  intro l
  induction l with
  | nil => intro p x h1; exact h1
  | cons c l ih =>
    intro p x h1
    obtain ⟨w, y, h2, h3, h4⟩ := h1
    exact ⟨w, y, h _ _ _ h2, ih c y h3, h4⟩
theorem gpT_bd (h : ∀ c d u, E c d u → -999 ≤ u ∧ u ≤ 999) : ∀ (l : List Nat) (p : Nat) (x : Int), gpT E l p x → -999 * (l.length : Int) ≤ x ∧ x ≤ 999 * (l.length : Int) := by
  intro l
  induction l with
  | nil =>
    intro p x h1
    have h2 : x = 0 := h1
    rw [h2]; exact ⟨by decide, by decide⟩
  | cons c l ih =>
    intro p x h1
    obtain ⟨w, y, h2, h3, h4⟩ := h1
    have h5 := ih c y h3
    have h6 := h _ _ _ h2
    rw [List.length_cons]
    omega
theorem gpT_N (h : ∀ c d u, E c d u → d < 11) : ∀ (l : List Nat) (p : Nat) (x : Int), p < 11 → gpT E l p x → gpN l p < 11 := by
  intro l
  induction l with
  | nil => intro p x hp _; exact hp
  | cons c l ih =>
    intro p x hp h1
    obtain ⟨w, y, h2, h3, h4⟩ := h1
    exact ih c y (h _ _ _ h2) h3
theorem gpN_app : ∀ (l : List Nat) (p : Nat), gpN (l ++ b :: m) p = gpN m b := by
  intro l
  induction l with
  | nil => intro p; rfl
  | cons c l ih => intro p; exact ih c
theorem gpT_app (h2 : gpT E m b y) : ∀ (l : List Nat) (p : Nat) (x : Int), gpT E l p x → E (gpN l p) b w → gpT E (l ++ b :: m) p (x + w + y) := by
  intro l
  induction l with
  | nil =>
    intro p x h1 h3
    have h4 : x = 0 := h1
    exact ⟨w, y, h3, h2, by omega⟩
  | cons c l ih =>
    intro p x h1 h3
    obtain ⟨u, t, h4, h5, h6⟩ := h1
    exact ⟨u, t + w + y, h4, ih c t h5 h3, by omega⟩
theorem gpI_e (h : gpI E v) : ∀ c d u, E c d u → d < 11 := fun c d u he => (h.2.1 c d u he).2.1
theorem gpI_bd (h : gpI E v) (hp : p < 11) (hq : q < 11) (hv : v p q = some x) : -9990 ≤ x ∧ x ≤ 9990 := by
  obtain ⟨l, h1, h2, h3, h4⟩ := h.2.2.2 p q x hp hq hv
  have h5 := gpT_bd (fun c d u he => (h.2.1 c d u he).2.2.1) l p x h1
  have h6 := List.Nodup.length_le_of_subset h3 (l₂ := List.range 11) (fun c hc => List.mem_range.mpr (h4 c hc))
  rw [List.length_range, List.length_cons] at h6
  omega
theorem gpT_le (h : gpI E v) : ∀ (l : List Nat) (p : Nat) (x : Int), p < 11 → gpT E l p x → ∃ z, v p (gpN l p) = some z ∧ x ≤ z := by
  intro l
  induction l with
  | nil =>
    intro p x hp h1
    have h2 : x = 0 := h1
    exact ⟨0, h.1 p hp, by omega⟩
  | cons c l ih =>
    intro p x hp h1
    obtain ⟨w, y, h2, h3, h4⟩ := h1
    obtain ⟨_, hc, _, y0, e0, l0⟩ := h.2.1 p c w h2
    obtain ⟨z1, e1, l1⟩ := ih c y hc h3
    obtain ⟨z, e2, l2⟩ := h.2.2.1 p c (gpN l c) y0 z1 hp hc (gpT_N (gpI_e h) l c y hc h3) e0 e1
    exact ⟨z, e2, by omega⟩
theorem gpT_sp (h : gpI E v) : ∀ (l : List Nat) (p : Nat) (x : Int), p < 11 → gpT E l p x → r ∈ p :: l → r < 11 ∧ ∃ x1 x2 X1 X2, v p r = some X1 ∧ v r (gpN l p) = some X2 ∧ x = x1 + x2 ∧ x1 ≤ X1 ∧ x2 ≤ X2 := by
  intro l
  induction l with
  | nil =>
    intro p x hp h1 hr
    have h2 : x = 0 := h1
    have h3 : r = p := List.mem_singleton.mp hr
    rw [h3]
    exact ⟨hp, 0, 0, 0, 0, h.1 p hp, h.1 p hp, by omega, by omega, by omega⟩
  | cons c l ih =>
    intro p x hp h1 hr
    by_cases e : r = p
    · rw [e]
      obtain ⟨z, e1, l1⟩ := gpT_le h (c :: l) p x hp h1
      exact ⟨hp, 0, x, 0, z, h.1 p hp, e1, by omega, by omega, l1⟩
    · obtain ⟨w, y, h2, h3, h4⟩ := h1
      obtain ⟨_, hc, _, y0, e0, l0⟩ := h.2.1 p c w h2
      have hr2 : r ∈ c :: l := (List.mem_cons.mp hr).resolve_left e
      obtain ⟨hr11, x1, x2, X1, X2, a1, a2, a3, a4, a5⟩ := ih c y hc h3 hr2
      obtain ⟨z, e2, l2⟩ := h.2.2.1 p c r y0 X1 hp hc hr11 e0 a1
      exact ⟨hr11, w + x1, x2, z, X2, e2, a2, by omega, by omega, a5⟩
theorem gpX_1 (h : v p a = none) : gpX v a b w p q = v p q := by simp only [gpX, h]
theorem gpX_2 (h : v b q = none) : gpX v a b w p q = v p q := by
  cases h1 : v p a with
  | none => exact gpX_1 h1
  | some x => simp only [gpX, h1, h]
theorem gpX_3 (h1 : v p a = some x) (h2 : v b q = some y) (h3 : v p q = none) : gpX v a b w p q = some (x + w + y) := by simp only [gpX, h1, h2, h3]
theorem gpX_4 (h1 : v p a = some x) (h2 : v b q = some y) (h3 : v p q = some z) : gpX v a b w p q = some (if z < x + w + y then x + w + y else z) := by simp only [gpX, h1, h2, h3]
theorem gpX_ch (h : gpX v a b w p q = some z) : v p q = some z ∨ ∃ x y, v p a = some x ∧ v b q = some y ∧ z = x + w + y ∧ ∀ z0, v p q = some z0 → z0 < z := by
  cases h1 : v p a with
  | none => rw [gpX_1 h1] at h; exact Or.inl h
  | some x =>
    cases h2 : v b q with
    | none => rw [gpX_2 h2] at h; exact Or.inl h
    | some y =>
      cases h3 : v p q with
      | none =>
        rw [gpX_3 h1 h2 h3] at h
        exact Or.inr ⟨x, y, rfl, rfl, (Option.some.inj h).symm, fun z0 h4 => absurd h4 (by intro h5; cases h5)⟩
      | some z0 =>
        rw [gpX_4 h1 h2 h3] at h
        have h4 := Option.some.inj h
        by_cases h5 : z0 < x + w + y
        · rw [if_pos h5] at h4
          exact Or.inr ⟨x, y, rfl, rfl, h4.symm, fun z1 h6 => by have h7 := Option.some.inj h6; omega⟩
        · rw [if_neg h5] at h4
          exact Or.inl (by rw [h4])
theorem gpX_mo (h : v p q = some z) : ∃ z2, gpX v a b w p q = some z2 ∧ z ≤ z2 := by
  cases h1 : v p a with
  | none => exact ⟨z, (gpX_1 h1).trans h, Int.le_refl _⟩
  | some x =>
    cases h2 : v b q with
    | none => exact ⟨z, (gpX_2 h2).trans h, Int.le_refl _⟩
    | some y =>
      refine ⟨_, gpX_4 h1 h2 h, ?_⟩
      by_cases h5 : z < x + w + y
      · rw [if_pos h5]; omega
      · rw [if_neg h5]; exact Int.le_refl _
theorem gpX_nw (h1 : v p a = some x) (h2 : v b q = some y) : ∃ z2, gpX v a b w p q = some z2 ∧ x + w + y ≤ z2 := by
  cases h3 : v p q with
  | none => exact ⟨_, gpX_3 h1 h2 h3, Int.le_refl _⟩
  | some z =>
    refine ⟨_, gpX_4 h1 h2 h3, ?_⟩
    by_cases h5 : z < x + w + y
    · rw [if_pos h5]; exact Int.le_refl _
    · rw [if_neg h5]; omega
theorem gpX_a (hn : ∀ y, v b a = some y → y + w ≤ 0) : gpX v a b w p a = v p a := by
  cases h1 : v p a with
  | none => rw [gpX_1 h1]; exact h1
  | some x =>
    cases h2 : v b a with
    | none => rw [gpX_2 h2]; exact h1
    | some y => rw [gpX_4 h1 h2 h1, if_neg (by have h3 := hn y h2; omega)]
theorem gpX_b (hn : ∀ y, v b a = some y → y + w ≤ 0) : gpX v a b w b q = v b q := by
  cases h2 : v b q with
  | none => rw [gpX_2 h2]; exact h2
  | some y =>
    cases h1 : v b a with
    | none => rw [gpX_1 h1]; exact h2
    | some x => rw [gpX_4 h1 h2 h2, if_neg (by have h3 := hn x h1; omega)]
theorem gpX_I (h : gpI E v) (ha : a < 11) (hb : b < 11) (hw : -999 ≤ w ∧ w ≤ 999) (hn : ∀ y, v b a = some y → y + w ≤ 0) : gpI (fun c d u => E c d u ∨ (c = a ∧ d = b ∧ u = w)) (gpX v a b w) := by
  refine ⟨?_, ?_, ?_, ?_⟩
  · intro p hp
    cases h1 : v p a with
    | none => rw [gpX_1 h1]; exact h.1 p hp
    | some x =>
      cases h2 : v b p with
      | none => rw [gpX_2 h2]; exact h.1 p hp
      | some y =>
        obtain ⟨z, e1, l1⟩ := h.2.2.1 b p a y x hb hp ha h2 h1
        rw [gpX_4 h1 h2 (h.1 p hp), if_neg (by have h3 := hn z e1; omega)]
  · intro c d u he
    rcases he with he | ⟨e1, e2, e3⟩
    · obtain ⟨h1, h2, h3, y0, h4, h5⟩ := h.2.1 c d u he
      obtain ⟨z2, h6, h7⟩ := gpX_mo (a := a) (b := b) (w := w) h4
      exact ⟨h1, h2, h3, z2, h6, by omega⟩
    · rw [e1, e2, e3]
      obtain ⟨z2, h6, h7⟩ := gpX_nw (w := w) (h.1 a ha) (h.1 b hb)
      exact ⟨ha, hb, hw, z2, h6, by omega⟩
  · intro p r q x y hp hr hq h1 h2
    rcases gpX_ch h1 with h1 | ⟨x1, y1, h1, h3, h4, _⟩
    · rcases gpX_ch h2 with h2 | ⟨x2, y2, h2, h5, h6, _⟩
      · obtain ⟨z, e1, l1⟩ := h.2.2.1 p r q x y hp hr hq h1 h2
        obtain ⟨z2, e2, l2⟩ := gpX_mo (a := a) (b := b) (w := w) e1
        exact ⟨z2, e2, by omega⟩
      · obtain ⟨z, e1, l1⟩ := h.2.2.1 p r a x x2 hp hr ha h1 h2
        obtain ⟨z2, e2, l2⟩ := gpX_nw (w := w) e1 h5
        exact ⟨z2, e2, by omega⟩
    · rcases gpX_ch h2 with h2 | ⟨x2, y2, h2, h5, h6, _⟩
      · obtain ⟨z, e1, l1⟩ := h.2.2.1 b r q y1 y hb hr hq h3 h2
        obtain ⟨z2, e2, l2⟩ := gpX_nw (w := w) h1 e1
        exact ⟨z2, e2, by omega⟩
      · obtain ⟨z, e1, l1⟩ := h.2.2.1 b r a y1 x2 hb hr ha h3 h2
        have h7 := hn z e1
        obtain ⟨z2, e2, l2⟩ := gpX_nw (w := w) h1 h5
        exact ⟨z2, e2, by omega⟩
  · intro p q x hp hq h1
    rcases gpX_ch h1 with h1 | ⟨x1, y1, h1, h3, h4, h5⟩
    · obtain ⟨l, g1, g2, g3, g4⟩ := h.2.2.2 p q x hp hq h1
      exact ⟨l, gpT_mo (fun c d u he => Or.inl he) l p x g1, g2, g3, g4⟩
    · obtain ⟨l, g1, g2, g3, g4⟩ := h.2.2.2 p a x1 hp ha h1
      obtain ⟨m, f1, f2, f3, f4⟩ := h.2.2.2 b q y1 hb hq h3
      have hd : ∀ c, c ∈ p :: l → c ∈ b :: m → False := by
        intro c hc hc2
        obtain ⟨hc11, u1, u2, U1, U2, i1, i2, i3, i4, i5⟩ := gpT_sp h l p x1 hp g1 hc
        obtain ⟨_, t1, t2, T1, T2, j1, j2, j3, j4, j5⟩ := gpT_sp h m b y1 hb f1 hc2
        rw [g2] at i2; rw [f2] at j2
        obtain ⟨z1, k1, k2⟩ := h.2.2.1 b c a T1 U2 hb hc11 ha j1 i2
        obtain ⟨z2, k3, k4⟩ := h.2.2.1 p c q U1 T2 hp hc11 hq i1 j2
        have k5 := hn z1 k1
        have k6 := h5 z2 k3
        omega
      refine ⟨l ++ b :: m, ?_, ?_, ?_, ?_⟩
      · rw [h4]
        exact gpT_app (gpT_mo (fun c d u he => Or.inl he) m b y1 f1) l p x1 (gpT_mo (fun c d u he => Or.inl he) l p x1 g1) (Or.inr ⟨g2, rfl, rfl⟩)
      · rw [gpN_app]; exact f2
      · rw [← List.cons_append]
        exact List.nodup_append.mpr ⟨g3, f3, fun c hc d hd2 e => hd c hc (by rw [e]; exact hd2)⟩
      · rw [← List.cons_append]
        intro c hc
        rcases List.mem_append.mp hc with hc | hc
        · exact g4 c hc
        · exact f4 c hc
theorem gpW_n (h : gpW v a b w = false) : ∀ y, v b a = some y → y + w ≤ 0 := by
  intro y hy
  unfold gpW at h
  rw [hy] at h
  have h2 := of_decide_eq_false h
  omega
end PICS
/-- what a step needs to know -/
def gpB (v : Nat → Nat → Option Int) : Prop := ∀ p q x, p < 11 → q < 11 → v p q = some x → -9990 ≤ x ∧ x ≤ 9990
def gpR (U : Int) (g : Nat → Int32) (v : Nat → Nat → Option Int) : Prop := ∀ p q, p < 11 → q < 11 → (g (11 * p + q)).toInt = (v p q).getD U
def gpL (U : Int) (g : Nat → Int32) (v v2 : Nat → Nat → Option Int) (P Q : Nat) : Prop := ∀ p q, p < 11 → q < 11 → (g (11 * p + q)).toInt = (if p < P ∨ (p = P ∧ q < Q) then v2 p q else v p q).getD U
section PICR
variable {U : Int} {g : Nat → Int32} {v v2 : Nat → Nat → Option Int} {P Q p q a b : Nat} {w : Int}
theorem gpL_0 (h : gpR U g v) : gpL U g v v2 0 0 := fun p q hp hq => by rw [if_neg (by omega)]; exact h p q hp hq
theorem gpL_r (h : gpL U g v v2 P 11) : gpL U g v v2 (P + 1) 0 := fun p q hp hq => by
  rw [h p q hp hq]
  by_cases e : p < P ∨ (p = P ∧ q < 11)
  · rw [if_pos e, if_pos (by omega)]
  · rw [if_neg e, if_neg (by omega)]
theorem gpL_e (h : gpL U g v v2 11 Q) : gpR U g v2 := fun p q hp hq => by rw [h p q hp hq, if_pos (Or.inl hp)]
theorem gpL_k (h : gpL U g v v2 P Q) (e : (v2 P Q).getD U = (v P Q).getD U) : gpL U g v v2 P (Q + 1) := fun p q hp hq => by
  rw [h p q hp hq]
  by_cases e1 : p < P ∨ (p = P ∧ q < Q)
  · rw [if_pos e1, if_pos (by omega)]
  · rw [if_neg e1]
    by_cases e2 : p = P ∧ q = Q
    · rw [if_pos (by omega), e2.1, e2.2]; exact e.symm
    · rw [if_neg (by omega)]
theorem gpL_s {k : Nat} {x : Int32} (h : gpL U g v v2 P Q) (hk : k = 11 * P + Q) (hQ : Q < 11) (e : x.toInt = (v2 P Q).getD U) : gpL U (upd g k x) v v2 P (Q + 1) := fun p q hp hq => by
  unfold upd
  by_cases e0 : 11 * p + q = k
  · have e1 : p = P := by omega
    have e2 : q = Q := by omega
    rw [if_pos e0, if_pos (by omega), e1, e2]; exact e
  · rw [if_neg e0, h p q hp hq]
    by_cases e1 : p < P ∨ (p = P ∧ q < Q)
    · rw [if_pos e1, if_pos (by omega)]
    · rw [if_neg e1, if_neg (by omega)]
theorem gpL_at (h : gpL U g v v2 P Q) (hp : p < 11) (hq : q < 11) (e : v2 p q = v p q) : (g (11 * p + q)).toInt = (v p q).getD U := by
  rw [h p q hp hq]
  by_cases e1 : p < P ∨ (p = P ∧ q < Q)
  · rw [if_pos e1, e]
  · rw [if_neg e1]
theorem gpL_un (h : gpL U g v v2 P Q) (hP : P < 11) (hQ : Q < 11) : (g (11 * P + Q)).toInt = (v P Q).getD U := by
  rw [h P Q hP hQ, if_neg (by omega)]
theorem gpD_or (hb : gpB v) (hp : p < 11) (hq : q < 11) : (v p q = none ∧ (v p q).getD U = U) ∨ ∃ x, v p q = some x ∧ (v p q).getD U = x ∧ -9990 ≤ x ∧ x ≤ 9990 := by
  cases h : v p q with
  | none => exact Or.inl ⟨rfl, rfl⟩
  | some x => exact Or.inr ⟨x, rfl, rfl, hb p q x hp hq h⟩
/-- a cell of a step, in ints -/
theorem gpX_no1 (hU : U ≤ -100000) (hb : gpB v) (hp : p < 11) (ha : a < 11) (h : (v p a).getD U = U) : (gpX v a b w p q).getD U = (v p q).getD U := by
  rcases gpD_or (U := U) hb hp ha with ⟨h1, _⟩ | ⟨x, h1, h2, h3⟩
  · rw [gpX_1 h1]
  · omega
theorem gpX_no2 (hU : U ≤ -100000) (hb : gpB v) (hb1 : b < 11) (hq : q < 11) (h : (v b q).getD U = U) : (gpX v a b w p q).getD U = (v p q).getD U := by
  rcases gpD_or (U := U) hb hb1 hq with ⟨h1, _⟩ | ⟨x, h1, h2, h3⟩
  · rw [gpX_2 h1]
  · omega
theorem gpX_yes (hU : U ≤ -100000) (hw : -999 ≤ w ∧ w ≤ 999) (hb : gpB v) (hp : p < 11) (ha : a < 11) (hb1 : b < 11) (hq : q < 11) (h1 : (v p a).getD U ≠ U) (h2 : (v b q).getD U ≠ U) :
    (gpX v a b w p q).getD U = if (v p q).getD U < (v p a).getD U + w + (v b q).getD U then (v p a).getD U + w + (v b q).getD U else (v p q).getD U := by
  rcases gpD_or (U := U) hb hp ha with ⟨_, h3⟩ | ⟨x, e1, e2, e3⟩
  · exact absurd h3 h1
  · rcases gpD_or (U := U) hb hb1 hq with ⟨_, h3⟩ | ⟨y, f1, f2, f3⟩
    · exact absurd h3 h2
    · rw [e2, f2]
      cases h3 : v p q with
      | none => rw [gpX_3 e1 f1 h3, if_pos (by show U < _; omega)]; rfl
      | some z =>
        rw [gpX_4 e1 f1 h3]; rfl
end PICR
theorem gpF_I {A B W : Nat → Int32} (hA : ∀ f, 0 ≤ (A f).toInt ∧ (A f).toInt ≤ 10) (hB : ∀ f, 0 ≤ (B f).toInt ∧ (B f).toInt ≤ 10) (hW : ∀ f, -999 ≤ (W f).toInt ∧ (W f).toInt ≤ 999) : ∀ n, ∃ E, gpI E (gpF A B W n) := by
  intro n
  induction n with
  | zero =>
    refine ⟨fun _ _ _ => False, ?_, ?_, ?_, ?_⟩
    · intro p _; exact if_pos rfl
    · intro a b w h; exact absurd h id
    · intro p r q x y _ _ _ h1 h2
      have e1 : p = r := by
        by_cases e : p = r
        · exact e
        · have h3 : (if p = r then some (0 : Int) else none) = some x := h1
          rw [if_neg e] at h3; cases h3
      have e2 : r = q := by
        by_cases e : r = q
        · exact e
        · have h3 : (if r = q then some (0 : Int) else none) = some y := h2
          rw [if_neg e] at h3; cases h3
      subst e1; subst e2
      have h3 : (if p = p then some (0 : Int) else none) = some x := h1
      have h4 : (if p = p then some (0 : Int) else none) = some y := h2
      rw [if_pos rfl] at h3 h4
      have h5 := Option.some.inj h3
      have h6 := Option.some.inj h4
      exact ⟨0, if_pos rfl, by omega⟩
    · intro p q x hp _ h1
      have e1 : p = q := by
        by_cases e : p = q
        · exact e
        · have h3 : (if p = q then some (0 : Int) else none) = some x := h1
          rw [if_neg e] at h3; cases h3
      subst e1
      have h3 : (if p = p then some (0 : Int) else none) = some x := h1
      rw [if_pos rfl] at h3
      refine ⟨[], (Option.some.inj h3).symm, rfl, ?_, ?_⟩
      · exact List.nodup_cons.mpr ⟨List.not_mem_nil, List.nodup_nil⟩
      · intro c hc; rw [List.mem_singleton.mp hc]; exact hp
  | succ n ih =>
    obtain ⟨E, h⟩ := ih
    by_cases e : gpW (gpF A B W n) (A n).toNatClampNeg (B n).toNatClampNeg (W n).toInt = true
    · exact ⟨E, by rw [gpF, if_pos e]; exact h⟩
    · refine ⟨fun c d u => E c d u ∨ (c = (A n).toNatClampNeg ∧ d = (B n).toNatClampNeg ∧ u = (W n).toInt), ?_⟩
      · rw [gpF, if_neg e]
        exact gpX_I h (by show (A n).toInt.toNat < 11; have := hA n; omega) (by show (B n).toInt.toNat < 11; have := hB n; omega) (hW n) (gpW_n (Bool.eq_false_iff.mpr e))
theorem gpF_B {A B W : Nat → Int32} (hA : ∀ f, 0 ≤ (A f).toInt ∧ (A f).toInt ≤ 10) (hB : ∀ f, 0 ≤ (B f).toInt ∧ (B f).toInt ≤ 10) (hW : ∀ f, -999 ≤ (W f).toInt ∧ (W f).toInt ≤ 999) (n : Nat) : gpB (gpF A B W n) := by
  obtain ⟨E, h⟩ := gpF_I hA hB hW n
  exact fun p q x hp hq hv => gpI_bd h hp hq hv
theorem gpF_co {A B W A2 B2 W2 : Nat → Int32} : ∀ n, (∀ f, f < n → A2 f = A f ∧ B2 f = B f ∧ W2 f = W f) → gpF A2 B2 W2 n = gpF A B W n := by
  intro n
  induction n with
  | zero => intro _; rfl
  | succ n ih =>
    intro h
    obtain ⟨e1, e2, e3⟩ := h n (Nat.lt_succ_self n)
    rw [gpF, gpF, ih (fun f hf => h f (Nat.lt_succ_of_lt hf)), e1, e2, e3]
theorem gpV_co {A B W A2 B2 W2 : Nat → Int32} {n : Nat} (h : ∀ f, f < n → A2 f = A f ∧ B2 f = B f ∧ W2 f = W f) {f : Nat} (hf : f < n) : gpV A2 B2 W2 f = gpV A B W f := by
  obtain ⟨e1, e2, e3⟩ := h f hf
  unfold gpV
  rw [gpF_co f (fun g hg => h g (Nat.lt_trans hg hf)), e1, e2, e3]
theorem gpC_co {A B W A2 B2 W2 : Nat → Int32} : ∀ n, (∀ f, f < n → A2 f = A f ∧ B2 f = B f ∧ W2 f = W f) → gpC A2 B2 W2 n = gpC A B W n := by
  intro n
  induction n with
  | zero => intro _; rfl
  | succ n ih =>
    intro h
    rw [gpC, gpC, ih (fun f hf => h f (Nat.lt_succ_of_lt hf)), gpV_co h (Nat.lt_succ_self n)]
theorem gpC_mo {A B W : Nat → Int32} {f : Nat} : ∀ n, f < n → gpV A B W f = true → gpC A B W f < gpC A B W n := by
  intro n
  induction n with
  | zero => intro h _; exact absurd h (Nat.not_lt_zero _)
  | succ n ih =>
    intro h hv
    rw [gpC]
    by_cases e : f = n
    · subst e; rw [if_pos hv]; omega
    · have := ih (by omega) hv; omega
theorem gpC_le {A B W : Nat → Int32} : ∀ n, gpC A B W n ≤ n := by
  intro n
  induction n with
  | zero => exact Nat.le_refl _
  | succ n ih =>
    rw [gpC]
    by_cases e : gpV A B W n = true
    · rw [if_pos e]; omega
    · rw [if_neg e]; omega
section PICM
variable {v : Nat → Nat → Option Int} {p q a b : Nat} {w : Int} {x1 x2 x3 s1 s2 : Int32}
/-- the class's greater one of two -/
theorem gpK_cell {g1 g2 g3 m1 m2 m3 : Int32} (hb : gpB v) (hp : p < 11) (hq : q < 11) (ha : a < 11) (hb1 : b < 11) (hw : x2.toInt = w) (hwr : -999 ≤ w ∧ w ≤ 999) (h1 : g1.toInt = (v p a).getD (-1000000)) (h2 : g2.toInt = (v b q).getD (-1000000)) (h3 : g3.toInt = (v p q).getD (-1000000)) (n1 : g1.toInt ≠ -1000000) (n2 : g2.toInt ≠ -1000000) (e1 : m1 = g1 + x2) (e2 : m2 = m1 + g2) (e3 : m3 = if g3 < m2 then m2 else g3) : m3.toInt = (gpX v a b w p q).getD (-1000000) := by
  have h8 := gpX_yes (U := -1000000) (by decide) hwr hb hp ha hb1 hq (by omega) (by omega)
  rcases gpD_or (U := -1000000) hb hp ha with ⟨_, e4⟩ | ⟨x, _, e5, e6⟩
  · omega
  · rcases gpD_or (U := -1000000) hb hb1 hq with ⟨_, f4⟩ | ⟨y, _, f5, f6⟩
    · omega
    · rw [e5, f5] at h8
      have k1 : m1.toInt = x + w := by rw [e1]; exact i_add (h1.trans e5) hw (by omega) (by omega)
      have k2 : m2.toInt = x + w + y := by rw [e2]; exact i_add k1 (h2.trans f5) (by omega) (by omega)
      rw [h8, e3, ← h3, ← k2]
      by_cases h9 : g3 < m2
      · rw [if_pos h9, if_pos (Int32.lt_iff_toInt_lt.mp h9)]
      · rw [if_neg h9, if_neg (fun h => h9 (Int32.lt_iff_toInt_lt.mpr h))]
end PICM
/-- the pictures of the two objects: rows of facts, gaps, wrong ones -/
def RPX (im : Nat → Int32) (rm : Nat → Nat → Int32) (i : Nat → Int32) (r : Nat → Nat → Int32) : Prop :=
  gpR (-1000000) (r 60) (gpF (rm 58) (rm 59) (rm 60) (im 72).toNatClampNeg) ∧ (i 16).toInt = (gpC (rm 58) (rm 59) (rm 60) (im 72).toNatClampNeg : Int) ∧ ∀ f, f < (im 72).toNatClampNeg → gpV (rm 58) (rm 59) (rm 60) f = true → (r 59 (gpC (rm 58) (rm 59) (rm 60) f)).toInt = (f : Int)
theorem RPX_fact {im im2 i i2 : Nat → Int32} {rm rm2 r r2 : Nat → Nat → Int32} {p0 p1 p2 : Int32} (h : RPX im rm i r) (h0 : 0 ≤ (im 72).toInt) (h7 : (im2 72).toInt = (im 72).toInt + 1) (m0 : rm2 58 = upd (rm 58) (im 72).toNatClampNeg p0) (m1 : rm2 59 = upd (rm 59) (im 72).toNatClampNeg p1) (m2 : rm2 60 = upd (rm 60) (im 72).toNatClampNeg p2)
    (e15 : (i 15).toInt = (im 72).toInt)
    (hy : gpW (gpF (rm 58) (rm 59) (rm 60) (im 72).toNatClampNeg) p0.toNatClampNeg p1.toNatClampNeg p2.toInt = true → gpR (-1000000) (r2 60) (gpF (rm 58) (rm 59) (rm 60) (im 72).toNatClampNeg) ∧ (i2 16).toInt = (i 16).toInt + 1 ∧ r2 59 = upd (r 59) (i 16).toNatClampNeg (i 15))
    (hn : gpW (gpF (rm 58) (rm 59) (rm 60) (im 72).toNatClampNeg) p0.toNatClampNeg p1.toNatClampNeg p2.toInt = false → gpR (-1000000) (r2 60) (gpX (gpF (rm 58) (rm 59) (rm 60) (im 72).toNatClampNeg) p0.toNatClampNeg p1.toNatClampNeg p2.toInt) ∧ i2 16 = i 16 ∧ r2 59 = r 59) : RPX im2 rm2 i2 r2 := by
  obtain ⟨a1, a2, a3⟩ := h
  have hN : (im2 72).toNatClampNeg = (im 72).toNatClampNeg + 1 := by show (im2 72).toInt.toNat = (im 72).toInt.toNat + 1; omega
  have hnn : ((im 72).toNatClampNeg : Int) = (im 72).toInt := by show (((im 72).toInt.toNat : Nat) : Int) = _; omega
  have h16 : (i 16).toNatClampNeg = gpC (rm 58) (rm 59) (rm 60) (im 72).toNatClampNeg := by show (i 16).toInt.toNat = _; omega
  unfold RPX
  rw [hN]
  generalize (im 72).toNatClampNeg = n at *
  have hco : ∀ f, f < n → rm2 58 f = rm 58 f ∧ rm2 59 f = rm 59 f ∧ rm2 60 f = rm 60 f := by
    intro f hf
    have hne : ¬ f = n := by omega
    rw [m0, m1, m2]
    exact ⟨if_neg hne, if_neg hne, if_neg hne⟩
  have eV : gpV (rm2 58) (rm2 59) (rm2 60) n = gpW (gpF (rm 58) (rm 59) (rm 60) n) p0.toNatClampNeg p1.toNatClampNeg p2.toInt := by
    unfold gpV
    rw [gpF_co n hco, m0, m1, m2, upd_s, upd_s, upd_s]
  have eF : gpF (rm2 58) (rm2 59) (rm2 60) (n + 1) = if gpV (rm2 58) (rm2 59) (rm2 60) n = true then gpF (rm 58) (rm 59) (rm 60) n else gpX (gpF (rm 58) (rm 59) (rm 60) n) p0.toNatClampNeg p1.toNatClampNeg p2.toInt := by
    rw [eV, gpF, gpF_co n hco, m0, m1, m2, upd_s, upd_s, upd_s]
  have hold : ∀ f, f < n → gpV (rm2 58) (rm2 59) (rm2 60) f = true → (r 59 (gpC (rm2 58) (rm2 59) (rm2 60) f)).toInt = (f : Int) := by
    intro f hf hv
    rw [gpV_co hco hf] at hv
    rw [gpC_co f (fun g hg => hco g (Nat.lt_trans hg hf))]
    exact a3 f hf hv
  by_cases e : gpV (rm2 58) (rm2 59) (rm2 60) n = true
  · obtain ⟨b1, b2, b3⟩ := hy (eV.symm.trans e)
    refine ⟨by rw [eF, if_pos e]; exact b1, ?_, ?_⟩
    · rw [gpC, if_pos e, gpC_co n hco]; omega
    · intro f hf hv
      rw [b3]
      by_cases ef : f = n
      · rw [ef, gpC_co n hco, ← h16, upd_s]; omega
      · have hlt : f < n := by omega
        have hne : ¬ gpC (rm2 58) (rm2 59) (rm2 60) f = (i 16).toNatClampNeg := by
          have h9 := gpC_mo n hlt hv
          rw [gpC_co n hco] at h9
          omega
        have hz : upd (r 59) (i 16).toNatClampNeg (i 15) (gpC (rm2 58) (rm2 59) (rm2 60) f) = r 59 (gpC (rm2 58) (rm2 59) (rm2 60) f) := if_neg hne
        rw [hz]
        exact hold f hlt hv
  · have e2 : gpV (rm2 58) (rm2 59) (rm2 60) n = false := Bool.eq_false_iff.mpr e
    obtain ⟨b1, b2, b3⟩ := hn (eV.symm.trans e2)
    refine ⟨by rw [eF, if_neg e]; exact b1, ?_, ?_⟩
    · rw [gpC, if_neg e, gpC_co n hco, b2]; omega
    · intro f hf hv
      rw [b3]
      by_cases ef : f = n
      · rw [ef] at hv; exact absurd hv e
      · exact hold f (by omega) hv
theorem gpK_w {v : Nat → Nat → Option Int} {a b : Nat} {w : Int} {g x2 : Int32} (hb : gpB v) (ha : a < 11) (hb1 : b < 11) (hw : x2.toInt = w) (hwr : -999 ≤ w ∧ w ≤ 999) (h1 : g.toInt = (v b a).getD (-1000000)) : (g.toInt = -1000000 → gpW v a b w = false) ∧ ∀ m : Int32, g.toInt ≠ -1000000 → m = g + x2 → (m.toInt ≤ 0 → gpW v a b w = false) ∧ (0 < m.toInt → gpW v a b w = true) := by
  rcases gpD_or (U := -1000000) hb hb1 ha with ⟨e1, e2⟩ | ⟨y, e1, e2, e3⟩
  · refine ⟨fun _ => by unfold gpW; rw [e1], fun m h2 => absurd (h1.trans e2) h2⟩
  · refine ⟨fun h2 => by omega, fun m h2 h3 => ?_⟩
    have h4 : m.toInt = y + w := by rw [h3]; exact i_add (h1.trans e2) hw (by omega) (by omega)
    unfold gpW; rw [e1]
    exact ⟨fun h5 => decide_eq_false (by omega), fun h5 => decide_eq_true (by omega)⟩
set_option maxHeartbeats 4000000 in
set_option maxRecDepth 100000 in
theorem c_X12_fact8 (l : Launch) (D : va_G) (cy : Nat → ClassId) (a : Nat → Nat) (i : Nat → Int32) (r : Nat → Nat → Int32) (rl : Nat → Int64) (p0 p1 p2 : Int32) (sz : Nat) (hRi : mRi i) (hRr : mRr r) : Met l yX12_fact (Cond.code yX12_fact cX12_fact 4 (some .int) :: gT) { frames := 2, cells := 0, slots := 0, locals := 46 } (va_Pc [.ref (a 0), .int p0, .int p1, .int p2] (rQ D cy (mW cy a i r rl) sz)) (va_Qi (fun (z : Int32) (u : (Nat → Int32) × (Nat → Nat → Int32)) => mRi u.1 ∧ mRr u.2 ∧ mEi [72] i u.1 ∧ mEr [58, 59, 60] r u.2 ∧ ((((0 ≤ p0.toInt ∧ p0.toInt ≤ 10) ∧ (0 ≤ p1.toInt ∧ p1.toInt ≤ 10) ∧ p0.toInt ≠ p1.toInt ∧ (-999 ≤ p2.toInt ∧ p2.toInt ≤ 999) ∧ (i 72).toInt ≤ 29) → z.toInt = (i 72).toInt + 1 ∧ (u.1 72).toInt = (i 72).toInt + 1 ∧ u.2 58 = upd (r 58) (i 72).toNatClampNeg p0 ∧ u.2 59 = upd (r 59) (i 72).toNatClampNeg p1 ∧ u.2 60 = upd (r 60) (i 72).toNatClampNeg p2) ∧ (¬ ((0 ≤ p0.toInt ∧ p0.toInt ≤ 10) ∧ (0 ≤ p1.toInt ∧ p1.toInt ≤ 10) ∧ p0.toInt ≠ p1.toInt ∧ (-999 ≤ p2.toInt ∧ p2.toInt ≤ 999) ∧ (i 72).toInt ≤ 29) → z = -1 ∧ mEi [] i u.1 ∧ mEr [] r u.2))) (fun (u : (Nat → Int32) × (Nat → Nat → Int32)) t => va_P D vwCl (mW cy a u.1 u.2 rl) t.heap ∧ va_K D vwCl (vT cy) t ∧ va_D (va_A (mW cy a i r rl) sz) (mW cy a u.1 u.2 rl)) (va_A (mW cy a i r rl) sz)) 0 0 (va_A (mW cy a i r rl) sz) := by
  refine Met.ofQ (cc := cX12_fact) (maxL := 4) (ret := (some .int)) (by decide) rfl ?_
  intro p e s m args below meth c s₁ B hml hv Q hQ
  obtain ⟨rfl, hsz, hP, hK, hD0⟩ := hv
  have hx := B.exec
  have hb := B.bytes
  have hr := B.returns
  have hlocks := B.notSynchronized
  have hT : ∀ w ∈ gT, w.before _ s = true := fun w h => atoms_spec (ws := (Cond.code yX12_fact cX12_fact 4 (some .int) :: gT)) B.pre w (List.mem_cons_of_mem _ h)
  have hown : s.vm.findClass RX12 = some m.cls := findClass_of_methodNamed B.named
  subst hsz
  have hD := hD0.self (sz := s.heap.size)
  generalize hAe : va_A (mW cy a i r rl) s.heap.size = A at hD hQ
  have hA : ∀ q : Nat, s.heap.size ≤ q → A q := fun q h => by rw [← hAe]; exact Or.inr h
  have hS : va_S A s.heap s.heap [] := va_S.rf
  have hl := lv_entry ([.ref (a 0), .int p0, .int p1, .int p2]) (n := 4) (Nat.le_of_ble_eq_true rfl)
  rw [lg_entry_eq]
  generalize (lg_sl ([.ref (a 0), .int p0, .int p1, .int p2]) ++ List.replicate (4 - (lg_sl ([.ref (a 0), .int p0, .int p1, .int p2])).length) Slot.unset).toArray = ls at hl ⊢
  have hl : lv_has ls 4 [(0, .ref (a 0)), (1, .int p0), (2, .int p1), (3, .int p2)] := hl
  have hEi : mEi [72] i i := Ei_rf
  have hEr : mEr [58, 59, 60] r r := Er_rf
  refine lv_iload_n hx hb dX12_fact_0 rfl (lv_at hl 1 rfl) ?_
  refine lv_iconst (v := 0) hx hb dX12_fact_1 (by decide) ?_
  refine lv_bipush (v := 10) hx hb dX12_fact_2 (by decide) ?_
  refine vp_callSi (W.runS (As := [.int p0, .int 0, .int 10]) (rest := []) ⟨hx, hb, hml, hown, hT⟩ (c_X12_in l p0 0 10) (va_cwS 3 hT (gS t_113 t_114 t_115 t_6) rfl rfl rfl (by decide +kernel) ⟨Nat.le_of_ble_eq_true rfl, Nat.le_of_ble_eq_true rfl⟩) preT rfl rfl hl.1 rfl (lv_room (Nat.le_of_ble_eq_true rfl)) dX12_fact_4 ⟨Nat.le_of_ble_eq_true rfl, Nat.le_of_ble_eq_true rfl⟩) (fun r_1 hr_1 => ?_)
  have hr_1 : BR r_1 (0 ≤ p0.toInt ∧ p0.toInt ≤ 10) 1 0 := hr_1
  rcases hr_1 with ⟨rfl, h_2⟩ | ⟨rfl, h_2⟩
  · skip
    refine lv_if_eq (tgt := 47) hx hb dX12_fact_7 (by decide) (fun c_3 => absurd c_3 (by decide)) (fun c_3 => ?_)
    refine lv_iload_n hx hb dX12_fact_10 rfl (lv_at hl 2 rfl) ?_
    refine lv_iconst (v := 0) hx hb dX12_fact_11 (by decide) ?_
    refine lv_bipush (v := 10) hx hb dX12_fact_12 (by decide) ?_
    refine vp_callSi (W.runS (As := [.int p1, .int 0, .int 10]) (rest := []) ⟨hx, hb, hml, hown, hT⟩ (c_X12_in l p1 0 10) (va_cwS 3 hT (gS t_113 t_114 t_115 t_6) rfl rfl rfl (by decide +kernel) ⟨Nat.le_of_ble_eq_true rfl, Nat.le_of_ble_eq_true rfl⟩) preT rfl rfl hl.1 rfl (lv_room (Nat.le_of_ble_eq_true rfl)) dX12_fact_14 ⟨Nat.le_of_ble_eq_true rfl, Nat.le_of_ble_eq_true rfl⟩) (fun r_4 hr_4 => ?_)
    have hr_4 : BR r_4 (0 ≤ p1.toInt ∧ p1.toInt ≤ 10) 1 0 := hr_4
    rcases hr_4 with ⟨rfl, h_5⟩ | ⟨rfl, h_5⟩
    · skip
      refine lv_if_eq (tgt := 47) hx hb dX12_fact_17 (by decide) (fun c_6 => absurd c_6 (by decide)) (fun c_6 => ?_)
      refine lv_iload_n hx hb dX12_fact_20 rfl (lv_at hl 1 rfl) ?_
      refine lv_iload_n hx hb dX12_fact_21 rfl (lv_at hl 2 rfl) ?_
      refine lv_icmp_eq (tgt := 47) hx hb dX12_fact_22 (by decide) (fun c_7 => ?_) (fun c_7 => ?_)
      · have c_7 : p0.toInt = p1.toInt := b_eq c_7
        refine lv_iconst (v := (-1)) hx hb dX12_fact_47 (by decide) ?_
        subst hQ
        exact W.iret (v := (-1)) hx hb hr (fun t ht hW => ⟨⟨_, (i, r), rfl, ⟨hRi, hRr, hEi, hEr, ⟨fun h9 => absurd h9 (by omega), fun _ => ⟨rfl, Ei_rf, Er_rf⟩⟩⟩, by rw [ht]; exact hP, va_K.moved hW.alike hK, hD⟩, hS.F ht⟩) hS.2.2 dX12_fact_48
      · have c_7 : p0.toInt ≠ p1.toInt := b_ne c_7
        refine lv_iload_n hx hb dX12_fact_25 rfl (lv_at hl 3 rfl) ?_
        refine lv_sipush (v := (-999)) hx hb dX12_fact_26 (by decide) ?_
        refine lv_sipush (v := 999) hx hb dX12_fact_29 (by decide) ?_
        refine vp_callSi (W.runS (As := [.int p2, .int (-999), .int 999]) (rest := []) ⟨hx, hb, hml, hown, hT⟩ (c_X12_in l p2 (-999) 999) (va_cwS 3 hT (gS t_113 t_114 t_115 t_6) rfl rfl rfl (by decide +kernel) ⟨Nat.le_of_ble_eq_true rfl, Nat.le_of_ble_eq_true rfl⟩) preT rfl rfl hl.1 rfl (lv_room (Nat.le_of_ble_eq_true rfl)) dX12_fact_32 ⟨Nat.le_of_ble_eq_true rfl, Nat.le_of_ble_eq_true rfl⟩) (fun r_8 hr_8 => ?_)
        have hr_8 : BR r_8 ((-999) ≤ p2.toInt ∧ p2.toInt ≤ 999) 1 0 := hr_8
        rcases hr_8 with ⟨rfl, h_9⟩ | ⟨rfl, h_9⟩
        · skip
          refine lv_if_eq (tgt := 47) hx hb dX12_fact_35 (by decide) (fun c_10 => absurd c_10 (by decide)) (fun c_10 => ?_)
          refine lv_aload_n hx hb dX12_fact_38 rfl (lv_at hl 0 rfl) ?_
          refine va_get (D := D) (ci := 12) (v := .int (i 72)) (C := RX12) (T := TX12) (N := 91) hx hb hT iX12 hown hK hP 0 rfl rfl 72 (by decide) (hT _ t_196) (fun _ h9 => h9) rfl dX12_fact_39 ?_
          have hg_11 : 0 ≤ (i 72).toInt ∧ (i 72).toInt ≤ 30 := hRi 72
          refine lv_bipush (v := 30) hx hb dX12_fact_42 (by decide) ?_
          refine lv_icmp_ne (tgt := 49) hx hb dX12_fact_44 (by decide) (fun c_12 => ?_) (fun c_12 => ?_)
          · have c_12 : (i 72).toInt ≠ 30 := b_ne c_12
            refine lv_aload_n hx hb dX12_fact_49 rfl (lv_at hl 0 rfl) ?_
            refine va_get (D := D) (ci := 12) (v := .ref (a 58)) (C := RX12) (T := TX12) (N := 91) hx hb hT iX12 hown hK hP 0 rfl rfl 73 (by decide) (hT _ t_197) (fun _ h9 => h9) rfl dX12_fact_50 ?_
            refine lv_aload_n hx hb dX12_fact_53 rfl (lv_at hl 0 rfl) ?_
            refine va_get (D := D) (ci := 12) (v := .int (i 72)) (C := RX12) (T := TX12) (N := 91) hx hb hT iX12 hown hK hP 0 rfl rfl 72 (by decide) (hT _ t_196) (fun _ h9 => h9) rfl dX12_fact_54 ?_
            refine lv_iload_n hx hb dX12_fact_57 rfl (lv_at hl 1 rfl) ?_
            refine va_iast hx hb hK hP hD hS 58 0 rfl rfl (vp_inI (by omega) (by omega)) dX12_fact_58 (fun H locs hP hD hS => ?_)
            rw [mS58] at hP hD
            have hRr : mRr (va_up r 58 (upd (r 58) ((i 72).toNatClampNeg) p0)) := Rr_upd hRr 58 ((i 72).toNatClampNeg) p0 ⟨by show (0 : Int) ≤ p0.toInt; omega, by show p0.toInt ≤ (10 : Int); omega⟩
            have hEr : mEr [58, 59, 60] _ (va_up r 58 (upd (r 58) ((i 72).toNatClampNeg) p0)) := Er_up hEr 58 _ (by decide)
            refine lv_aload_n hx hb dX12_fact_59 rfl (lv_at hl 0 rfl) ?_
            refine va_get (D := D) (ci := 12) (v := .ref (a 59)) (C := RX12) (T := TX12) (N := 91) hx hb hT iX12 hown hK hP 0 rfl rfl 74 (by decide) (hT _ t_198) (fun _ h9 => h9) rfl dX12_fact_60 ?_
            refine lv_aload_n hx hb dX12_fact_63 rfl (lv_at hl 0 rfl) ?_
            refine va_get (D := D) (ci := 12) (v := .int (i 72)) (C := RX12) (T := TX12) (N := 91) hx hb hT iX12 hown hK hP 0 rfl rfl 72 (by decide) (hT _ t_196) (fun _ h9 => h9) rfl dX12_fact_64 ?_
            refine lv_iload_n hx hb dX12_fact_67 rfl (lv_at hl 2 rfl) ?_
            refine va_iast hx hb hK hP hD hS 59 0 rfl rfl (vp_inI (by omega) (by omega)) dX12_fact_68 (fun H locs hP hD hS => ?_)
            rw [mS59] at hP hD
            have hRr : mRr (va_up (va_up r 58 (upd (r 58) ((i 72).toNatClampNeg) p0)) 59 (upd (r 59) ((i 72).toNatClampNeg) p1)) := Rr_upd hRr 59 ((i 72).toNatClampNeg) p1 ⟨by show (0 : Int) ≤ p1.toInt; omega, by show p1.toInt ≤ (10 : Int); omega⟩
            have hEr : mEr [58, 59, 60] _ (va_up (va_up r 58 (upd (r 58) ((i 72).toNatClampNeg) p0)) 59 (upd (r 59) ((i 72).toNatClampNeg) p1)) := Er_up hEr 59 _ (by decide)
            refine lv_aload_n hx hb dX12_fact_69 rfl (lv_at hl 0 rfl) ?_
            refine va_get (D := D) (ci := 12) (v := .ref (a 60)) (C := RX12) (T := TX12) (N := 91) hx hb hT iX12 hown hK hP 0 rfl rfl 75 (by decide) (hT _ t_199) (fun _ h9 => h9) rfl dX12_fact_70 ?_
            refine lv_aload_n hx hb dX12_fact_73 rfl (lv_at hl 0 rfl) ?_
            refine va_get (D := D) (ci := 12) (v := .int (i 72)) (C := RX12) (T := TX12) (N := 91) hx hb hT iX12 hown hK hP 0 rfl rfl 72 (by decide) (hT _ t_196) (fun _ h9 => h9) rfl dX12_fact_74 ?_
            refine lv_iload_n hx hb dX12_fact_77 rfl (lv_at hl 3 rfl) ?_
            refine va_iast hx hb hK hP hD hS 60 0 rfl rfl (vp_inI (by omega) (by omega)) dX12_fact_78 (fun H locs hP hD hS => ?_)
            rw [mS60] at hP hD
            have hRr : mRr (va_up (va_up (va_up r 58 (upd (r 58) ((i 72).toNatClampNeg) p0)) 59 (upd (r 59) ((i 72).toNatClampNeg) p1)) 60 (upd (r 60) ((i 72).toNatClampNeg) p2)) := Rr_upd hRr 60 ((i 72).toNatClampNeg) p2 ⟨by show (-999 : Int) ≤ p2.toInt; omega, by show p2.toInt ≤ (999 : Int); omega⟩
            have hEr : mEr [58, 59, 60] _ (va_up (va_up (va_up r 58 (upd (r 58) ((i 72).toNatClampNeg) p0)) 59 (upd (r 59) ((i 72).toNatClampNeg) p1)) 60 (upd (r 60) ((i 72).toNatClampNeg) p2)) := Er_up hEr 60 _ (by decide)
            refine lv_aload_n hx hb dX12_fact_79 rfl (lv_at hl 0 rfl) ?_
            refine lv_aload_n hx hb dX12_fact_80 rfl (lv_at hl 0 rfl) ?_
            refine va_get (D := D) (ci := 12) (v := .int (i 72)) (C := RX12) (T := TX12) (N := 91) hx hb hT iX12 hown hK hP 0 rfl rfl 72 (by decide) (hT _ t_196) (fun _ h9 => h9) rfl dX12_fact_81 ?_
            refine lv_iconst (v := 1) hx hb dX12_fact_84 (by decide) ?_
            refine lv_iadd hx hb dX12_fact_85 ?_
            refine lv_topi (fun v_13 ev_13 => ?_)
            have hv_13 : v_13.toInt = (i 72).toInt + 1 := by rw [ev_13]; have := b_rg (i 72); exact i_add (a := (i 72).toInt) (b := 1) rfl rfl (by omega) (by omega)
            refine va_put (D := D) (ci := 12) (v := .int v_13) (ty := .int) (C := RX12) (T := TX12) (N := 91) hx hb hT iX12 tyX12 tyX12_ok nmX12 hown hK hP hD hS 0 rfl rfl 72 (by decide) (hT _ t_196) (fun _ h9 => h9) rfl (by decide +kernel) rfl rfl (Nat.le_of_ble_eq_true rfl) dX12_fact_86 (fun H locs hP hD hS => ?_)
            rw [mP72] at hP hD
            have hRi := Ri_upd hRi 72 v_13 ⟨by show (0 : Int) ≤ v_13.toInt; omega, by show v_13.toInt ≤ (30 : Int); omega⟩
            have hEi := Ei_upd hEi 72 v_13 (by decide)
            refine lv_aload_n hx hb dX12_fact_89 rfl (lv_at hl 0 rfl) ?_
            refine va_get (D := D) (ci := 12) (v := .int v_13) (C := RX12) (T := TX12) (N := 91) hx hb hT iX12 hown hK hP 0 rfl rfl 72 (by decide) (hT _ t_196) (fun _ h9 => h9) rfl dX12_fact_90 ?_
            subst hQ
            exact W.iret (v := v_13) hx hb hr (fun t ht hW => ⟨⟨_, (upd i 72 v_13, va_up (va_up (va_up r 58 (upd (r 58) ((i 72).toNatClampNeg) p0)) 59 (upd (r 59) ((i 72).toNatClampNeg) p1)) 60 (upd (r 60) ((i 72).toNatClampNeg) p2)), rfl, ⟨hRi, hRr, hEi, hEr, ⟨fun _ => ⟨by omega, by show v_13.toInt = _; omega, rfl, rfl, rfl⟩, fun h9 => absurd (by omega) h9⟩⟩, by rw [ht]; exact hP, va_K.moved hW.alike hK, hD⟩, hS.F ht⟩) hS.2.2 dX12_fact_93
          · have c_12 : (i 72).toInt = 30 := b_nne c_12
            refine lv_iconst (v := (-1)) hx hb dX12_fact_47 (by decide) ?_
            subst hQ
            exact W.iret (v := (-1)) hx hb hr (fun t ht hW => ⟨⟨_, (i, r), rfl, ⟨hRi, hRr, hEi, hEr, ⟨fun h9 => absurd h9 (by omega), fun _ => ⟨rfl, Ei_rf, Er_rf⟩⟩⟩, by rw [ht]; exact hP, va_K.moved hW.alike hK, hD⟩, hS.F ht⟩) hS.2.2 dX12_fact_48
        · skip
          refine lv_if_eq (tgt := 47) hx hb dX12_fact_35 (by decide) (fun c_14 => ?_) (fun c_14 => absurd (by decide) c_14)
          refine lv_iconst (v := (-1)) hx hb dX12_fact_47 (by decide) ?_
          subst hQ
          exact W.iret (v := (-1)) hx hb hr (fun t ht hW => ⟨⟨_, (i, r), rfl, ⟨hRi, hRr, hEi, hEr, ⟨fun h9 => absurd h9 (by omega), fun _ => ⟨rfl, Ei_rf, Er_rf⟩⟩⟩, by rw [ht]; exact hP, va_K.moved hW.alike hK, hD⟩, hS.F ht⟩) hS.2.2 dX12_fact_48
    · skip
      refine lv_if_eq (tgt := 47) hx hb dX12_fact_17 (by decide) (fun c_15 => ?_) (fun c_15 => absurd (by decide) c_15)
      refine lv_iconst (v := (-1)) hx hb dX12_fact_47 (by decide) ?_
      subst hQ
      exact W.iret (v := (-1)) hx hb hr (fun t ht hW => ⟨⟨_, (i, r), rfl, ⟨hRi, hRr, hEi, hEr, ⟨fun h9 => absurd h9 (by omega), fun _ => ⟨rfl, Ei_rf, Er_rf⟩⟩⟩, by rw [ht]; exact hP, va_K.moved hW.alike hK, hD⟩, hS.F ht⟩) hS.2.2 dX12_fact_48
  · skip
    refine lv_if_eq (tgt := 47) hx hb dX12_fact_7 (by decide) (fun c_16 => ?_) (fun c_16 => absurd (by decide) c_16)
    refine lv_iconst (v := (-1)) hx hb dX12_fact_47 (by decide) ?_
    subst hQ
    exact W.iret (v := (-1)) hx hb hr (fun t ht hW => ⟨⟨_, (i, r), rfl, ⟨hRi, hRr, hEi, hEr, ⟨fun h9 => absurd h9 (by omega), fun _ => ⟨rfl, Ei_rf, Er_rf⟩⟩⟩, by rw [ht]; exact hP, va_K.moved hW.alike hK, hD⟩, hS.F ht⟩) hS.2.2 dX12_fact_48
set_option maxHeartbeats 4000000 in
set_option maxRecDepth 100000 in
theorem c_X7_gap9 (l : Launch) (D : va_G) (cy : Nat → ClassId) (a : Nat → Nat) (i : Nat → Int32) (r : Nat → Nat → Int32) (q : Nat → Option Nat) (tl : va_W) (p0 p1 : Int32) (hRi : yRi i) (hRr : yRr r) (q0 : 0 ≤ p0.toInt ∧ p0.toInt ≤ 10) (q1 : 0 ≤ p1.toInt ∧ p1.toInt ≤ 10) : Met l yX7_gap (Cond.code yX7_gap cX7_gap 3 (some .int) :: gT) { frames := 1, cells := 0, slots := 0, locals := 24 } (va_Pc [.ref (a 58), .int p0, .int p1] (rP D cy (xW cy a i r q (a 20) (a 12) ++ tl))) (vp_Si (fun z => z = r 60 (11 * p0.toInt + p1.toInt).toNat)) 0 0 (fun _ => False) := by
  refine Met.ofQ (cc := cX7_gap) (maxL := 3) (ret := (some .int)) (by decide) rfl ?_
  intro p e s m args below meth c s₁ B hml hv Q hQ
  obtain ⟨rfl, hP, hK⟩ := hv
  have hx := B.exec
  have hb := B.bytes
  have hr := B.returns
  have hlocks := B.notSynchronized
  have hT : ∀ w ∈ gT, w.before _ s = true := fun w h => atoms_spec (ws := (Cond.code yX7_gap cX7_gap 3 (some .int) :: gT)) B.pre w (List.mem_cons_of_mem _ h)
  have hown : s.vm.findClass RX7 = some m.cls := findClass_of_methodNamed B.named
  have hl := lv_entry ([.ref (a 58), .int p0, .int p1]) (n := 3) (Nat.le_of_ble_eq_true rfl)
  rw [lg_entry_eq]
  generalize (lg_sl ([.ref (a 58), .int p0, .int p1]) ++ List.replicate (3 - (lg_sl ([.ref (a 58), .int p0, .int p1])).length) Slot.unset).toArray = ls at hl ⊢
  have hl : lv_has ls 3 [(0, .ref (a 58)), (1, .int p0), (2, .int p1)] := hl
  have hEi : mEi [] i i := Ei_rf
  have hEr : mEr [] r r := Er_rf
  refine lv_aload_n hx hb dX7_gap_0 rfl (lv_at hl 0 rfl) ?_
  refine va_get (D := D) (ci := 7) (v := .ref (a 60)) (C := RX7) (T := TX7) (N := 4) hx hb hT iX7 hown hK hP 58 rfl rfl 3 (by decide) (hT _ t_299) (fun _ h9 => h9) rfl dX7_gap_1 ?_
  refine lv_iload_n hx hb dX7_gap_4 rfl (lv_at hl 1 rfl) ?_
  refine lv_bipush (v := 11) hx hb dX7_gap_5 (by decide) ?_
  refine lv_imul hx hb dX7_gap_7 ?_
  refine lv_topi (fun v_1 ev_1 => ?_)
  have hv_1 : v_1.toInt = p0.toInt * 11 := by rw [ev_1]; have := b_rg p0; exact i_mul (a := p0.toInt) (b := 11) rfl rfl (by omega) (by omega)
  refine lv_iload_n hx hb dX7_gap_8 rfl (lv_at hl 2 rfl) ?_
  refine lv_iadd hx hb dX7_gap_9 ?_
  refine lv_topi (fun v_2 ev_2 => ?_)
  have hv_2 : v_2.toInt = v_1.toInt + p1.toInt := by rw [ev_2]; have := b_rg v_1; have := b_rg p1; exact i_add (a := v_1.toInt) (b := p1.toInt) rfl rfl (by omega) (by omega)
  refine va_iald hx hb hK hP 60 0 rfl rfl (vp_inI (by omega) (by omega)) dX7_gap_10 ?_
  refine lv_topi (fun v_3 ev_3 => ?_)
  subst hQ
  exact W.iret (v := v_3) hx hb hr (fun t ht hW => ⟨_, rfl, (ev_3.trans (congrArg (r 60) (by show v_2.toInt.toNat = (11 * p0.toInt + p1.toInt).toNat; omega))), ht⟩) (fun q hq => absurd hq List.not_mem_nil) dX7_gap_11
set_option maxHeartbeats 4000000 in
set_option maxRecDepth 100000 in
theorem c_X7_stretch9 (l : Launch) (D : va_G) (cy : Nat → ClassId) (a : Nat → Nat) (i : Nat → Int32) (r : Nat → Nat → Int32) (q : Nat → Option Nat) (tl : va_W) (p0 p1 p2 : Int32) (sz : Nat) (hRi : yRi i) (hRr : yRr r) (q0 : 0 ≤ p0.toInt ∧ p0.toInt ≤ 10) (q1 : 0 ≤ p1.toInt ∧ p1.toInt ≤ 10) (q2 : -999 ≤ p2.toInt ∧ p2.toInt ≤ 999) (v9 : Nat → Nat → Option Int) (hg9 : gpR (-1000000) (r 60) v9) (hb9 : gpB v9) (hn9 : ∀ y, v9 p1.toNatClampNeg p0.toNatClampNeg = some y → y + p2.toInt ≤ 0) : Met l yX7_stretch (Cond.code yX7_stretch cX7_stretch 7 none :: gT) { frames := 2, cells := 0, slots := 0, locals := 46 } (va_Pc [.ref (a 58), .int p0, .int p1, .int p2] (rQ D cy (xW cy a i r q (a 20) (a 12) ++ tl) sz)) (va_Qv (fun u : Nat → Nat → Int32 => yRr u ∧ mEr [60] r u ∧ (gpR (-1000000) (u 60) (gpX v9 p0.toNatClampNeg p1.toNatClampNeg p2.toInt))) (fun (u : Nat → Nat → Int32) t => va_P D vwCl (xW cy a i u q (a 20) (a 12) ++ tl) t.heap ∧ va_K D vwCl (vT cy) t ∧ va_D (va_A (xW cy a i r q (a 20) (a 12) ++ tl) sz) (xW cy a i u q (a 20) (a 12) ++ tl)) (va_A (xW cy a i r q (a 20) (a 12) ++ tl) sz)) 0 0 (va_A (xW cy a i r q (a 20) (a 12) ++ tl) sz) := by
  refine Met.ofQ (cc := cX7_stretch) (maxL := 7) (ret := none) (by decide) rfl ?_
  intro p e s m args below meth c s₁ B hml hv Q hQ
  obtain ⟨rfl, hsz, hP, hK, hD0⟩ := hv
  have hx := B.exec
  have hb := B.bytes
  have hr := B.returns
  have hlocks := B.notSynchronized
  have hT : ∀ w ∈ gT, w.before _ s = true := fun w h => atoms_spec (ws := (Cond.code yX7_stretch cX7_stretch 7 none :: gT)) B.pre w (List.mem_cons_of_mem _ h)
  have hown : s.vm.findClass RX7 = some m.cls := findClass_of_methodNamed B.named
  subst hsz
  have hD := hD0.self (sz := s.heap.size)
  generalize hAe : va_A (xW cy a i r q (a 20) (a 12) ++ tl) s.heap.size = A at hD hQ
  have hA : ∀ q : Nat, s.heap.size ≤ q → A q := fun q h => by rw [← hAe]; exact Or.inr h
  have hS : va_S A s.heap s.heap [] := va_S.rf
  have hl := lv_entry ([.ref (a 58), .int p0, .int p1, .int p2]) (n := 7) (Nat.le_of_ble_eq_true rfl)
  rw [lg_entry_eq]
  generalize (lg_sl ([.ref (a 58), .int p0, .int p1, .int p2]) ++ List.replicate (7 - (lg_sl ([.ref (a 58), .int p0, .int p1, .int p2])).length) Slot.unset).toArray = ls at hl ⊢
  have hl : lv_has ls 7 [(0, .ref (a 58)), (1, .int p0), (2, .int p1), (3, .int p2)] := hl
  have hEi : mEi [] i i := Ei_rf
  have hEr : mEr [60] r r := Er_rf
  refine lv_iconst (v := 0) hx hb dX7_stretch_0 (by decide) ?_
  refine lv_istore (lv' := [(4, .int 0), (0, .ref (a 58)), (1, .int p0), (2, .int p1), (3, .int p2)]) hx hb dX7_stretch_1 hl (by decide) rfl (fun ls hl => ?_)
  have loop_1 : ∀ (n : Nat) (x1_4 : Int32) (r1 : Nat → Nat → Int32) (H : Heap) (locs : List Loc) (ls : Array Slot), (11 - x1_4.toInt).toNat < n → (0 ≤ x1_4.toInt ∧ x1_4.toInt ≤ 11) → yRr r1 → mEr [60] r r1 → (gpL (-1000000) (r1 60) v9 (gpX v9 p0.toNatClampNeg p1.toNatClampNeg p2.toInt) x1_4.toNatClampNeg 0) → va_P D vwCl (xW cy a i r1 q (a 20) (a 12) ++ tl) H → va_D A (xW cy a i r1 q (a 20) (a 12) ++ tl) → va_S A s.heap H locs → lv_has ls 7 [(4, .int x1_4), (0, .ref (a 58)), (1, .int p0), (2, .int p1), (3, .int p2)] → W p l e ({ frames := 2, cells := 0, slots := 0, locals := 46 } : Room) s m ([.ref (a 58), .int p0, .int p1, .int p2] : List Value).toArray below meth c H locs 0 0 Q (F0 m 3 ls []) := by
    intro n
    induction n with
    | zero =>
      intro x1_4 r1 H locs ls hm1 hf1_0 hRr hEr hx1 hP hD hS hl
      exact absurd hm1 (by omega)
    | succ n ih1 =>
      intro x1_4 r1 H locs ls hm1 hf1_0 hRr hEr hx1 hP hD hS hl
      refine lv_iload hx hb dX7_stretch_3 (lv_at hl 0 rfl) ?_
      refine lv_bipush (v := 11) hx hb dX7_stretch_5 (by decide) ?_
      refine lv_icmp_ge (tgt := 101) hx hb dX7_stretch_7 (by decide) (fun c_2 => ?_) (fun c_2 => ?_)
      · have c_2 : 11 ≤ x1_4.toInt := b_le c_2
        subst hQ
        have h4 : x1_4.toNatClampNeg = 11 := by show x1_4.toInt.toNat = 11; omega
        have hL9 := hx1
        rw [h4] at hL9
        exact W.vret hx hb hr (fun t ht hW => ⟨⟨r1, rfl, ⟨hRr, hEr, (gpL_e hL9)⟩, by rw [ht]; exact hP, va_K.moved hW.alike hK, hD⟩, hS.F ht⟩) hS.2.2 dX7_stretch_101
      · have c_2 : x1_4.toInt < 11 := b_nle c_2
        refine lv_iconst (v := 0) hx hb dX7_stretch_10 (by decide) ?_
        refine lv_istore (lv' := [(5, .int 0), (4, .int x1_4), (0, .ref (a 58)), (1, .int p0), (2, .int p1), (3, .int p2)]) hx hb dX7_stretch_11 hl (by decide) rfl (fun ls hl => ?_)
        have loop_3 : ∀ (n : Nat) (x3_5 : Int32) (r3 : Nat → Nat → Int32) (H : Heap) (locs : List Loc) (ls : Array Slot), (11 - x3_5.toInt).toNat < n → (0 ≤ x3_5.toInt ∧ x3_5.toInt ≤ 11) → yRr r3 → mEr [60] r r3 → (gpL (-1000000) (r3 60) v9 (gpX v9 p0.toNatClampNeg p1.toNatClampNeg p2.toInt) x1_4.toNatClampNeg x3_5.toNatClampNeg) → va_P D vwCl (xW cy a i r3 q (a 20) (a 12) ++ tl) H → va_D A (xW cy a i r3 q (a 20) (a 12) ++ tl) → va_S A s.heap H locs → lv_has ls 7 [(5, .int x3_5), (4, .int x1_4), (0, .ref (a 58)), (1, .int p0), (2, .int p1), (3, .int p2)] → W p l e ({ frames := 2, cells := 0, slots := 0, locals := 46 } : Room) s m ([.ref (a 58), .int p0, .int p1, .int p2] : List Value).toArray below meth c H locs 0 0 Q (F0 m 13 ls []) := by
          intro n
          induction n with
          | zero =>
            intro x3_5 r3 H locs ls hm3 hf3_0 hRr hEr hx3 hP hD hS hl
            exact absurd hm3 (by omega)
          | succ n ih3 =>
            intro x3_5 r3 H locs ls hm3 hf3_0 hRr hEr hx3 hP hD hS hl
            refine lv_iload hx hb dX7_stretch_13 (lv_at hl 0 rfl) ?_
            refine lv_bipush (v := 11) hx hb dX7_stretch_15 (by decide) ?_
            refine lv_icmp_ge (tgt := 95) hx hb dX7_stretch_17 (by decide) (fun c_4 => ?_) (fun c_4 => ?_)
            · have c_4 : 11 ≤ x3_5.toInt := b_le c_4
              obtain ⟨x_5, ex_5⟩ : ∃ y : Int32, y = x1_4 + 1 := ⟨_, rfl⟩
              refine lv_iinc (v := x_5) (lv' := [(4, .int x_5), (5, .int x3_5), (0, .ref (a 58)), (1, .int p0), (2, .int p1), (3, .int p2)]) hx hb dX7_stretch_95 hl (k := 1) rfl (by rw [ex_5]; rfl) (by decide) rfl (fun ls hl => ?_)
              have hx_5 : x_5.toInt = x1_4.toInt + 1 := by rw [ex_5]; have := b_rg x1_4; exact i_add (a := x1_4.toInt) (b := 1) rfl rfl (by omega) (by omega)
              refine lv_goto (tgt := 3) hx hb dX7_stretch_98 (by decide) ?_
              have h5 : x3_5.toNatClampNeg = 11 := by show x3_5.toInt.toNat = 11; omega
              have h4 : x_5.toNatClampNeg = x1_4.toNatClampNeg + 1 := by show x_5.toInt.toNat = x1_4.toInt.toNat + 1; omega
              have hL9 := hx3
              rw [h5] at hL9
              exact ih1 x_5 r3 _ _ _ (by first | omega | (simp only [Int.toNat]; omega)) (by first | omega | decide) hRr hEr (by rw [h4]; exact gpL_r hL9) hP hD hS (lv_sub hl [0, 2, 3, 4, 5] rfl)
            · have c_4 : x3_5.toInt < 11 := b_nle c_4
              refine lv_aload_n hx hb dX7_stretch_20 rfl (lv_at hl 2 rfl) ?_
              refine lv_iload hx hb dX7_stretch_21 (lv_at hl 1 rfl) ?_
              refine lv_iload_n hx hb dX7_stretch_23 rfl (lv_at hl 3 rfl) ?_
              refine vp_callSi (W.runV (As := [.int x1_4, .int p0]) (rest := []) ⟨hx, hb, hml, hown, hT⟩ (c_X7_gap9 l D cy a i r3 q tl x1_4 p0 hRi hRr (by first | omega | decide) (by first | omega | decide)) (cwV 2 hT (gV t_300 t_302 t_303 t_304 t_301) rfl rfl rfl (by decide +kernel) ⟨Nat.le_of_ble_eq_true rfl, Nat.le_of_ble_eq_true rfl⟩) (rP_v hP hK (va_recv hK hP (ci := 7) (q0 := 58) rfl rfl)) rfl rfl hl.1 rfl (lv_room (Nat.le_of_ble_eq_true rfl)) dX7_stretch_24 ⟨Nat.le_of_ble_eq_true rfl, Nat.le_of_ble_eq_true rfl⟩) (fun r_6 hr_6 => ?_)
              have hA11 : p0.toNatClampNeg < 11 := by show p0.toInt.toNat < 11; omega
              have hB11 : p1.toNatClampNeg < 11 := by show p1.toInt.toNat < 11; omega
              have hn4 : x1_4.toNatClampNeg < 11 := by show x1_4.toInt.toNat < 11; omega
              have hn5 : x3_5.toNatClampNeg < 11 := by show x3_5.toInt.toNat < 11; omega
              have hr24 : r_6 = r3 60 (11 * x1_4.toInt + p0.toInt).toNat := hr_6
              have hi24 : (11 * x1_4.toInt + p0.toInt).toNat = 11 * x1_4.toNatClampNeg + p0.toNatClampNeg := by show _ = 11 * x1_4.toInt.toNat + p0.toInt.toNat; omega
              have hv24 : r_6.toInt = (v9 x1_4.toNatClampNeg p0.toNatClampNeg).getD (-1000000) := by rw [hr24, hi24]; exact gpL_at hx3 hn4 hA11 (gpX_a hn9)
              refine lv_ldc (v := (-1000000)) hx hb hown (hT _ t_305) dX7_stretch_27 ?_
              refine lv_icmp_eq (tgt := 89) hx hb dX7_stretch_29 (by decide) (fun c_7 => ?_) (fun c_7 => ?_)
              · have c_7 : r_6.toInt = (-1000000) := b_eq c_7
                obtain ⟨x_8, ex_8⟩ : ∃ y : Int32, y = x3_5 + 1 := ⟨_, rfl⟩
                refine lv_iinc (v := x_8) (lv' := [(5, .int x_8), (4, .int x1_4), (0, .ref (a 58)), (1, .int p0), (2, .int p1), (3, .int p2)]) hx hb dX7_stretch_89 hl (k := 0) rfl (by rw [ex_8]; rfl) (by decide) rfl (fun ls hl => ?_)
                have hx_8 : x_8.toInt = x3_5.toInt + 1 := by rw [ex_8]; have := b_rg x3_5; exact i_add (a := x3_5.toInt) (b := 1) rfl rfl (by omega) (by omega)
                refine lv_goto (tgt := 13) hx hb dX7_stretch_92 (by decide) ?_
                have h6 : x_8.toNatClampNeg = x3_5.toNatClampNeg + 1 := by show x_8.toInt.toNat = x3_5.toInt.toNat + 1; omega
                exact ih3 x_8 r3 _ _ _ (by first | omega | (simp only [Int.toNat]; omega)) (by first | omega | decide) hRr hEr (by rw [h6]; exact gpL_k hx3 (gpX_no1 (U := -1000000) (by decide) hb9 hn4 hA11 (hv24.symm.trans c_7))) hP hD hS (lv_sub hl [0, 1, 2, 3, 4, 5] rfl)
              · have c_7 : r_6.toInt ≠ (-1000000) := b_ne c_7
                refine lv_aload_n hx hb dX7_stretch_32 rfl (lv_at hl 2 rfl) ?_
                refine lv_iload_n hx hb dX7_stretch_33 rfl (lv_at hl 4 rfl) ?_
                refine lv_iload hx hb dX7_stretch_34 (lv_at hl 0 rfl) ?_
                refine vp_callSi (W.runV (As := [.int p1, .int x3_5]) (rest := []) ⟨hx, hb, hml, hown, hT⟩ (c_X7_gap9 l D cy a i r3 q tl p1 x3_5 hRi hRr (by first | omega | decide) (by first | omega | decide)) (cwV 2 hT (gV t_300 t_302 t_303 t_304 t_301) rfl rfl rfl (by decide +kernel) ⟨Nat.le_of_ble_eq_true rfl, Nat.le_of_ble_eq_true rfl⟩) (rP_v hP hK (va_recv hK hP (ci := 7) (q0 := 58) rfl rfl)) rfl rfl hl.1 rfl (lv_room (Nat.le_of_ble_eq_true rfl)) dX7_stretch_36 ⟨Nat.le_of_ble_eq_true rfl, Nat.le_of_ble_eq_true rfl⟩) (fun r_9 hr_9 => ?_)
                have hr36 : r_9 = r3 60 (11 * p1.toInt + x3_5.toInt).toNat := hr_9
                have hi36 : (11 * p1.toInt + x3_5.toInt).toNat = 11 * p1.toNatClampNeg + x3_5.toNatClampNeg := by show _ = 11 * p1.toInt.toNat + x3_5.toInt.toNat; omega
                have hv36 : r_9.toInt = (v9 p1.toNatClampNeg x3_5.toNatClampNeg).getD (-1000000) := by rw [hr36, hi36]; exact gpL_at hx3 hB11 hn5 (gpX_b hn9)
                refine lv_ldc (v := (-1000000)) hx hb hown (hT _ t_305) dX7_stretch_39 ?_
                refine lv_icmp_eq (tgt := 89) hx hb dX7_stretch_41 (by decide) (fun c_10 => ?_) (fun c_10 => ?_)
                · have c_10 : r_9.toInt = (-1000000) := b_eq c_10
                  obtain ⟨x_11, ex_11⟩ : ∃ y : Int32, y = x3_5 + 1 := ⟨_, rfl⟩
                  refine lv_iinc (v := x_11) (lv' := [(5, .int x_11), (4, .int x1_4), (0, .ref (a 58)), (1, .int p0), (2, .int p1), (3, .int p2)]) hx hb dX7_stretch_89 hl (k := 0) rfl (by rw [ex_11]; rfl) (by decide) rfl (fun ls hl => ?_)
                  have hx_11 : x_11.toInt = x3_5.toInt + 1 := by rw [ex_11]; have := b_rg x3_5; exact i_add (a := x3_5.toInt) (b := 1) rfl rfl (by omega) (by omega)
                  refine lv_goto (tgt := 13) hx hb dX7_stretch_92 (by decide) ?_
                  have h6 : x_11.toNatClampNeg = x3_5.toNatClampNeg + 1 := by show x_11.toInt.toNat = x3_5.toInt.toNat + 1; omega
                  exact ih3 x_11 r3 _ _ _ (by first | omega | (simp only [Int.toNat]; omega)) (by first | omega | decide) hRr hEr (by rw [h6]; exact gpL_k hx3 (gpX_no2 (U := -1000000) (by decide) hb9 hB11 hn5 (hv36.symm.trans c_10))) hP hD hS (lv_sub hl [0, 1, 2, 3, 4, 5] rfl)
                · have c_10 : r_9.toInt ≠ (-1000000) := b_ne c_10
                  refine lv_aload_n hx hb dX7_stretch_44 rfl (lv_at hl 2 rfl) ?_
                  refine lv_iload hx hb dX7_stretch_45 (lv_at hl 1 rfl) ?_
                  refine lv_iload_n hx hb dX7_stretch_47 rfl (lv_at hl 3 rfl) ?_
                  refine vp_callSi (W.runV (As := [.int x1_4, .int p0]) (rest := []) ⟨hx, hb, hml, hown, hT⟩ (c_X7_gap9 l D cy a i r3 q tl x1_4 p0 hRi hRr (by first | omega | decide) (by first | omega | decide)) (cwV 2 hT (gV t_300 t_302 t_303 t_304 t_301) rfl rfl rfl (by decide +kernel) ⟨Nat.le_of_ble_eq_true rfl, Nat.le_of_ble_eq_true rfl⟩) (rP_v hP hK (va_recv hK hP (ci := 7) (q0 := 58) rfl rfl)) rfl rfl hl.1 rfl (lv_room (Nat.le_of_ble_eq_true rfl)) dX7_stretch_48 ⟨Nat.le_of_ble_eq_true rfl, Nat.le_of_ble_eq_true rfl⟩) (fun r_12 hr_12 => ?_)
                  have hr48 : r_12 = r3 60 (11 * x1_4.toInt + p0.toInt).toNat := hr_12
                  have hi48 : (11 * x1_4.toInt + p0.toInt).toNat = 11 * x1_4.toNatClampNeg + p0.toNatClampNeg := by show _ = 11 * x1_4.toInt.toNat + p0.toInt.toNat; omega
                  have hv48 : r_12.toInt = (v9 x1_4.toNatClampNeg p0.toNatClampNeg).getD (-1000000) := by rw [hr48, hi48]; exact gpL_at hx3 hn4 hA11 (gpX_a hn9)
                  refine lv_iload_n hx hb dX7_stretch_51 rfl (lv_at hl 5 rfl) ?_
                  refine lv_iadd hx hb dX7_stretch_52 ?_
                  refine lv_topi (fun v_13 ev_13 => ?_)
                  refine lv_aload_n hx hb dX7_stretch_53 rfl (lv_at hl 2 rfl) ?_
                  refine lv_iload_n hx hb dX7_stretch_54 rfl (lv_at hl 4 rfl) ?_
                  refine lv_iload hx hb dX7_stretch_55 (lv_at hl 0 rfl) ?_
                  refine vp_callSi (W.runV (As := [.int p1, .int x3_5]) (rest := [.int v_13]) ⟨hx, hb, hml, hown, hT⟩ (c_X7_gap9 l D cy a i r3 q tl p1 x3_5 hRi hRr (by first | omega | decide) (by first | omega | decide)) (cwV 2 hT (gV t_300 t_302 t_303 t_304 t_301) rfl rfl rfl (by decide +kernel) ⟨Nat.le_of_ble_eq_true rfl, Nat.le_of_ble_eq_true rfl⟩) (rP_v hP hK (va_recv hK hP (ci := 7) (q0 := 58) rfl rfl)) rfl rfl hl.1 rfl (lv_room (Nat.le_of_ble_eq_true rfl)) dX7_stretch_57 ⟨Nat.le_of_ble_eq_true rfl, Nat.le_of_ble_eq_true rfl⟩) (fun r_14 hr_14 => ?_)
                  have hr57 : r_14 = r3 60 (11 * p1.toInt + x3_5.toInt).toNat := hr_14
                  have hi57 : (11 * p1.toInt + x3_5.toInt).toNat = 11 * p1.toNatClampNeg + x3_5.toNatClampNeg := by show _ = 11 * p1.toInt.toNat + x3_5.toInt.toNat; omega
                  have hv57 : r_14.toInt = (v9 p1.toNatClampNeg x3_5.toNatClampNeg).getD (-1000000) := by rw [hr57, hi57]; exact gpL_at hx3 hB11 hn5 (gpX_b hn9)
                  refine lv_iadd hx hb dX7_stretch_60 ?_
                  refine lv_topi (fun v_15 ev_15 => ?_)
                  refine lv_istore (lv' := [(6, .int v_15), (5, .int x3_5), (4, .int x1_4), (0, .ref (a 58)), (1, .int p0), (2, .int p1), (3, .int p2)]) hx hb dX7_stretch_61 hl (by decide) rfl (fun ls hl => ?_)
                  refine lv_aload_n hx hb dX7_stretch_63 rfl (lv_at hl 3 rfl) ?_
                  refine va_get (D := D) (ci := 7) (v := .ref (a 60)) (C := RX7) (T := TX7) (N := 4) hx hb hT iX7 hown hK hP 58 rfl rfl 3 (by decide) (hT _ t_299) (fun _ h9 => h9) rfl dX7_stretch_64 ?_
                  refine lv_iload hx hb dX7_stretch_67 (lv_at hl 2 rfl) ?_
                  refine lv_bipush (v := 11) hx hb dX7_stretch_69 (by decide) ?_
                  refine lv_imul hx hb dX7_stretch_71 ?_
                  refine lv_topi (fun v_16 ev_16 => ?_)
                  have hv_16 : v_16.toInt = x1_4.toInt * 11 := by rw [ev_16]; have := b_rg x1_4; exact i_mul (a := x1_4.toInt) (b := 11) rfl rfl (by omega) (by omega)
                  refine lv_iload hx hb dX7_stretch_72 (lv_at hl 1 rfl) ?_
                  refine lv_iadd hx hb dX7_stretch_74 ?_
                  refine lv_topi (fun v_17 ev_17 => ?_)
                  have hv_17 : v_17.toInt = v_16.toInt + x3_5.toInt := by rw [ev_17]; have := b_rg v_16; have := b_rg x3_5; exact i_add (a := v_16.toInt) (b := x3_5.toInt) rfl rfl (by omega) (by omega)
                  refine lv_aload_n hx hb dX7_stretch_75 rfl (lv_at hl 3 rfl) ?_
                  refine lv_iload hx hb dX7_stretch_76 (lv_at hl 2 rfl) ?_
                  refine lv_iload hx hb dX7_stretch_78 (lv_at hl 1 rfl) ?_
                  refine vp_callSi (W.runV (As := [.int x1_4, .int x3_5]) (rest := [.int v_17, .ref (a 60)]) ⟨hx, hb, hml, hown, hT⟩ (c_X7_gap9 l D cy a i r3 q tl x1_4 x3_5 hRi hRr (by first | omega | decide) (by first | omega | decide)) (cwV 2 hT (gV t_300 t_302 t_303 t_304 t_301) rfl rfl rfl (by decide +kernel) ⟨Nat.le_of_ble_eq_true rfl, Nat.le_of_ble_eq_true rfl⟩) (rP_v hP hK (va_recv hK hP (ci := 7) (q0 := 58) rfl rfl)) rfl rfl hl.1 rfl (lv_room (Nat.le_of_ble_eq_true rfl)) dX7_stretch_80 ⟨Nat.le_of_ble_eq_true rfl, Nat.le_of_ble_eq_true rfl⟩) (fun r_18 hr_18 => ?_)
                  have hr80 : r_18 = r3 60 (11 * x1_4.toInt + x3_5.toInt).toNat := hr_18
                  have hi80 : (11 * x1_4.toInt + x3_5.toInt).toNat = 11 * x1_4.toNatClampNeg + x3_5.toNatClampNeg := by show _ = 11 * x1_4.toInt.toNat + x3_5.toInt.toNat; omega
                  have hv80 : r_18.toInt = (v9 x1_4.toNatClampNeg x3_5.toNatClampNeg).getD (-1000000) := by rw [hr80, hi80]; exact gpL_un hx3 hn4 hn5
                  refine lv_iload hx hb dX7_stretch_83 (lv_at hl 0 rfl) ?_
                  refine va_mmax hx hb (by rw [hml]; exact hl.1.symm) hown (hT _ t_306) (hT _ t_307) (hT _ t_289) (hT _ t_308) (Nat.le_of_ble_eq_true rfl) (Nat.le_of_ble_eq_true rfl) (Nat.le_of_ble_eq_true rfl) (Nat.le_of_ble_eq_true rfl) dX7_stretch_85 ?_
                  refine lv_topi (fun v_19 ev_19 => ?_)
                  refine va_iast hx hb hK hP hD hS 60 0 rfl rfl (vp_inI (by omega) (by omega)) dX7_stretch_88 (fun H locs hP hD hS => ?_)
                  rw [zS60] at hP hD
                  have hRr : yRr (va_up r3 60 (upd (r3 60) v_17.toNatClampNeg v_19)) := Yr_upd hRr 60 (v_17.toNatClampNeg) v_19 (b_rg _)
                  have hEr : mEr [60] _ (va_up r3 60 (upd (r3 60) v_17.toNatClampNeg v_19)) := Er_up hEr 60 _ (by decide)
                  obtain ⟨x_20, ex_20⟩ : ∃ y : Int32, y = x3_5 + 1 := ⟨_, rfl⟩
                  refine lv_iinc (v := x_20) (lv' := [(5, .int x_20), (6, .int v_15), (4, .int x1_4), (0, .ref (a 58)), (1, .int p0), (2, .int p1), (3, .int p2)]) hx hb dX7_stretch_89 hl (k := 1) rfl (by rw [ex_20]; rfl) (by decide) rfl (fun ls hl => ?_)
                  have hx_20 : x_20.toInt = x3_5.toInt + 1 := by rw [ex_20]; have := b_rg x3_5; exact i_add (a := x3_5.toInt) (b := 1) rfl rfl (by omega) (by omega)
                  refine lv_goto (tgt := 13) hx hb dX7_stretch_92 (by decide) ?_
                  have h6 : x_20.toNatClampNeg = x3_5.toNatClampNeg + 1 := by show x_20.toInt.toNat = x3_5.toInt.toNat + 1; omega
                  have hi9 : v_17.toNatClampNeg = 11 * x1_4.toNatClampNeg + x3_5.toNatClampNeg := by show v_17.toInt.toNat = 11 * x1_4.toInt.toNat + x3_5.toInt.toNat; omega
                  have hL9 : gpL (-1000000) (upd (r3 60) (v_17.toNatClampNeg) v_19) v9 (gpX v9 p0.toNatClampNeg p1.toNatClampNeg p2.toInt) x1_4.toNatClampNeg (x3_5.toNatClampNeg + 1) := gpL_s hx3 hi9 hn5 (gpK_cell hb9 hn4 hn5 hA11 hB11 rfl q2 hv48 hv57 hv80 (by omega) (by omega) ev_13 ev_15 ev_19)
                  exact ih3 x_20 (va_up r3 60 (upd (r3 60) v_17.toNatClampNeg v_19)) _ _ _ (by first | omega | (simp only [Int.toNat]; omega)) (by first | omega | decide) hRr hEr (by rw [h6]; exact hL9) hP hD hS (lv_sub hl [0, 2, 3, 4, 5, 6] rfl)
        exact loop_3 _ 0 r1 _ _ _ (Nat.lt_succ_self _) (by first | omega | decide) hRr hEr (by rw [show (0 : Int32).toNatClampNeg = 0 from rfl]; exact hx1) hP hD hS hl
  exact loop_1 _ 0 r _ _ _ (Nat.lt_succ_self _) (by first | omega | decide) hRr hEr (by rw [show (0 : Int32).toNatClampNeg = 0 from rfl]; exact gpL_0 hg9) hP hD hS hl
set_option maxHeartbeats 4000000 in
set_option maxRecDepth 100000 in
theorem c_X7_add8 (l : Launch) (D : va_G) (cy : Nat → ClassId) (a : Nat → Nat) (i : Nat → Int32) (r : Nat → Nat → Int32) (q : Nat → Option Nat) (tl : va_W) (p0 p1 p2 : Int32) (sz : Nat) (hRi : yRi i) (hRr : yRr r) (q0 : 0 ≤ p0.toInt ∧ p0.toInt ≤ 10) (q1 : 0 ≤ p1.toInt ∧ p1.toInt ≤ 10) (q2 : -999 ≤ p2.toInt ∧ p2.toInt ≤ 999) (v9 : Nat → Nat → Option Int) (hg9 : gpR (-1000000) (r 60) v9) (hb9 : gpB v9) : Met l yX7_add (Cond.code yX7_add cX7_add 5 (some .int) :: gT) { frames := 3, cells := 0, slots := 0, locals := 72 } (va_Pc [.ref (a 58), .int p0, .int p1, .int p2] (rQ D cy (xW cy a i r q (a 20) (a 12) ++ tl) sz)) (va_Qi (fun (z : Int32) (u : (Nat → Int32) × (Nat → Nat → Int32)) => yRi u.1 ∧ yRr u.2 ∧ mEi [15, 16] i u.1 ∧ mEr [59, 60] r u.2 ∧ ((((i 15).toInt ≤ 29 ∧ (i 16).toInt ≤ 29) → z.toInt = (i 15).toInt + 1 ∧ (u.1 15).toInt = (i 15).toInt + 1 ∧ (gpW v9 p0.toNatClampNeg p1.toNatClampNeg p2.toInt = true → gpR (-1000000) (u.2 60) v9 ∧ (u.1 16).toInt = (i 16).toInt + 1 ∧ u.2 59 = upd (r 59) (i 16).toNatClampNeg (i 15)) ∧ (gpW v9 p0.toNatClampNeg p1.toNatClampNeg p2.toInt = false → gpR (-1000000) (u.2 60) (gpX v9 p0.toNatClampNeg p1.toNatClampNeg p2.toInt) ∧ u.1 16 = i 16 ∧ u.2 59 = r 59)) ∧ (¬ ((i 15).toInt ≤ 29 ∧ (i 16).toInt ≤ 29) → z = -1 ∧ mEi [] i u.1 ∧ mEr [] r u.2))) (fun (u : (Nat → Int32) × (Nat → Nat → Int32)) t => va_P D vwCl (xW cy a u.1 u.2 q (a 20) (a 12) ++ tl) t.heap ∧ va_K D vwCl (vT cy) t ∧ va_D (va_A (xW cy a i r q (a 20) (a 12) ++ tl) sz) (xW cy a u.1 u.2 q (a 20) (a 12) ++ tl)) (va_A (xW cy a i r q (a 20) (a 12) ++ tl) sz)) 0 0 (va_A (xW cy a i r q (a 20) (a 12) ++ tl) sz) := by
  refine Met.ofQ (cc := cX7_add) (maxL := 5) (ret := (some .int)) (by decide) rfl ?_
  intro p e s m args below meth c s₁ B hml hv Q hQ
  obtain ⟨rfl, hsz, hP, hK, hD0⟩ := hv
  have hx := B.exec
  have hb := B.bytes
  have hr := B.returns
  have hlocks := B.notSynchronized
  have hT : ∀ w ∈ gT, w.before _ s = true := fun w h => atoms_spec (ws := (Cond.code yX7_add cX7_add 5 (some .int) :: gT)) B.pre w (List.mem_cons_of_mem _ h)
  have hown : s.vm.findClass RX7 = some m.cls := findClass_of_methodNamed B.named
  subst hsz
  have hD := hD0.self (sz := s.heap.size)
  generalize hAe : va_A (xW cy a i r q (a 20) (a 12) ++ tl) s.heap.size = A at hD hQ
  have hA : ∀ q : Nat, s.heap.size ≤ q → A q := fun q h => by rw [← hAe]; exact Or.inr h
  have hS : va_S A s.heap s.heap [] := va_S.rf
  have hl := lv_entry ([.ref (a 58), .int p0, .int p1, .int p2]) (n := 5) (Nat.le_of_ble_eq_true rfl)
  rw [lg_entry_eq]
  generalize (lg_sl ([.ref (a 58), .int p0, .int p1, .int p2]) ++ List.replicate (5 - (lg_sl ([.ref (a 58), .int p0, .int p1, .int p2])).length) Slot.unset).toArray = ls at hl ⊢
  have hl : lv_has ls 5 [(0, .ref (a 58)), (1, .int p0), (2, .int p1), (3, .int p2)] := hl
  have hEi : mEi [15, 16] i i := Ei_rf
  have hEr : mEr [59, 60] r r := Er_rf
  refine lv_aload_n hx hb dX7_add_0 rfl (lv_at hl 0 rfl) ?_
  refine va_get (D := D) (ci := 7) (v := .int (i 15)) (C := RX7) (T := TX7) (N := 4) hx hb hT iX7 hown hK hP 58 rfl rfl 0 (by decide) (hT _ t_309) (fun _ h9 => h9) rfl dX7_add_1 ?_
  have hg_1 : 0 ≤ (i 15).toInt ∧ (i 15).toInt ≤ 30 := hRi 15
  refine lv_bipush (v := 30) hx hb dX7_add_4 (by decide) ?_
  refine lv_icmp_ge (tgt := 18) hx hb dX7_add_6 (by decide) (fun c_2 => ?_) (fun c_2 => ?_)
  · have c_2 : 30 ≤ (i 15).toInt := b_le c_2
    refine lv_iconst (v := (-1)) hx hb dX7_add_18 (by decide) ?_
    subst hQ
    exact W.iret (v := (-1)) hx hb hr (fun t ht hW => ⟨⟨_, (i, r), rfl, ⟨hRi, hRr, hEi, hEr, ⟨fun h9 => absurd h9 (by omega), fun _ => ⟨rfl, Ei_rf, Er_rf⟩⟩⟩, by rw [ht]; exact hP, va_K.moved hW.alike hK, hD⟩, hS.F ht⟩) hS.2.2 dX7_add_19
  · have c_2 : (i 15).toInt < 30 := b_nle c_2
    refine lv_aload_n hx hb dX7_add_9 rfl (lv_at hl 0 rfl) ?_
    refine va_get (D := D) (ci := 7) (v := .int (i 16)) (C := RX7) (T := TX7) (N := 4) hx hb hT iX7 hown hK hP 58 rfl rfl 1 (by decide) (hT _ t_310) (fun _ h9 => h9) rfl dX7_add_10 ?_
    have hg_3 : 0 ≤ (i 16).toInt ∧ (i 16).toInt ≤ 30 := hRi 16
    refine lv_bipush (v := 30) hx hb dX7_add_13 (by decide) ?_
    refine lv_icmp_lt (tgt := 20) hx hb dX7_add_15 (by decide) (fun c_4 => ?_) (fun c_4 => ?_)
    · have c_4 : (i 16).toInt < 30 := b_lt c_4
      refine lv_aload_n hx hb dX7_add_20 rfl (lv_at hl 0 rfl) ?_
      refine lv_iload_n hx hb dX7_add_21 rfl (lv_at hl 2 rfl) ?_
      refine lv_iload_n hx hb dX7_add_22 rfl (lv_at hl 1 rfl) ?_
      refine vp_callSi (W.runV (As := [.int p1, .int p0]) (rest := []) ⟨hx, hb, hml, hown, hT⟩ (c_X7_gap9 l D cy a i r q tl p1 p0 hRi hRr (by first | omega | decide) (by first | omega | decide)) (cwV 2 hT (gV t_300 t_302 t_303 t_304 t_301) rfl rfl rfl (by decide +kernel) ⟨Nat.le_of_ble_eq_true rfl, Nat.le_of_ble_eq_true rfl⟩) (rP_v hP hK (va_recv hK hP (ci := 7) (q0 := 58) rfl rfl)) rfl rfl hl.1 rfl (lv_room (Nat.le_of_ble_eq_true rfl)) dX7_add_23 ⟨Nat.le_of_ble_eq_true rfl, Nat.le_of_ble_eq_true rfl⟩) (fun r_5 hr_5 => ?_)
      have hA11 : p0.toNatClampNeg < 11 := by show p0.toInt.toNat < 11; omega
      have hB11 : p1.toNatClampNeg < 11 := by show p1.toInt.toNat < 11; omega
      have hr23 : r_5 = r 60 (11 * p1.toInt + p0.toInt).toNat := hr_5
      have hi23 : (11 * p1.toInt + p0.toInt).toNat = 11 * p1.toNatClampNeg + p0.toNatClampNeg := by show _ = 11 * p1.toInt.toNat + p0.toInt.toNat; omega
      have hv23 : r_5.toInt = (v9 p1.toNatClampNeg p0.toNatClampNeg).getD (-1000000) := by rw [hr23, hi23]; exact hg9 _ _ hB11 hA11
      have hWW := gpK_w hb9 hA11 hB11 (rfl : p2.toInt = p2.toInt) q2 hv23
      refine lv_istore (lv' := [(4, .int r_5), (0, .ref (a 58)), (1, .int p0), (2, .int p1), (3, .int p2)]) hx hb dX7_add_26 hl (by decide) rfl (fun ls hl => ?_)
      refine lv_iload hx hb dX7_add_28 (lv_at hl 0 rfl) ?_
      refine lv_ldc (v := (-1000000)) hx hb hown (hT _ t_305) dX7_add_30 ?_
      refine lv_icmp_eq (tgt := 68) hx hb dX7_add_32 (by decide) (fun c_6 => ?_) (fun c_6 => ?_)
      · have c_6 : r_5.toInt = (-1000000) := b_eq c_6
        have hW0 : gpW v9 p0.toNatClampNeg p1.toNatClampNeg p2.toInt = false := hWW.1 c_6
        refine lv_aload_n hx hb dX7_add_68 rfl (lv_at hl 1 rfl) ?_
        refine lv_iload_n hx hb dX7_add_69 rfl (lv_at hl 2 rfl) ?_
        refine lv_iload_n hx hb dX7_add_70 rfl (lv_at hl 3 rfl) ?_
        refine lv_iload_n hx hb dX7_add_71 rfl (lv_at hl 4 rfl) ?_
        have hF_7 := rF hD hS hA
        refine va_callv (va_runV (As := [.int p0, .int p1, .int p2]) (rest := []) ⟨hx, hb, hml, hown, hT⟩ (c_X7_stretch9 l D cy a i r q tl p0 p1 p2 _ hRi hRr (by first | omega | decide) (by first | omega | decide) (by first | omega | decide) v9 hg9 hb9 (gpW_n hW0)) (cwV 3 hT (gV t_311 t_312 t_313 t_314 t_301) rfl rfl rfl (by decide +kernel) ⟨Nat.le_of_ble_eq_true rfl, Nat.le_of_ble_eq_true rfl⟩) (rQ_v hP hK hD (va_recv hK hP (ci := 7) (q0 := 58) rfl rfl)) rfl rfl hl.1 rfl (lv_room (Nat.le_of_ble_eq_true rfl)) dX7_add_72 ⟨Nat.le_of_ble_eq_true rfl, Nat.le_of_ble_eq_true rfl⟩) hS (fun q _ h => hF_7 q h) hF_7 (fun u_9 t H1 locs ht hvm hr_8 hB hz1 hk1 hS => ?_)
        obtain ⟨r9, rfl⟩ : ∃ z, z = u_9 := ⟨_, rfl⟩
        obtain ⟨hP, hK1, hD1⟩ := hB
        rw [ht] at hP
        have hD := hD1.weaken (fun k q _ h => hF_7 q.1 h)
        obtain ⟨hRr, hE2, hr_8⟩ := hr_8
        have hRr : yRr r9 := hRr
        have hE2 : mEr [60] r r9 := hE2
        have hP : va_P D vwCl (xW cy a i r9 q (a 20) (a 12) ++ tl) H1 := hP
        have hD : va_D A (xW cy a i r9 q (a 20) (a 12) ++ tl) := hD
        have hEr : mEr [59, 60] _ r9 := Er_tr hEr hE2 (by decide)
        have hst9 : gpR (-1000000) (r9 60) (gpX v9 p0.toNatClampNeg p1.toNatClampNeg p2.toInt) := hr_8
        have hE59 : r9 59 = r 59 := hE2 59 (by decide)
        refine lv_aload_n hx hb dX7_add_75 rfl (lv_at hl 1 rfl) ?_
        refine lv_dup hx hb dX7_add_76 rfl ?_
        refine va_get (D := D) (ci := 7) (v := .int (i 15)) (C := RX7) (T := TX7) (N := 4) hx hb hT iX7 hown hK hP 58 rfl rfl 0 (by decide) (hT _ t_309) (fun _ h9 => h9) rfl dX7_add_77 ?_
        refine lv_iconst (v := 1) hx hb dX7_add_80 (by decide) ?_
        refine lv_iadd hx hb dX7_add_81 ?_
        refine lv_topi (fun v_10 ev_10 => ?_)
        have hv_10 : v_10.toInt = (i 15).toInt + 1 := by rw [ev_10]; have := b_rg (i 15); exact i_add (a := (i 15).toInt) (b := 1) rfl rfl (by omega) (by omega)
        refine va_put (D := D) (ci := 7) (v := .int v_10) (ty := .int) (C := RX7) (T := TX7) (N := 4) hx hb hT iX7 tyX7 tyX7_ok nmX7 hown hK hP hD hS 58 rfl rfl 0 (by decide) (hT _ t_309) (fun _ h9 => h9) rfl (by decide +kernel) rfl rfl (Nat.le_of_ble_eq_true rfl) dX7_add_82 (fun H locs hP hD hS => ?_)
        rw [zP15] at hP hD
        have hRi := Yi_upd hRi 15 v_10 ⟨by show (0 : Int) ≤ v_10.toInt; omega, by show v_10.toInt ≤ (30 : Int); omega⟩
        have hEi := Ei_upd hEi 15 v_10 (by decide)
        refine lv_aload_n hx hb dX7_add_85 rfl (lv_at hl 1 rfl) ?_
        refine va_get (D := D) (ci := 7) (v := .int v_10) (C := RX7) (T := TX7) (N := 4) hx hb hT iX7 hown hK hP 58 rfl rfl 0 (by decide) (hT _ t_309) (fun _ h9 => h9) rfl dX7_add_86 ?_
        subst hQ
        exact W.iret (v := v_10) hx hb hr (fun t ht hW => ⟨⟨_, (upd i 15 v_10, r9), rfl, ⟨hRi, hRr, hEi, hEr, ⟨fun _ => ⟨by omega, by show v_10.toInt = _; omega, (fun h9 => absurd (hW0.symm.trans h9) (by decide)), fun _ => ⟨hst9, rfl, hE59⟩⟩, fun h9 => absurd (by omega) h9⟩⟩, by rw [ht]; exact hP, va_K.moved hW.alike hK, hD⟩, hS.F ht⟩) hS.2.2 dX7_add_89
      · have c_6 : r_5.toInt ≠ (-1000000) := b_ne c_6
        refine lv_iload hx hb dX7_add_35 (lv_at hl 0 rfl) ?_
        refine lv_iload_n hx hb dX7_add_37 rfl (lv_at hl 4 rfl) ?_
        refine lv_iadd hx hb dX7_add_38 ?_
        refine lv_topi (fun v_11 ev_11 => ?_)
        refine lv_if_le (tgt := 68) hx hb dX7_add_39 (by decide) (fun c_12 => ?_) (fun c_12 => ?_)
        · have c_12 : v_11.toInt ≤ 0 := b_le c_12
          have hW0 : gpW v9 p0.toNatClampNeg p1.toNatClampNeg p2.toInt = false := (hWW.2 v_11 c_6 ev_11).1 c_12
          refine lv_aload_n hx hb dX7_add_68 rfl (lv_at hl 1 rfl) ?_
          refine lv_iload_n hx hb dX7_add_69 rfl (lv_at hl 2 rfl) ?_
          refine lv_iload_n hx hb dX7_add_70 rfl (lv_at hl 3 rfl) ?_
          refine lv_iload_n hx hb dX7_add_71 rfl (lv_at hl 4 rfl) ?_
          have hF_13 := rF hD hS hA
          refine va_callv (va_runV (As := [.int p0, .int p1, .int p2]) (rest := []) ⟨hx, hb, hml, hown, hT⟩ (c_X7_stretch9 l D cy a i r q tl p0 p1 p2 _ hRi hRr (by first | omega | decide) (by first | omega | decide) (by first | omega | decide) v9 hg9 hb9 (gpW_n hW0)) (cwV 3 hT (gV t_311 t_312 t_313 t_314 t_301) rfl rfl rfl (by decide +kernel) ⟨Nat.le_of_ble_eq_true rfl, Nat.le_of_ble_eq_true rfl⟩) (rQ_v hP hK hD (va_recv hK hP (ci := 7) (q0 := 58) rfl rfl)) rfl rfl hl.1 rfl (lv_room (Nat.le_of_ble_eq_true rfl)) dX7_add_72 ⟨Nat.le_of_ble_eq_true rfl, Nat.le_of_ble_eq_true rfl⟩) hS (fun q _ h => hF_13 q h) hF_13 (fun u_15 t H1 locs ht hvm hr_14 hB hz1 hk1 hS => ?_)
          obtain ⟨r15, rfl⟩ : ∃ z, z = u_15 := ⟨_, rfl⟩
          obtain ⟨hP, hK1, hD1⟩ := hB
          rw [ht] at hP
          have hD := hD1.weaken (fun k q _ h => hF_13 q.1 h)
          obtain ⟨hRr, hE2, hr_14⟩ := hr_14
          have hRr : yRr r15 := hRr
          have hE2 : mEr [60] r r15 := hE2
          have hP : va_P D vwCl (xW cy a i r15 q (a 20) (a 12) ++ tl) H1 := hP
          have hD : va_D A (xW cy a i r15 q (a 20) (a 12) ++ tl) := hD
          have hEr : mEr [59, 60] _ r15 := Er_tr hEr hE2 (by decide)
          have hst9 : gpR (-1000000) (r15 60) (gpX v9 p0.toNatClampNeg p1.toNatClampNeg p2.toInt) := hr_14
          have hE59 : r15 59 = r 59 := hE2 59 (by decide)
          refine lv_aload_n hx hb dX7_add_75 rfl (lv_at hl 1 rfl) ?_
          refine lv_dup hx hb dX7_add_76 rfl ?_
          refine va_get (D := D) (ci := 7) (v := .int (i 15)) (C := RX7) (T := TX7) (N := 4) hx hb hT iX7 hown hK hP 58 rfl rfl 0 (by decide) (hT _ t_309) (fun _ h9 => h9) rfl dX7_add_77 ?_
          refine lv_iconst (v := 1) hx hb dX7_add_80 (by decide) ?_
          refine lv_iadd hx hb dX7_add_81 ?_
          refine lv_topi (fun v_16 ev_16 => ?_)
          have hv_16 : v_16.toInt = (i 15).toInt + 1 := by rw [ev_16]; have := b_rg (i 15); exact i_add (a := (i 15).toInt) (b := 1) rfl rfl (by omega) (by omega)
          refine va_put (D := D) (ci := 7) (v := .int v_16) (ty := .int) (C := RX7) (T := TX7) (N := 4) hx hb hT iX7 tyX7 tyX7_ok nmX7 hown hK hP hD hS 58 rfl rfl 0 (by decide) (hT _ t_309) (fun _ h9 => h9) rfl (by decide +kernel) rfl rfl (Nat.le_of_ble_eq_true rfl) dX7_add_82 (fun H locs hP hD hS => ?_)
          rw [zP15] at hP hD
          have hRi := Yi_upd hRi 15 v_16 ⟨by show (0 : Int) ≤ v_16.toInt; omega, by show v_16.toInt ≤ (30 : Int); omega⟩
          have hEi := Ei_upd hEi 15 v_16 (by decide)
          refine lv_aload_n hx hb dX7_add_85 rfl (lv_at hl 1 rfl) ?_
          refine va_get (D := D) (ci := 7) (v := .int v_16) (C := RX7) (T := TX7) (N := 4) hx hb hT iX7 hown hK hP 58 rfl rfl 0 (by decide) (hT _ t_309) (fun _ h9 => h9) rfl dX7_add_86 ?_
          subst hQ
          exact W.iret (v := v_16) hx hb hr (fun t ht hW => ⟨⟨_, (upd i 15 v_16, r15), rfl, ⟨hRi, hRr, hEi, hEr, ⟨fun _ => ⟨by omega, by show v_16.toInt = _; omega, (fun h9 => absurd (hW0.symm.trans h9) (by decide)), fun _ => ⟨hst9, rfl, hE59⟩⟩, fun h9 => absurd (by omega) h9⟩⟩, by rw [ht]; exact hP, va_K.moved hW.alike hK, hD⟩, hS.F ht⟩) hS.2.2 dX7_add_89
        · have c_12 : 0 < v_11.toInt := b_nle c_12
          have hW1 : gpW v9 p0.toNatClampNeg p1.toNatClampNeg p2.toInt = true := (hWW.2 v_11 c_6 ev_11).2 c_12
          refine lv_aload_n hx hb dX7_add_42 rfl (lv_at hl 1 rfl) ?_
          refine va_get (D := D) (ci := 7) (v := .ref (a 59)) (C := RX7) (T := TX7) (N := 4) hx hb hT iX7 hown hK hP 58 rfl rfl 2 (by decide) (hT _ t_315) (fun _ h9 => h9) rfl dX7_add_43 ?_
          refine lv_aload_n hx hb dX7_add_46 rfl (lv_at hl 1 rfl) ?_
          refine va_get (D := D) (ci := 7) (v := .int (i 16)) (C := RX7) (T := TX7) (N := 4) hx hb hT iX7 hown hK hP 58 rfl rfl 1 (by decide) (hT _ t_310) (fun _ h9 => h9) rfl dX7_add_47 ?_
          refine lv_aload_n hx hb dX7_add_50 rfl (lv_at hl 1 rfl) ?_
          refine va_get (D := D) (ci := 7) (v := .int (i 15)) (C := RX7) (T := TX7) (N := 4) hx hb hT iX7 hown hK hP 58 rfl rfl 0 (by decide) (hT _ t_309) (fun _ h9 => h9) rfl dX7_add_51 ?_
          refine va_iast hx hb hK hP hD hS 59 0 rfl rfl (vp_inI (by omega) (by omega)) dX7_add_54 (fun H locs hP hD hS => ?_)
          rw [zS59] at hP hD
          have hRr : yRr (va_up r 59 (upd (r 59) ((i 16).toNatClampNeg) (i 15))) := Yr_upd hRr 59 ((i 16).toNatClampNeg) (i 15) ⟨by show (0 : Int) ≤ (i 15).toInt; omega, by show (i 15).toInt ≤ (29 : Int); omega⟩
          have hEr : mEr [59, 60] _ (va_up r 59 (upd (r 59) ((i 16).toNatClampNeg) (i 15))) := Er_up hEr 59 _ (by decide)
          refine lv_aload_n hx hb dX7_add_55 rfl (lv_at hl 1 rfl) ?_
          refine lv_dup hx hb dX7_add_56 rfl ?_
          refine va_get (D := D) (ci := 7) (v := .int (i 16)) (C := RX7) (T := TX7) (N := 4) hx hb hT iX7 hown hK hP 58 rfl rfl 1 (by decide) (hT _ t_310) (fun _ h9 => h9) rfl dX7_add_57 ?_
          refine lv_iconst (v := 1) hx hb dX7_add_60 (by decide) ?_
          refine lv_iadd hx hb dX7_add_61 ?_
          refine lv_topi (fun v_17 ev_17 => ?_)
          have hv_17 : v_17.toInt = (i 16).toInt + 1 := by rw [ev_17]; have := b_rg (i 16); exact i_add (a := (i 16).toInt) (b := 1) rfl rfl (by omega) (by omega)
          refine va_put (D := D) (ci := 7) (v := .int v_17) (ty := .int) (C := RX7) (T := TX7) (N := 4) hx hb hT iX7 tyX7 tyX7_ok nmX7 hown hK hP hD hS 58 rfl rfl 1 (by decide) (hT _ t_310) (fun _ h9 => h9) rfl (by decide +kernel) rfl rfl (Nat.le_of_ble_eq_true rfl) dX7_add_62 (fun H locs hP hD hS => ?_)
          rw [zP16] at hP hD
          have hRi := Yi_upd hRi 16 v_17 ⟨by show (0 : Int) ≤ v_17.toInt; omega, by show v_17.toInt ≤ (30 : Int); omega⟩
          have hEi := Ei_upd hEi 16 v_17 (by decide)
          refine lv_goto (tgt := 75) hx hb dX7_add_65 (by decide) ?_
          refine lv_aload_n hx hb dX7_add_75 rfl (lv_at hl 1 rfl) ?_
          refine lv_dup hx hb dX7_add_76 rfl ?_
          refine va_get (D := D) (ci := 7) (v := .int (i 15)) (C := RX7) (T := TX7) (N := 4) hx hb hT iX7 hown hK hP 58 rfl rfl 0 (by decide) (hT _ t_309) (fun _ h9 => h9) rfl dX7_add_77 ?_
          refine lv_iconst (v := 1) hx hb dX7_add_80 (by decide) ?_
          refine lv_iadd hx hb dX7_add_81 ?_
          refine lv_topi (fun v_18 ev_18 => ?_)
          have hv_18 : v_18.toInt = (i 15).toInt + 1 := by rw [ev_18]; have := b_rg (i 15); exact i_add (a := (i 15).toInt) (b := 1) rfl rfl (by omega) (by omega)
          refine va_put (D := D) (ci := 7) (v := .int v_18) (ty := .int) (C := RX7) (T := TX7) (N := 4) hx hb hT iX7 tyX7 tyX7_ok nmX7 hown hK hP hD hS 58 rfl rfl 0 (by decide) (hT _ t_309) (fun _ h9 => h9) rfl (by decide +kernel) rfl rfl (Nat.le_of_ble_eq_true rfl) dX7_add_82 (fun H locs hP hD hS => ?_)
          rw [zP15] at hP hD
          have hRi := Yi_upd hRi 15 v_18 ⟨by show (0 : Int) ≤ v_18.toInt; omega, by show v_18.toInt ≤ (30 : Int); omega⟩
          have hEi := Ei_upd hEi 15 v_18 (by decide)
          refine lv_aload_n hx hb dX7_add_85 rfl (lv_at hl 1 rfl) ?_
          refine va_get (D := D) (ci := 7) (v := .int v_18) (C := RX7) (T := TX7) (N := 4) hx hb hT iX7 hown hK hP 58 rfl rfl 0 (by decide) (hT _ t_309) (fun _ h9 => h9) rfl dX7_add_86 ?_
          subst hQ
          exact W.iret (v := v_18) hx hb hr (fun t ht hW => ⟨⟨_, (upd (upd i 16 v_17) 15 v_18, va_up r 59 (upd (r 59) ((i 16).toNatClampNeg) (i 15))), rfl, ⟨hRi, hRr, hEi, hEr, ⟨fun _ => ⟨by omega, by show v_18.toInt = _; omega, fun _ => ⟨hg9, by show v_17.toInt = _; omega, rfl⟩, (fun h9 => absurd (hW1.symm.trans h9) (by decide))⟩, fun h9 => absurd (by omega) h9⟩⟩, by rw [ht]; exact hP, va_K.moved hW.alike hK, hD⟩, hS.F ht⟩) hS.2.2 dX7_add_89
    · have c_4 : 30 ≤ (i 16).toInt := b_nlt c_4
      refine lv_iconst (v := (-1)) hx hb dX7_add_18 (by decide) ?_
      subst hQ
      exact W.iret (v := (-1)) hx hb hr (fun t ht hW => ⟨⟨_, (i, r), rfl, ⟨hRi, hRr, hEi, hEr, ⟨fun h9 => absurd h9 (by omega), fun _ => ⟨rfl, Ei_rf, Er_rf⟩⟩⟩, by rw [ht]; exact hP, va_K.moved hW.alike hK, hD⟩, hS.F ht⟩) hS.2.2 dX7_add_19
set_option maxHeartbeats 4000000 in
set_option maxRecDepth 100000 in
theorem c_X11_fact8 (l : Launch) (D : va_G) (cy : Nat → ClassId) (a : Nat → Nat) (i : Nat → Int32) (r : Nat → Nat → Int32) (q : Nat → Option Nat) (tl : va_W) (p0 p1 p2 : Int32) (sz : Nat) (hRi : yRi i) (hRr : yRr r) (v9 : Nat → Nat → Option Int) (hg9 : gpR (-1000000) (r 60) v9) (hb9 : gpB v9) : Met l yX11_fact (Cond.code yX11_fact cX11_fact 4 (some .int) :: gT) { frames := 4, cells := 0, slots := 0, locals := 96 } (va_Pc [.ref (a 0), .int p0, .int p1, .int p2] (rQ D cy (xW cy a i r q (a 20) (a 12) ++ tl) sz)) (va_Qi (fun (z : Int32) (u : (Nat → Int32) × (Nat → Nat → Int32)) => yRi u.1 ∧ yRr u.2 ∧ mEi [15, 16] i u.1 ∧ mEr [59, 60] r u.2 ∧ ((((0 ≤ p0.toInt ∧ p0.toInt ≤ 10) ∧ (0 ≤ p1.toInt ∧ p1.toInt ≤ 10) ∧ p0.toInt ≠ p1.toInt ∧ (-999 ≤ p2.toInt ∧ p2.toInt ≤ 999) ∧ (i 15).toInt ≤ 29 ∧ (i 16).toInt ≤ 29) → z.toInt = (i 15).toInt + 1 ∧ (u.1 15).toInt = (i 15).toInt + 1 ∧ (gpW v9 p0.toNatClampNeg p1.toNatClampNeg p2.toInt = true → gpR (-1000000) (u.2 60) v9 ∧ (u.1 16).toInt = (i 16).toInt + 1 ∧ u.2 59 = upd (r 59) (i 16).toNatClampNeg (i 15)) ∧ (gpW v9 p0.toNatClampNeg p1.toNatClampNeg p2.toInt = false → gpR (-1000000) (u.2 60) (gpX v9 p0.toNatClampNeg p1.toNatClampNeg p2.toInt) ∧ u.1 16 = i 16 ∧ u.2 59 = r 59)) ∧ (¬ ((0 ≤ p0.toInt ∧ p0.toInt ≤ 10) ∧ (0 ≤ p1.toInt ∧ p1.toInt ≤ 10) ∧ p0.toInt ≠ p1.toInt ∧ (-999 ≤ p2.toInt ∧ p2.toInt ≤ 999) ∧ (i 15).toInt ≤ 29 ∧ (i 16).toInt ≤ 29) → z = -1 ∧ mEi [] i u.1 ∧ mEr [] r u.2))) (fun (u : (Nat → Int32) × (Nat → Nat → Int32)) t => va_P D vwCl (xW cy a u.1 u.2 q (a 20) (a 12) ++ tl) t.heap ∧ va_K D vwCl (vT cy) t ∧ va_D (va_A (xW cy a i r q (a 20) (a 12) ++ tl) sz) (xW cy a u.1 u.2 q (a 20) (a 12) ++ tl)) (va_A (xW cy a i r q (a 20) (a 12) ++ tl) sz)) 0 0 (va_A (xW cy a i r q (a 20) (a 12) ++ tl) sz) := by
  refine Met.ofQ (cc := cX11_fact) (maxL := 4) (ret := (some .int)) (by decide) rfl ?_
  intro p e s m args below meth c s₁ B hml hv Q hQ
  obtain ⟨rfl, hsz, hP, hK, hD0⟩ := hv
  have hx := B.exec
  have hb := B.bytes
  have hr := B.returns
  have hlocks := B.notSynchronized
  have hT : ∀ w ∈ gT, w.before _ s = true := fun w h => atoms_spec (ws := (Cond.code yX11_fact cX11_fact 4 (some .int) :: gT)) B.pre w (List.mem_cons_of_mem _ h)
  have hown : s.vm.findClass RX11 = some m.cls := findClass_of_methodNamed B.named
  subst hsz
  have hD := hD0.self (sz := s.heap.size)
  generalize hAe : va_A (xW cy a i r q (a 20) (a 12) ++ tl) s.heap.size = A at hD hQ
  have hA : ∀ q : Nat, s.heap.size ≤ q → A q := fun q h => by rw [← hAe]; exact Or.inr h
  have hS : va_S A s.heap s.heap [] := va_S.rf
  have hl := lv_entry ([.ref (a 0), .int p0, .int p1, .int p2]) (n := 4) (Nat.le_of_ble_eq_true rfl)
  rw [lg_entry_eq]
  generalize (lg_sl ([.ref (a 0), .int p0, .int p1, .int p2]) ++ List.replicate (4 - (lg_sl ([.ref (a 0), .int p0, .int p1, .int p2])).length) Slot.unset).toArray = ls at hl ⊢
  have hl : lv_has ls 4 [(0, .ref (a 0)), (1, .int p0), (2, .int p1), (3, .int p2)] := hl
  have hEi : mEi [15, 16] i i := Ei_rf
  have hEr : mEr [59, 60] r r := Er_rf
  refine lv_iload_n hx hb dX11_fact_0 rfl (lv_at hl 1 rfl) ?_
  refine lv_iconst (v := 0) hx hb dX11_fact_1 (by decide) ?_
  refine lv_bipush (v := 10) hx hb dX11_fact_2 (by decide) ?_
  refine vp_callSi (W.runS (As := [.int p0, .int 0, .int 10]) (rest := []) ⟨hx, hb, hml, hown, hT⟩ (c_X11_within l p0 0 10) (va_cwS 3 hT (gS t_1 t_3 t_4 t_2) rfl rfl rfl (by decide +kernel) ⟨Nat.le_of_ble_eq_true rfl, Nat.le_of_ble_eq_true rfl⟩) preT rfl rfl hl.1 rfl (lv_room (Nat.le_of_ble_eq_true rfl)) dX11_fact_4 ⟨Nat.le_of_ble_eq_true rfl, Nat.le_of_ble_eq_true rfl⟩) (fun r_1 hr_1 => ?_)
  have hr_1 : BR r_1 (0 ≤ p0.toInt ∧ p0.toInt ≤ 10) 1 0 := hr_1
  rcases hr_1 with ⟨rfl, h_2⟩ | ⟨rfl, h_2⟩
  · skip
    refine lv_if_eq (tgt := 38) hx hb dX11_fact_7 (by decide) (fun c_3 => absurd c_3 (by decide)) (fun c_3 => ?_)
    refine lv_iload_n hx hb dX11_fact_10 rfl (lv_at hl 2 rfl) ?_
    refine lv_iconst (v := 0) hx hb dX11_fact_11 (by decide) ?_
    refine lv_bipush (v := 10) hx hb dX11_fact_12 (by decide) ?_
    refine vp_callSi (W.runS (As := [.int p1, .int 0, .int 10]) (rest := []) ⟨hx, hb, hml, hown, hT⟩ (c_X11_within l p1 0 10) (va_cwS 3 hT (gS t_1 t_3 t_4 t_2) rfl rfl rfl (by decide +kernel) ⟨Nat.le_of_ble_eq_true rfl, Nat.le_of_ble_eq_true rfl⟩) preT rfl rfl hl.1 rfl (lv_room (Nat.le_of_ble_eq_true rfl)) dX11_fact_14 ⟨Nat.le_of_ble_eq_true rfl, Nat.le_of_ble_eq_true rfl⟩) (fun r_4 hr_4 => ?_)
    have hr_4 : BR r_4 (0 ≤ p1.toInt ∧ p1.toInt ≤ 10) 1 0 := hr_4
    rcases hr_4 with ⟨rfl, h_5⟩ | ⟨rfl, h_5⟩
    · skip
      refine lv_if_eq (tgt := 38) hx hb dX11_fact_17 (by decide) (fun c_6 => absurd c_6 (by decide)) (fun c_6 => ?_)
      refine lv_iload_n hx hb dX11_fact_20 rfl (lv_at hl 1 rfl) ?_
      refine lv_iload_n hx hb dX11_fact_21 rfl (lv_at hl 2 rfl) ?_
      refine lv_icmp_eq (tgt := 38) hx hb dX11_fact_22 (by decide) (fun c_7 => ?_) (fun c_7 => ?_)
      · have c_7 : p0.toInt = p1.toInt := b_eq c_7
        refine lv_iconst (v := (-1)) hx hb dX11_fact_38 (by decide) ?_
        subst hQ
        exact W.iret (v := (-1)) hx hb hr (fun t ht hW => ⟨⟨_, (i, r), rfl, ⟨hRi, hRr, hEi, hEr, ⟨fun h9 => absurd h9 (by omega), fun _ => ⟨rfl, Ei_rf, Er_rf⟩⟩⟩, by rw [ht]; exact hP, va_K.moved hW.alike hK, hD⟩, hS.F ht⟩) hS.2.2 dX11_fact_39
      · have c_7 : p0.toInt ≠ p1.toInt := b_ne c_7
        refine lv_iload_n hx hb dX11_fact_25 rfl (lv_at hl 3 rfl) ?_
        refine lv_sipush (v := (-999)) hx hb dX11_fact_26 (by decide) ?_
        refine lv_sipush (v := 999) hx hb dX11_fact_29 (by decide) ?_
        refine vp_callSi (W.runS (As := [.int p2, .int (-999), .int 999]) (rest := []) ⟨hx, hb, hml, hown, hT⟩ (c_X11_within l p2 (-999) 999) (va_cwS 3 hT (gS t_1 t_3 t_4 t_2) rfl rfl rfl (by decide +kernel) ⟨Nat.le_of_ble_eq_true rfl, Nat.le_of_ble_eq_true rfl⟩) preT rfl rfl hl.1 rfl (lv_room (Nat.le_of_ble_eq_true rfl)) dX11_fact_32 ⟨Nat.le_of_ble_eq_true rfl, Nat.le_of_ble_eq_true rfl⟩) (fun r_8 hr_8 => ?_)
        have hr_8 : BR r_8 ((-999) ≤ p2.toInt ∧ p2.toInt ≤ 999) 1 0 := hr_8
        rcases hr_8 with ⟨rfl, h_9⟩ | ⟨rfl, h_9⟩
        · skip
          refine lv_if_ne (tgt := 40) hx hb dX11_fact_35 (by decide) (fun c_10 => ?_) (fun c_10 => absurd c_10 (by decide))
          refine lv_aload_n hx hb dX11_fact_40 rfl (lv_at hl 0 rfl) ?_
          refine va_get (D := D) (ci := 11) (v := .ref (a 58)) (C := RX11) (T := TX11) (N := 14) hx hb hT iX11 hown hK hP 0 rfl rfl 13 (by decide) (hT _ t_316) (fun _ h9 => h9) rfl dX11_fact_41 ?_
          refine lv_iload_n hx hb dX11_fact_44 rfl (lv_at hl 1 rfl) ?_
          refine lv_iload_n hx hb dX11_fact_45 rfl (lv_at hl 2 rfl) ?_
          refine lv_iload_n hx hb dX11_fact_46 rfl (lv_at hl 3 rfl) ?_
          have hF_11 := rF hD hS hA
          refine va_calli (va_runV (As := [.int p0, .int p1, .int p2]) (rest := []) ⟨hx, hb, hml, hown, hT⟩ (c_X7_add8 l D cy a i r q tl p0 p1 p2 _ hRi hRr (by first | omega | decide) (by first | omega | decide) (by first | omega | decide) v9 hg9 hb9) (cwV 3 hT (gV t_317 t_318 t_319 t_320 t_301) rfl rfl rfl (by decide +kernel) ⟨Nat.le_of_ble_eq_true rfl, Nat.le_of_ble_eq_true rfl⟩) (rQ_v hP hK hD (va_recv hK hP (ci := 7) (q0 := 58) rfl rfl)) rfl rfl hl.1 rfl (lv_room (Nat.le_of_ble_eq_true rfl)) dX11_fact_47 ⟨Nat.le_of_ble_eq_true rfl, Nat.le_of_ble_eq_true rfl⟩) hS (fun q _ h => hF_11 q h) hF_11 (fun r_12 u_13 t H1 locs ht hvm hr_12 hB hz1 hk1 hS => ?_)
          obtain ⟨i13, r13⟩ := u_13
          obtain ⟨hP, hK1, hD1⟩ := hB
          rw [ht] at hP
          have hD := hD1.weaken (fun k q _ h => hF_11 q.1 h)
          obtain ⟨hRi, hRr, hE1, hE2, hr_12⟩ := hr_12
          have hRi : yRi i13 := hRi
          have hE1 : mEi [15, 16] i i13 := hE1
          have hRr : yRr r13 := hRr
          have hE2 : mEr [59, 60] r r13 := hE2
          have hP : va_P D vwCl (xW cy a i13 r13 q (a 20) (a 12) ++ tl) H1 := hP
          have hD : va_D A (xW cy a i13 r13 q (a 20) (a 12) ++ tl) := hD
          have hEi : mEi [15, 16] _ i13 := Ei_tr hEi hE1 (by decide)
          have hEr : mEr [59, 60] _ r13 := Er_tr hEr hE2 (by decide)
          have hr_12 : (((i 15).toInt ≤ 29 ∧ (i 16).toInt ≤ 29) → r_12.toInt = (i 15).toInt + 1 ∧ (i13 15).toInt = (i 15).toInt + 1 ∧ (gpW v9 p0.toNatClampNeg p1.toNatClampNeg p2.toInt = true → gpR (-1000000) (r13 60) v9 ∧ (i13 16).toInt = (i 16).toInt + 1 ∧ r13 59 = upd (r 59) (i 16).toNatClampNeg (i 15)) ∧ (gpW v9 p0.toNatClampNeg p1.toNatClampNeg p2.toInt = false → gpR (-1000000) (r13 60) (gpX v9 p0.toNatClampNeg p1.toNatClampNeg p2.toInt) ∧ i13 16 = i 16 ∧ r13 59 = r 59)) ∧ (¬ ((i 15).toInt ≤ 29 ∧ (i 16).toInt ≤ 29) → r_12 = -1 ∧ mEi [] i i13 ∧ mEr [] r r13) := hr_12
          subst hQ
          exact W.iret (v := r_12) hx hb hr (fun t ht hW => ⟨⟨_, (i13, r13), rfl, ⟨hRi, hRr, hEi, hEr, ⟨fun h9 => hr_12.1 (by clear hr_12; omega), fun h9 => hr_12.2 (by clear hr_12; omega)⟩⟩, by rw [ht]; exact hP, va_K.moved hW.alike hK, hD⟩, hS.F ht⟩) hS.2.2 dX11_fact_50
        · skip
          refine lv_if_ne (tgt := 40) hx hb dX11_fact_35 (by decide) (fun c_14 => absurd (by decide) c_14) (fun c_14 => ?_)
          refine lv_iconst (v := (-1)) hx hb dX11_fact_38 (by decide) ?_
          subst hQ
          exact W.iret (v := (-1)) hx hb hr (fun t ht hW => ⟨⟨_, (i, r), rfl, ⟨hRi, hRr, hEi, hEr, ⟨fun h9 => absurd h9 (by omega), fun _ => ⟨rfl, Ei_rf, Er_rf⟩⟩⟩, by rw [ht]; exact hP, va_K.moved hW.alike hK, hD⟩, hS.F ht⟩) hS.2.2 dX11_fact_39
    · skip
      refine lv_if_eq (tgt := 38) hx hb dX11_fact_17 (by decide) (fun c_15 => ?_) (fun c_15 => absurd (by decide) c_15)
      refine lv_iconst (v := (-1)) hx hb dX11_fact_38 (by decide) ?_
      subst hQ
      exact W.iret (v := (-1)) hx hb hr (fun t ht hW => ⟨⟨_, (i, r), rfl, ⟨hRi, hRr, hEi, hEr, ⟨fun h9 => absurd h9 (by omega), fun _ => ⟨rfl, Ei_rf, Er_rf⟩⟩⟩, by rw [ht]; exact hP, va_K.moved hW.alike hK, hD⟩, hS.F ht⟩) hS.2.2 dX11_fact_39
  · skip
    refine lv_if_eq (tgt := 38) hx hb dX11_fact_7 (by decide) (fun c_16 => ?_) (fun c_16 => absurd (by decide) c_16)
    refine lv_iconst (v := (-1)) hx hb dX11_fact_38 (by decide) ?_
    subst hQ
    exact W.iret (v := (-1)) hx hb hr (fun t ht hW => ⟨⟨_, (i, r), rfl, ⟨hRi, hRr, hEi, hEr, ⟨fun h9 => absurd h9 (by omega), fun _ => ⟨rfl, Ei_rf, Er_rf⟩⟩⟩, by rw [ht]; exact hP, va_K.moved hW.alike hK, hD⟩, hS.F ht⟩) hS.2.2 dX11_fact_39
