-- the steps of a law run: the place, and what lies on the stack
abbrev rC := Nat × List Int32
def rK (op : Int) (x y : Int32) : Int32 := if op = 2 then x + y else if op = 3 then x - y else if op = 4 then x * y else if op = 5 then x / y else if op = 6 then x - x / y * y else if op = 7 then (if x.toInt < y.toInt then 1 else 0) else if op = 8 then (if y.toInt < x.toInt then 1 else 0) else (if x.toInt = y.toInt then 1 else 0)
def rStep (c fa : Nat → Int32) (t : Nat) (S : rC) : rC :=
  if t ≤ S.1 then S
  else if cOp (c S.1) = 0 then (S.1 + 1, nI (cV (c S.1)).toNat :: S.2)
  else if cOp (c S.1) = 1 then (S.1 + 1, fa (cV (c S.1)).toNat :: S.2)
  else if cOp (c S.1) = 10 then (S.1 + 1, (1 - S.2.headD 0) :: S.2.tail)
  else if cOp (c S.1) = 11 then (if S.2.headD 0 = 0 then ((cV (c S.1)).toNat, S.2) else (S.1 + 1, S.2.tail))
  else if cOp (c S.1) = 12 then (if S.2.headD 0 = 1 then ((cV (c S.1)).toNat, S.2) else (S.1 + 1, S.2.tail))
  else if (cOp (c S.1) = 5 ∨ cOp (c S.1) = 6) ∧ S.2.headD 0 = 0 then (t, [0])
  else (S.1 + 1, rK (cOp (c S.1)) (S.2.tail.headD 0) (S.2.headD 0) :: S.2.tail.tail)
def rIt (c fa : Nat → Int32) (t : Nat) : Nat → rC → rC
  | 0, S => S
  | j + 1, S => rIt c fa t j (rStep c fa t S)
def rv (c fa : Nat → Int32) (f t : Nat) : Int32 := (rIt c fa t 256 (f, [])).2.headD 0
def rTo (c fa : Nat → Int32) (f t : Nat) (S : rC) : Prop := ∃ j, j + f ≤ S.1 ∧ rIt c fa t j (f, []) = S
section RUN
variable {c fa : Nat → Int32} {f t k n : Nat} {S : rC} {l : List Int32} {g : Nat → Nat} {s : Nat → Int32} {x : Int32}
theorem rIt_add : ∀ (a b : Nat) (S : rC), rIt c fa t (a + b) S = rIt c fa t b (rIt c fa t a S) := by
  intro a
  induction a with
  | zero => intro b S; rw [Nat.zero_add]; rfl
  | succ a ih => intro b S; rw [Nat.succ_add]; exact ih b (rStep c fa t S)
theorem rT_end (h : t ≤ S.1) : rStep c fa t S = S := if_pos h
theorem rIt_end (h : t ≤ S.1) : ∀ j, rIt c fa t j S = S := by
  intro j
  induction j with
  | zero => rfl
  | succ j ih => show rIt c fa t j (rStep c fa t S) = S; rw [rT_end h]; exact ih
theorem rTo_0 : rTo c fa f t (f, []) := ⟨0, by show 0 + f ≤ f; omega, rfl⟩
theorem rTo_s (h : rTo c fa f t S) (hk : S.1 < (rStep c fa t S).1) : rTo c fa f t (rStep c fa t S) := by
  obtain ⟨j, a, e⟩ := h
  refine ⟨j + 1, by omega, ?_⟩
  rw [rIt_add, e]; rfl
theorem rTo_v (h : rTo c fa f t S) (ht : t ≤ S.1) (hs : S.1 ≤ 250) : rv c fa f t = S.2.headD 0 := by
  obtain ⟨j, a, e⟩ := h
  unfold rv
  rw [show 256 = j + (256 - j) by omega, rIt_add, e, rIt_end ht]
theorem rT_0 (h : k < t) (ho : cOp (c k) = 0) : rStep c fa t (k, l) = (k + 1, nI (cV (c k)).toNat :: l) := by
  unfold rStep; rw [if_neg (show ¬ t ≤ k by omega), if_pos ho]
theorem rT_1 (h : k < t) (ho : cOp (c k) = 1) : rStep c fa t (k, l) = (k + 1, fa (cV (c k)).toNat :: l) := by
  unfold rStep; rw [if_neg (show ¬ t ≤ k by omega), if_neg (show ¬ cOp (c k) = 0 by omega), if_pos ho]
theorem rT_10 (h : k < t) (ho : cOp (c k) = 10) : rStep c fa t (k, l) = (k + 1, (1 - l.headD 0) :: l.tail) := by
  unfold rStep; rw [if_neg (show ¬ t ≤ k by omega), if_neg (show ¬ cOp (c k) = 0 by omega), if_neg (show ¬ cOp (c k) = 1 by omega), if_pos ho]
theorem rT_11 (h : k < t) (ho : cOp (c k) = 11) : rStep c fa t (k, l) = (if l.headD 0 = 0 then ((cV (c k)).toNat, l) else (k + 1, l.tail)) := by
  unfold rStep; rw [if_neg (show ¬ t ≤ k by omega), if_neg (show ¬ cOp (c k) = 0 by omega), if_neg (show ¬ cOp (c k) = 1 by omega), if_neg (show ¬ cOp (c k) = 10 by omega), if_pos ho]
theorem rT_12 (h : k < t) (ho : cOp (c k) = 12) : rStep c fa t (k, l) = (if l.headD 0 = 1 then ((cV (c k)).toNat, l) else (k + 1, l.tail)) := by
  unfold rStep; rw [if_neg (show ¬ t ≤ k by omega), if_neg (show ¬ cOp (c k) = 0 by omega), if_neg (show ¬ cOp (c k) = 1 by omega), if_neg (show ¬ cOp (c k) = 10 by omega), if_neg (show ¬ cOp (c k) = 11 by omega), if_pos ho]
def rBin (x : Int) : Prop := x ≠ 0 ∧ x ≠ 1 ∧ x ≠ 10 ∧ x ≠ 11 ∧ x ≠ 12
theorem rT_b (h : k < t) (ho : rBin (cOp (c k))) : rStep c fa t (k, l) = (if (cOp (c k) = 5 ∨ cOp (c k) = 6) ∧ l.headD 0 = 0 then (t, [0]) else (k + 1, rK (cOp (c k)) (l.tail.headD 0) (l.headD 0) :: l.tail.tail)) := by
  obtain ⟨h0, h1, h2, h3, h4⟩ := ho
  unfold rStep; rw [if_neg (show ¬ t ≤ k by omega), if_neg h0, if_neg h1, if_neg h2, if_neg h3, if_neg h4]
def rIn (c : Nat → Int32) (g : Nat → Nat) (f t : Nat) (S : rC) : Prop := f ≤ S.1 ∧ S.1 ≤ t ∧ S.2.length = g S.1 ∧ (f < S.1 → qB7 (c (S.1 - 1)) → S.2.headD 0 = 0 ∨ S.2.headD 0 = 1) ∧ S.2.length + f ≤ S.1
theorem rIn_0 (h : g f = 0) (ht : f ≤ t) : rIn c g f t (f, []) := ⟨Nat.le_refl _, ht, h.symm, fun h9 => absurd h9 (Nat.lt_irrefl _), show 0 + f ≤ f by omega⟩
theorem rK_b (h : qB7 x) (h10 : cOp x ≠ 10) {y z : Int32} : rK (cOp x) y z = 0 ∨ rK (cOp x) y z = 1 := by
  unfold qB7 at h
  unfold rK
  rw [if_neg (by omega), if_neg (by omega), if_neg (by omega), if_neg (by omega), if_neg (by omega)]
  split
  · split <;> simp
  · split
    · split <;> simp
    · split <;> simp
theorem rIn_bool (hg : g f = 0) (hA : rA c f t) (h : rIn c g f t (k, l)) (hk : k < t) (h1 : 1 ≤ g k) (ho : 10 ≤ cOp (c k)) (ho2 : cOp (c k) ≤ 12) : l.headD 0 = 0 ∨ l.headD 0 = 1 := by
  obtain ⟨a1, a2, a3, a4, _⟩ := h
  have a1 : f ≤ k := a1
  have hne : f ≠ k := fun e => by rw [← e, hg] at h1; omega
  exact a4 (show f < k by omega) (hA k a1 hk ho ho2).2
theorem rIn_s (hg0 : g f = 0) (hg1 : g t = 1) (hs : ∀ k, f ≤ k → k < t → stepOK c g k t) (hA : rA c f t) (h : rIn c g f t (k, l)) (hk : k < t) : rIn c g f t (rStep c fa t (k, l)) ∧ k < (rStep c fa t (k, l)).1 := by
  obtain ⟨a1, a2, a3, a4, a5⟩ := id h
  have a1 : f ≤ k := a1
  have a3 : l.length = g k := a3
  have a5 : l.length + f ≤ k := a5
  obtain ⟨s0, s1, s2, s3⟩ := hs k a1 hk
  have nb : cOp (c k) < 7 ∨ 10 < cOp (c k) → ¬ qB7 (c k) := fun h9 h8 => by unfold qB7 at h8; omega
  have stay : ∀ l2 : List Int32, l2.length = g (k + 1) → (qB7 (c k) → l2.headD 0 = 0 ∨ l2.headD 0 = 1) → l2.length ≤ l.length + 1 → rIn c g f t (k + 1, l2) ∧ k < k + 1 := fun l2 e1 e2 e3 => ⟨⟨show f ≤ k + 1 by omega, show k + 1 ≤ t by omega, e1, fun _ h9 => e2 h9, show l2.length + f ≤ k + 1 by omega⟩, by omega⟩
  rcases s3 with ⟨o1, o2⟩ | ⟨o1, o2, o3⟩ | ⟨o1, o2, o3⟩ | ⟨o1, o2, o3, o4, o5, o6⟩ | ⟨o1, o2, o3, o4, o5, o6, o7⟩
  · rw [rT_0 hk o1]
    exact stay _ (by rw [List.length_cons]; omega) (fun h9 => absurd h9 (nb (by omega))) (by rw [List.length_cons]; omega)
  · rw [rT_1 hk o1]
    exact stay _ (by rw [List.length_cons]; omega) (fun h9 => absurd h9 (nb (by omega))) (by rw [List.length_cons]; omega)
  · rw [rT_10 hk o1]
    have hb := rIn_bool hg0 hA h hk o2 (by omega) (by omega)
    refine stay _ (by rw [List.length_cons, List.length_tail]; omega) (fun _ => ?_) (by rw [List.length_cons, List.length_tail]; omega)
    show 1 - l.headD 0 = 0 ∨ 1 - l.headD 0 = 1
    rcases hb with h9 | h9
    · right; rw [h9]; decide
    · left; rw [h9]; decide
  · have hb := rIn_bool hg0 hA h hk o2 (by omega) (by omega)
    have hj : rIn c g f t ((cV (c k)).toNat, l) ∧ k < (cV (c k)).toNat := ⟨⟨show f ≤ (cV (c k)).toNat by omega, show (cV (c k)).toNat ≤ t by omega, show l.length = g (cV (c k)).toNat by omega, fun _ _ => hb, show l.length + f ≤ (cV (c k)).toNat by omega⟩, by omega⟩
    have hp : rIn c g f t (k + 1, l.tail) ∧ k < k + 1 := stay _ (by rw [List.length_tail]; omega) (fun h9 => absurd h9 (nb (by omega))) (by rw [List.length_tail]; omega)
    rcases o1 with o1 | o1
    · rw [rT_11 hk o1]
      split
      · exact hj
      · exact hp
    · rw [rT_12 hk o1]
      split
      · exact hj
      · exact hp
  · rw [rT_b hk ⟨o1, o2, o3, o4, o5⟩]
    split
    · exact ⟨⟨show f ≤ t by omega, Nat.le_refl _, show 1 = g t by omega, fun _ _ => Or.inl rfl, show 1 + f ≤ t by omega⟩, hk⟩
    · exact stay _ (by rw [List.length_cons, List.length_tail, List.length_tail]; omega) (fun h9 => rK_b h9 o3) (by rw [List.length_cons, List.length_tail, List.length_tail]; omega)
-- a row holds a stack
def rep (s : Nat → Int32) : List Int32 → Prop
  | [] => True
  | x :: l => s l.length = x ∧ rep s l
theorem rep_up : ∀ l : List Int32, rep s l → l.length ≤ n → rep (upd s n x) l := by
  intro l
  induction l with
  | nil => intro _ _; exact trivial
  | cons y l ih =>
    intro h hn
    rw [List.length_cons] at hn
    exact ⟨by rw [pk_un (by omega)]; exact h.1, ih h.2 (by omega)⟩
theorem rep_push (h : rep s l) (hn : n = l.length) : rep (upd s n x) (x :: l) := ⟨by rw [← hn, pk_us], rep_up l h (by omega)⟩
theorem rep_tail (h : rep s l) : rep s l.tail := by
  cases l with
  | nil => exact trivial
  | cons y l => exact h.2
theorem rep_top (h : rep s l) (h1 : n + 1 = l.length) : s n = l.headD 0 := by
  cases l with
  | nil => rw [List.length_nil] at h1; omega
  | cons y l => rw [List.length_cons] at h1; rw [show n = l.length by omega]; exact h.1
theorem rep_2 (h : rep s l) (h1 : n + 2 = l.length) : s n = l.tail.headD 0 := rep_top (rep_tail h) (by rw [List.length_tail]; omega)
-- within a run: a row holds the stack, so many lie on it
def rX (c : Nat → Int32) (g : Nat → Nat) (f t : Nat) : Prop := g f = 0 ∧ g t = 1 ∧ (∀ k, f ≤ k → k < t → stepOK c g k t) ∧ rA c f t ∧ f < t ∧ t ≤ 220
def rLI (c fa : Nat → Int32) (g : Nat → Nat) (f t : Nat) (s : Nat → Int32) (k : Nat) (n : Int) : Prop := ∃ l : List Int32, rTo c fa f t (k, l) ∧ rIn c g f t (k, l) ∧ rep s l ∧ n = (l.length : Int)
variable {n9 : Int} {j j2 : Nat}
theorem rL_0 (hX : rX c g f t) : rLI c fa g f t s f 0 := ⟨[], rTo_0, rIn_0 hX.1 (by obtain ⟨_, _, _, _, h, _⟩ := hX; omega), trivial, rfl⟩
theorem rL_r (h : rLI c fa g f t s k n9) : f ≤ k ∧ k ≤ t ∧ n9 = (g k : Int) ∧ n9 + (f : Int) ≤ (k : Int) := by
  obtain ⟨l, _, ⟨a1, a2, a3, _, a5⟩, _, e⟩ := h
  have a1 : f ≤ k := a1
  have a2 : k ≤ t := a2
  have a3 : l.length = g k := a3
  have a5 : l.length + f ≤ k := a5
  omega
theorem rL_st {l : List Int32} {S2 : rC} {s2 : Nat → Int32} {k2 : Nat} {m9 : Int} (hX : rX c g f t) (h1 : rTo c fa f t (k, l)) (h2 : rIn c g f t (k, l)) (hk : k < t) (e : rStep c fa t (k, l) = S2) (e1 : S2.1 = k2) (e2 : rep s2 S2.2) (e3 : m9 = (S2.2.length : Int)) : rLI c fa g f t s2 k2 m9 := by
  obtain ⟨x1, x2, x3, x4, x5, x6⟩ := hX
  obtain ⟨y1, y2⟩ := rIn_s (fa := fa) x1 x2 x3 x4 h2 hk
  have y3 := rTo_s h1 y2
  rw [e] at y1 y3
  subst e1
  exact ⟨S2.2, y3, y1, e2, e3⟩
theorem rL_num (hX : rX c g f t) (h : rLI c fa g f t s k n9) (hk : k < t) (ho : cOp (c k) = 0) (ex : x.toInt = cV (c k)) (hj : (j : Int) = n9) : rLI c fa g f t (upd s j x) (k + 1) (n9 + 1) := by
  obtain ⟨l, a1, a2, a3, a4⟩ := h
  have hv : 0 ≤ cV (c k) ∧ cV (c k) < 1048576 := by unfold cV; omega
  have hxx : x = nI (cV (c k)).toNat := Int32.toInt_inj.mp (by rw [nI_toInt (by omega)]; omega)
  exact rL_st hX a1 a2 hk (rT_0 hk ho) rfl (by rw [← hxx]; exact rep_push a3 (by omega)) (by show n9 + 1 = ((l.length + 1 : Nat) : Int); omega)
theorem rL_let (hX : rX c g f t) (h : rLI c fa g f t s k n9) (hk : k < t) (ho : cOp (c k) = 1) (ex : x = fa (cV (c k)).toNat) (hj : (j : Int) = n9) : rLI c fa g f t (upd s j x) (k + 1) (n9 + 1) := by
  obtain ⟨l, a1, a2, a3, a4⟩ := h
  exact rL_st hX a1 a2 hk (rT_1 hk ho) rfl (by rw [← ex]; exact rep_push a3 (by omega)) (by show n9 + 1 = ((l.length + 1 : Nat) : Int); omega)
theorem rL_top (h : rLI c fa g f t s k n9) (hj : (j : Int) + 1 = n9) : ∃ l : List Int32, rTo c fa f t (k, l) ∧ rIn c g f t (k, l) ∧ rep s l ∧ n9 = (l.length : Int) ∧ s j = l.headD 0 := by
  obtain ⟨l, a1, a2, a3, a4⟩ := h
  exact ⟨l, a1, a2, a3, a4, rep_top a3 (by omega)⟩
theorem rL_bool (hX : rX c g f t) (h : rLI c fa g f t s k n9) (hk : k < t) (ho : 10 ≤ cOp (c k)) (ho2 : cOp (c k) ≤ 12) (hj : (j : Int) + 1 = n9) : s j = 0 ∨ s j = 1 := by
  have hr := rL_r h
  obtain ⟨l, a1, a2, a3, a4, a5⟩ := rL_top h hj
  rw [a5]
  exact rIn_bool hX.1 hX.2.2.2.1 a2 hk (by omega) ho ho2
theorem rL_not (hX : rX c g f t) (h : rLI c fa g f t s k n9) (hk : k < t) (ho : cOp (c k) = 10) (hj : (j : Int) + 1 = n9) (ex : x = 1 - s j) : rLI c fa g f t (upd s j x) (k + 1) n9 := by
  obtain ⟨l, a1, a2, a3, a4, a5⟩ := rL_top h hj
  rw [a5] at ex
  exact rL_st hX a1 a2 hk (rT_10 hk ho) rfl (by rw [← ex]; exact rep_push (rep_tail a3) (by rw [List.length_tail]; omega)) (by show n9 = ((l.tail.length + 1 : Nat) : Int); rw [List.length_tail]; omega)
theorem rL_jmp (hX : rX c g f t) (h : rLI c fa g f t s k n9) (hk : k < t) (ho : (cOp (c k) = 11 ∧ s j = 0) ∨ (cOp (c k) = 12 ∧ s j = 1)) (hj : (j : Int) + 1 = n9) : rLI c fa g f t s (cV (c k)).toNat n9 := by
  obtain ⟨l, a1, a2, a3, a4, a5⟩ := rL_top h hj
  rw [a5] at ho
  rcases ho with ⟨o1, o2⟩ | ⟨o1, o2⟩
  · exact rL_st hX a1 a2 hk ((rT_11 hk o1).trans (if_pos o2)) rfl a3 a4
  · exact rL_st hX a1 a2 hk ((rT_12 hk o1).trans (if_pos o2)) rfl a3 a4
theorem rL_pop (hX : rX c g f t) (h : rLI c fa g f t s k n9) (hk : k < t) (ho : (cOp (c k) = 11 ∧ s j ≠ 0) ∨ (cOp (c k) = 12 ∧ s j ≠ 1)) (hj : (j : Int) + 1 = n9) : rLI c fa g f t s (k + 1) (n9 - 1) := by
  obtain ⟨l, a1, a2, a3, a4, a5⟩ := rL_top h hj
  rw [a5] at ho
  have e3 : n9 - 1 = (l.tail.length : Int) := by rw [List.length_tail]; omega
  rcases ho with ⟨o1, o2⟩ | ⟨o1, o2⟩
  · exact rL_st hX a1 a2 hk ((rT_11 hk o1).trans (if_neg o2)) rfl (rep_tail a3) e3
  · exact rL_st hX a1 a2 hk ((rT_12 hk o1).trans (if_neg o2)) rfl (rep_tail a3) e3
theorem rL_dz (hX : rX c g f t) (h : rLI c fa g f t s k n9) (hk : k < t) (ho : cOp (c k) = 5 ∨ cOp (c k) = 6) (hj : (j : Int) + 1 = n9) (ez : s j = 0) : (0 : Int32) = rv c fa f t := by
  obtain ⟨l, a1, a2, a3, a4, a5⟩ := rL_top h hj
  rw [a5] at ez
  have hb : rBin (cOp (c k)) := ⟨by omega, by omega, by omega, by omega, by omega⟩
  have h6 : t ≤ 220 := hX.2.2.2.2.2
  obtain ⟨x1, x2, x3, x4, x5, x6⟩ := hX
  have y2 := (rIn_s (fa := fa) x1 x2 x3 x4 a2 hk).2
  have y3 := rTo_s a1 y2
  rw [(rT_b hk hb).trans (if_pos ⟨ho, ez⟩)] at y3
  exact (rTo_v y3 (Nat.le_refl _) (by show t ≤ 250; omega)).symm
theorem rL_bin (hX : rX c g f t) (h : rLI c fa g f t s k n9) (hk : k < t) (ho : rBin (cOp (c k))) (hj : (j : Int) + 1 = n9) (hj2 : (j2 : Int) + 2 = n9) (hz : ¬ ((cOp (c k) = 5 ∨ cOp (c k) = 6) ∧ s j = 0)) (ex : x = rK (cOp (c k)) (s j2) (s j)) : rLI c fa g f t (upd s j2 x) (k + 1) (n9 - 1) := by
  obtain ⟨l, a1, a2, a3, a4, a5⟩ := rL_top h hj
  rw [a5] at hz
  rw [rep_2 a3 (by omega), a5] at ex
  exact rL_st hX a1 a2 hk ((rT_b hk ho).trans (if_neg hz)) rfl (by rw [← ex]; exact rep_push (rep_tail (rep_tail a3)) (by rw [List.length_tail, List.length_tail]; omega)) (by show n9 - 1 = ((l.tail.tail.length + 1 : Nat) : Int); rw [List.length_tail, List.length_tail]; omega)
theorem rL_end (hX : rX c g f t) (h : rLI c fa g f t s k n9) (hk : t ≤ k) : s 0 = rv c fa f t ∧ n9 = 1 := by
  have hr := rL_r h
  have hk2 : k = t := by omega
  subst hk2
  have h1 : g k = 1 := hX.2.1
  have h6 : k ≤ 220 := hX.2.2.2.2.2
  obtain ⟨l, a1, a2, a3, a4, a5⟩ := rL_top (j := 0) h (by omega)
  exact ⟨a5.trans (rTo_v a1 (Nat.le_refl _) (by show k ≤ 250; omega)).symm, by omega⟩
-- a test's value is 0 or 1
theorem rv_b01 (hX : rX c g f t) (hC : qB7 (c (t - 1))) : rv c fa f t = 0 ∨ rv c fa f t = 1 := by
  obtain ⟨x1, x2, x3, x4, x5, x6⟩ := hX
  have fin : ∀ S : rC, t ≤ S.1 → rTo c fa f t S → rIn c g f t S → rv c fa f t = 0 ∨ rv c fa f t = 1 := by
    intro S hk h1 h2
    have hk2 : S.1 = t := by have h9 := h2.2.1; omega
    rw [rTo_v h1 hk (by omega)]
    exact h2.2.2.2.1 (by omega) (by rw [hk2]; exact hC)
  have key : ∀ (d : Nat) (S : rC), t - S.1 ≤ d → rTo c fa f t S → rIn c g f t S → rv c fa f t = 0 ∨ rv c fa f t = 1 := by
    intro d
    induction d with
    | zero => intro S hd h1 h2; exact fin S (by omega) h1 h2
    | succ d ih =>
      intro S hd h1 h2
      by_cases hk : t ≤ S.1
      · exact fin S hk h1 h2
      · obtain ⟨k, l⟩ := S
        have hk : ¬ t ≤ k := hk
        have hd : t - k ≤ d + 1 := hd
        obtain ⟨y1, y2⟩ := rIn_s (fa := fa) x1 x2 x3 x4 h2 (show k < t by omega)
        exact ih _ (by omega) (rTo_s h1 y2) y1
  exact key (t - f) (f, []) (Nat.le_refl _) rTo_0 (rIn_0 x1 (by omega))
end RUN
