-- what each tenant gets: shares rounded down, a penny each to the greatest rests
def shS (w : Nat → Int) : Nat → Int
  | 0 => 0
  | n + 1 => shS w n + w n
def bst (ρ : Nat → Int) : Nat → Nat
  | 0 => 0
  | n + 1 => if n = 0 then 0 else if ρ (bst ρ n) < ρ n then n else bst ρ n
def upI (f : Nat → Int) (k : Nat) (v : Int) (j : Nat) : Int := if j = k then v else f j
def pny (n : Nat) (g ρ : Nat → Int) : Nat → (Nat → Int) × (Nat → Int)
  | 0 => (g, ρ)
  | L + 1 => (upI (pny n g ρ L).1 (bst (pny n g ρ L).2 n) ((pny n g ρ L).1 (bst (pny n g ρ L).2 n) + 1), upI (pny n g ρ L).2 (bst (pny n g ρ L).2 n) (-1))
section SHARES
variable {w g ρ u v : Nat → Int} {p of : Int} {n k : Nat}
theorem bst_0 : bst ρ 1 = 0 := by
  show (if (0 : Nat) = 0 then 0 else if ρ (bst ρ 0) < ρ 0 then 0 else bst ρ 0) = 0
  exact if_pos rfl
theorem bst_s (h : 1 ≤ k) : bst ρ (k + 1) = if ρ (bst ρ k) < ρ k then k else bst ρ k := by
  show (if k = 0 then 0 else if ρ (bst ρ k) < ρ k then k else bst ρ k) = _
  rw [if_neg (by omega)]
theorem bst_lt : ∀ n, 1 ≤ n → bst ρ n < n := by
  intro n
  induction n with
  | zero => intro h; omega
  | succ n ih =>
    intro _
    show (if n = 0 then 0 else if ρ (bst ρ n) < ρ n then n else bst ρ n) < n + 1
    by_cases e : n = 0
    · rw [if_pos e]; omega
    · have h9 := ih (by omega)
      rw [if_neg e]
      by_cases e2 : ρ (bst ρ n) < ρ n
      · rw [if_pos e2]; omega
      · rw [if_neg e2]; omega
theorem bst_co : ∀ n, (∀ t, t < n → u t = v t) → bst u n = bst v n := by
  intro n
  induction n with
  | zero => intro _; rfl
  | succ n ih =>
    intro h
    show (if n = 0 then 0 else if u (bst u n) < u n then n else bst u n) = (if n = 0 then 0 else if v (bst v n) < v n then n else bst v n)
    by_cases e : n = 0
    · rw [if_pos e, if_pos e]
    · have h9 := bst_lt (ρ := v) n (by omega)
      rw [if_neg e, if_neg e, ih (fun t ht => h t (by omega)), h n (by omega), h (bst v n) (by omega)]
theorem shS_co : ∀ n, (∀ t, t < n → u t = v t) → shS u n = shS v n := by
  intro n
  induction n with
  | zero => intro _; rfl
  | succ n ih => intro h; rw [shS, shS, ih (fun t ht => h t (by omega)), h n (by omega)]
theorem shS_mul : ∀ n, shS (fun t => p * w t) n = p * shS w n := by
  intro n
  induction n with
  | zero => exact (Int.mul_zero p).symm
  | succ n ih => rw [shS, shS, ih, Int.mul_add]
theorem shS_add : ∀ n, shS (fun t => u t + v t) n = shS u n + shS v n := by
  intro n
  induction n with
  | zero => rfl
  | succ n ih => rw [shS, shS, shS, ih]; omega
theorem shS_r {m : Int} : ∀ n, (∀ t, t < n → 0 ≤ u t ∧ u t ≤ m) → 0 ≤ shS u n ∧ shS u n ≤ n * m := by
  intro n
  induction n with
  | zero => intro _; exact ⟨Int.le_refl _, by show (0 : Int) ≤ ((0 : Nat) : Int) * m; rw [Int.natCast_zero, Int.zero_mul]; exact Int.le_refl _⟩
  | succ n ih =>
    intro h
    have h1 := ih (fun t ht => h t (by omega))
    have h2 := h n (by omega)
    have h3 : ((n + 1 : Nat) : Int) * m = (n : Int) * m + m := by rw [Int.natCast_add, Int.add_mul]; show _ + 1 * m = _; rw [Int.one_mul]
    rw [shS, h3]
    omega
-- what is left over is less than there are tenants
theorem left_r (hof : 0 < of) (hs : shS w n = of) (hp : 0 ≤ p) (hw : ∀ t, t < n → 0 ≤ w t) (hn : 1 ≤ n) : 0 ≤ p - shS (fun t => p * w t / of) n ∧ p - shS (fun t => p * w t / of) n < n := by
  have h1 : shS (fun t => of * (p * w t / of) + p * w t % of) n = p * of := by
    rw [← hs, ← shS_mul, hs]
    exact shS_co n (fun t _ => by have := Int.mul_ediv_add_emod (p * w t) of; exact this)
  rw [shS_add, shS_mul] at h1
  have h2 := shS_r (u := fun t => p * w t % of) (m := of - 1) n (fun t _ => ⟨Int.emod_nonneg _ (by omega), by have := Int.emod_lt_of_pos (p * w t) hof; show p * w t % of ≤ of - 1; omega⟩)
  have h3 : of * (p - shS (fun t => p * w t / of) n) = shS (fun t => p * w t % of) n := by
    rw [Int.mul_sub, Int.mul_comm of p]; omega
  have h4 : (n : Int) * (of - 1) = (n : Int) * of - n := by rw [Int.mul_sub, Int.mul_one]
  have h5 : of * (n : Int) = (n : Int) * of := Int.mul_comm _ _
  refine ⟨?_, ?_⟩
  · exact Int.nonneg_of_mul_nonneg_right (a := of) (by rw [h3]; exact h2.1) hof
  · have h6 : of * (p - shS (fun t => p * w t / of) n) < of * (n : Int) := by rw [h3, h5]; omega
    exact Int.lt_of_mul_lt_mul_left h6 (by omega)
end SHARES
-- shares: by parts, or as if all were 1
def shP (f : Nat → Int32) (n t : Nat) : Int := if t < n then (f t).toInt else 0
def shW (P : Nat → Int) (n t : Nat) : Int := if shS P n = 0 then 1 else P t
def shO (P : Nat → Int) (n : Nat) : Int := if shS P n = 0 then (n : Int) else shS P n
def shG (P : Nat → Int) (n : Nat) (p : Int) (t : Nat) : Int := p * shW P n t / shO P n
def shR (P : Nat → Int) (n : Nat) (p : Int) (t : Nat) : Int := p * shW P n t % shO P n
def shL (P : Nat → Int) (n : Nat) (p : Int) : Int := p - shS (shG P n p) n
def shF (P : Nat → Int) (n : Nat) (p : Int) (t : Nat) : Int := (pny n (shG P n p) (shR P n p) (shL P n p).toNat).1 t
def SHok (P : Nat → Int) (n : Nat) : Prop := (1 ≤ n ∧ n ≤ 4) ∧ ∀ t, t < n → 0 ≤ P t ∧ P t ≤ 99
def shZ (f : Nat → Int32) (n : Int32) (p : Int) (g : Nat → Int32) : Prop := ∀ t, t < n.toInt.toNat → (g t).toInt = shF (shP f n.toInt.toNat) n.toInt.toNat p t
section SHARES2
variable {P g ρ : Nat → Int} {n K K2 J : Nat} {p m : Int}
theorem shP_t {f : Nat → Int32} {t : Nat} (h : t < n) : shP f n t = (f t).toInt := if_pos h
theorem shP_co {f h : Nat → Int32} (e : ∀ t, t < n → f t = h t) : shP f n = shP h n := by
  funext t
  unfold shP
  by_cases ht : t < n
  · rw [if_pos ht, if_pos ht, e t ht]
  · rw [if_neg ht, if_neg ht]
theorem shS_ge {u : Nat → Int} : ∀ n, (∀ t, t < n → 0 ≤ u t) → ∀ t, t < n → u t ≤ shS u n := by
  intro n
  induction n with
  | zero => intro _ t ht; exact absurd ht (Nat.not_lt_zero t)
  | succ n ih =>
    intro h t ht
    have h0 : ∀ k, 0 ≤ shS u k ∨ ¬ k ≤ n := by
      intro k
      induction k with
      | zero => exact Or.inl (Int.le_refl _)
      | succ k ihk =>
        by_cases hk : k + 1 ≤ n
        · rcases ihk with h1 | h1
          · have h2 := h k (by omega)
            exact Or.inl (by show 0 ≤ shS u k + u k; omega)
          · exact absurd (by omega) h1
        · exact Or.inr hk
    have h1 := h n (by omega)
    show u t ≤ shS u n + u n
    by_cases e : t = n
    · rw [e]
      rcases h0 n with h2 | h2
      · omega
      · exact absurd (Nat.le_refl n) h2
    · have h2 := ih (fun t ht => h t (by omega)) t (by omega)
      omega
theorem sh_S (h : SHok P n) : 0 ≤ shS P n ∧ shS P n ≤ 396 := by
  have h1 := shS_r (u := P) (m := 99) n h.2
  have h2 := h.1
  omega
theorem sh_O (h : SHok P n) : 1 ≤ shO P n ∧ shO P n ≤ 396 := by
  have h1 := sh_S h
  have h2 := h.1
  unfold shO
  by_cases e : shS P n = 0
  · rw [if_pos e]; omega
  · rw [if_neg e]; omega
theorem sh_W (h : SHok P n) : ∀ t, t < n → 0 ≤ shW P n t ∧ shW P n t ≤ 99 ∧ shW P n t ≤ shO P n := by
  intro t ht
  have h1 := h.2 t ht
  have h2 := h.1
  have h3 := shS_ge (u := P) n (fun t ht => (h.2 t ht).1) t ht
  unfold shW shO
  by_cases e : shS P n = 0
  · rw [if_pos e, if_pos e]; omega
  · rw [if_neg e, if_neg e]; omega
theorem shS_1 : ∀ n : Nat, shS (fun _ => 1) n = (n : Int) := by
  intro n
  induction n with
  | zero => rfl
  | succ n ih => rw [shS, ih]; omega
theorem sh_WO : shS (shW P n) n = shO P n := by
  unfold shO
  by_cases e : shS P n = 0
  · rw [if_pos e, ← shS_1 n]
    exact shS_co n (fun t _ => if_pos e)
  · rw [if_neg e]
    exact shS_co n (fun t _ => if_neg e)
theorem sh_G (h : SHok P n) (hp : 0 ≤ p) : ∀ t, t < n → 0 ≤ shG P n p t ∧ shG P n p t ≤ p := by
  intro t ht
  have h1 := sh_W h t ht
  have h2 := sh_O h
  unfold shG
  refine ⟨Int.ediv_nonneg (Int.mul_nonneg hp h1.1) (by omega), Int.ediv_le_of_le_mul (by omega) ?_⟩
  exact Int.mul_le_mul_of_nonneg_left h1.2.2 hp
theorem sh_R (h : SHok P n) : ∀ t, 0 ≤ shR P n p t ∧ shR P n p t ≤ 395 := by
  intro t
  have h2 := sh_O h
  unfold shR
  have h3 := Int.emod_nonneg (p * shW P n t) (b := shO P n) (by omega)
  have h4 := Int.emod_lt_of_pos (p * shW P n t) (b := shO P n) (by omega)
  omega
theorem sh_L (h : SHok P n) (hp : 0 ≤ p) : 0 ≤ shL P n p ∧ shL P n p < n := left_r (w := shW P n) (of := shO P n) (by have := sh_O h; omega) sh_WO hp (fun t ht => (sh_W h t ht).1) h.1.1
-- the row that is written, step by step
theorem shI_s {a b : Nat → Int32} {x y : Int32} (h : ∀ t, t < K → (a t).toInt = g t ∧ (b t).toInt = ρ t) (hx : x.toInt = g K) (hy : y.toInt = ρ K) (hJ : J = K) (e : K2 = K + 1) : ∀ t, t < K2 → (upd a J x t).toInt = g t ∧ (upd b J y t).toInt = ρ t := by
  intro t ht
  rw [hJ]
  unfold upd
  by_cases e9 : t = K
  · rw [if_pos e9, if_pos e9, e9]; exact ⟨hx, hy⟩
  · rw [if_neg e9, if_neg e9]; exact h t (by omega)
theorem shI_l {a : Nat → Int32} {b : Nat → Int64} {x : Int32} {y : Int64} (h : ∀ t, t < K → (a t).toInt = g t ∧ (b t).toInt = ρ t) (hx : x.toInt = g K) (hy : y.toInt = ρ K) (hJ : J = K) (e : K2 = K + 1) : ∀ t, t < K2 → (upd a J x t).toInt = g t ∧ (vp_updL b J y t).toInt = ρ t := by
  intro t ht
  rw [hJ]
  unfold upd vp_updL
  by_cases e9 : t = K
  · rw [if_pos e9, if_pos e9, e9]; exact ⟨hx, hy⟩
  · rw [if_neg e9, if_neg e9]; exact h t (by omega)
theorem pny_b (h : ∀ t, t < n → 0 ≤ g t ∧ g t ≤ m) (hn : 1 ≤ n) : ∀ (K t : Nat), t < n → 0 ≤ (pny n g ρ K).1 t ∧ (pny n g ρ K).1 t ≤ m + K := by
  intro K
  induction K with
  | zero => intro t ht; have h1 := h t ht; show 0 ≤ g t ∧ g t ≤ m + ((0 : Nat) : Int); omega
  | succ K ih =>
    intro t ht
    have hb := bst_lt (ρ := (pny n g ρ K).2) n hn
    have h1 := ih t ht
    have h2 := ih _ hb
    show 0 ≤ upI (pny n g ρ K).1 (bst (pny n g ρ K).2 n) ((pny n g ρ K).1 (bst (pny n g ρ K).2 n) + 1) t ∧ upI (pny n g ρ K).1 (bst (pny n g ρ K).2 n) ((pny n g ρ K).1 (bst (pny n g ρ K).2 n) + 1) t ≤ m + ((K + 1 : Nat) : Int)
    unfold upI
    by_cases e : t = bst (pny n g ρ K).2 n
    · rw [if_pos e]; omega
    · rw [if_neg e]; omega
theorem pny_s {a b : Nat → Int32} {x y : Int32} (h : ∀ t, t < n → (a t).toInt = (pny n g ρ K).1 t ∧ (b t).toInt = (pny n g ρ K).2 t) (hJ : J = bst (fun t => (b t).toInt) n) (hn : 1 ≤ n) (hx : x.toInt = (a J).toInt + 1) (hy : y.toInt = -1) (e : K2 = K + 1) : ∀ t, t < n → (upd a J x t).toInt = (pny n g ρ K2).1 t ∧ (upd b J y t).toInt = (pny n g ρ K2).2 t := by
  have hb : J = bst (pny n g ρ K).2 n := hJ.trans (bst_co n (fun t ht => (h t ht).2))
  have hl : J < n := by rw [hb]; exact bst_lt n hn
  have hx2 := hx.trans (congrArg (fun z => z + 1) (h J hl).1)
  subst e
  intro t ht
  show (upd a J x t).toInt = upI (pny n g ρ K).1 (bst (pny n g ρ K).2 n) ((pny n g ρ K).1 (bst (pny n g ρ K).2 n) + 1) t ∧ (upd b J y t).toInt = upI (pny n g ρ K).2 (bst (pny n g ρ K).2 n) (-1) t
  rw [← hb]
  unfold upd upI
  by_cases e : t = J
  · rw [if_pos e, if_pos e, if_pos e, if_pos e]; exact ⟨hx2, hy⟩
  · rw [if_neg e, if_neg e, if_neg e, if_neg e]; exact h t ht
theorem pny_l {a : Nat → Int32} {b : Nat → Int64} {x : Int32} {y : Int64} (h : ∀ t, t < n → (a t).toInt = (pny n g ρ K).1 t ∧ (b t).toInt = (pny n g ρ K).2 t) (hJ : J = bst (fun t => (b t).toInt) n) (hn : 1 ≤ n) (hx : x.toInt = (a J).toInt + 1) (hy : y.toInt = -1) (e : K2 = K + 1) : ∀ t, t < n → (upd a J x t).toInt = (pny n g ρ K2).1 t ∧ (vp_updL b J y t).toInt = (pny n g ρ K2).2 t := by
  have hb : J = bst (pny n g ρ K).2 n := hJ.trans (bst_co n (fun t ht => (h t ht).2))
  have hl : J < n := by rw [hb]; exact bst_lt n hn
  have hx2 := hx.trans (congrArg (fun z => z + 1) (h J hl).1)
  subst e
  intro t ht
  show (upd a J x t).toInt = upI (pny n g ρ K).1 (bst (pny n g ρ K).2 n) ((pny n g ρ K).1 (bst (pny n g ρ K).2 n) + 1) t ∧ (vp_updL b J y t).toInt = upI (pny n g ρ K).2 (bst (pny n g ρ K).2 n) (-1) t
  rw [← hb]
  unfold upd vp_updL upI
  by_cases e : t = J
  · rw [if_pos e, if_pos e, if_pos e, if_pos e]; exact ⟨hx2, hy⟩
  · rw [if_neg e, if_neg e, if_neg e, if_neg e]; exact h t ht
theorem shS_s {u : Nat → Int} {x y z : Int} (hx : x = shS u K) (hy : y = u K) (hz : z = x + y) (e : K2 = K + 1) : z = shS u K2 := by
  subst e hx hy hz; rfl
-- the greatest rest, found step by step
theorem bst_n {z z2 : Nat} {v w : Int} (h : z = bst ρ K) (hK : 1 ≤ K) (hv : v = ρ K) (hw : w = ρ z) (hg : w < v) (e : K2 = K + 1) (e2 : z2 = K) : z2 = bst ρ K2 := by
  subst e e2 h hv hw
  rw [bst_s hK, if_pos hg]
theorem bst_o {z : Nat} {v w : Int} (h : z = bst ρ K) (hK : 1 ≤ K) (hv : v = ρ K) (hw : w = ρ z) (hg : ¬ w < v) (e : K2 = K + 1) : z = bst ρ K2 := by
  subst e h hv hw
  rw [bst_s hK, if_neg hg]
end SHARES2
-- ints and longs that stay small
theorem dv_e {x s : Int32} (hx : 0 ≤ x.toInt) (hs : 1 ≤ s.toInt) : (x / s).toInt = x.toInt / s.toInt := by
  have hne : s ≠ -1 := fun h => by rw [h] at hs; exact absurd hs (by decide)
  rw [Int32.toInt_div_of_ne_right _ _ hne, Int.tdiv_eq_ediv_of_nonneg hx]
theorem l_add {x y : Int64} {a b : Int} (hx : x.toInt = a) (hy : y.toInt = b) (h1 : -9000000000000000000 ≤ a + b) (h2 : a + b ≤ 9000000000000000000) : (x + y).toInt = a + b := by
  rw [Int64.toInt_add, hx, hy]; exact Int.bmod_eq_of_le (by omega) (by omega)
theorem l_sub {x y : Int64} {a b : Int} (hx : x.toInt = a) (hy : y.toInt = b) (h1 : -9000000000000000000 ≤ a - b) (h2 : a - b ≤ 9000000000000000000) : (x - y).toInt = a - b := by
  rw [Int64.toInt_sub, hx, hy]; exact Int.bmod_eq_of_le (by omega) (by omega)
theorem l_mul {x y : Int64} {a b : Int} (hx : x.toInt = a) (hy : y.toInt = b) (h1 : -9000000000000000000 ≤ a * b) (h2 : a * b ≤ 9000000000000000000) : (x * y).toInt = a * b := by
  rw [Int64.toInt_mul, hx, hy]
  obtain ⟨c, hc⟩ : ∃ c, c = a * b := ⟨_, rfl⟩
  rw [← hc] at h1 h2 ⊢
  exact Int.bmod_eq_of_le (by omega) (by omega)
theorem l_div {x y : Int64} (hx : 0 ≤ x.toInt) (hy : 1 ≤ y.toInt) : (x / y).toInt = x.toInt / y.toInt := by
  have hne : y ≠ -1 := fun h => by rw [h] at hy; exact absurd hy (by decide)
  rw [Int64.toInt_div_of_ne_right _ _ hne, Int.tdiv_eq_ediv_of_nonneg hx]
theorem l_rem {x y : Int64} (hx : 0 ≤ x.toInt) (hy : 1 ≤ y.toInt) : (x - x / y * y).toInt = x.toInt % y.toInt := by
  have hd := l_div hx hy
  have h1 := Int.mul_ediv_add_emod x.toInt y.toInt
  have h2 := Int.emod_nonneg x.toInt (b := y.toInt) (by omega)
  have h4 : 0 ≤ y.toInt * (x.toInt / y.toInt) := Int.mul_nonneg (by omega) (Int.ediv_nonneg hx (by omega))
  have hl := Int64.toInt_lt x
  obtain ⟨m, hm⟩ : ∃ m, m = y.toInt * (x.toInt / y.toInt) := ⟨_, rfl⟩
  obtain ⟨k, hk⟩ : ∃ k, k = x.toInt % y.toInt := ⟨_, rfl⟩
  rw [← hm] at h1 h4
  rw [← hk] at h1 h2 ⊢
  have h5 : (x / y * y).toInt = m := by
    rw [Int64.toInt_mul, hd, Int.mul_comm, ← hm]; exact Int.bmod_eq_of_le (by omega) (by omega)
  rw [Int64.toInt_sub, h5, show x.toInt - m = k by omega]
  exact Int.bmod_eq_of_le (by omega) (by omega)
theorem l_i {x : Int64} (h : 0 ≤ x.toInt) (h2 : x.toInt ≤ 2147483647) : x.toInt32.toInt = x.toInt := by
  rw [Int64.toInt_toInt32]; exact Int.bmod_eq_of_le (by omega) (by omega)
theorem lcmp_eq0 {x : Int64} (h : (lg_cmp x 0).toInt = 0) : x.toInt = 0 := by
  by_cases e : x = 0
  · rw [e]; rfl
  · exfalso
    unfold lg_cmp at h
    by_cases h1 : x > 0
    · rw [if_pos h1] at h; exact absurd h (by decide)
    · rw [if_neg h1, if_neg e] at h; exact absurd h (by decide)
theorem lcmp_gt {x y : Int64} (h : 0 < (lg_cmp x y).toInt) : y.toInt < x.toInt := by
  unfold lg_cmp at h
  by_cases h1 : x > y
  · exact Int64.lt_iff_toInt_lt.mp h1
  · rw [if_neg h1] at h
    by_cases h2 : x = y
    · rw [if_pos h2] at h; exact absurd h (by decide)
    · rw [if_neg h2] at h; exact absurd h (by decide)
theorem lcmp_le {x y : Int64} (h : (lg_cmp x y).toInt ≤ 0) : x.toInt ≤ y.toInt := by
  by_cases h1 : x > y
  · unfold lg_cmp at h
    rw [if_pos h1] at h; exact absurd h (by decide)
  · have h2 : ¬ y.toInt < x.toInt := fun h9 => h1 (Int64.lt_iff_toInt_lt.mpr h9)
    omega
theorem l_ne0 {x : Int64} (h : 1 ≤ x.toInt) : ¬ x = 0 := fun e => by rw [e] at h; exact absurd h (by decide)
-- a product, its quotient and rest, as ints
section SHINT
variable {P : Nat → Int} {n K : Nat} {p : Int}
theorem sh_pr (h : SHok P n) (hp : 0 ≤ p ∧ p ≤ 9999990) (hK : K < n) : 0 ≤ p * shW P n K ∧ p * shW P n K ≤ 989999010 := by
  obtain ⟨w, hw⟩ : ∃ w, w = shW P n K := ⟨_, rfl⟩
  have h1 := sh_W h K hK
  rw [← hw] at h1 ⊢
  have h2 := pr_r (p := p) (b := w) (x := 9999990) (y := 99) hp.1 hp.2 h1.1 h1.2.1
  omega
theorem sh_x {v a b : Int32} (h : SHok P n) (hp : 0 ≤ p ∧ p ≤ 9999990) (hK : K < n) (ea : a.toInt = p) (eb : b.toInt = shW P n K) (ev : v = a * b) : v.toInt = p * shW P n K := by
  have h1 := sh_pr h hp hK
  rw [ev]
  exact i_mul ea eb (by omega) (by omega)
theorem sh_q {v q d : Int32} (h : SHok P n) (hp : 0 ≤ p ∧ p ≤ 9999990) (hK : K < n) (e : v.toInt = p * shW P n K) (ed : d.toInt = shO P n) (eq9 : q = v / d) : q.toInt = shG P n p K := by
  have h1 := sh_pr h hp hK
  have h2 := sh_O h
  rw [eq9, dv_e (by rw [e]; exact h1.1) (by rw [ed]; exact h2.1), e, ed]
  rfl
theorem sh_m {v q d : Int32} (h : SHok P n) (hp : 0 ≤ p ∧ p ≤ 9999990) (hK : K < n) (e : v.toInt = p * shW P n K) (ed : d.toInt = shO P n) (eq9 : q = v - v / d * d) : q.toInt = shR P n p K := by
  have h1 := sh_pr h hp hK
  rw [eq9, rem_toInt, Int.tmod_eq_emod_of_nonneg (by rw [e]; exact h1.1), e, ed]
  rfl
theorem sh_xl {v a b : Int64} (h : SHok P n) (hp : 0 ≤ p ∧ p ≤ 9999990) (hK : K < n) (ea : a.toInt = p) (eb : b.toInt = shW P n K) (ev : v = a * b) : v.toInt = p * shW P n K := by
  have h1 := sh_pr h hp hK
  rw [ev]
  exact l_mul ea eb (by omega) (by omega)
theorem sh_ql {v q d : Int64} {z : Int32} (h : SHok P n) (hp : 0 ≤ p ∧ p ≤ 9999990) (hK : K < n) (e : v.toInt = p * shW P n K) (ed : d.toInt = shO P n) (eq9 : q = v / d) (ez : q.toInt32 = z) : z.toInt = shG P n p K := by
  have h1 := sh_pr h hp hK
  have h2 := sh_O h
  have h3 : q.toInt = shG P n p K := by
    rw [eq9, l_div (by rw [e]; exact h1.1) (by rw [ed]; exact h2.1), e, ed]
    rfl
  have h4 := sh_G h hp.1 K hK
  rw [← ez, l_i (by omega) (by omega)]
  exact h3
theorem sh_ml {v q d : Int64} (h : SHok P n) (hp : 0 ≤ p ∧ p ≤ 9999990) (hK : K < n) (e : v.toInt = p * shW P n K) (ed : d.toInt = shO P n) (eq9 : q = v - v / d * d) : q.toInt = shR P n p K := by
  have h1 := sh_pr h hp hK
  have h2 := sh_O h
  rw [eq9, l_rem (by rw [e]; exact h1.1) (by rw [ed]; exact h2.1), e, ed]
  rfl
end SHINT
set_option maxHeartbeats 4000000 in
set_option maxRecDepth 100000 in
theorem c_X0_greatestRest9 (l : Launch) (D : va_G) (cy : Nat → ClassId) (a : Nat → Nat) (i : Nat → Int32) (r : Nat → Nat → Int32) (q : Nat → Option Nat) (tl : va_W) (p0 : Int32) (hRi : yRi i) (hRr : yRr r) (q0 : 1 ≤ p0.toInt ∧ p0.toInt ≤ 4) : Met l yX0_greatestRest (Cond.code yX0_greatestRest cX0_greatestRest 4 (some .int) :: gT) { frames := 1, cells := 0, slots := 0, locals := 24 } (va_Pc [.ref (a 51), .int p0] (rP D cy (xW cy a i r q (a 20) (a 12) ++ tl))) (vp_Si (fun z => (0 ≤ z.toInt ∧ z.toInt ≤ 3) ∧ z.toInt.toNat = bst (fun t => (r 53 t).toInt) p0.toInt.toNat)) 0 0 (fun _ => False) := by
  refine Met.ofQ (cc := cX0_greatestRest) (maxL := 4) (ret := (some .int)) (by decide) rfl ?_
  intro p e s m args below meth c s₁ B hml hv Q hQ
  obtain ⟨rfl, hP, hK⟩ := hv
  have hx := B.exec
  have hb := B.bytes
  have hr := B.returns
  have hlocks := B.notSynchronized
  have hT : ∀ w ∈ gT, w.before _ s = true := fun w h => atoms_spec (ws := (Cond.code yX0_greatestRest cX0_greatestRest 4 (some .int) :: gT)) B.pre w (List.mem_cons_of_mem _ h)
  have hown : s.vm.findClass RX0 = some m.cls := findClass_of_methodNamed B.named
  have hl := lv_entry ([.ref (a 51), .int p0]) (n := 4) (Nat.le_of_ble_eq_true rfl)
  rw [lg_entry_eq]
  generalize (lg_sl ([.ref (a 51), .int p0]) ++ List.replicate (4 - (lg_sl ([.ref (a 51), .int p0])).length) Slot.unset).toArray = ls at hl ⊢
  have hl : lv_has ls 4 [(0, .ref (a 51)), (1, .int p0)] := hl
  have hEi : mEi [] i i := Ei_rf
  have hEr : mEr [] r r := Er_rf
  refine lv_iconst (v := 0) hx hb dX0_greatestRest_0 (by decide) ?_
  refine lv_istore_n (lv' := [(2, .int 0), (0, .ref (a 51)), (1, .int p0)]) hx hb dX0_greatestRest_1 rfl hl (by decide) rfl (fun ls hl => ?_)
  refine lv_iconst (v := 1) hx hb dX0_greatestRest_2 (by decide) ?_
  refine lv_istore_n (lv' := [(3, .int 1), (2, .int 0), (0, .ref (a 51)), (1, .int p0)]) hx hb dX0_greatestRest_3 rfl hl (by decide) rfl (fun ls hl => ?_)
  have loop_1 : ∀ (n : Nat) (x1_3 : Int32) (x1_2 : Int32) (ls : Array Slot), (4 - x1_3.toInt).toNat < n → (1 ≤ x1_3.toInt ∧ x1_3.toInt ≤ 4) → (0 ≤ x1_2.toInt ∧ x1_2.toInt ≤ 3) → (x1_2.toInt < x1_3.toInt ∧ x1_3.toInt ≤ p0.toInt ∧ x1_2.toInt.toNat = bst (fun t => (r 53 t).toInt) x1_3.toInt.toNat) → lv_has ls 4 [(3, .int x1_3), (2, .int x1_2), (0, .ref (a 51)), (1, .int p0)] → W p l e ({ frames := 1, cells := 0, slots := 0, locals := 24 } : Room) s m ([.ref (a 51), .int p0] : List Value).toArray below meth c s.heap [] 0 0 Q (F0 m 4 ls []) := by
    intro n
    induction n with
    | zero =>
      intro x1_3 x1_2 ls hm1 hf1_0 hf1_1 hx1 hl
      exact absurd hm1 (by omega)
    | succ n ih1 =>
      intro x1_3 x1_2 ls hm1 hf1_0 hf1_1 hx1 hl
      refine lv_iload_n hx hb dX0_greatestRest_4 rfl (lv_at hl 0 rfl) ?_
      refine lv_iload_n hx hb dX0_greatestRest_5 rfl (lv_at hl 3 rfl) ?_
      refine lv_icmp_ge (tgt := 37) hx hb dX0_greatestRest_6 (by decide) (fun c_2 => ?_) (fun c_2 => ?_)
      · have c_2 : p0.toInt ≤ x1_3.toInt := b_le c_2
        refine lv_iload_n hx hb dX0_greatestRest_37 rfl (lv_at hl 1 rfl) ?_
        subst hQ
        exact W.iret (v := x1_2) hx hb hr (fun t ht hW => ⟨_, rfl, ⟨by omega, hx1.2.2.trans (by rw [show x1_3.toInt.toNat = p0.toInt.toNat by omega])⟩, ht⟩) (fun q hq => absurd hq List.not_mem_nil) dX0_greatestRest_38
      · have c_2 : x1_3.toInt < p0.toInt := b_nle c_2
        refine lv_iload_n hx hb dX0_greatestRest_9 rfl (lv_at hl 0 rfl) ?_
        refine lv_iconst (v := 4) hx hb dX0_greatestRest_10 (by decide) ?_
        refine lv_icmp_ge (tgt := 37) hx hb dX0_greatestRest_11 (by decide) (fun c_3 => by have c_3 : 4 ≤ x1_3.toInt := b_le c_3; omega) (fun c_3 => ?_)
        have c_3 : x1_3.toInt < 4 := b_nle c_3
        refine lv_aload_n hx hb dX0_greatestRest_14 rfl (lv_at hl 2 rfl) ?_
        refine va_get (D := D) (ci := 0) (v := .ref (a 53)) (C := RX0) (T := TX0) (N := 2) hx hb hT iX0 hown hK hP 51 rfl rfl 1 (by decide) (hT _ t_578) (fun _ h9 => h9) rfl dX0_greatestRest_15 ?_
        refine lv_iload_n hx hb dX0_greatestRest_18 rfl (lv_at hl 0 rfl) ?_
        refine va_iald hx hb hK hP 53 0 rfl rfl (vp_inI (by omega) (by omega)) dX0_greatestRest_19 ?_
        refine lv_topi (fun v_4 ev_4 => ?_)
        refine lv_aload_n hx hb dX0_greatestRest_20 rfl (lv_at hl 2 rfl) ?_
        refine va_get (D := D) (ci := 0) (v := .ref (a 53)) (C := RX0) (T := TX0) (N := 2) hx hb hT iX0 hown hK hP 51 rfl rfl 1 (by decide) (hT _ t_578) (fun _ h9 => h9) rfl dX0_greatestRest_21 ?_
        refine lv_iload_n hx hb dX0_greatestRest_24 rfl (lv_at hl 1 rfl) ?_
        refine va_iald hx hb hK hP 53 0 rfl rfl (vp_inI (by omega) (by omega)) dX0_greatestRest_25 ?_
        refine lv_topi (fun v_5 ev_5 => ?_)
        refine lv_icmp_le (tgt := 31) hx hb dX0_greatestRest_26 (by decide) (fun c_6 => ?_) (fun c_6 => ?_)
        · have c_6 : v_4.toInt ≤ v_5.toInt := b_le c_6
          obtain ⟨x_7, ex_7⟩ : ∃ y : Int32, y = x1_3 + 1 := ⟨_, rfl⟩
          refine lv_iinc (v := x_7) (lv' := [(3, .int x_7), (2, .int x1_2), (0, .ref (a 51)), (1, .int p0)]) hx hb dX0_greatestRest_31 hl (k := 0) rfl (by rw [ex_7]; rfl) (by decide) rfl (fun ls hl => ?_)
          have hx_7 : x_7.toInt = x1_3.toInt + 1 := by rw [ex_7]; have := b_rg x1_3; exact i_add (a := x1_3.toInt) (b := 1) rfl rfl (by omega) (by omega)
          refine lv_goto (tgt := 4) hx hb dX0_greatestRest_34 (by decide) ?_
          exact ih1 x_7 x1_2 _ (by first | omega | (simp only [Int.toNat]; omega)) (by first | omega | decide) (by first | omega | decide)  ⟨by omega, by omega, bst_o hx1.2.2 (show 1 ≤ x1_3.toInt.toNat by omega) (v := v_4.toInt) (w := v_5.toInt) (congrArg Int32.toInt ev_4) (congrArg Int32.toInt ev_5) (by omega) (show x_7.toInt.toNat = x1_3.toInt.toNat + 1 by omega)⟩  (lv_sub hl [0, 1, 2, 3] rfl)
        · have c_6 : v_5.toInt < v_4.toInt := b_nle c_6
          refine lv_iload_n hx hb dX0_greatestRest_29 rfl (lv_at hl 0 rfl) ?_
          refine lv_istore_n (lv' := [(2, .int x1_3), (3, .int x1_3), (0, .ref (a 51)), (1, .int p0)]) hx hb dX0_greatestRest_30 rfl hl (by decide) rfl (fun ls hl => ?_)
          obtain ⟨x_8, ex_8⟩ : ∃ y : Int32, y = x1_3 + 1 := ⟨_, rfl⟩
          refine lv_iinc (v := x_8) (lv' := [(3, .int x_8), (2, .int x1_3), (0, .ref (a 51)), (1, .int p0)]) hx hb dX0_greatestRest_31 hl (k := 1) rfl (by rw [ex_8]; rfl) (by decide) rfl (fun ls hl => ?_)
          have hx_8 : x_8.toInt = x1_3.toInt + 1 := by rw [ex_8]; have := b_rg x1_3; exact i_add (a := x1_3.toInt) (b := 1) rfl rfl (by omega) (by omega)
          refine lv_goto (tgt := 4) hx hb dX0_greatestRest_34 (by decide) ?_
          exact ih1 x_8 x1_3 _ (by first | omega | (simp only [Int.toNat]; omega)) (by first | omega | decide) (by first | omega | decide)  ⟨by omega, by omega, bst_n hx1.2.2 (show 1 ≤ x1_3.toInt.toNat by omega) (v := v_4.toInt) (w := v_5.toInt) (congrArg Int32.toInt ev_4) (congrArg Int32.toInt ev_5) (by omega) (show x_8.toInt.toNat = x1_3.toInt.toNat + 1 by omega) (by omega)⟩  (lv_sub hl [0, 1, 2, 3] rfl)
  exact loop_1 _ 1 0 _ (Nat.lt_succ_self _) (by first | omega | decide) (by first | omega | decide)  ⟨by decide, by have h3 : (1 : Int32).toInt = 1 := rfl; omega, bst_0.symm⟩  hl
set_option maxHeartbeats 4000000 in
set_option maxRecDepth 100000 in
theorem c_X0_divide9 (l : Launch) (D : va_G) (cy : Nat → ClassId) (a : Nat → Nat) (i : Nat → Int32) (r : Nat → Nat → Int32) (q : Nat → Option Nat) (tl : va_W) (p0 : Int32) (sz : Nat) (hRi : yRi i) (hRr : yRr r) (q0 : 0 ≤ p0.toInt ∧ p0.toInt ≤ 9999990) : Met l yX0_divide (Cond.code yX0_divide cX0_divide 9 none :: gT) { frames := 2, cells := 0, slots := 0, locals := 47 } (va_Pc [.ref (a 51), .int p0, .ref (a 61)] (rQ D cy (xW cy a i r q (a 20) (a 12) ++ (hW cy a i r ++ tl)) sz)) (va_Qv (fun u : Nat → Nat → Int32 => yRr u ∧ mEr [52, 53] r u ∧ (shZ (r 62) (i 18) p0.toInt (u 52))) (fun (u : Nat → Nat → Int32) t => va_P D vwCl (xW cy a i u q (a 20) (a 12) ++ (hW cy a i u ++ tl)) t.heap ∧ va_K D vwCl (vT cy) t ∧ va_D (va_A (xW cy a i r q (a 20) (a 12) ++ (hW cy a i r ++ tl)) sz) (xW cy a i u q (a 20) (a 12) ++ (hW cy a i u ++ tl))) (va_A (xW cy a i r q (a 20) (a 12) ++ (hW cy a i r ++ tl)) sz)) 0 0 (va_A (xW cy a i r q (a 20) (a 12) ++ (hW cy a i r ++ tl)) sz) := by
  refine Met.ofQ (cc := cX0_divide) (maxL := 9) (ret := none) (by decide) rfl ?_
  intro p e s m args below meth c s₁ B hml hv Q hQ
  obtain ⟨rfl, hsz, hP, hK, hD0⟩ := hv
  have hx := B.exec
  have hb := B.bytes
  have hr := B.returns
  have hlocks := B.notSynchronized
  have hT : ∀ w ∈ gT, w.before _ s = true := fun w h => atoms_spec (ws := (Cond.code yX0_divide cX0_divide 9 none :: gT)) B.pre w (List.mem_cons_of_mem _ h)
  have hown : s.vm.findClass RX0 = some m.cls := findClass_of_methodNamed B.named
  subst hsz
  have hD := hD0.self (sz := s.heap.size)
  generalize hAe : va_A (xW cy a i r q (a 20) (a 12) ++ (hW cy a i r ++ tl)) s.heap.size = A at hD hQ
  have hA : ∀ q : Nat, s.heap.size ≤ q → A q := fun q h => by rw [← hAe]; exact Or.inr h
  have hS : va_S A s.heap s.heap [] := va_S.rf
  have hl := lv_entry ([.ref (a 51), .int p0, .ref (a 61)]) (n := 9) (Nat.le_of_ble_eq_true rfl)
  rw [lg_entry_eq]
  generalize (lg_sl ([.ref (a 51), .int p0, .ref (a 61)]) ++ List.replicate (9 - (lg_sl ([.ref (a 51), .int p0, .ref (a 61)])).length) Slot.unset).toArray = ls at hl ⊢
  have hl : lv_has ls 9 [(0, .ref (a 51)), (1, .int p0), (2, .ref (a 61))] := hl
  have hEi : mEi [] i i := Ei_rf
  have hEr : mEr [52, 53] r r := Er_rf
  have hg18 : 1 ≤ (i 18).toInt ∧ (i 18).toInt ≤ 4 := hRi 18
  have hRr0 : yRr r := hRr
  obtain ⟨n9, hn9⟩ : ∃ n : Nat, n = (i 18).toInt.toNat := ⟨_, rfl⟩
  have hni : (n9 : Int) = (i 18).toInt := by omega
  have hnr : 1 ≤ n9 ∧ n9 ≤ 4 := by omega
  obtain ⟨P9, hP9⟩ : ∃ P : Nat → Int, P = shP (r 62) n9 := ⟨_, rfl⟩
  have hPt : ∀ t, t < n9 → P9 t = (r 62 t).toInt := fun t ht => by rw [hP9]; exact shP_t ht
  have hok : SHok P9 n9 := ⟨hnr, fun t ht => by rw [hPt t ht]; exact hRr0 62 t⟩
  refine lv_iconst (v := 0) hx hb dX0_divide_0 (by decide) ?_
  refine lv_istore_n (lv' := [(3, .int 0), (0, .ref (a 51)), (1, .int p0), (2, .ref (a 61))]) hx hb dX0_divide_1 rfl hl (by decide) rfl (fun ls hl => ?_)
  refine lv_iconst (v := 0) hx hb dX0_divide_2 (by decide) ?_
  refine lv_istore (lv' := [(4, .int 0), (3, .int 0), (0, .ref (a 51)), (1, .int p0), (2, .ref (a 61))]) hx hb dX0_divide_3 hl (by decide) rfl (fun ls hl => ?_)
  have loop_1 : ∀ (n : Nat) (x1_4 : Int32) (x1_3 : Int32) (H : Heap) (locs : List Loc) (ls : Array Slot), (4 - x1_4.toInt).toNat < n → (0 ≤ x1_4.toInt ∧ x1_4.toInt ≤ 4) → (0 ≤ x1_3.toInt ∧ x1_3.toInt ≤ 400) → (x1_4.toInt ≤ (i 18).toInt ∧ x1_3.toInt ≤ 99 * x1_4.toInt ∧ x1_3.toInt = shS P9 x1_4.toInt.toNat) → va_P D vwCl (xW cy a i r q (a 20) (a 12) ++ (hW cy a i r ++ tl)) H → va_D A (xW cy a i r q (a 20) (a 12) ++ (hW cy a i r ++ tl)) → va_S A s.heap H locs → lv_has ls 9 [(4, .int x1_4), (3, .int x1_3), (0, .ref (a 51)), (1, .int p0), (2, .ref (a 61))] → W p l e ({ frames := 2, cells := 0, slots := 0, locals := 47 } : Room) s m ([.ref (a 51), .int p0, .ref (a 61)] : List Value).toArray below meth c H locs 0 0 Q (F0 m 5 ls []) := by
    intro n
    induction n with
    | zero =>
      intro x1_4 x1_3 H locs ls hm1 hf1_0 hf1_1 hx1 hP hD hS hl
      exact absurd hm1 (by omega)
    | succ n ih1 =>
      intro x1_4 x1_3 H locs ls hm1 hf1_0 hf1_1 hx1 hP hD hS hl
      refine lv_iload hx hb dX0_divide_5 (lv_at hl 0 rfl) ?_
      refine lv_aload_n hx hb dX0_divide_7 rfl (lv_at hl 4 rfl) ?_
      refine va_get (D := D) (ci := 3) (v := .int (i 18)) (C := RX3) (T := TX3) (N := 12) hx hb hT iX3 hown hK hP 61 rfl rfl 1 (by decide) (hT _ t_584) (fun _ h9 => h9) rfl dX0_divide_8 ?_
      have hg_2 : 1 ≤ (i 18).toInt ∧ (i 18).toInt ≤ 4 := hRi 18
      refine lv_icmp_ge (tgt := 30) hx hb dX0_divide_11 (by decide) (fun c_3 => ?_) (fun c_3 => ?_)
      · have c_3 : (i 18).toInt ≤ x1_4.toInt := b_le c_3
        refine lv_iload_n hx hb dX0_divide_30 rfl (lv_at hl 1 rfl) ?_
        have hall : x1_3.toInt = shS P9 n9 := hx1.2.2.trans (by rw [show x1_4.toInt.toNat = n9 by omega])
        refine lv_if_ne (tgt := 38) hx hb dX0_divide_31 (by decide) (fun c_4 => ?_) (fun c_4 => ?_)
        · have c_4 : x1_3.toInt ≠ 0 := b_ne c_4
          have hS0 : shS P9 n9 ≠ 0 := by omega
          have hof : x1_3.toInt = shO P9 n9 := by rw [hall]; exact (if_neg hS0).symm
          have hwt : ∀ t, t < n9 → (r 62 t).toInt = shW P9 n9 t := fun t ht => (hPt t ht).symm.trans (if_neg hS0).symm
          have hal1 : 1 ≤ x1_3.toInt := by have h9 := sh_O hok; omega
          refine lv_iconst (v := 0) hx hb dX0_divide_38 (by decide) ?_
          refine lv_istore (lv' := [(4, .int 0), (3, .int x1_3), (0, .ref (a 51)), (1, .int p0), (2, .ref (a 61))]) hx hb dX0_divide_39 hl (by decide) rfl (fun ls hl => ?_)
          refine lv_iload hx hb dX0_divide_41 (lv_at hl 0 rfl) ?_
          refine lv_if_eq (tgt := 53) hx hb dX0_divide_43 (by decide) (fun c_5 => ?_) (fun c_5 => absurd (by decide) c_5)
          refine lv_iload_n hx hb dX0_divide_53 rfl (lv_at hl 1 rfl) ?_
          refine lv_istore (lv' := [(5, .int x1_3), (4, .int 0), (3, .int x1_3), (0, .ref (a 51)), (1, .int p0), (2, .ref (a 61))]) hx hb dX0_divide_54 hl (by decide) rfl (fun ls hl => ?_)
          refine lv_iload hx hb dX0_divide_56 (lv_at hl 0 rfl) ?_
          refine lv_if_gt (tgt := 62) hx hb dX0_divide_58 (by decide) (fun c_6 => ?_) (fun c_6 => by have c_6 : x1_3.toInt ≤ 0 := b_nlt c_6; omega)
          have c_6 : 0 < x1_3.toInt := b_lt c_6
          refine lv_iload_n hx hb dX0_divide_62 rfl (lv_at hl 4 rfl) ?_
          refine lv_istore (lv' := [(6, .int p0), (5, .int x1_3), (4, .int 0), (3, .int x1_3), (0, .ref (a 51)), (1, .int p0), (2, .ref (a 61))]) hx hb dX0_divide_63 hl (by decide) rfl (fun ls hl => ?_)
          refine lv_iconst (v := 0) hx hb dX0_divide_65 (by decide) ?_
          refine lv_istore (lv' := [(7, .int 0), (6, .int p0), (5, .int x1_3), (4, .int 0), (3, .int x1_3), (0, .ref (a 51)), (1, .int p0), (2, .ref (a 61))]) hx hb dX0_divide_66 hl (by decide) rfl (fun ls hl => ?_)
          have loop_7 : ∀ (n : Nat) (x7_7 : Int32) (x7_6 : Int32) (r7 : Nat → Nat → Int32) (H : Heap) (locs : List Loc) (ls : Array Slot), (4 - x7_7.toInt).toNat < n → (0 ≤ x7_7.toInt ∧ x7_7.toInt ≤ 4) → yRr r7 → mEr [52, 53] r r7 → (x7_7.toInt ≤ (i 18).toInt ∧ (p0.toInt - 9999990 * x7_7.toInt ≤ x7_6.toInt ∧ x7_6.toInt ≤ p0.toInt) ∧ x7_6.toInt = p0.toInt - shS (shG P9 n9 p0.toInt) x7_7.toInt.toNat ∧ ∀ t, t < x7_7.toInt.toNat → (r7 52 t).toInt = shG P9 n9 p0.toInt t ∧ (r7 53 t).toInt = shR P9 n9 p0.toInt t) → va_P D vwCl (xW cy a i r7 q (a 20) (a 12) ++ (hW cy a i r7 ++ tl)) H → va_D A (xW cy a i r7 q (a 20) (a 12) ++ (hW cy a i r7 ++ tl)) → va_S A s.heap H locs → lv_has ls 9 [(7, .int x7_7), (6, .int x7_6), (5, .int x1_3), (4, .int 0), (3, .int x1_3), (0, .ref (a 51)), (1, .int p0), (2, .ref (a 61))] → W p l e ({ frames := 2, cells := 0, slots := 0, locals := 47 } : Room) s m ([.ref (a 51), .int p0, .ref (a 61)] : List Value).toArray below meth c H locs 0 0 Q (F0 m 68 ls []) := by
            intro n
            induction n with
            | zero =>
              intro x7_7 x7_6 r7 H locs ls hm7 hf7_0 hRr hEr hx7 hP hD hS hl
              exact absurd hm7 (by omega)
            | succ n ih7 =>
              intro x7_7 x7_6 r7 H locs ls hm7 hf7_0 hRr hEr hx7 hP hD hS hl
              refine lv_iload hx hb dX0_divide_68 (lv_at hl 0 rfl) ?_
              refine lv_aload_n hx hb dX0_divide_70 rfl (lv_at hl 7 rfl) ?_
              refine va_get (D := D) (ci := 3) (v := .int (i 18)) (C := RX3) (T := TX3) (N := 12) hx hb hT iX3 hown hK hP 61 rfl rfl 1 (by decide) (hT _ t_584) (fun _ h9 => h9) rfl dX0_divide_71 ?_
              refine lv_icmp_ge (tgt := 139) hx hb dX0_divide_74 (by decide) (fun c_8 => ?_) (fun c_8 => ?_)
              · have c_8 : (i 18).toInt ≤ x7_7.toInt := b_le c_8
                refine lv_iconst (v := 0) hx hb dX0_divide_139 (by decide) ?_
                have hxn : x7_7.toInt.toNat = n9 := by omega
                have hlf : x7_6.toInt = shL P9 n9 p0.toInt := hx7.2.2.1.trans (by rw [hxn]; rfl)
                have hlr := sh_L (p := p0.toInt) hok q0.1
                rw [← hlf] at hlr
                have hpn : ∀ t, t < n9 → (r7 52 t).toInt = (pny n9 (shG P9 n9 p0.toInt) (shR P9 n9 p0.toInt) 0).1 t ∧ (r7 53 t).toInt = (pny n9 (shG P9 n9 p0.toInt) (shR P9 n9 p0.toInt) 0).2 t := fun t9 ht => hx7.2.2.2 t9 (by rw [hxn]; exact ht)
                refine lv_istore (lv' := [(7, .int 0), (6, .int x7_6), (5, .int x1_3), (4, .int 0), (3, .int x1_3), (0, .ref (a 51)), (1, .int p0), (2, .ref (a 61))]) hx hb dX0_divide_140 hl (by decide) rfl (fun ls hl => ?_)
                have loop_9 : ∀ (n : Nat) (x9_7 : Int32) (r9 : Nat → Nat → Int32) (H : Heap) (locs : List Loc) (ls : Array Slot), (4 - x9_7.toInt).toNat < n → (0 ≤ x9_7.toInt ∧ x9_7.toInt ≤ 4) → yRr r9 → mEr [52, 53] r r9 → (x9_7.toInt ≤ x7_6.toInt ∧ ∀ t, t < n9 → (r9 52 t).toInt = (pny n9 (shG P9 n9 p0.toInt) (shR P9 n9 p0.toInt) x9_7.toInt.toNat).1 t ∧ (r9 53 t).toInt = (pny n9 (shG P9 n9 p0.toInt) (shR P9 n9 p0.toInt) x9_7.toInt.toNat).2 t) → va_P D vwCl (xW cy a i r9 q (a 20) (a 12) ++ (hW cy a i r9 ++ tl)) H → va_D A (xW cy a i r9 q (a 20) (a 12) ++ (hW cy a i r9 ++ tl)) → va_S A s.heap H locs → lv_has ls 9 [(7, .int x9_7), (6, .int x7_6), (5, .int x1_3), (4, .int 0), (3, .int x1_3), (0, .ref (a 51)), (1, .int p0), (2, .ref (a 61))] → W p l e ({ frames := 2, cells := 0, slots := 0, locals := 47 } : Room) s m ([.ref (a 51), .int p0, .ref (a 61)] : List Value).toArray below meth c H locs 0 0 Q (F0 m 142 ls []) := by
                  intro n
                  induction n with
                  | zero =>
                    intro x9_7 r9 H locs ls hm9 hf9_0 hRr hEr hx9 hP hD hS hl
                    exact absurd hm9 (by omega)
                  | succ n ih9 =>
                    intro x9_7 r9 H locs ls hm9 hf9_0 hRr hEr hx9 hP hD hS hl
                    refine lv_iload hx hb dX0_divide_142 (lv_at hl 0 rfl) ?_
                    refine lv_iload hx hb dX0_divide_144 (lv_at hl 1 rfl) ?_
                    refine lv_icmp_ge (tgt := 193) hx hb dX0_divide_146 (by decide) (fun c_10 => ?_) (fun c_10 => ?_)
                    · have c_10 : x7_6.toInt ≤ x9_7.toInt := b_le c_10
                      subst hQ
                      have hK9 : x9_7.toInt.toNat = (shL P9 n9 p0.toInt).toNat := by rw [← hlf]; omega
                      have hx9 := hx9.2
                      rw [hK9] at hx9
                      have hzz : shZ (r 62) (i 18) p0.toInt (r9 52) := by
                        unfold shZ
                        rw [← hn9, ← hP9]
                        exact fun t9 ht => (hx9 t9 ht).1
                      exact W.vret hx hb hr (fun t ht hW => ⟨⟨r9, rfl, ⟨hRr, hEr, hzz⟩, by rw [ht]; exact hP, va_K.moved hW.alike hK, hD⟩, hS.F ht⟩) hS.2.2 dX0_divide_193
                    · have c_10 : x9_7.toInt < x7_6.toInt := b_nle c_10
                      refine lv_iload hx hb dX0_divide_149 (lv_at hl 0 rfl) ?_
                      refine lv_aload_n hx hb dX0_divide_151 rfl (lv_at hl 7 rfl) ?_
                      refine va_get (D := D) (ci := 3) (v := .int (i 18)) (C := RX3) (T := TX3) (N := 12) hx hb hT iX3 hown hK hP 61 rfl rfl 1 (by decide) (hT _ t_584) (fun _ h9 => h9) rfl dX0_divide_152 ?_
                      refine lv_icmp_ge (tgt := 193) hx hb dX0_divide_155 (by decide) (fun c_11 => by have c_11 : (i 18).toInt ≤ x9_7.toInt := b_le c_11; omega) (fun c_11 => ?_)
                      have c_11 : x9_7.toInt < (i 18).toInt := b_nle c_11
                      refine lv_aload_n hx hb dX0_divide_158 rfl (lv_at hl 5 rfl) ?_
                      refine lv_aload_n hx hb dX0_divide_159 rfl (lv_at hl 7 rfl) ?_
                      refine va_get (D := D) (ci := 3) (v := .int (i 18)) (C := RX3) (T := TX3) (N := 12) hx hb hT iX3 hown hK hP 61 rfl rfl 1 (by decide) (hT _ t_584) (fun _ h9 => h9) rfl dX0_divide_160 ?_
                      refine vp_callSi (W.runV (As := [.int (i 18)]) (rest := []) ⟨hx, hb, hml, hown, hT⟩ (c_X0_greatestRest9 l D cy a i r9 q (hW cy a i r9 ++ tl) (i 18) hRi hRr (by omega)) (cwV 1 hT (gV t_585 t_587 t_588 t_589 t_586) rfl rfl rfl (by decide +kernel) ⟨Nat.le_of_ble_eq_true rfl, Nat.le_of_ble_eq_true rfl⟩) (rP_v hP hK (va_recv hK hP (ci := 0) (q0 := 51) rfl rfl)) rfl rfl hl.1 rfl (lv_room (Nat.le_of_ble_eq_true rfl)) dX0_divide_163 ⟨Nat.le_of_ble_eq_true rfl, Nat.le_of_ble_eq_true rfl⟩) (fun r_12 hr_12 => ?_)
                      have hqr_12 : (0 ≤ r_12.toInt ∧ r_12.toInt ≤ 3) ∧ r_12.toInt.toNat = bst (fun t => (r9 53 t).toInt) (i 18).toInt.toNat := hr_12
                      have hrr_12 : 0 ≤ r_12.toInt ∧ r_12.toInt ≤ 3 := hqr_12.1
                      refine lv_istore (lv' := [(8, .int r_12), (7, .int x9_7), (6, .int x7_6), (5, .int x1_3), (4, .int 0), (3, .int x1_3), (0, .ref (a 51)), (1, .int p0), (2, .ref (a 61))]) hx hb dX0_divide_166 hl (by decide) rfl (fun ls hl => ?_)
                      refine lv_aload_n hx hb dX0_divide_168 rfl (lv_at hl 6 rfl) ?_
                      refine va_get (D := D) (ci := 0) (v := .ref (a 52)) (C := RX0) (T := TX0) (N := 2) hx hb hT iX0 hown hK hP 51 rfl rfl 0 (by decide) (hT _ t_583) (fun _ h9 => h9) rfl dX0_divide_169 ?_
                      refine lv_iload hx hb dX0_divide_172 (lv_at hl 0 rfl) ?_
                      refine lv_dup2_11 hx hb dX0_divide_174 rfl rfl ?_
                      refine va_iald hx hb hK hP 52 0 rfl rfl (vp_inI (by omega) (by omega)) dX0_divide_175 ?_
                      refine lv_topi (fun v_13 ev_13 => ?_)
                      have hgn : r_12.toInt.toNat = bst (fun t => (r9 53 t).toInt) n9 := hqr_12.2.trans (by rw [hn9])
                      have hgl : r_12.toInt.toNat < n9 := by rw [hgn]; exact bst_lt n9 hnr.1
                      have hgb := pny_b (ρ := shR P9 n9 p0.toInt) (fun t9 ht => sh_G hok q0.1 t9 ht) hnr.1 x9_7.toInt.toNat _ hgl
                      rw [← (hx9.2 _ hgl).1] at hgb
                      have hvb : 0 ≤ v_13.toInt ∧ v_13.toInt ≤ 9999994 := by have h9 : v_13.toInt = (r9 52 r_12.toInt.toNat).toInt := congrArg Int32.toInt ev_13; omega
                      refine lv_iconst (v := 1) hx hb dX0_divide_176 (by decide) ?_
                      refine lv_iadd hx hb dX0_divide_177 ?_
                      refine lv_topi (fun v_14 ev_14 => ?_)
                      have hv_14 : v_14.toInt = v_13.toInt + 1 := by rw [ev_14]; have := b_rg v_13; exact i_add (a := v_13.toInt) (b := 1) rfl rfl (by omega) (by omega)
                      refine va_iast hx hb hK hP hD hS 52 0 rfl rfl (vp_inI (by omega) (by omega)) dX0_divide_178 (fun H locs hP hD hS => ?_)
                      rw [yS52] at hP hD
                      have hRr : yRr (va_up r9 52 (upd (r9 52) r_12.toNatClampNeg v_14)) := Yr_upd hRr 52 (r_12.toNatClampNeg) v_14 (b_rg _)
                      have hEr : mEr [52, 53] _ (va_up r9 52 (upd (r9 52) r_12.toNatClampNeg v_14)) := Er_up hEr 52 _ (by decide)
                      refine lv_aload_n hx hb dX0_divide_179 rfl (lv_at hl 6 rfl) ?_
                      refine va_get (D := D) (ci := 0) (v := .ref (a 53)) (C := RX0) (T := TX0) (N := 2) hx hb hT iX0 hown hK hP 51 rfl rfl 1 (by decide) (hT _ t_578) (fun _ h9 => h9) rfl dX0_divide_180 ?_
                      refine lv_iload hx hb dX0_divide_183 (lv_at hl 0 rfl) ?_
                      refine lv_iconst (v := (-1)) hx hb dX0_divide_185 (by decide) ?_
                      refine va_iast hx hb hK hP hD hS 53 0 rfl rfl (vp_inI (by omega) (by omega)) dX0_divide_186 (fun H locs hP hD hS => ?_)
                      rw [yS53] at hP hD
                      have hRr : yRr (va_up (va_up r9 52 (upd (r9 52) r_12.toNatClampNeg v_14)) 53 (upd (r9 53) r_12.toNatClampNeg (-1))) := Yr_upd hRr 53 (r_12.toNatClampNeg) (-1) (b_rg _)
                      have hEr : mEr [52, 53] _ (va_up (va_up r9 52 (upd (r9 52) r_12.toNatClampNeg v_14)) 53 (upd (r9 53) r_12.toNatClampNeg (-1))) := Er_up hEr 53 _ (by decide)
                      obtain ⟨x_15, ex_15⟩ : ∃ y : Int32, y = x9_7 + 1 := ⟨_, rfl⟩
                      refine lv_iinc (v := x_15) (lv' := [(7, .int x_15), (8, .int r_12), (6, .int x7_6), (5, .int x1_3), (4, .int 0), (3, .int x1_3), (0, .ref (a 51)), (1, .int p0), (2, .ref (a 61))]) hx hb dX0_divide_187 hl (k := 1) rfl (by rw [ex_15]; rfl) (by decide) rfl (fun ls hl => ?_)
                      have hx_15 : x_15.toInt = x9_7.toInt + 1 := by rw [ex_15]; have := b_rg x9_7; exact i_add (a := x9_7.toInt) (b := 1) rfl rfl (by omega) (by omega)
                      refine lv_goto (tgt := 142) hx hb dX0_divide_190 (by decide) ?_
                      exact ih9 x_15 (va_up (va_up r9 52 (upd (r9 52) r_12.toNatClampNeg v_14)) 53 (upd (r9 53) r_12.toNatClampNeg (-1))) _ _ _ (by first | omega | (simp only [Int.toNat]; omega)) (by first | omega | decide) hRr hEr ⟨by omega, pny_s hx9.2 (J := r_12.toNatClampNeg) (x := v_14) (y := -1) hgn hnr.1 (show v_14.toInt = (r9 52 r_12.toNatClampNeg).toInt + 1 by rw [← ev_13]; omega) rfl (show x_15.toInt.toNat = x9_7.toInt.toNat + 1 by omega)⟩ hP hD hS (lv_sub hl [0, 2, 3, 4, 5, 6, 7, 8] rfl)
                exact loop_9 _ 0 r7 _ _ _ (Nat.lt_succ_self _) (by first | omega | decide) hRr hEr ⟨by have h3 : (0 : Int32).toInt = 0 := rfl; omega, hpn⟩ hP hD hS hl
              · have c_8 : x7_7.toInt < (i 18).toInt := b_nle c_8
                refine lv_iload_n hx hb dX0_divide_77 rfl (lv_at hl 6 rfl) ?_
                refine lv_iload hx hb dX0_divide_78 (lv_at hl 3 rfl) ?_
                refine lv_if_eq (tgt := 87) hx hb dX0_divide_80 (by decide) (fun c_16 => ?_) (fun c_16 => absurd (by decide) c_16)
                refine lv_aload_n hx hb dX0_divide_87 rfl (lv_at hl 7 rfl) ?_
                refine va_get (D := D) (ci := 3) (v := .ref (a 62)) (C := RX3) (T := TX3) (N := 12) hx hb hT iX3 hown hK hP 61 rfl rfl 6 (by decide) (hT _ t_590) (fun _ h9 => h9) rfl dX0_divide_88 ?_
                refine lv_iload hx hb dX0_divide_91 (lv_at hl 0 rfl) ?_
                refine va_iald hx hb hK hP 62 0 rfl rfl (vp_inI (by omega) (by omega)) dX0_divide_93 ?_
                refine lv_topi (fun v_17 ev_17 => ?_)
                have hgv_17 : 0 ≤ v_17.toInt ∧ v_17.toInt ≤ 99 := by rw [ev_17]; exact hRr 62 _
                refine lv_imul hx hb dX0_divide_94 ?_
                refine lv_topi (fun v_18 ev_18 => ?_)
                have hKn : x7_7.toInt.toNat < n9 := by omega
                have hv9 : v_18.toInt = p0.toInt * shW P9 n9 x7_7.toInt.toNat := sh_x hok q0 hKn rfl (by rw [ev_17, hEr 62 (by decide)]; exact hwt _ hKn) ev_18
                have hv8 := sh_pr (p := p0.toInt) hok q0 hKn
                rw [← hv9] at hv8
                refine lv_istore (lv' := [(8, .int v_18), (7, .int x7_7), (6, .int x7_6), (5, .int x1_3), (4, .int 0), (3, .int x1_3), (0, .ref (a 51)), (1, .int p0), (2, .ref (a 61))]) hx hb dX0_divide_95 hl (by decide) rfl (fun ls hl => ?_)
                refine lv_aload_n hx hb dX0_divide_97 rfl (lv_at hl 6 rfl) ?_
                refine va_get (D := D) (ci := 0) (v := .ref (a 52)) (C := RX0) (T := TX0) (N := 2) hx hb hT iX0 hown hK hP 51 rfl rfl 0 (by decide) (hT _ t_583) (fun _ h9 => h9) rfl dX0_divide_98 ?_
                refine lv_iload hx hb dX0_divide_101 (lv_at hl 1 rfl) ?_
                refine lv_iload hx hb dX0_divide_103 (lv_at hl 0 rfl) ?_
                refine lv_iload hx hb dX0_divide_105 (lv_at hl 3 rfl) ?_
                refine lv_idiv hx hb dX0_divide_107 (nz (by omega)) ?_
                refine lv_topi (fun v_19 ev_19 => ?_)
                have hg9 : v_19.toInt = shG P9 n9 p0.toInt x7_7.toInt.toNat := sh_q hok q0 hKn hv9 hof ev_19
                have hg8 := sh_G (p := p0.toInt) hok q0.1 _ hKn
                rw [← hg9] at hg8
                refine va_iast hx hb hK hP hD hS 52 0 rfl rfl (vp_inI (by omega) (by omega)) dX0_divide_108 (fun H locs hP hD hS => ?_)
                rw [yS52] at hP hD
                have hRr : yRr (va_up r7 52 (upd (r7 52) x7_7.toNatClampNeg v_19)) := Yr_upd hRr 52 (x7_7.toNatClampNeg) v_19 (b_rg _)
                have hEr : mEr [52, 53] _ (va_up r7 52 (upd (r7 52) x7_7.toNatClampNeg v_19)) := Er_up hEr 52 _ (by decide)
                refine lv_aload_n hx hb dX0_divide_109 rfl (lv_at hl 6 rfl) ?_
                refine va_get (D := D) (ci := 0) (v := .ref (a 53)) (C := RX0) (T := TX0) (N := 2) hx hb hT iX0 hown hK hP 51 rfl rfl 1 (by decide) (hT _ t_578) (fun _ h9 => h9) rfl dX0_divide_110 ?_
                refine lv_iload hx hb dX0_divide_113 (lv_at hl 1 rfl) ?_
                refine lv_iload hx hb dX0_divide_115 (lv_at hl 0 rfl) ?_
                refine lv_iload hx hb dX0_divide_117 (lv_at hl 3 rfl) ?_
                refine lv_irem hx hb dX0_divide_119 (nz (by omega)) ?_
                refine lv_topi (fun v_20 ev_20 => ?_)
                have hm9 : v_20.toInt = shR P9 n9 p0.toInt x7_7.toInt.toNat := sh_m hok q0 hKn hv9 hof ev_20
                have hm8 := sh_R (p := p0.toInt) hok x7_7.toInt.toNat
                rw [← hm9] at hm8
                refine va_iast hx hb hK hP hD hS 53 0 rfl rfl (vp_inI (by omega) (by omega)) dX0_divide_120 (fun H locs hP hD hS => ?_)
                rw [yS53] at hP hD
                have hRr : yRr (va_up (va_up r7 52 (upd (r7 52) x7_7.toNatClampNeg v_19)) 53 (upd (r7 53) x7_7.toNatClampNeg v_20)) := Yr_upd hRr 53 (x7_7.toNatClampNeg) v_20 (b_rg _)
                have hEr : mEr [52, 53] _ (va_up (va_up r7 52 (upd (r7 52) x7_7.toNatClampNeg v_19)) 53 (upd (r7 53) x7_7.toNatClampNeg v_20)) := Er_up hEr 53 _ (by decide)
                refine lv_iload hx hb dX0_divide_121 (lv_at hl 2 rfl) ?_
                refine lv_aload_n hx hb dX0_divide_123 rfl (lv_at hl 6 rfl) ?_
                refine va_get (D := D) (ci := 0) (v := .ref (a 52)) (C := RX0) (T := TX0) (N := 2) hx hb hT iX0 hown hK hP 51 rfl rfl 0 (by decide) (hT _ t_583) (fun _ h9 => h9) rfl dX0_divide_124 ?_
                refine lv_iload hx hb dX0_divide_127 (lv_at hl 1 rfl) ?_
                refine va_iald hx hb hK hP 52 0 rfl rfl (vp_inI (by omega) (by omega)) dX0_divide_129 ?_
                refine lv_topi (fun v_21 ev_21 => ?_)
                have hsh : v_21.toInt = v_19.toInt := congrArg Int32.toInt (ev_21.trans (upd_s (f := r7 52) (k := x7_7.toNatClampNeg) (v := v_19)))
                have hsr : 0 ≤ v_21.toInt ∧ v_21.toInt ≤ 9999990 := by omega
                refine lv_isub hx hb dX0_divide_130 ?_
                refine lv_topi (fun v_22 ev_22 => ?_)
                refine lv_istore (lv' := [(6, .int v_22), (8, .int v_18), (7, .int x7_7), (5, .int x1_3), (4, .int 0), (3, .int x1_3), (0, .ref (a 51)), (1, .int p0), (2, .ref (a 61))]) hx hb dX0_divide_131 hl (by decide) rfl (fun ls hl => ?_)
                obtain ⟨x_23, ex_23⟩ : ∃ y : Int32, y = x7_7 + 1 := ⟨_, rfl⟩
                refine lv_iinc (v := x_23) (lv' := [(7, .int x_23), (6, .int v_22), (8, .int v_18), (5, .int x1_3), (4, .int 0), (3, .int x1_3), (0, .ref (a 51)), (1, .int p0), (2, .ref (a 61))]) hx hb dX0_divide_133 hl (k := 2) rfl (by rw [ex_23]; rfl) (by decide) rfl (fun ls hl => ?_)
                have hx_23 : x_23.toInt = x7_7.toInt + 1 := by rw [ex_23]; have := b_rg x7_7; exact i_add (a := x7_7.toInt) (b := 1) rfl rfl (by omega) (by omega)
                refine lv_goto (tgt := 68) hx hb dX0_divide_136 (by decide) ?_
                have hy6 : v_22.toInt = x7_6.toInt - v_21.toInt := by rw [ev_22]; exact i_sub rfl rfl (by omega) (by omega)
                have hsS := shS_s (u := shG P9 n9 p0.toInt) (K := x7_7.toInt.toNat) (K2 := x_23.toInt.toNat) rfl hg9 rfl (by omega)
                exact ih7 x_23 v_22 (va_up (va_up r7 52 (upd (r7 52) x7_7.toNatClampNeg v_19)) 53 (upd (r7 53) x7_7.toNatClampNeg v_20)) _ _ _ (by first | omega | (simp only [Int.toNat]; omega)) (by first | omega | decide) hRr hEr ⟨by omega, by omega, by rw [← hsS]; omega, shI_s hx7.2.2.2 hg9 hm9 (x := v_19) (y := v_20) (show x7_7.toNatClampNeg = x7_7.toInt.toNat from rfl) (show x_23.toInt.toNat = x7_7.toInt.toNat + 1 by omega)⟩ hP hD hS (lv_sub hl [0, 1, 3, 4, 5, 6, 7, 8] rfl)
          exact loop_7 _ 0 p0 r _ _ _ (Nat.lt_succ_self _) (by first | omega | decide) hRr hEr ⟨by have h3 : (0 : Int32).toInt = 0 := rfl; omega, by have h3 : (0 : Int32).toInt = 0 := rfl; omega, (show p0.toInt = p0.toInt - shS (shG P9 n9 p0.toInt) 0 from (Int.sub_zero _).symm), fun t ht => absurd (show t < 0 from ht) (Nat.not_lt_zero t)⟩ hP hD hS hl
        · have c_4 : x1_3.toInt = 0 := b_nne c_4
          have hS0 : shS P9 n9 = 0 := by omega
          have hof : (i 18).toInt = shO P9 n9 := by rw [← hni]; unfold shO; rw [if_pos hS0]
          have hwt : ∀ t, t < n9 → (1 : Int32).toInt = shW P9 n9 t := fun t _ => (if_pos hS0).symm
          refine lv_iconst (v := 1) hx hb dX0_divide_34 (by decide) ?_
          refine lv_goto (tgt := 39) hx hb dX0_divide_35 (by decide) ?_
          refine lv_istore (lv' := [(4, .int 1), (3, .int x1_3), (0, .ref (a 51)), (1, .int p0), (2, .ref (a 61))]) hx hb dX0_divide_39 hl (by decide) rfl (fun ls hl => ?_)
          refine lv_iload hx hb dX0_divide_41 (lv_at hl 0 rfl) ?_
          refine lv_if_eq (tgt := 53) hx hb dX0_divide_43 (by decide) (fun c_24 => absurd c_24 (by decide)) (fun c_24 => ?_)
          refine lv_aload_n hx hb dX0_divide_46 rfl (lv_at hl 4 rfl) ?_
          refine va_get (D := D) (ci := 3) (v := .int (i 18)) (C := RX3) (T := TX3) (N := 12) hx hb hT iX3 hown hK hP 61 rfl rfl 1 (by decide) (hT _ t_584) (fun _ h9 => h9) rfl dX0_divide_47 ?_
          refine lv_goto (tgt := 54) hx hb dX0_divide_50 (by decide) ?_
          refine lv_istore (lv' := [(5, .int (i 18)), (4, .int 1), (3, .int x1_3), (0, .ref (a 51)), (1, .int p0), (2, .ref (a 61))]) hx hb dX0_divide_54 hl (by decide) rfl (fun ls hl => ?_)
          refine lv_iload hx hb dX0_divide_56 (lv_at hl 0 rfl) ?_
          refine lv_if_gt (tgt := 62) hx hb dX0_divide_58 (by decide) (fun c_25 => ?_) (fun c_25 => by have c_25 : (i 18).toInt ≤ 0 := b_nlt c_25; omega)
          have c_25 : 0 < (i 18).toInt := b_lt c_25
          refine lv_iload_n hx hb dX0_divide_62 rfl (lv_at hl 4 rfl) ?_
          refine lv_istore (lv' := [(6, .int p0), (5, .int (i 18)), (4, .int 1), (3, .int x1_3), (0, .ref (a 51)), (1, .int p0), (2, .ref (a 61))]) hx hb dX0_divide_63 hl (by decide) rfl (fun ls hl => ?_)
          refine lv_iconst (v := 0) hx hb dX0_divide_65 (by decide) ?_
          refine lv_istore (lv' := [(7, .int 0), (6, .int p0), (5, .int (i 18)), (4, .int 1), (3, .int x1_3), (0, .ref (a 51)), (1, .int p0), (2, .ref (a 61))]) hx hb dX0_divide_66 hl (by decide) rfl (fun ls hl => ?_)
          have loop_26 : ∀ (n : Nat) (x26_7 : Int32) (x26_6 : Int32) (r26 : Nat → Nat → Int32) (H : Heap) (locs : List Loc) (ls : Array Slot), (4 - x26_7.toInt).toNat < n → (0 ≤ x26_7.toInt ∧ x26_7.toInt ≤ 4) → yRr r26 → mEr [52, 53] r r26 → (x26_7.toInt ≤ (i 18).toInt ∧ (p0.toInt - 9999990 * x26_7.toInt ≤ x26_6.toInt ∧ x26_6.toInt ≤ p0.toInt) ∧ x26_6.toInt = p0.toInt - shS (shG P9 n9 p0.toInt) x26_7.toInt.toNat ∧ ∀ t, t < x26_7.toInt.toNat → (r26 52 t).toInt = shG P9 n9 p0.toInt t ∧ (r26 53 t).toInt = shR P9 n9 p0.toInt t) → va_P D vwCl (xW cy a i r26 q (a 20) (a 12) ++ (hW cy a i r26 ++ tl)) H → va_D A (xW cy a i r26 q (a 20) (a 12) ++ (hW cy a i r26 ++ tl)) → va_S A s.heap H locs → lv_has ls 9 [(7, .int x26_7), (6, .int x26_6), (5, .int (i 18)), (4, .int 1), (3, .int x1_3), (0, .ref (a 51)), (1, .int p0), (2, .ref (a 61))] → W p l e ({ frames := 2, cells := 0, slots := 0, locals := 47 } : Room) s m ([.ref (a 51), .int p0, .ref (a 61)] : List Value).toArray below meth c H locs 0 0 Q (F0 m 68 ls []) := by
            intro n
            induction n with
            | zero =>
              intro x26_7 x26_6 r26 H locs ls hm26 hf26_0 hRr hEr hx26 hP hD hS hl
              exact absurd hm26 (by omega)
            | succ n ih26 =>
              intro x26_7 x26_6 r26 H locs ls hm26 hf26_0 hRr hEr hx26 hP hD hS hl
              refine lv_iload hx hb dX0_divide_68 (lv_at hl 0 rfl) ?_
              refine lv_aload_n hx hb dX0_divide_70 rfl (lv_at hl 7 rfl) ?_
              refine va_get (D := D) (ci := 3) (v := .int (i 18)) (C := RX3) (T := TX3) (N := 12) hx hb hT iX3 hown hK hP 61 rfl rfl 1 (by decide) (hT _ t_584) (fun _ h9 => h9) rfl dX0_divide_71 ?_
              refine lv_icmp_ge (tgt := 139) hx hb dX0_divide_74 (by decide) (fun c_27 => ?_) (fun c_27 => ?_)
              · have c_27 : (i 18).toInt ≤ x26_7.toInt := b_le c_27
                refine lv_iconst (v := 0) hx hb dX0_divide_139 (by decide) ?_
                have hxn : x26_7.toInt.toNat = n9 := by omega
                have hlf : x26_6.toInt = shL P9 n9 p0.toInt := hx26.2.2.1.trans (by rw [hxn]; rfl)
                have hlr := sh_L (p := p0.toInt) hok q0.1
                rw [← hlf] at hlr
                have hpn : ∀ t, t < n9 → (r26 52 t).toInt = (pny n9 (shG P9 n9 p0.toInt) (shR P9 n9 p0.toInt) 0).1 t ∧ (r26 53 t).toInt = (pny n9 (shG P9 n9 p0.toInt) (shR P9 n9 p0.toInt) 0).2 t := fun t9 ht => hx26.2.2.2 t9 (by rw [hxn]; exact ht)
                refine lv_istore (lv' := [(7, .int 0), (6, .int x26_6), (5, .int (i 18)), (4, .int 1), (3, .int x1_3), (0, .ref (a 51)), (1, .int p0), (2, .ref (a 61))]) hx hb dX0_divide_140 hl (by decide) rfl (fun ls hl => ?_)
                have loop_28 : ∀ (n : Nat) (x28_7 : Int32) (r28 : Nat → Nat → Int32) (H : Heap) (locs : List Loc) (ls : Array Slot), (4 - x28_7.toInt).toNat < n → (0 ≤ x28_7.toInt ∧ x28_7.toInt ≤ 4) → yRr r28 → mEr [52, 53] r r28 → (x28_7.toInt ≤ x26_6.toInt ∧ ∀ t, t < n9 → (r28 52 t).toInt = (pny n9 (shG P9 n9 p0.toInt) (shR P9 n9 p0.toInt) x28_7.toInt.toNat).1 t ∧ (r28 53 t).toInt = (pny n9 (shG P9 n9 p0.toInt) (shR P9 n9 p0.toInt) x28_7.toInt.toNat).2 t) → va_P D vwCl (xW cy a i r28 q (a 20) (a 12) ++ (hW cy a i r28 ++ tl)) H → va_D A (xW cy a i r28 q (a 20) (a 12) ++ (hW cy a i r28 ++ tl)) → va_S A s.heap H locs → lv_has ls 9 [(7, .int x28_7), (6, .int x26_6), (5, .int (i 18)), (4, .int 1), (3, .int x1_3), (0, .ref (a 51)), (1, .int p0), (2, .ref (a 61))] → W p l e ({ frames := 2, cells := 0, slots := 0, locals := 47 } : Room) s m ([.ref (a 51), .int p0, .ref (a 61)] : List Value).toArray below meth c H locs 0 0 Q (F0 m 142 ls []) := by
                  intro n
                  induction n with
                  | zero =>
                    intro x28_7 r28 H locs ls hm28 hf28_0 hRr hEr hx28 hP hD hS hl
                    exact absurd hm28 (by omega)
                  | succ n ih28 =>
                    intro x28_7 r28 H locs ls hm28 hf28_0 hRr hEr hx28 hP hD hS hl
                    refine lv_iload hx hb dX0_divide_142 (lv_at hl 0 rfl) ?_
                    refine lv_iload hx hb dX0_divide_144 (lv_at hl 1 rfl) ?_
                    refine lv_icmp_ge (tgt := 193) hx hb dX0_divide_146 (by decide) (fun c_29 => ?_) (fun c_29 => ?_)
                    · have c_29 : x26_6.toInt ≤ x28_7.toInt := b_le c_29
                      subst hQ
                      have hK9 : x28_7.toInt.toNat = (shL P9 n9 p0.toInt).toNat := by rw [← hlf]; omega
                      have hx9 := hx28.2
                      rw [hK9] at hx9
                      have hzz : shZ (r 62) (i 18) p0.toInt (r28 52) := by
                        unfold shZ
                        rw [← hn9, ← hP9]
                        exact fun t9 ht => (hx9 t9 ht).1
                      exact W.vret hx hb hr (fun t ht hW => ⟨⟨r28, rfl, ⟨hRr, hEr, hzz⟩, by rw [ht]; exact hP, va_K.moved hW.alike hK, hD⟩, hS.F ht⟩) hS.2.2 dX0_divide_193
                    · have c_29 : x28_7.toInt < x26_6.toInt := b_nle c_29
                      refine lv_iload hx hb dX0_divide_149 (lv_at hl 0 rfl) ?_
                      refine lv_aload_n hx hb dX0_divide_151 rfl (lv_at hl 7 rfl) ?_
                      refine va_get (D := D) (ci := 3) (v := .int (i 18)) (C := RX3) (T := TX3) (N := 12) hx hb hT iX3 hown hK hP 61 rfl rfl 1 (by decide) (hT _ t_584) (fun _ h9 => h9) rfl dX0_divide_152 ?_
                      refine lv_icmp_ge (tgt := 193) hx hb dX0_divide_155 (by decide) (fun c_30 => by have c_30 : (i 18).toInt ≤ x28_7.toInt := b_le c_30; omega) (fun c_30 => ?_)
                      have c_30 : x28_7.toInt < (i 18).toInt := b_nle c_30
                      refine lv_aload_n hx hb dX0_divide_158 rfl (lv_at hl 5 rfl) ?_
                      refine lv_aload_n hx hb dX0_divide_159 rfl (lv_at hl 7 rfl) ?_
                      refine va_get (D := D) (ci := 3) (v := .int (i 18)) (C := RX3) (T := TX3) (N := 12) hx hb hT iX3 hown hK hP 61 rfl rfl 1 (by decide) (hT _ t_584) (fun _ h9 => h9) rfl dX0_divide_160 ?_
                      refine vp_callSi (W.runV (As := [.int (i 18)]) (rest := []) ⟨hx, hb, hml, hown, hT⟩ (c_X0_greatestRest9 l D cy a i r28 q (hW cy a i r28 ++ tl) (i 18) hRi hRr (by omega)) (cwV 1 hT (gV t_585 t_587 t_588 t_589 t_586) rfl rfl rfl (by decide +kernel) ⟨Nat.le_of_ble_eq_true rfl, Nat.le_of_ble_eq_true rfl⟩) (rP_v hP hK (va_recv hK hP (ci := 0) (q0 := 51) rfl rfl)) rfl rfl hl.1 rfl (lv_room (Nat.le_of_ble_eq_true rfl)) dX0_divide_163 ⟨Nat.le_of_ble_eq_true rfl, Nat.le_of_ble_eq_true rfl⟩) (fun r_31 hr_31 => ?_)
                      have hqr_31 : (0 ≤ r_31.toInt ∧ r_31.toInt ≤ 3) ∧ r_31.toInt.toNat = bst (fun t => (r28 53 t).toInt) (i 18).toInt.toNat := hr_31
                      have hrr_31 : 0 ≤ r_31.toInt ∧ r_31.toInt ≤ 3 := hqr_31.1
                      refine lv_istore (lv' := [(8, .int r_31), (7, .int x28_7), (6, .int x26_6), (5, .int (i 18)), (4, .int 1), (3, .int x1_3), (0, .ref (a 51)), (1, .int p0), (2, .ref (a 61))]) hx hb dX0_divide_166 hl (by decide) rfl (fun ls hl => ?_)
                      refine lv_aload_n hx hb dX0_divide_168 rfl (lv_at hl 6 rfl) ?_
                      refine va_get (D := D) (ci := 0) (v := .ref (a 52)) (C := RX0) (T := TX0) (N := 2) hx hb hT iX0 hown hK hP 51 rfl rfl 0 (by decide) (hT _ t_583) (fun _ h9 => h9) rfl dX0_divide_169 ?_
                      refine lv_iload hx hb dX0_divide_172 (lv_at hl 0 rfl) ?_
                      refine lv_dup2_11 hx hb dX0_divide_174 rfl rfl ?_
                      refine va_iald hx hb hK hP 52 0 rfl rfl (vp_inI (by omega) (by omega)) dX0_divide_175 ?_
                      refine lv_topi (fun v_32 ev_32 => ?_)
                      have hgn : r_31.toInt.toNat = bst (fun t => (r28 53 t).toInt) n9 := hqr_31.2.trans (by rw [hn9])
                      have hgl : r_31.toInt.toNat < n9 := by rw [hgn]; exact bst_lt n9 hnr.1
                      have hgb := pny_b (ρ := shR P9 n9 p0.toInt) (fun t9 ht => sh_G hok q0.1 t9 ht) hnr.1 x28_7.toInt.toNat _ hgl
                      rw [← (hx28.2 _ hgl).1] at hgb
                      have hvb : 0 ≤ v_32.toInt ∧ v_32.toInt ≤ 9999994 := by have h9 : v_32.toInt = (r28 52 r_31.toInt.toNat).toInt := congrArg Int32.toInt ev_32; omega
                      refine lv_iconst (v := 1) hx hb dX0_divide_176 (by decide) ?_
                      refine lv_iadd hx hb dX0_divide_177 ?_
                      refine lv_topi (fun v_33 ev_33 => ?_)
                      have hv_33 : v_33.toInt = v_32.toInt + 1 := by rw [ev_33]; have := b_rg v_32; exact i_add (a := v_32.toInt) (b := 1) rfl rfl (by omega) (by omega)
                      refine va_iast hx hb hK hP hD hS 52 0 rfl rfl (vp_inI (by omega) (by omega)) dX0_divide_178 (fun H locs hP hD hS => ?_)
                      rw [yS52] at hP hD
                      have hRr : yRr (va_up r28 52 (upd (r28 52) r_31.toNatClampNeg v_33)) := Yr_upd hRr 52 (r_31.toNatClampNeg) v_33 (b_rg _)
                      have hEr : mEr [52, 53] _ (va_up r28 52 (upd (r28 52) r_31.toNatClampNeg v_33)) := Er_up hEr 52 _ (by decide)
                      refine lv_aload_n hx hb dX0_divide_179 rfl (lv_at hl 6 rfl) ?_
                      refine va_get (D := D) (ci := 0) (v := .ref (a 53)) (C := RX0) (T := TX0) (N := 2) hx hb hT iX0 hown hK hP 51 rfl rfl 1 (by decide) (hT _ t_578) (fun _ h9 => h9) rfl dX0_divide_180 ?_
                      refine lv_iload hx hb dX0_divide_183 (lv_at hl 0 rfl) ?_
                      refine lv_iconst (v := (-1)) hx hb dX0_divide_185 (by decide) ?_
                      refine va_iast hx hb hK hP hD hS 53 0 rfl rfl (vp_inI (by omega) (by omega)) dX0_divide_186 (fun H locs hP hD hS => ?_)
                      rw [yS53] at hP hD
                      have hRr : yRr (va_up (va_up r28 52 (upd (r28 52) r_31.toNatClampNeg v_33)) 53 (upd (r28 53) r_31.toNatClampNeg (-1))) := Yr_upd hRr 53 (r_31.toNatClampNeg) (-1) (b_rg _)
                      have hEr : mEr [52, 53] _ (va_up (va_up r28 52 (upd (r28 52) r_31.toNatClampNeg v_33)) 53 (upd (r28 53) r_31.toNatClampNeg (-1))) := Er_up hEr 53 _ (by decide)
                      obtain ⟨x_34, ex_34⟩ : ∃ y : Int32, y = x28_7 + 1 := ⟨_, rfl⟩
                      refine lv_iinc (v := x_34) (lv' := [(7, .int x_34), (8, .int r_31), (6, .int x26_6), (5, .int (i 18)), (4, .int 1), (3, .int x1_3), (0, .ref (a 51)), (1, .int p0), (2, .ref (a 61))]) hx hb dX0_divide_187 hl (k := 1) rfl (by rw [ex_34]; rfl) (by decide) rfl (fun ls hl => ?_)
                      have hx_34 : x_34.toInt = x28_7.toInt + 1 := by rw [ex_34]; have := b_rg x28_7; exact i_add (a := x28_7.toInt) (b := 1) rfl rfl (by omega) (by omega)
                      refine lv_goto (tgt := 142) hx hb dX0_divide_190 (by decide) ?_
                      exact ih28 x_34 (va_up (va_up r28 52 (upd (r28 52) r_31.toNatClampNeg v_33)) 53 (upd (r28 53) r_31.toNatClampNeg (-1))) _ _ _ (by first | omega | (simp only [Int.toNat]; omega)) (by first | omega | decide) hRr hEr ⟨by omega, pny_s hx28.2 (J := r_31.toNatClampNeg) (x := v_33) (y := -1) hgn hnr.1 (show v_33.toInt = (r28 52 r_31.toNatClampNeg).toInt + 1 by rw [← ev_32]; omega) rfl (show x_34.toInt.toNat = x28_7.toInt.toNat + 1 by omega)⟩ hP hD hS (lv_sub hl [0, 2, 3, 4, 5, 6, 7, 8] rfl)
                exact loop_28 _ 0 r26 _ _ _ (Nat.lt_succ_self _) (by first | omega | decide) hRr hEr ⟨by have h3 : (0 : Int32).toInt = 0 := rfl; omega, hpn⟩ hP hD hS hl
              · have c_27 : x26_7.toInt < (i 18).toInt := b_nle c_27
                refine lv_iload_n hx hb dX0_divide_77 rfl (lv_at hl 6 rfl) ?_
                refine lv_iload hx hb dX0_divide_78 (lv_at hl 3 rfl) ?_
                refine lv_if_eq (tgt := 87) hx hb dX0_divide_80 (by decide) (fun c_35 => absurd c_35 (by decide)) (fun c_35 => ?_)
                refine lv_iconst (v := 1) hx hb dX0_divide_83 (by decide) ?_
                refine lv_goto (tgt := 94) hx hb dX0_divide_84 (by decide) ?_
                refine lv_imul hx hb dX0_divide_94 ?_
                refine lv_topi (fun v_36 ev_36 => ?_)
                have hv_36 : v_36.toInt = p0.toInt * 1 := by rw [ev_36]; have := b_rg p0; exact i_mul (a := p0.toInt) (b := 1) rfl rfl (by omega) (by omega)
                have hKn : x26_7.toInt.toNat < n9 := by omega
                have hv9 : v_36.toInt = p0.toInt * shW P9 n9 x26_7.toInt.toNat := sh_x hok q0 hKn rfl (hwt _ hKn) ev_36
                have hv8 := sh_pr (p := p0.toInt) hok q0 hKn
                rw [← hv9] at hv8
                refine lv_istore (lv' := [(8, .int v_36), (7, .int x26_7), (6, .int x26_6), (5, .int (i 18)), (4, .int 1), (3, .int x1_3), (0, .ref (a 51)), (1, .int p0), (2, .ref (a 61))]) hx hb dX0_divide_95 hl (by decide) rfl (fun ls hl => ?_)
                refine lv_aload_n hx hb dX0_divide_97 rfl (lv_at hl 6 rfl) ?_
                refine va_get (D := D) (ci := 0) (v := .ref (a 52)) (C := RX0) (T := TX0) (N := 2) hx hb hT iX0 hown hK hP 51 rfl rfl 0 (by decide) (hT _ t_583) (fun _ h9 => h9) rfl dX0_divide_98 ?_
                refine lv_iload hx hb dX0_divide_101 (lv_at hl 1 rfl) ?_
                refine lv_iload hx hb dX0_divide_103 (lv_at hl 0 rfl) ?_
                refine lv_iload hx hb dX0_divide_105 (lv_at hl 3 rfl) ?_
                refine lv_idiv hx hb dX0_divide_107 (nz (by omega)) ?_
                refine lv_topi (fun v_37 ev_37 => ?_)
                have hg9 : v_37.toInt = shG P9 n9 p0.toInt x26_7.toInt.toNat := sh_q hok q0 hKn hv9 hof ev_37
                have hg8 := sh_G (p := p0.toInt) hok q0.1 _ hKn
                rw [← hg9] at hg8
                refine va_iast hx hb hK hP hD hS 52 0 rfl rfl (vp_inI (by omega) (by omega)) dX0_divide_108 (fun H locs hP hD hS => ?_)
                rw [yS52] at hP hD
                have hRr : yRr (va_up r26 52 (upd (r26 52) x26_7.toNatClampNeg v_37)) := Yr_upd hRr 52 (x26_7.toNatClampNeg) v_37 (b_rg _)
                have hEr : mEr [52, 53] _ (va_up r26 52 (upd (r26 52) x26_7.toNatClampNeg v_37)) := Er_up hEr 52 _ (by decide)
                refine lv_aload_n hx hb dX0_divide_109 rfl (lv_at hl 6 rfl) ?_
                refine va_get (D := D) (ci := 0) (v := .ref (a 53)) (C := RX0) (T := TX0) (N := 2) hx hb hT iX0 hown hK hP 51 rfl rfl 1 (by decide) (hT _ t_578) (fun _ h9 => h9) rfl dX0_divide_110 ?_
                refine lv_iload hx hb dX0_divide_113 (lv_at hl 1 rfl) ?_
                refine lv_iload hx hb dX0_divide_115 (lv_at hl 0 rfl) ?_
                refine lv_iload hx hb dX0_divide_117 (lv_at hl 3 rfl) ?_
                refine lv_irem hx hb dX0_divide_119 (nz (by omega)) ?_
                refine lv_topi (fun v_38 ev_38 => ?_)
                have hm9 : v_38.toInt = shR P9 n9 p0.toInt x26_7.toInt.toNat := sh_m hok q0 hKn hv9 hof ev_38
                have hm8 := sh_R (p := p0.toInt) hok x26_7.toInt.toNat
                rw [← hm9] at hm8
                refine va_iast hx hb hK hP hD hS 53 0 rfl rfl (vp_inI (by omega) (by omega)) dX0_divide_120 (fun H locs hP hD hS => ?_)
                rw [yS53] at hP hD
                have hRr : yRr (va_up (va_up r26 52 (upd (r26 52) x26_7.toNatClampNeg v_37)) 53 (upd (r26 53) x26_7.toNatClampNeg v_38)) := Yr_upd hRr 53 (x26_7.toNatClampNeg) v_38 (b_rg _)
                have hEr : mEr [52, 53] _ (va_up (va_up r26 52 (upd (r26 52) x26_7.toNatClampNeg v_37)) 53 (upd (r26 53) x26_7.toNatClampNeg v_38)) := Er_up hEr 53 _ (by decide)
                refine lv_iload hx hb dX0_divide_121 (lv_at hl 2 rfl) ?_
                refine lv_aload_n hx hb dX0_divide_123 rfl (lv_at hl 6 rfl) ?_
                refine va_get (D := D) (ci := 0) (v := .ref (a 52)) (C := RX0) (T := TX0) (N := 2) hx hb hT iX0 hown hK hP 51 rfl rfl 0 (by decide) (hT _ t_583) (fun _ h9 => h9) rfl dX0_divide_124 ?_
                refine lv_iload hx hb dX0_divide_127 (lv_at hl 1 rfl) ?_
                refine va_iald hx hb hK hP 52 0 rfl rfl (vp_inI (by omega) (by omega)) dX0_divide_129 ?_
                refine lv_topi (fun v_39 ev_39 => ?_)
                have hsh : v_39.toInt = v_37.toInt := congrArg Int32.toInt (ev_39.trans (upd_s (f := r26 52) (k := x26_7.toNatClampNeg) (v := v_37)))
                have hsr : 0 ≤ v_39.toInt ∧ v_39.toInt ≤ 9999990 := by omega
                refine lv_isub hx hb dX0_divide_130 ?_
                refine lv_topi (fun v_40 ev_40 => ?_)
                refine lv_istore (lv' := [(6, .int v_40), (8, .int v_36), (7, .int x26_7), (5, .int (i 18)), (4, .int 1), (3, .int x1_3), (0, .ref (a 51)), (1, .int p0), (2, .ref (a 61))]) hx hb dX0_divide_131 hl (by decide) rfl (fun ls hl => ?_)
                obtain ⟨x_41, ex_41⟩ : ∃ y : Int32, y = x26_7 + 1 := ⟨_, rfl⟩
                refine lv_iinc (v := x_41) (lv' := [(7, .int x_41), (6, .int v_40), (8, .int v_36), (5, .int (i 18)), (4, .int 1), (3, .int x1_3), (0, .ref (a 51)), (1, .int p0), (2, .ref (a 61))]) hx hb dX0_divide_133 hl (k := 2) rfl (by rw [ex_41]; rfl) (by decide) rfl (fun ls hl => ?_)
                have hx_41 : x_41.toInt = x26_7.toInt + 1 := by rw [ex_41]; have := b_rg x26_7; exact i_add (a := x26_7.toInt) (b := 1) rfl rfl (by omega) (by omega)
                refine lv_goto (tgt := 68) hx hb dX0_divide_136 (by decide) ?_
                have hy6 : v_40.toInt = x26_6.toInt - v_39.toInt := by rw [ev_40]; exact i_sub rfl rfl (by omega) (by omega)
                have hsS := shS_s (u := shG P9 n9 p0.toInt) (K := x26_7.toInt.toNat) (K2 := x_41.toInt.toNat) rfl hg9 rfl (by omega)
                exact ih26 x_41 v_40 (va_up (va_up r26 52 (upd (r26 52) x26_7.toNatClampNeg v_37)) 53 (upd (r26 53) x26_7.toNatClampNeg v_38)) _ _ _ (by first | omega | (simp only [Int.toNat]; omega)) (by first | omega | decide) hRr hEr ⟨by omega, by omega, by rw [← hsS]; omega, shI_s hx26.2.2.2 hg9 hm9 (x := v_37) (y := v_38) (show x26_7.toNatClampNeg = x26_7.toInt.toNat from rfl) (show x_41.toInt.toNat = x26_7.toInt.toNat + 1 by omega)⟩ hP hD hS (lv_sub hl [0, 1, 3, 4, 5, 6, 7, 8] rfl)
          exact loop_26 _ 0 p0 r _ _ _ (Nat.lt_succ_self _) (by first | omega | decide) hRr hEr ⟨by have h3 : (0 : Int32).toInt = 0 := rfl; omega, by have h3 : (0 : Int32).toInt = 0 := rfl; omega, (show p0.toInt = p0.toInt - shS (shG P9 n9 p0.toInt) 0 from (Int.sub_zero _).symm), fun t ht => absurd (show t < 0 from ht) (Nat.not_lt_zero t)⟩ hP hD hS hl
      · have c_3 : x1_4.toInt < (i 18).toInt := b_nle c_3
        refine lv_iload_n hx hb dX0_divide_14 rfl (lv_at hl 1 rfl) ?_
        refine lv_aload_n hx hb dX0_divide_15 rfl (lv_at hl 4 rfl) ?_
        refine va_get (D := D) (ci := 3) (v := .ref (a 62)) (C := RX3) (T := TX3) (N := 12) hx hb hT iX3 hown hK hP 61 rfl rfl 6 (by decide) (hT _ t_590) (fun _ h9 => h9) rfl dX0_divide_16 ?_
        refine lv_iload hx hb dX0_divide_19 (lv_at hl 0 rfl) ?_
        refine va_iald hx hb hK hP 62 0 rfl rfl (vp_inI (by omega) (by omega)) dX0_divide_21 ?_
        refine lv_topi (fun v_42 ev_42 => ?_)
        have hgv_42 : 0 ≤ v_42.toInt ∧ v_42.toInt ≤ 99 := by rw [ev_42]; exact hRr 62 _
        refine lv_iadd hx hb dX0_divide_22 ?_
        refine lv_topi (fun v_43 ev_43 => ?_)
        have hv_43 : v_43.toInt = x1_3.toInt + v_42.toInt := by rw [ev_43]; have := b_rg x1_3; have := b_rg v_42; exact i_add (a := x1_3.toInt) (b := v_42.toInt) rfl rfl (by omega) (by omega)
        refine lv_istore_n (lv' := [(3, .int v_43), (4, .int x1_4), (0, .ref (a 51)), (1, .int p0), (2, .ref (a 61))]) hx hb dX0_divide_23 rfl hl (by decide) rfl (fun ls hl => ?_)
        obtain ⟨x_44, ex_44⟩ : ∃ y : Int32, y = x1_4 + 1 := ⟨_, rfl⟩
        refine lv_iinc (v := x_44) (lv' := [(4, .int x_44), (3, .int v_43), (0, .ref (a 51)), (1, .int p0), (2, .ref (a 61))]) hx hb dX0_divide_24 hl (k := 1) rfl (by rw [ex_44]; rfl) (by decide) rfl (fun ls hl => ?_)
        have hx_44 : x_44.toInt = x1_4.toInt + 1 := by rw [ex_44]; have := b_rg x1_4; exact i_add (a := x1_4.toInt) (b := 1) rfl rfl (by omega) (by omega)
        refine lv_goto (tgt := 5) hx hb dX0_divide_27 (by decide) ?_
        exact ih1 x_44 v_43 _ _ _ (by first | omega | (simp only [Int.toNat]; omega)) (by first | omega | decide) (by first | omega | decide)  ⟨by omega, by omega, shS_s hx1.2.2 (y := v_42.toInt) ((congrArg Int32.toInt ev_42).trans (hPt _ (show x1_4.toInt.toNat < n9 by omega)).symm) (show v_43.toInt = x1_3.toInt + v_42.toInt by omega) (show x_44.toInt.toNat = x1_4.toInt.toNat + 1 by omega)⟩ hP hD hS (lv_sub hl [0, 1, 2, 3, 4] rfl)
  exact loop_1 _ 0 0 _ _ _ (Nat.lt_succ_self _) (by first | omega | decide) (by first | omega | decide)  ⟨by have h3 : (0 : Int32).toInt = 0 := rfl; omega, by decide, rfl⟩ hP hD hS hl
set_option maxHeartbeats 4000000 in
set_option maxRecDepth 100000 in
theorem c_X12_sharesOut9 (l : Launch) (D : va_G) (cy : Nat → ClassId) (a : Nat → Nat) (i : Nat → Int32) (r : Nat → Nat → Int32) (rl : Nat → Int64) (p0 : Int32) (q9 : Int64) (sz : Nat) (hRi : mRi i) (hRr : mRr r) (hE : mE i r) (q0 : 0 ≤ p0.toInt ∧ p0.toInt < (i 0).toInt) (q1 : 0 ≤ q9.toInt ∧ q9.toInt ≤ 9999990) : Met l yX12_sharesOut (Cond.code yX12_sharesOut cX12_sharesOut 13 none :: gT) { frames := 1, cells := 0, slots := 0, locals := 24 } (va_Pc [.ref (a 0), .int p0, .long q9] (rQ D cy (mW cy a i r rl) sz)) (va_Qv (fun u : (Nat → Int32) × (Nat → Nat → Int32) × (Nat → Int64) => mRi u.1 ∧ mRr u.2.1 ∧ mEi [] i u.1 ∧ mEr [49] r u.2.1 ∧ (shZ (fun t => r 8 (4 * p0.toNatClampNeg + t)) (r 4 p0.toNatClampNeg) q9.toInt (u.2.1 49))) (fun (u : (Nat → Int32) × (Nat → Nat → Int32) × (Nat → Int64)) t => va_P D vwCl (mW cy a u.1 u.2.1 u.2.2) t.heap ∧ va_K D vwCl (vT cy) t ∧ va_D (va_A (mW cy a i r rl) sz) (mW cy a u.1 u.2.1 u.2.2)) (va_A (mW cy a i r rl) sz)) 0 0 (va_A (mW cy a i r rl) sz) := by
  refine Met.ofQ (cc := cX12_sharesOut) (maxL := 13) (ret := none) (by decide) rfl ?_
  intro p e s m args below meth c s₁ B hml hv Q hQ
  obtain ⟨rfl, hsz, hP, hK, hD0⟩ := hv
  have hx := B.exec
  have hb := B.bytes
  have hr := B.returns
  have hlocks := B.notSynchronized
  have hT : ∀ w ∈ gT, w.before _ s = true := fun w h => atoms_spec (ws := (Cond.code yX12_sharesOut cX12_sharesOut 13 none :: gT)) B.pre w (List.mem_cons_of_mem _ h)
  have hown : s.vm.findClass RX12 = some m.cls := findClass_of_methodNamed B.named
  subst hsz
  have hD := hD0.self (sz := s.heap.size)
  generalize hAe : va_A (mW cy a i r rl) s.heap.size = A at hD hQ
  have hA : ∀ q : Nat, s.heap.size ≤ q → A q := fun q h => by rw [← hAe]; exact Or.inr h
  have hS : va_S A s.heap s.heap [] := va_S.rf
  have hl := lv_entry ([.ref (a 0), .int p0, .long q9]) (n := 13) (Nat.le_of_ble_eq_true rfl)
  rw [lg_entry_eq]
  generalize (lg_sl ([.ref (a 0), .int p0, .long q9]) ++ List.replicate (13 - (lg_sl ([.ref (a 0), .int p0, .long q9])).length) Slot.unset).toArray = ls at hl ⊢
  have hl : lv_has ls 13 [(0, .ref (a 0)), (1, .int p0), (2, .long q9)] := hl
  have hEi : mEi [] i i := Ei_rf
  have hEr : mEr [49] r r := Er_rf
  have hg0 : 0 ≤ (i 0).toInt ∧ (i 0).toInt ≤ 6 := hRi 0
  have hRr0 : mRr r := hRr
  have hg4 : 1 ≤ (r 4 p0.toNatClampNeg).toInt ∧ (r 4 p0.toNatClampNeg).toInt ≤ 4 := ⟨hE.1 _ (by have h9 : p0.toNatClampNeg = p0.toInt.toNat := rfl; omega), (hRr0 4 _).2⟩
  obtain ⟨n9, hn9⟩ : ∃ n : Nat, n = (r 4 p0.toNatClampNeg).toInt.toNat := ⟨_, rfl⟩
  have hni : (n9 : Int) = (r 4 p0.toNatClampNeg).toInt := by omega
  have hnr : 1 ≤ n9 ∧ n9 ≤ 4 := by omega
  obtain ⟨P9, hP9⟩ : ∃ P : Nat → Int, P = shP (fun t => r 8 (4 * p0.toNatClampNeg + t)) n9 := ⟨_, rfl⟩
  have hPt : ∀ t, t < n9 → P9 t = (r 8 (4 * p0.toNatClampNeg + t)).toInt := fun t ht => by rw [hP9]; exact shP_t ht
  have hok : SHok P9 n9 := ⟨hnr, fun t ht => by rw [hPt t ht]; exact hRr0 8 _⟩
  refine lv_lconst (v := 0) hx hb dX12_sharesOut_0 rfl ?_
  refine lv_lstore (lv' := [(4, .long 0), (0, .ref (a 0)), (1, .int p0), (2, .long q9)]) hx hb dX12_sharesOut_1 hl (by decide) rfl (fun ls hl => ?_)
  refine lv_iconst (v := 0) hx hb dX12_sharesOut_3 (by decide) ?_
  refine lv_istore (lv' := [(6, .int 0), (4, .long 0), (0, .ref (a 0)), (1, .int p0), (2, .long q9)]) hx hb dX12_sharesOut_4 hl (by decide) rfl (fun ls hl => ?_)
  have loop_1 : ∀ (n : Nat) (x1_6 : Int32) (x1_4 : Int64) (H : Heap) (locs : List Loc) (ls : Array Slot), (4 - x1_6.toInt).toNat < n → (0 ≤ x1_6.toInt ∧ x1_6.toInt ≤ 4) → (x1_6.toInt ≤ (n9 : Int) ∧ (0 ≤ x1_4.toInt ∧ x1_4.toInt ≤ 99 * x1_6.toInt) ∧ x1_4.toInt = shS P9 x1_6.toInt.toNat) → va_P D vwCl (mW cy a i r rl) H → va_D A (mW cy a i r rl) → va_S A s.heap H locs → lv_has ls 13 [(6, .int x1_6), (4, .long x1_4), (0, .ref (a 0)), (1, .int p0), (2, .long q9)] → W p l e ({ frames := 1, cells := 0, slots := 0, locals := 24 } : Room) s m ([.ref (a 0), .int p0, .long q9] : List Value).toArray below meth c H locs 0 0 Q (F0 m 6 ls []) := by
    intro n
    induction n with
    | zero =>
      intro x1_6 x1_4 H locs ls hm1 hf1_0 hx1 hP hD hS hl
      exact absurd hm1 (by omega)
    | succ n ih1 =>
      intro x1_6 x1_4 H locs ls hm1 hf1_0 hx1 hP hD hS hl
      refine lv_iload hx hb dX12_sharesOut_6 (lv_at hl 0 rfl) ?_
      refine lv_aload_n hx hb dX12_sharesOut_8 rfl (lv_at hl 2 rfl) ?_
      refine va_get (D := D) (ci := 12) (v := .ref (a 4)) (C := RX12) (T := TX12) (N := 91) hx hb hT iX12 hown hK hP 0 rfl rfl 5 (by decide) (hT _ t_66) (fun _ h9 => h9) rfl dX12_sharesOut_9 ?_
      refine lv_iload_n hx hb dX12_sharesOut_12 rfl (lv_at hl 3 rfl) ?_
      refine va_iald hx hb hK hP 4 0 rfl rfl (vp_inI (by omega) (by omega)) dX12_sharesOut_13 ?_
      refine lv_topi (fun v_2 ev_2 => ?_)
      have hgv_2 : 0 ≤ v_2.toInt ∧ v_2.toInt ≤ 4 := by rw [ev_2]; exact hRr 4 _
      have htv_2 : v_2.toInt = (n9 : Int) := by rw [ev_2, hEr 4 (by decide)]; exact hni.symm
      refine lv_icmp_ge (tgt := 40) hx hb dX12_sharesOut_14 (by decide) (fun c_3 => ?_) (fun c_3 => ?_)
      · have c_3 : v_2.toInt ≤ x1_6.toInt := b_le c_3
        refine lv_lload_n hx hb dX12_sharesOut_40 rfl (lv_at hl 4 rfl) ?_
        have hall : x1_4.toInt = shS P9 n9 := hx1.2.2.trans (by rw [show x1_6.toInt.toNat = n9 by omega])
        have halr : 0 ≤ x1_4.toInt ∧ x1_4.toInt ≤ 400 := by omega
        refine lv_lstore (lv' := [(6, .long q9), (4, .long x1_4), (0, .ref (a 0)), (1, .int p0), (2, .long q9)]) hx hb dX12_sharesOut_41 hl (by decide) rfl (fun ls hl => ?_)
        refine lv_iconst (v := 0) hx hb dX12_sharesOut_43 (by decide) ?_
        refine lv_istore (lv' := [(8, .int 0), (6, .long q9), (4, .long x1_4), (0, .ref (a 0)), (1, .int p0), (2, .long q9)]) hx hb dX12_sharesOut_44 hl (by decide) rfl (fun ls hl => ?_)
        have loop_4 : ∀ (n : Nat) (x4_8 : Int32) (x4_6 : Int64) (r4 : Nat → Nat → Int32) (l4 : Nat → Int64) (H : Heap) (locs : List Loc) (ls : Array Slot), (4 - x4_8.toInt).toNat < n → (0 ≤ x4_8.toInt ∧ x4_8.toInt ≤ 4) → mRr r4 → mEr [49] r r4 → (x4_8.toInt ≤ (n9 : Int) ∧ (q9.toInt - 9999990 * x4_8.toInt ≤ x4_6.toInt ∧ x4_6.toInt ≤ q9.toInt) ∧ x4_6.toInt = q9.toInt - shS (shG P9 n9 q9.toInt) x4_8.toInt.toNat ∧ ∀ t, t < x4_8.toInt.toNat → (r4 49 t).toInt = shG P9 n9 q9.toInt t ∧ (l4 t).toInt = shR P9 n9 q9.toInt t) → va_P D vwCl (mW cy a i r4 l4) H → va_D A (mW cy a i r4 l4) → va_S A s.heap H locs → lv_has ls 13 [(8, .int x4_8), (6, .long x4_6), (4, .long x1_4), (0, .ref (a 0)), (1, .int p0), (2, .long q9)] → W p l e ({ frames := 1, cells := 0, slots := 0, locals := 24 } : Room) s m ([.ref (a 0), .int p0, .long q9] : List Value).toArray below meth c H locs 0 0 Q (F0 m 46 ls []) := by
          intro n
          induction n with
          | zero =>
            intro x4_8 x4_6 r4 l4 H locs ls hm4 hf4_0 hRr hEr hx4 hP hD hS hl
            exact absurd hm4 (by omega)
          | succ n ih4 =>
            intro x4_8 x4_6 r4 l4 H locs ls hm4 hf4_0 hRr hEr hx4 hP hD hS hl
            refine lv_iload hx hb dX12_sharesOut_46 (lv_at hl 0 rfl) ?_
            refine lv_aload_n hx hb dX12_sharesOut_48 rfl (lv_at hl 3 rfl) ?_
            refine va_get (D := D) (ci := 12) (v := .ref (a 4)) (C := RX12) (T := TX12) (N := 91) hx hb hT iX12 hown hK hP 0 rfl rfl 5 (by decide) (hT _ t_66) (fun _ h9 => h9) rfl dX12_sharesOut_49 ?_
            refine lv_iload_n hx hb dX12_sharesOut_52 rfl (lv_at hl 4 rfl) ?_
            refine va_iald hx hb hK hP 4 0 rfl rfl (vp_inI (by omega) (by omega)) dX12_sharesOut_53 ?_
            refine lv_topi (fun v_5 ev_5 => ?_)
            have hgv_5 : 0 ≤ v_5.toInt ∧ v_5.toInt ≤ 4 := by rw [ev_5]; exact hRr 4 _
            have htv_5 : v_5.toInt = (n9 : Int) := by rw [ev_5, hEr 4 (by decide)]; exact hni.symm
            refine lv_icmp_ge (tgt := 151) hx hb dX12_sharesOut_54 (by decide) (fun c_6 => ?_) (fun c_6 => ?_)
            · have c_6 : v_5.toInt ≤ x4_8.toInt := b_le c_6
              have hxn : x4_8.toInt.toNat = n9 := by omega
              have hlf : x4_6.toInt = (shL P9 n9 q9.toInt) := hx4.2.2.1.trans (by rw [hxn]; rfl)
              have hlr := sh_L (p := q9.toInt) hok q1.1
              have hpn : ∀ t, t < n9 → (r4 49 t).toInt = (pny n9 (shG P9 n9 q9.toInt) (shR P9 n9 q9.toInt) 0).1 t ∧ (l4 t).toInt = (pny n9 (shG P9 n9 q9.toInt) (shR P9 n9 q9.toInt) 0).2 t := fun t9 ht => hx4.2.2.2 t9 (by rw [hxn]; exact ht)
              have loop_7 : ∀ (n : Nat) (x7_8 : Int32) (x7_6 : Int64) (r7 : Nat → Nat → Int32) (l7 : Nat → Int64) (H : Heap) (locs : List Loc) (ls : Array Slot), (x7_6.toInt).toNat < n → mRr r7 → mEr [49] r r7 → ((0 ≤ x7_6.toInt ∧ x7_6.toInt ≤ (shL P9 n9 q9.toInt)) ∧ ∀ t, t < n9 → (r7 49 t).toInt = (pny n9 (shG P9 n9 q9.toInt) (shR P9 n9 q9.toInt) ((shL P9 n9 q9.toInt) - x7_6.toInt).toNat).1 t ∧ (l7 t).toInt = (pny n9 (shG P9 n9 q9.toInt) (shR P9 n9 q9.toInt) ((shL P9 n9 q9.toInt) - x7_6.toInt).toNat).2 t) → va_P D vwCl (mW cy a i r7 l7) H → va_D A (mW cy a i r7 l7) → va_S A s.heap H locs → lv_has ls 13 [(8, .int x7_8), (6, .long x7_6), (4, .long x1_4), (0, .ref (a 0)), (1, .int p0), (2, .long q9)] → W p l e ({ frames := 1, cells := 0, slots := 0, locals := 24 } : Room) s m ([.ref (a 0), .int p0, .long q9] : List Value).toArray below meth c H locs 0 0 Q (F0 m 151 ls []) := by
                intro n
                induction n with
                | zero =>
                  intro x7_8 x7_6 r7 l7 H locs ls hm7 hRr hEr hx7 hP hD hS hl
                  exact absurd hm7 (by omega)
                | succ n ih7 =>
                  intro x7_8 x7_6 r7 l7 H locs ls hm7 hRr hEr hx7 hP hD hS hl
                  refine lv_lload hx hb dX12_sharesOut_151 (lv_at hl 1 rfl) ?_
                  refine lv_lconst (v := 0) hx hb dX12_sharesOut_153 rfl ?_
                  refine W.lcmp hx hb dX12_sharesOut_154 ?_
                  refine lv_topi (fun v_8 ev_8 => ?_)
                  refine lv_if_le (tgt := 243) hx hb dX12_sharesOut_155 (by decide) (fun c_9 => ?_) (fun c_9 => ?_)
                  · have c_9 : v_8.toInt ≤ 0 := b_le c_9
                    subst hQ
                    have hle9 : x7_6.toInt ≤ (0 : Int64).toInt := lcmp_le (by rw [← ev_8]; omega)
                    have h00 : (0 : Int64).toInt = 0 := rfl
                    have hx9 := hx7.2
                    rw [show ((shL P9 n9 q9.toInt) - x7_6.toInt).toNat = (shL P9 n9 q9.toInt).toNat by omega] at hx9
                    have hzz : shZ (fun t => r 8 (4 * p0.toNatClampNeg + t)) (r 4 p0.toNatClampNeg) q9.toInt (r7 49) := by
                      unfold shZ
                      rw [← hn9, ← hP9]
                      exact fun t9 ht => (hx9 t9 ht).1
                    exact W.vret hx hb hr (fun t ht hW => ⟨⟨(i, r7, l7), rfl, ⟨hRi, hRr, hEi, hEr, hzz⟩, by rw [ht]; exact hP, va_K.moved hW.alike hK, hD⟩, hS.F ht⟩) hS.2.2 dX12_sharesOut_243
                  · have c_9 : 0 < v_8.toInt := b_nle c_9
                    refine lv_iconst (v := 0) hx hb dX12_sharesOut_158 (by decide) ?_
                    refine lv_istore (lv' := [(8, .int 0), (6, .long x7_6), (4, .long x1_4), (0, .ref (a 0)), (1, .int p0), (2, .long q9)]) hx hb dX12_sharesOut_159 hl (by decide) rfl (fun ls hl => ?_)
                    refine lv_iconst (v := 1) hx hb dX12_sharesOut_161 (by decide) ?_
                    refine lv_istore (lv' := [(9, .int 1), (8, .int 0), (6, .long x7_6), (4, .long x1_4), (0, .ref (a 0)), (1, .int p0), (2, .long q9)]) hx hb dX12_sharesOut_162 hl (by decide) rfl (fun ls hl => ?_)
                    have loop_10 : ∀ (n : Nat) (x10_9 : Int32) (x10_8 : Int32) (H : Heap) (locs : List Loc) (ls : Array Slot), (4 - x10_9.toInt).toNat < n → (1 ≤ x10_9.toInt ∧ x10_9.toInt ≤ 4) → (0 ≤ x10_8.toInt ∧ x10_8.toInt ≤ 3) → (x10_8.toInt < x10_9.toInt ∧ x10_9.toInt ≤ (n9 : Int) ∧ x10_8.toInt.toNat = bst (fun t => (l7 t).toInt) x10_9.toInt.toNat) → va_P D vwCl (mW cy a i r7 l7) H → va_D A (mW cy a i r7 l7) → va_S A s.heap H locs → lv_has ls 13 [(9, .int x10_9), (8, .int x10_8), (6, .long x7_6), (4, .long x1_4), (0, .ref (a 0)), (1, .int p0), (2, .long q9)] → W p l e ({ frames := 1, cells := 0, slots := 0, locals := 24 } : Room) s m ([.ref (a 0), .int p0, .long q9] : List Value).toArray below meth c H locs 0 0 Q (F0 m 164 ls []) := by
                      intro n
                      induction n with
                      | zero =>
                        intro x10_9 x10_8 H locs ls hm10 hf10_0 hf10_1 hx10 hP hD hS hl
                        exact absurd hm10 (by omega)
                      | succ n ih10 =>
                        intro x10_9 x10_8 H locs ls hm10 hf10_0 hf10_1 hx10 hP hD hS hl
                        refine lv_iload hx hb dX12_sharesOut_164 (lv_at hl 0 rfl) ?_
                        refine lv_aload_n hx hb dX12_sharesOut_166 rfl (lv_at hl 4 rfl) ?_
                        refine va_get (D := D) (ci := 12) (v := .ref (a 4)) (C := RX12) (T := TX12) (N := 91) hx hb hT iX12 hown hK hP 0 rfl rfl 5 (by decide) (hT _ t_66) (fun _ h9 => h9) rfl dX12_sharesOut_167 ?_
                        refine lv_iload_n hx hb dX12_sharesOut_170 rfl (lv_at hl 5 rfl) ?_
                        refine va_iald hx hb hK hP 4 0 rfl rfl (vp_inI (by omega) (by omega)) dX12_sharesOut_171 ?_
                        refine lv_topi (fun v_11 ev_11 => ?_)
                        have hgv_11 : 0 ≤ v_11.toInt ∧ v_11.toInt ≤ 4 := by rw [ev_11]; exact hRr 4 _
                        have htv_11 : v_11.toInt = (n9 : Int) := by rw [ev_11, hEr 4 (by decide)]; exact hni.symm
                        refine lv_icmp_ge (tgt := 208) hx hb dX12_sharesOut_172 (by decide) (fun c_12 => ?_) (fun c_12 => ?_)
                        · have c_12 : v_11.toInt ≤ x10_9.toInt := b_le c_12
                          have hgn : x10_8.toInt.toNat = bst (fun t => (l7 t).toInt) n9 := hx10.2.2.trans (by rw [show x10_9.toInt.toNat = n9 by omega])
                          have hgl : x10_8.toInt.toNat < n9 := by rw [hgn]; exact bst_lt n9 hnr.1
                          have hgb := pny_b (ρ := shR P9 n9 q9.toInt) (fun t9 ht => sh_G hok q1.1 t9 ht) hnr.1 ((shL P9 n9 q9.toInt) - x7_6.toInt).toNat _ hgl
                          rw [← (hx7.2 _ hgl).1] at hgb
                          refine lv_aload_n hx hb dX12_sharesOut_208 rfl (lv_at hl 4 rfl) ?_
                          refine va_get (D := D) (ci := 12) (v := .ref (a 49)) (C := RX12) (T := TX12) (N := 91) hx hb hT iX12 hown hK hP 0 rfl rfl 62 (by decide) (hT _ t_796) (fun _ h9 => h9) rfl dX12_sharesOut_209 ?_
                          refine lv_iload hx hb dX12_sharesOut_212 (lv_at hl 1 rfl) ?_
                          refine lv_aload_n hx hb dX12_sharesOut_214 rfl (lv_at hl 4 rfl) ?_
                          refine va_get (D := D) (ci := 12) (v := .ref (a 49)) (C := RX12) (T := TX12) (N := 91) hx hb hT iX12 hown hK hP 0 rfl rfl 62 (by decide) (hT _ t_796) (fun _ h9 => h9) rfl dX12_sharesOut_215 ?_
                          refine lv_iload hx hb dX12_sharesOut_218 (lv_at hl 1 rfl) ?_
                          refine va_iald hx hb hK hP 49 0 rfl rfl (vp_inI (by omega) (by omega)) dX12_sharesOut_220 ?_
                          refine lv_topi (fun v_13 ev_13 => ?_)
                          have hvb : 0 ≤ v_13.toInt ∧ v_13.toInt ≤ 9999994 := by have h9 : v_13.toInt = (r7 49 x10_8.toInt.toNat).toInt := congrArg Int32.toInt ev_13; omega
                          refine lv_iconst (v := 1) hx hb dX12_sharesOut_221 (by decide) ?_
                          refine lv_iadd hx hb dX12_sharesOut_222 ?_
                          refine lv_topi (fun v_14 ev_14 => ?_)
                          have hv_14 : v_14.toInt = v_13.toInt + 1 := by rw [ev_14]; have := b_rg v_13; exact i_add (a := v_13.toInt) (b := 1) rfl rfl (by omega) (by omega)
                          refine va_iast hx hb hK hP hD hS 49 0 rfl rfl (vp_inI (by omega) (by omega)) dX12_sharesOut_223 (fun H locs hP hD hS => ?_)
                          rw [mS49] at hP hD
                          have hRr : mRr (va_up r7 49 (upd (r7 49) x10_8.toNatClampNeg v_14)) := Rr_upd hRr 49 (x10_8.toNatClampNeg) v_14 (b_rg _)
                          have hEr : mEr [49] _ (va_up r7 49 (upd (r7 49) x10_8.toNatClampNeg v_14)) := Er_up hEr 49 _ (by decide)
                          refine lv_aload_n hx hb dX12_sharesOut_224 rfl (lv_at hl 4 rfl) ?_
                          refine va_get (D := D) (ci := 12) (v := .ref (a 48)) (C := RX12) (T := TX12) (N := 91) hx hb hT iX12 hown hK hP 0 rfl rfl 61 (by decide) (hT _ t_795) (fun _ h9 => h9) rfl dX12_sharesOut_225 ?_
                          refine lv_iload hx hb dX12_sharesOut_228 (lv_at hl 1 rfl) ?_
                          refine lv_ldc2 (v := -1) hx hb hown (hT _ t_825) dX12_sharesOut_230 ?_
                          refine va_last hx hb hK hP hD hS 48 3 rfl rfl (vp_inI (by omega) (by omega)) dX12_sharesOut_233 (fun H locs hP hD hS => ?_)
                          rw [mL] at hP hD
                          refine lv_lload hx hb dX12_sharesOut_234 (lv_at hl 2 rfl) ?_
                          refine lv_lconst (v := 1) hx hb dX12_sharesOut_236 rfl ?_
                          refine lv_lsub hx hb dX12_sharesOut_237 ?_
                          refine lv_topl (fun v_15 ev_15 => ?_)
                          refine lv_lstore (lv' := [(6, .long v_15), (9, .int x10_9), (8, .int x10_8), (4, .long x1_4), (0, .ref (a 0)), (1, .int p0), (2, .long q9)]) hx hb dX12_sharesOut_238 hl (by decide) rfl (fun ls hl => ?_)
                          refine lv_goto (tgt := 151) hx hb dX12_sharesOut_240 (by decide) ?_
                          have hpos9 : 0 < x7_6.toInt := lcmp_pos (by rw [← ev_8]; exact c_9)
                          have hdec9 : v_15.toInt = x7_6.toInt - 1 := l_dec ev_15 hpos9
                          have hdec : v_15.toInt = x7_6.toInt - 1 := l_dec ev_15 (lcmp_pos (by rw [← ev_8]; exact c_9))
                          have hpos : 0 < x7_6.toInt := lcmp_pos (by rw [← ev_8]; exact c_9)
                          exact ih7 x10_8 v_15 (va_up r7 49 (upd (r7 49) x10_8.toNatClampNeg v_14)) (vp_updL l7 x10_8.toNatClampNeg (-1)) _ _ _ (by first | omega | (simp only [Int.toNat]; omega))  hRr hEr ⟨by omega, pny_l hx7.2 (J := x10_8.toNatClampNeg) (x := v_14) (y := -1) hgn hnr.1 (show v_14.toInt = (r7 49 x10_8.toNatClampNeg).toInt + 1 by rw [← ev_13]; omega) rfl (show ((shL P9 n9 q9.toInt) - v_15.toInt).toNat = ((shL P9 n9 q9.toInt) - x7_6.toInt).toNat + 1 by omega)⟩ hP hD hS (lv_sub hl [2, 0, 3, 4, 5, 6] rfl)
                        · have c_12 : x10_9.toInt < v_11.toInt := b_nle c_12
                          refine lv_aload_n hx hb dX12_sharesOut_175 rfl (lv_at hl 4 rfl) ?_
                          refine va_get (D := D) (ci := 12) (v := .ref (a 48)) (C := RX12) (T := TX12) (N := 91) hx hb hT iX12 hown hK hP 0 rfl rfl 61 (by decide) (hT _ t_795) (fun _ h9 => h9) rfl dX12_sharesOut_176 ?_
                          refine lv_iload hx hb dX12_sharesOut_179 (lv_at hl 0 rfl) ?_
                          refine va_lald hx hb hK hP 48 3 rfl rfl (vp_inI (by omega) (by omega)) dX12_sharesOut_181 ?_
                          refine lv_topl (fun v_16 ev_16 => ?_)
                          refine lv_aload_n hx hb dX12_sharesOut_182 rfl (lv_at hl 4 rfl) ?_
                          refine va_get (D := D) (ci := 12) (v := .ref (a 48)) (C := RX12) (T := TX12) (N := 91) hx hb hT iX12 hown hK hP 0 rfl rfl 61 (by decide) (hT _ t_795) (fun _ h9 => h9) rfl dX12_sharesOut_183 ?_
                          refine lv_iload hx hb dX12_sharesOut_186 (lv_at hl 1 rfl) ?_
                          refine va_lald hx hb hK hP 48 3 rfl rfl (vp_inI (by omega) (by omega)) dX12_sharesOut_188 ?_
                          refine lv_topl (fun v_17 ev_17 => ?_)
                          refine W.lcmp hx hb dX12_sharesOut_189 ?_
                          refine lv_topi (fun v_18 ev_18 => ?_)
                          refine lv_if_le (tgt := 198) hx hb dX12_sharesOut_190 (by decide) (fun c_19 => ?_) (fun c_19 => ?_)
                          · have c_19 : v_18.toInt ≤ 0 := b_le c_19
                            refine lv_iload hx hb dX12_sharesOut_198 (lv_at hl 1 rfl) ?_
                            refine lv_istore (lv' := [(8, .int x10_8), (9, .int x10_9), (6, .long x7_6), (4, .long x1_4), (0, .ref (a 0)), (1, .int p0), (2, .long q9)]) hx hb dX12_sharesOut_200 hl (by decide) rfl (fun ls hl => ?_)
                            obtain ⟨x_20, ex_20⟩ : ∃ y : Int32, y = x10_9 + 1 := ⟨_, rfl⟩
                            refine lv_iinc (v := x_20) (lv' := [(9, .int x_20), (8, .int x10_8), (6, .long x7_6), (4, .long x1_4), (0, .ref (a 0)), (1, .int p0), (2, .long q9)]) hx hb dX12_sharesOut_202 hl (k := 1) rfl (by rw [ex_20]; rfl) (by decide) rfl (fun ls hl => ?_)
                            have hx_20 : x_20.toInt = x10_9.toInt + 1 := by rw [ex_20]; have := b_rg x10_9; exact i_add (a := x10_9.toInt) (b := 1) rfl rfl (by omega) (by omega)
                            refine lv_goto (tgt := 164) hx hb dX12_sharesOut_205 (by decide) ?_
                            have hcmp := lcmp_le (x := v_16) (y := v_17) (by rw [← ev_18]; omega)
                            exact ih10 x_20 x10_8 _ _ _ (by first | omega | (simp only [Int.toNat]; omega)) (by first | omega | decide) (by first | omega | decide)  ⟨by omega, by omega, bst_o hx10.2.2 (show 1 ≤ x10_9.toInt.toNat by omega) (v := v_16.toInt) (w := v_17.toInt) (congrArg Int64.toInt ev_16) (congrArg Int64.toInt ev_17) (by omega) (show x_20.toInt.toNat = x10_9.toInt.toNat + 1 by omega)⟩ hP hD hS (lv_sub hl [0, 1, 2, 3, 4, 5, 6] rfl)
                          · have c_19 : 0 < v_18.toInt := b_nle c_19
                            refine lv_iload hx hb dX12_sharesOut_193 (lv_at hl 0 rfl) ?_
                            refine lv_goto (tgt := 200) hx hb dX12_sharesOut_195 (by decide) ?_
                            refine lv_istore (lv' := [(8, .int x10_9), (9, .int x10_9), (6, .long x7_6), (4, .long x1_4), (0, .ref (a 0)), (1, .int p0), (2, .long q9)]) hx hb dX12_sharesOut_200 hl (by decide) rfl (fun ls hl => ?_)
                            obtain ⟨x_21, ex_21⟩ : ∃ y : Int32, y = x10_9 + 1 := ⟨_, rfl⟩
                            refine lv_iinc (v := x_21) (lv' := [(9, .int x_21), (8, .int x10_9), (6, .long x7_6), (4, .long x1_4), (0, .ref (a 0)), (1, .int p0), (2, .long q9)]) hx hb dX12_sharesOut_202 hl (k := 1) rfl (by rw [ex_21]; rfl) (by decide) rfl (fun ls hl => ?_)
                            have hx_21 : x_21.toInt = x10_9.toInt + 1 := by rw [ex_21]; have := b_rg x10_9; exact i_add (a := x10_9.toInt) (b := 1) rfl rfl (by omega) (by omega)
                            refine lv_goto (tgt := 164) hx hb dX12_sharesOut_205 (by decide) ?_
                            have hcmp := lcmp_gt (x := v_16) (y := v_17) (by rw [← ev_18]; omega)
                            exact ih10 x_21 x10_9 _ _ _ (by first | omega | (simp only [Int.toNat]; omega)) (by first | omega | decide) (by first | omega | decide)  ⟨by omega, by omega, bst_n hx10.2.2 (show 1 ≤ x10_9.toInt.toNat by omega) (v := v_16.toInt) (w := v_17.toInt) (congrArg Int64.toInt ev_16) (congrArg Int64.toInt ev_17) (by omega) (show x_21.toInt.toNat = x10_9.toInt.toNat + 1 by omega) (by omega)⟩ hP hD hS (lv_sub hl [0, 1, 2, 3, 4, 5, 6] rfl)
                    exact loop_10 _ 1 0 _ _ _ (Nat.lt_succ_self _) (by first | omega | decide) (by first | omega | decide)  ⟨by decide, by have h3 : (1 : Int32).toInt = 1 := rfl; omega, bst_0.symm⟩ hP hD hS hl
              exact loop_7 _ x4_8 x4_6 r4 l4 _ _ _ (Nat.lt_succ_self _)  hRr hEr ⟨by omega, by rw [show ((shL P9 n9 q9.toInt) - x4_6.toInt).toNat = 0 by omega]; exact hpn⟩ hP hD hS hl
            · have c_6 : x4_8.toInt < v_5.toInt := b_nle c_6
              refine lv_lload hx hb dX12_sharesOut_57 (lv_at hl 2 rfl) ?_
              refine lv_lconst (v := 0) hx hb dX12_sharesOut_59 rfl ?_
              refine W.lcmp hx hb dX12_sharesOut_60 ?_
              refine lv_topi (fun v_22 ev_22 => ?_)
              refine lv_if_ne (tgt := 68) hx hb dX12_sharesOut_61 (by decide) (fun c_23 => ?_) (fun c_23 => ?_)
              · have c_23 : v_22.toInt ≠ 0 := b_ne c_23
                have hal0 : x1_4.toInt ≠ 0 := fun h8 => lcmp_ne (x := x1_4) (by rw [← ev_22]; omega) (Int64.toInt_inj.mp (show x1_4.toInt = (0 : Int64).toInt from h8))
                have hS0 : shS P9 n9 ≠ 0 := by omega
                have hof0 : x1_4.toInt = shO P9 n9 := hall.trans (if_neg hS0).symm
                have hwt : ∀ t, t < n9 → P9 t = shW P9 n9 t := fun t _ => (if_neg hS0).symm
                refine lv_aload_n hx hb dX12_sharesOut_68 rfl (lv_at hl 3 rfl) ?_
                refine va_get (D := D) (ci := 12) (v := .ref (a 8)) (C := RX12) (T := TX12) (N := 91) hx hb hT iX12 hown hK hP 0 rfl rfl 9 (by decide) (hT _ t_176) (fun _ h9 => h9) rfl dX12_sharesOut_69 ?_
                refine lv_iconst (v := 4) hx hb dX12_sharesOut_72 (by decide) ?_
                refine lv_iload_n hx hb dX12_sharesOut_73 rfl (lv_at hl 4 rfl) ?_
                refine lv_imul hx hb dX12_sharesOut_74 ?_
                refine lv_topi (fun v_24 ev_24 => ?_)
                have hv_24 : v_24.toInt = 4 * p0.toInt := by rw [ev_24]; have := b_rg p0; exact i_mul (a := 4) (b := p0.toInt) rfl rfl (by omega) (by omega)
                refine lv_iload hx hb dX12_sharesOut_75 (lv_at hl 0 rfl) ?_
                refine lv_iadd hx hb dX12_sharesOut_77 ?_
                refine lv_topi (fun v_25 ev_25 => ?_)
                have hv_25 : v_25.toInt = v_24.toInt + x4_8.toInt := by rw [ev_25]; have := b_rg v_24; have := b_rg x4_8; exact i_add (a := v_24.toInt) (b := x4_8.toInt) rfl rfl (by omega) (by omega)
                refine va_iald hx hb hK hP 8 0 rfl rfl (vp_inI (by omega) (by omega)) dX12_sharesOut_78 ?_
                refine lv_topi (fun v_26 ev_26 => ?_)
                have hgv_26 : 0 ≤ v_26.toInt ∧ v_26.toInt ≤ 99 := by rw [ev_26]; exact hRr 8 _
                have hpx : v_25.toNatClampNeg = 4 * p0.toNatClampNeg + x4_8.toInt.toNat := by show v_25.toInt.toNat = 4 * p0.toInt.toNat + x4_8.toInt.toNat; omega
                have hpw : v_26.toInt = P9 x4_8.toInt.toNat := by rw [ev_26, hEr 8 (by decide), hpx]; exact (hPt _ (show x4_8.toInt.toNat < n9 by omega)).symm
                obtain ⟨v_27, ev_27⟩ : ∃ y : Int64, v_26.toInt64 = y := ⟨_, rfl⟩
                refine lv_i2l (v := v_27) hx hb dX12_sharesOut_79 ev_27 ?_
                have hlv_27 : v_27.toInt = v_26.toInt := by rw [← ev_27]; exact Int32.toInt_toInt64 _
                refine lv_lstore (lv' := [(9, .long v_27), (8, .int x4_8), (6, .long x4_6), (4, .long x1_4), (0, .ref (a 0)), (1, .int p0), (2, .long q9)]) hx hb dX12_sharesOut_80 hl (by decide) rfl (fun ls hl => ?_)
                refine lv_lload hx hb dX12_sharesOut_82 (lv_at hl 3 rfl) ?_
                refine lv_lconst (v := 0) hx hb dX12_sharesOut_84 rfl ?_
                refine W.lcmp hx hb dX12_sharesOut_85 ?_
                refine lv_topi (fun v_28 ev_28 => ?_)
                have hlc2 : v_28.toInt = v_22.toInt := congrArg Int32.toInt (ev_28.trans ev_22.symm)
                refine lv_if_ne (tgt := 99) hx hb dX12_sharesOut_86 (by decide) (fun c_29 => ?_) (fun c_29 => by have c_29 : v_28.toInt = 0 := b_nne c_29; omega)
                have c_29 : v_28.toInt ≠ 0 := b_ne c_29
                refine lv_lload hx hb dX12_sharesOut_99 (lv_at hl 3 rfl) ?_
                refine lv_lstore (lv' := [(11, .long x1_4), (9, .long v_27), (8, .int x4_8), (6, .long x4_6), (4, .long x1_4), (0, .ref (a 0)), (1, .int p0), (2, .long q9)]) hx hb dX12_sharesOut_101 hl (by decide) rfl (fun ls hl => ?_)
                have hof : x1_4.toInt = shO P9 n9 := hof0
                have hof1 : 1 ≤ x1_4.toInt := by have h9 := sh_O hok; omega
                refine lv_aload_n hx hb dX12_sharesOut_103 rfl (lv_at hl 5 rfl) ?_
                refine va_get (D := D) (ci := 12) (v := .ref (a 49)) (C := RX12) (T := TX12) (N := 91) hx hb hT iX12 hown hK hP 0 rfl rfl 62 (by decide) (hT _ t_796) (fun _ h9 => h9) rfl dX12_sharesOut_104 ?_
                refine lv_iload hx hb dX12_sharesOut_107 (lv_at hl 2 rfl) ?_
                refine lv_lload_n hx hb dX12_sharesOut_109 rfl (lv_at hl 7 rfl) ?_
                refine lv_lload hx hb dX12_sharesOut_110 (lv_at hl 1 rfl) ?_
                refine lv_lmul hx hb dX12_sharesOut_112 ?_
                refine lv_topl (fun v_30 ev_30 => ?_)
                have hKn : x4_8.toInt.toNat < n9 := by omega
                have hv9 : v_30.toInt = q9.toInt * shW P9 n9 x4_8.toInt.toNat := sh_xl hok q1 hKn rfl (hlv_27.trans (hpw.trans (hwt _ hKn))) ev_30
                refine lv_lload hx hb dX12_sharesOut_113 (lv_at hl 0 rfl) ?_
                refine lv_ldiv hx hb dX12_sharesOut_115 (l_ne0 hof1) ?_
                refine lv_topl (fun v_31 ev_31 => ?_)
                obtain ⟨v_32, ev_32⟩ : ∃ y : Int32, v_31.toInt32 = y := ⟨_, rfl⟩
                refine lv_l2i (v := v_32) hx hb dX12_sharesOut_116 ev_32 ?_
                have hg9 : v_32.toInt = shG P9 n9 q9.toInt x4_8.toInt.toNat := sh_ql hok q1 hKn hv9 hof ev_31 ev_32
                have hg8 := sh_G (p := q9.toInt) hok q1.1 _ hKn
                rw [← hg9] at hg8
                refine va_iast hx hb hK hP hD hS 49 0 rfl rfl (vp_inI (by omega) (by omega)) dX12_sharesOut_117 (fun H locs hP hD hS => ?_)
                rw [mS49] at hP hD
                have hRr : mRr (va_up r4 49 (upd (r4 49) x4_8.toNatClampNeg v_32)) := Rr_upd hRr 49 (x4_8.toNatClampNeg) v_32 (b_rg _)
                have hEr : mEr [49] _ (va_up r4 49 (upd (r4 49) x4_8.toNatClampNeg v_32)) := Er_up hEr 49 _ (by decide)
                refine lv_aload_n hx hb dX12_sharesOut_118 rfl (lv_at hl 5 rfl) ?_
                refine va_get (D := D) (ci := 12) (v := .ref (a 48)) (C := RX12) (T := TX12) (N := 91) hx hb hT iX12 hown hK hP 0 rfl rfl 61 (by decide) (hT _ t_795) (fun _ h9 => h9) rfl dX12_sharesOut_119 ?_
                refine lv_iload hx hb dX12_sharesOut_122 (lv_at hl 2 rfl) ?_
                refine lv_lload_n hx hb dX12_sharesOut_124 rfl (lv_at hl 7 rfl) ?_
                refine lv_lload hx hb dX12_sharesOut_125 (lv_at hl 1 rfl) ?_
                refine lv_lmul hx hb dX12_sharesOut_127 ?_
                refine lv_topl (fun v_33 ev_33 => ?_)
                have hv9b : v_33.toInt = q9.toInt * shW P9 n9 x4_8.toInt.toNat := sh_xl hok q1 hKn rfl (hlv_27.trans (hpw.trans (hwt _ hKn))) ev_33
                refine lv_lload hx hb dX12_sharesOut_128 (lv_at hl 0 rfl) ?_
                refine lv_lrem hx hb dX12_sharesOut_130 (l_ne0 hof1) ?_
                refine lv_topl (fun v_34 ev_34 => ?_)
                have hm9 : v_34.toInt = shR P9 n9 q9.toInt x4_8.toInt.toNat := sh_ml hok q1 hKn hv9b hof ev_34
                refine va_last hx hb hK hP hD hS 48 3 rfl rfl (vp_inI (by omega) (by omega)) dX12_sharesOut_131 (fun H locs hP hD hS => ?_)
                rw [mL] at hP hD
                refine lv_lload hx hb dX12_sharesOut_132 (lv_at hl 3 rfl) ?_
                refine lv_aload_n hx hb dX12_sharesOut_134 rfl (lv_at hl 5 rfl) ?_
                refine va_get (D := D) (ci := 12) (v := .ref (a 49)) (C := RX12) (T := TX12) (N := 91) hx hb hT iX12 hown hK hP 0 rfl rfl 62 (by decide) (hT _ t_796) (fun _ h9 => h9) rfl dX12_sharesOut_135 ?_
                refine lv_iload hx hb dX12_sharesOut_138 (lv_at hl 2 rfl) ?_
                refine va_iald hx hb hK hP 49 0 rfl rfl (vp_inI (by omega) (by omega)) dX12_sharesOut_140 ?_
                refine lv_topi (fun v_35 ev_35 => ?_)
                have hsh : v_35.toInt = v_32.toInt := congrArg Int32.toInt (ev_35.trans (upd_s (f := r4 49) (k := x4_8.toNatClampNeg) (v := v_32)))
                obtain ⟨v_36, ev_36⟩ : ∃ y : Int64, v_35.toInt64 = y := ⟨_, rfl⟩
                refine lv_i2l (v := v_36) hx hb dX12_sharesOut_141 ev_36 ?_
                have hlv_36 : v_36.toInt = v_35.toInt := by rw [← ev_36]; exact Int32.toInt_toInt64 _
                refine lv_lsub hx hb dX12_sharesOut_142 ?_
                refine lv_topl (fun v_37 ev_37 => ?_)
                have hy6 : v_37.toInt = x4_6.toInt - v_36.toInt := by rw [ev_37]; exact l_sub rfl rfl (by omega) (by omega)
                refine lv_lstore (lv' := [(6, .long v_37), (11, .long x1_4), (9, .long v_27), (8, .int x4_8), (4, .long x1_4), (0, .ref (a 0)), (1, .int p0), (2, .long q9)]) hx hb dX12_sharesOut_143 hl (by decide) rfl (fun ls hl => ?_)
                obtain ⟨x_38, ex_38⟩ : ∃ y : Int32, y = x4_8 + 1 := ⟨_, rfl⟩
                refine lv_iinc (v := x_38) (lv' := [(8, .int x_38), (6, .long v_37), (11, .long x1_4), (9, .long v_27), (4, .long x1_4), (0, .ref (a 0)), (1, .int p0), (2, .long q9)]) hx hb dX12_sharesOut_145 hl (k := 3) rfl (by rw [ex_38]; rfl) (by decide) rfl (fun ls hl => ?_)
                have hx_38 : x_38.toInt = x4_8.toInt + 1 := by rw [ex_38]; have := b_rg x4_8; exact i_add (a := x4_8.toInt) (b := 1) rfl rfl (by omega) (by omega)
                refine lv_goto (tgt := 46) hx hb dX12_sharesOut_148 (by decide) ?_
                have hsS := shS_s (u := shG P9 n9 q9.toInt) (K := x4_8.toInt.toNat) (K2 := x_38.toInt.toNat) rfl hg9 rfl (by omega)
                exact ih4 x_38 v_37 (va_up r4 49 (upd (r4 49) x4_8.toNatClampNeg v_32)) (vp_updL l4 x4_8.toNatClampNeg v_34) _ _ _ (by first | omega | (simp only [Int.toNat]; omega)) (by first | omega | decide) hRr hEr ⟨by omega, by omega, by rw [← hsS]; omega, shI_l hx4.2.2.2 hg9 hm9 (x := v_32) (y := v_34) (show x4_8.toNatClampNeg = x4_8.toInt.toNat from rfl) (show x_38.toInt.toNat = x4_8.toInt.toNat + 1 by omega)⟩ hP hD hS (lv_sub hl [0, 1, 4, 5, 6, 7] rfl)
              · have c_23 : v_22.toInt = 0 := b_nne c_23
                have hal0 : x1_4.toInt = 0 := lcmp_eq0 (by rw [← ev_22]; omega)
                have hS0 : shS P9 n9 = 0 := by omega
                have hof0 : (n9 : Int) = shO P9 n9 := (if_pos hS0).symm
                have hwt : ∀ t, t < n9 → (1 : Int64).toInt = shW P9 n9 t := fun t _ => (if_pos hS0).symm
                refine lv_lconst (v := 1) hx hb dX12_sharesOut_64 rfl ?_
                refine lv_goto (tgt := 80) hx hb dX12_sharesOut_65 (by decide) ?_
                refine lv_lstore (lv' := [(9, .long 1), (8, .int x4_8), (6, .long x4_6), (4, .long x1_4), (0, .ref (a 0)), (1, .int p0), (2, .long q9)]) hx hb dX12_sharesOut_80 hl (by decide) rfl (fun ls hl => ?_)
                refine lv_lload hx hb dX12_sharesOut_82 (lv_at hl 3 rfl) ?_
                refine lv_lconst (v := 0) hx hb dX12_sharesOut_84 rfl ?_
                refine W.lcmp hx hb dX12_sharesOut_85 ?_
                refine lv_topi (fun v_39 ev_39 => ?_)
                have hlc2 : v_39.toInt = v_22.toInt := congrArg Int32.toInt (ev_39.trans ev_22.symm)
                refine lv_if_ne (tgt := 99) hx hb dX12_sharesOut_86 (by decide) (fun c_40 => by have c_40 : v_39.toInt ≠ 0 := b_ne c_40; omega) (fun c_40 => ?_)
                have c_40 : v_39.toInt = 0 := b_nne c_40
                refine lv_aload_n hx hb dX12_sharesOut_89 rfl (lv_at hl 4 rfl) ?_
                refine va_get (D := D) (ci := 12) (v := .ref (a 4)) (C := RX12) (T := TX12) (N := 91) hx hb hT iX12 hown hK hP 0 rfl rfl 5 (by decide) (hT _ t_66) (fun _ h9 => h9) rfl dX12_sharesOut_90 ?_
                refine lv_iload_n hx hb dX12_sharesOut_93 rfl (lv_at hl 5 rfl) ?_
                refine va_iald hx hb hK hP 4 0 rfl rfl (vp_inI (by omega) (by omega)) dX12_sharesOut_94 ?_
                refine lv_topi (fun v_41 ev_41 => ?_)
                have hgv_41 : 0 ≤ v_41.toInt ∧ v_41.toInt ≤ 4 := by rw [ev_41]; exact hRr 4 _
                have htv_41 : v_41.toInt = (n9 : Int) := by rw [ev_41, hEr 4 (by decide)]; exact hni.symm
                obtain ⟨v_42, ev_42⟩ : ∃ y : Int64, v_41.toInt64 = y := ⟨_, rfl⟩
                refine lv_i2l (v := v_42) hx hb dX12_sharesOut_95 ev_42 ?_
                have hlv_42 : v_42.toInt = v_41.toInt := by rw [← ev_42]; exact Int32.toInt_toInt64 _
                refine lv_goto (tgt := 101) hx hb dX12_sharesOut_96 (by decide) ?_
                refine lv_lstore (lv' := [(11, .long v_42), (9, .long 1), (8, .int x4_8), (6, .long x4_6), (4, .long x1_4), (0, .ref (a 0)), (1, .int p0), (2, .long q9)]) hx hb dX12_sharesOut_101 hl (by decide) rfl (fun ls hl => ?_)
                have hof : v_42.toInt = shO P9 n9 := (hlv_42.trans htv_41).trans hof0
                have hof1 : 1 ≤ v_42.toInt := by have h9 := sh_O hok; omega
                refine lv_aload_n hx hb dX12_sharesOut_103 rfl (lv_at hl 5 rfl) ?_
                refine va_get (D := D) (ci := 12) (v := .ref (a 49)) (C := RX12) (T := TX12) (N := 91) hx hb hT iX12 hown hK hP 0 rfl rfl 62 (by decide) (hT _ t_796) (fun _ h9 => h9) rfl dX12_sharesOut_104 ?_
                refine lv_iload hx hb dX12_sharesOut_107 (lv_at hl 2 rfl) ?_
                refine lv_lload_n hx hb dX12_sharesOut_109 rfl (lv_at hl 7 rfl) ?_
                refine lv_lload hx hb dX12_sharesOut_110 (lv_at hl 1 rfl) ?_
                refine lv_lmul hx hb dX12_sharesOut_112 ?_
                refine lv_topl (fun v_43 ev_43 => ?_)
                have hKn : x4_8.toInt.toNat < n9 := by omega
                have hv9 : v_43.toInt = q9.toInt * shW P9 n9 x4_8.toInt.toNat := sh_xl hok q1 hKn rfl (hwt _ hKn) ev_43
                refine lv_lload hx hb dX12_sharesOut_113 (lv_at hl 0 rfl) ?_
                refine lv_ldiv hx hb dX12_sharesOut_115 (l_ne0 hof1) ?_
                refine lv_topl (fun v_44 ev_44 => ?_)
                obtain ⟨v_45, ev_45⟩ : ∃ y : Int32, v_44.toInt32 = y := ⟨_, rfl⟩
                refine lv_l2i (v := v_45) hx hb dX12_sharesOut_116 ev_45 ?_
                have hg9 : v_45.toInt = shG P9 n9 q9.toInt x4_8.toInt.toNat := sh_ql hok q1 hKn hv9 hof ev_44 ev_45
                have hg8 := sh_G (p := q9.toInt) hok q1.1 _ hKn
                rw [← hg9] at hg8
                refine va_iast hx hb hK hP hD hS 49 0 rfl rfl (vp_inI (by omega) (by omega)) dX12_sharesOut_117 (fun H locs hP hD hS => ?_)
                rw [mS49] at hP hD
                have hRr : mRr (va_up r4 49 (upd (r4 49) x4_8.toNatClampNeg v_45)) := Rr_upd hRr 49 (x4_8.toNatClampNeg) v_45 (b_rg _)
                have hEr : mEr [49] _ (va_up r4 49 (upd (r4 49) x4_8.toNatClampNeg v_45)) := Er_up hEr 49 _ (by decide)
                refine lv_aload_n hx hb dX12_sharesOut_118 rfl (lv_at hl 5 rfl) ?_
                refine va_get (D := D) (ci := 12) (v := .ref (a 48)) (C := RX12) (T := TX12) (N := 91) hx hb hT iX12 hown hK hP 0 rfl rfl 61 (by decide) (hT _ t_795) (fun _ h9 => h9) rfl dX12_sharesOut_119 ?_
                refine lv_iload hx hb dX12_sharesOut_122 (lv_at hl 2 rfl) ?_
                refine lv_lload_n hx hb dX12_sharesOut_124 rfl (lv_at hl 7 rfl) ?_
                refine lv_lload hx hb dX12_sharesOut_125 (lv_at hl 1 rfl) ?_
                refine lv_lmul hx hb dX12_sharesOut_127 ?_
                refine lv_topl (fun v_46 ev_46 => ?_)
                have hv9b : v_46.toInt = q9.toInt * shW P9 n9 x4_8.toInt.toNat := sh_xl hok q1 hKn rfl (hwt _ hKn) ev_46
                refine lv_lload hx hb dX12_sharesOut_128 (lv_at hl 0 rfl) ?_
                refine lv_lrem hx hb dX12_sharesOut_130 (l_ne0 hof1) ?_
                refine lv_topl (fun v_47 ev_47 => ?_)
                have hm9 : v_47.toInt = shR P9 n9 q9.toInt x4_8.toInt.toNat := sh_ml hok q1 hKn hv9b hof ev_47
                refine va_last hx hb hK hP hD hS 48 3 rfl rfl (vp_inI (by omega) (by omega)) dX12_sharesOut_131 (fun H locs hP hD hS => ?_)
                rw [mL] at hP hD
                refine lv_lload hx hb dX12_sharesOut_132 (lv_at hl 3 rfl) ?_
                refine lv_aload_n hx hb dX12_sharesOut_134 rfl (lv_at hl 5 rfl) ?_
                refine va_get (D := D) (ci := 12) (v := .ref (a 49)) (C := RX12) (T := TX12) (N := 91) hx hb hT iX12 hown hK hP 0 rfl rfl 62 (by decide) (hT _ t_796) (fun _ h9 => h9) rfl dX12_sharesOut_135 ?_
                refine lv_iload hx hb dX12_sharesOut_138 (lv_at hl 2 rfl) ?_
                refine va_iald hx hb hK hP 49 0 rfl rfl (vp_inI (by omega) (by omega)) dX12_sharesOut_140 ?_
                refine lv_topi (fun v_48 ev_48 => ?_)
                have hsh : v_48.toInt = v_45.toInt := congrArg Int32.toInt (ev_48.trans (upd_s (f := r4 49) (k := x4_8.toNatClampNeg) (v := v_45)))
                obtain ⟨v_49, ev_49⟩ : ∃ y : Int64, v_48.toInt64 = y := ⟨_, rfl⟩
                refine lv_i2l (v := v_49) hx hb dX12_sharesOut_141 ev_49 ?_
                have hlv_49 : v_49.toInt = v_48.toInt := by rw [← ev_49]; exact Int32.toInt_toInt64 _
                refine lv_lsub hx hb dX12_sharesOut_142 ?_
                refine lv_topl (fun v_50 ev_50 => ?_)
                have hy6 : v_50.toInt = x4_6.toInt - v_49.toInt := by rw [ev_50]; exact l_sub rfl rfl (by omega) (by omega)
                refine lv_lstore (lv' := [(6, .long v_50), (11, .long v_42), (9, .long 1), (8, .int x4_8), (4, .long x1_4), (0, .ref (a 0)), (1, .int p0), (2, .long q9)]) hx hb dX12_sharesOut_143 hl (by decide) rfl (fun ls hl => ?_)
                obtain ⟨x_51, ex_51⟩ : ∃ y : Int32, y = x4_8 + 1 := ⟨_, rfl⟩
                refine lv_iinc (v := x_51) (lv' := [(8, .int x_51), (6, .long v_50), (11, .long v_42), (9, .long 1), (4, .long x1_4), (0, .ref (a 0)), (1, .int p0), (2, .long q9)]) hx hb dX12_sharesOut_145 hl (k := 3) rfl (by rw [ex_51]; rfl) (by decide) rfl (fun ls hl => ?_)
                have hx_51 : x_51.toInt = x4_8.toInt + 1 := by rw [ex_51]; have := b_rg x4_8; exact i_add (a := x4_8.toInt) (b := 1) rfl rfl (by omega) (by omega)
                refine lv_goto (tgt := 46) hx hb dX12_sharesOut_148 (by decide) ?_
                have hsS := shS_s (u := shG P9 n9 q9.toInt) (K := x4_8.toInt.toNat) (K2 := x_51.toInt.toNat) rfl hg9 rfl (by omega)
                exact ih4 x_51 v_50 (va_up r4 49 (upd (r4 49) x4_8.toNatClampNeg v_45)) (vp_updL l4 x4_8.toNatClampNeg v_47) _ _ _ (by first | omega | (simp only [Int.toNat]; omega)) (by first | omega | decide) hRr hEr ⟨by omega, by omega, by rw [← hsS]; omega, shI_l hx4.2.2.2 hg9 hm9 (x := v_45) (y := v_47) (show x4_8.toNatClampNeg = x4_8.toInt.toNat from rfl) (show x_51.toInt.toNat = x4_8.toInt.toNat + 1 by omega)⟩ hP hD hS (lv_sub hl [0, 1, 4, 5, 6, 7] rfl)
        exact loop_4 _ 0 q9 r rl _ _ _ (Nat.lt_succ_self _) (by first | omega | decide) hRr hEr ⟨by have h3 : (0 : Int32).toInt = 0 := rfl; omega, by have h3 : (0 : Int32).toInt = 0 := rfl; omega, (show q9.toInt = q9.toInt - shS (shG P9 n9 q9.toInt) 0 from (Int.sub_zero _).symm), fun t ht => absurd (show t < 0 from ht) (Nat.not_lt_zero t)⟩ hP hD hS hl
      · have c_3 : x1_6.toInt < v_2.toInt := b_nle c_3
        refine lv_lload hx hb dX12_sharesOut_17 (lv_at hl 1 rfl) ?_
        refine lv_aload_n hx hb dX12_sharesOut_19 rfl (lv_at hl 2 rfl) ?_
        refine va_get (D := D) (ci := 12) (v := .ref (a 8)) (C := RX12) (T := TX12) (N := 91) hx hb hT iX12 hown hK hP 0 rfl rfl 9 (by decide) (hT _ t_176) (fun _ h9 => h9) rfl dX12_sharesOut_20 ?_
        refine lv_iconst (v := 4) hx hb dX12_sharesOut_23 (by decide) ?_
        refine lv_iload_n hx hb dX12_sharesOut_24 rfl (lv_at hl 3 rfl) ?_
        refine lv_imul hx hb dX12_sharesOut_25 ?_
        refine lv_topi (fun v_52 ev_52 => ?_)
        have hv_52 : v_52.toInt = 4 * p0.toInt := by rw [ev_52]; have := b_rg p0; exact i_mul (a := 4) (b := p0.toInt) rfl rfl (by omega) (by omega)
        refine lv_iload hx hb dX12_sharesOut_26 (lv_at hl 0 rfl) ?_
        refine lv_iadd hx hb dX12_sharesOut_28 ?_
        refine lv_topi (fun v_53 ev_53 => ?_)
        have hv_53 : v_53.toInt = v_52.toInt + x1_6.toInt := by rw [ev_53]; have := b_rg v_52; have := b_rg x1_6; exact i_add (a := v_52.toInt) (b := x1_6.toInt) rfl rfl (by omega) (by omega)
        refine va_iald hx hb hK hP 8 0 rfl rfl (vp_inI (by omega) (by omega)) dX12_sharesOut_29 ?_
        refine lv_topi (fun v_54 ev_54 => ?_)
        have hgv_54 : 0 ≤ v_54.toInt ∧ v_54.toInt ≤ 99 := by rw [ev_54]; exact hRr 8 _
        have hpx : v_53.toNatClampNeg = 4 * p0.toNatClampNeg + x1_6.toInt.toNat := by show v_53.toInt.toNat = 4 * p0.toInt.toNat + x1_6.toInt.toNat; omega
        have hpw : v_54.toInt = P9 x1_6.toInt.toNat := by rw [ev_54, hEr 8 (by decide), hpx]; exact (hPt _ (show x1_6.toInt.toNat < n9 by omega)).symm
        obtain ⟨v_55, ev_55⟩ : ∃ y : Int64, v_54.toInt64 = y := ⟨_, rfl⟩
        refine lv_i2l (v := v_55) hx hb dX12_sharesOut_30 ev_55 ?_
        have hlv_55 : v_55.toInt = v_54.toInt := by rw [← ev_55]; exact Int32.toInt_toInt64 _
        refine lv_ladd hx hb dX12_sharesOut_31 ?_
        refine lv_topl (fun v_56 ev_56 => ?_)
        have hsv_56 : v_56.toInt = x1_4.toInt + v_55.toInt := by rw [ev_56]; exact l_add rfl rfl (by omega) (by omega)
        refine lv_lstore (lv' := [(4, .long v_56), (6, .int x1_6), (0, .ref (a 0)), (1, .int p0), (2, .long q9)]) hx hb dX12_sharesOut_32 hl (by decide) rfl (fun ls hl => ?_)
        obtain ⟨x_57, ex_57⟩ : ∃ y : Int32, y = x1_6 + 1 := ⟨_, rfl⟩
        refine lv_iinc (v := x_57) (lv' := [(6, .int x_57), (4, .long v_56), (0, .ref (a 0)), (1, .int p0), (2, .long q9)]) hx hb dX12_sharesOut_34 hl (k := 1) rfl (by rw [ex_57]; rfl) (by decide) rfl (fun ls hl => ?_)
        have hx_57 : x_57.toInt = x1_6.toInt + 1 := by rw [ex_57]; have := b_rg x1_6; exact i_add (a := x1_6.toInt) (b := 1) rfl rfl (by omega) (by omega)
        refine lv_goto (tgt := 6) hx hb dX12_sharesOut_37 (by decide) ?_
        exact ih1 x_57 v_56 _ _ _ (by first | omega | (simp only [Int.toNat]; omega)) (by first | omega | decide)  ⟨by omega, by omega, shS_s hx1.2.2 (y := v_54.toInt) hpw (show v_56.toInt = x1_4.toInt + v_54.toInt by omega) (show x_57.toInt.toNat = x1_6.toInt.toNat + 1 by omega)⟩ hP hD hS (lv_sub hl [0, 1, 2, 3, 4] rfl)
  exact loop_1 _ 0 0 _ _ _ (Nat.lt_succ_self _) (by first | omega | decide)  ⟨by have h3 : (0 : Int32).toInt = 0 := rfl; omega, ⟨by decide, by decide⟩, rfl⟩ hP hD hS hl
