def jmpW (x : Int32) : Prop := cOp x = 11 ∨ cOp x = 12
def binW (x : Int32) : Prop := 2 ≤ cOp x ∧ cOp x ≤ 6
/-- a step of a text that is not read to its end yet: a jump is landed, or waits -/
def pstep (c w : Nat → Int32) (g : Nat → Nat) (k n m : Nat) : Prop := 0 ≤ (c k).toInt ∧
  ((cOp (c k) = 0 ∧ g (k + 1) = g k + 1) ∨ (cOp (c k) = 1 ∧ cV (c k) < 10 ∧ g (k + 1) = g k + 1) ∨ (cOp (c k) = 10 ∧ 1 ≤ g k ∧ g (k + 1) = g k) ∨
   (jmpW (c k) ∧ g k = 1 ∧ g (k + 1) = 0 ∧ (((k : Int) < cV (c k) ∧ cV (c k) ≤ n ∧ g (cV (c k)).toNat = 1) ∨ ∃ j, j < m ∧ jmpW (w j) ∧ cV (w j) = k)) ∨
   (2 ≤ cOp (c k) ∧ cOp (c k) ≤ 9 ∧ 2 ≤ g k ∧ g (k + 1) + 1 = g k))
def PS (f h : Nat) (c w : Nat → Int32) (n m : Nat) : Prop := f ≤ n ∧ ∃ g : Nat → Nat, g f = 0 ∧ g n = h ∧ (∀ k, f ≤ k → k < n → pstep c w g k n m) ∧ ∀ j, j < m → jmpW (w j) → ∃ v : Nat, cV (w j) = v ∧ f ≤ v ∧ v < n ∧ jmpW (c v) ∧ g v = 1
theorem pstep_mono {c c' w w' : Nat → Int32} {g g' : Nat → Nat} {k n n' m m' : Nat} (hc : c' k = c k) (hg : ∀ t, t ≤ n → g' t = g t) (hk : k < n) (hn : n ≤ n') (hj : ∀ j, j < m → jmpW (w j) → cV (w j) = k → ∃ j', j' < m' ∧ jmpW (w' j') ∧ cV (w' j') = k) (h : pstep c w g k n m) : pstep c' w' g' k n' m' := by
  obtain ⟨h0, h1⟩ := h
  unfold pstep
  rw [hc, hg k (by omega), hg (k + 1) (by omega)]
  refine ⟨h0, ?_⟩
  rcases h1 with h1 | h1 | h1 | ⟨a1, a2, a3, a4⟩ | h1
  · exact Or.inl h1
  · exact Or.inr (Or.inl h1)
  · exact Or.inr (Or.inr (Or.inl h1))
  · refine Or.inr (Or.inr (Or.inr (Or.inl ⟨a1, a2, a3, ?_⟩)))
    rcases a4 with ⟨b1, b2, b3⟩ | ⟨j, b1, b2, b3⟩
    · left; exact ⟨b1, by omega, by rw [hg _ (by omega)]; exact b3⟩
    · right; exact hj j b1 b2 b3
  · exact Or.inr (Or.inr (Or.inr (Or.inr h1)))
theorem PS_app {f h h' : Nat} {c w : Nat → Int32} {n m : Nat} {x : Int32} (hp : PS f h c w n m) (h0 : 0 ≤ x.toInt) (hx : (cOp x = 0 ∧ h' = h + 1) ∨ (cOp x = 1 ∧ cV x < 10 ∧ h' = h + 1) ∨ (cOp x = 10 ∧ 1 ≤ h ∧ h' = h) ∨ (2 ≤ cOp x ∧ cOp x ≤ 9 ∧ 2 ≤ h ∧ h' + 1 = h)) : PS f h' (upd c n x) w (n + 1) m := by
  obtain ⟨hfn, g, g0, gn, hs, hw⟩ := hp
  have hg : ∀ t, t ≤ n → (fun k => if k = n + 1 then h' else g k) t = g t := fun t ht => if_neg (by omega)
  refine ⟨by omega, fun k => if k = n + 1 then h' else g k, (hg f hfn).trans g0, if_pos rfl, fun k hk hkn => ?_, fun j hj hjw => ?_⟩
  · by_cases e : k = n
    · subst e
      unfold pstep
      rw [pk_us, hg k (by omega), show (fun t => if t = k + 1 then h' else g t) (k + 1) = h' from if_pos rfl, gn]
      refine ⟨h0, ?_⟩
      rcases hx with h1 | h1 | h1 | h1
      · exact Or.inl ⟨h1.1, h1.2⟩
      · exact Or.inr (Or.inl h1)
      · exact Or.inr (Or.inr (Or.inl h1))
      · exact Or.inr (Or.inr (Or.inr (Or.inr h1)))
    · exact pstep_mono (pk_un e) hg (by omega) (by omega) (fun j h1 h2 h3 => ⟨j, h1, h2, h3⟩) (hs k hk (by omega))
  · obtain ⟨v, a1, a2, a3, a4, a5⟩ := hw j hj hjw
    exact ⟨v, a1, a2, by omega, by rw [pk_un (by omega)]; exact a4, by rw [hg v (by omega)]; exact a5⟩
theorem PS_push {f h : Nat} {c w : Nat → Int32} {n m : Nat} {x : Int32} (hp : PS f h c w n m) (hx : ¬ jmpW x) : PS f h c (upd w m x) n (m + 1) := by
  obtain ⟨hfn, g, g0, gn, hs, hw⟩ := hp
  refine ⟨hfn, g, g0, gn, fun k hk hkn => pstep_mono rfl (fun _ _ => rfl) hkn (Nat.le_refl _) (fun j h1 h2 h3 => ⟨j, by omega, by rw [pk_un (by omega)]; exact h2, by rw [pk_un (by omega)]; exact h3⟩) (hs k hk hkn), fun j hj hjw => ?_⟩
  by_cases e : j = m
  · subst e; rw [pk_us] at hjw; exact absurd hjw hx
  · rw [pk_un e] at hjw ⊢; exact hw j (by omega) hjw
theorem PS_pop {f h : Nat} {c w : Nat → Int32} {n m : Nat} (hp : PS f h c w n (m + 1)) (hx : ¬ jmpW (w m)) : PS f h c w n m := by
  obtain ⟨hfn, g, g0, gn, hs, hw⟩ := hp
  refine ⟨hfn, g, g0, gn, fun k hk hkn => pstep_mono rfl (fun _ _ => rfl) hkn (Nat.le_refl _) (fun j h1 h2 h3 => ⟨j, ?_, h2, h3⟩) (hs k hk hkn), fun j hj hjw => hw j (by omega) hjw⟩
  by_cases e : j = m
  · rw [e] at h2; exact absurd h2 hx
  · omega
theorem PS_jump {f : Nat} {c w : Nat → Int32} {n m : Nat} {x y : Int32} (hp : PS f 1 c w n m) (h0 : 0 ≤ x.toInt) (hx : jmpW x) (hy : jmpW y) (hv : cV y = n) : PS f 0 (upd c n x) (upd w m y) (n + 1) (m + 1) := by
  obtain ⟨hfn, g, g0, gn, hs, hw⟩ := hp
  have hg : ∀ t, t ≤ n → (fun k => if k = n + 1 then 0 else g k) t = g t := fun t ht => if_neg (by omega)
  refine ⟨by omega, fun k => if k = n + 1 then 0 else g k, (hg f hfn).trans g0, if_pos rfl, fun k hk hkn => ?_, fun j hj hjw => ?_⟩
  · by_cases e : k = n
    · subst e
      unfold pstep
      rw [pk_us, hg k (by omega), show (fun t => if t = k + 1 then 0 else g t) (k + 1) = 0 from if_pos rfl, gn]
      exact ⟨h0, Or.inr (Or.inr (Or.inr (Or.inl ⟨hx, rfl, rfl, Or.inr ⟨m, by omega, by rw [pk_us]; exact hy, by rw [pk_us]; exact hv⟩⟩)))⟩
    · exact pstep_mono (pk_un e) hg (by omega) (by omega) (fun j h1 h2 h3 => ⟨j, by omega, by rw [pk_un (by omega)]; exact h2, by rw [pk_un (by omega)]; exact h3⟩) (hs k hk (by omega))
  · by_cases e : j = m
    · subst e
      rw [pk_us]
      exact ⟨n, hv, hfn, by omega, by rw [pk_us]; exact hx, (hg n (by omega)).trans gn⟩
    · rw [pk_un e] at hjw ⊢
      obtain ⟨v, a1, a2, a3, a4, a5⟩ := hw j (by omega) hjw
      exact ⟨v, a1, a2, by omega, by rw [pk_un (by omega)]; exact a4, (hg v (by omega)).trans a5⟩
theorem PS_land {f : Nat} {c w : Nat → Int32} {n m : Nat} (hp : PS f 1 c w n (m + 1)) (hj : jmpW (w m)) : ∃ v : Nat, cV (w m) = v ∧ f ≤ v ∧ v < n ∧ jmpW (c v) ∧ 0 ≤ (c v).toInt ∧ ∀ x : Int32, 0 ≤ x.toInt → cOp x = cOp (c v) → cV x = n → PS f 1 (upd c v x) w n m := by
  obtain ⟨hfn, g, g0, gn, hs, hw⟩ := hp
  obtain ⟨v, a1, a2, a3, a4, a5⟩ := hw m (by omega) hj
  have hsv := hs v a2 a3
  refine ⟨v, a1, a2, a3, a4, hsv.1, fun x h0 ho hv => ⟨hfn, g, g0, gn, fun k hk hkn => ?_, fun j hjm hjw => ?_⟩⟩
  · by_cases e : k = v
    · subst e
      unfold pstep
      have hgv : g (k + 1) = 0 := by
        have a4' := a4
        unfold jmpW at a4'
        rcases hsv.2 with h1 | h1 | h1 | ⟨_, _, h1, _⟩ | h1
        · omega
        · omega
        · omega
        · exact h1
        · omega
      rw [pk_us]
      refine ⟨h0, Or.inr (Or.inr (Or.inr (Or.inl ⟨by unfold jmpW at a4 ⊢; rw [ho]; exact a4, a5, hgv, Or.inl ⟨by rw [hv]; omega, by rw [hv]; exact Int.le_refl _, ?_⟩⟩)))⟩
      rw [hv, Int.toNat_natCast]; exact gn
    · refine pstep_mono (pk_un e) (fun _ _ => rfl) hkn (Nat.le_refl _) (fun j h1 h2 h3 => ⟨j, ?_, h2, h3⟩) (hs k hk hkn)
      by_cases e2 : j = m
      · rw [e2, a1] at h3; omega
      · omega
  · obtain ⟨u, b1, b2, b3, b4, b5⟩ := hw j (by omega) hjw
    refine ⟨u, b1, b2, b3, ?_, b5⟩
    by_cases e : u = v
    · rw [e, pk_us]; unfold jmpW at a4 ⊢; rw [ho]; exact a4
    · rw [pk_un e]; exact b4
theorem PS_end {f h : Nat} {c w : Nat → Int32} {n : Nat} (hp : PS f h c w n 0) (hlt : f < n) (hn : n ≤ 220) : segOK c f n := by
  obtain ⟨hfn, g, g0, gn, hs, hw⟩ := hp
  have hb : ∀ k, f ≤ k → k ≤ n → g k ≤ k - f := by
    intro k
    induction k with
    | zero => intro h1 h2; have : f = 0 := by omega
              subst this; omega
    | succ k ih =>
      intro h1 h2
      by_cases e : f = k + 1
      · rw [← e, g0]; omega
      · have h3 := ih (by omega) (by omega)
        rcases (hs k (by omega) (by omega)).2 with h4 | h4 | h4 | h4 | h4 <;> omega
  refine ⟨hlt, hn, g, g0, fun k hk hkn => ?_⟩
  have h1 := hb k hk (by omega)
  have h2 := hb (k + 1) (by omega) (by omega)
  obtain ⟨s0, s1⟩ := hs k hk hkn
  refine ⟨s0, by omega, by omega, ?_⟩
  rcases s1 with h4 | h4 | h4 | ⟨b1, b2, b3, b4⟩ | h4
  · exact Or.inl h4
  · exact Or.inr (Or.inl h4)
  · exact Or.inr (Or.inr (Or.inl h4))
  · rcases b4 with ⟨d1, d2, d3⟩ | ⟨j, hj, _⟩
    · exact Or.inr (Or.inr (Or.inr (Or.inl ⟨b1, by omega, by omega, d1, d2, by rw [d3, b2]⟩)))
    · omega
  · exact Or.inr (Or.inr (Or.inr (Or.inr ⟨by omega, by omega, by omega, by omega, by omega, h4.2.2⟩)))
def pnd (w : Nat → Int32) : Nat → Nat
  | 0 => 0
  | m + 1 => pnd w m + (if 2 ≤ cOp (w m) ∧ cOp (w m) ≤ 6 ∨ cOp (w m) = 10 then 1 else 0)
def bcn (w : Nat → Int32) (b : Nat) : Nat → Nat
  | 0 => 0
  | m + 1 => if b ≤ m then bcn w b m + (if 2 ≤ cOp (w m) ∧ cOp (w m) ≤ 6 then 1 else 0) else 0
theorem pnd_congr {w w' : Nat → Int32} : ∀ m, (∀ j, j < m → w' j = w j) → pnd w' m = pnd w m := by
  intro m
  induction m with
  | zero => intro _; rfl
  | succ m ih => intro h; unfold pnd; rw [ih (fun j hj => h j (by omega)), h m (by omega)]
theorem bcn_congr {w w' : Nat → Int32} {b : Nat} : ∀ m, (∀ j, j < m → w' j = w j) → bcn w' b m = bcn w b m := by
  intro m
  induction m with
  | zero => intro _; rfl
  | succ m ih => intro h; unfold bcn; rw [ih (fun j hj => h j (by omega)), h m (by omega)]
theorem bcn_self {w : Nat → Int32} {b : Nat} : ∀ m, m ≤ b → bcn w b m = 0 := by
  intro m
  cases m with
  | zero => intro _; rfl
  | succ m => intro h; unfold bcn; rw [if_neg (by omega)]
/-- the reader's state: s places are kept free for what is still to be noted -/
def ST (f h s : Nat) (c w : Nat → Int32) (n m p : Nat) : Prop := PS f h c w n m ∧ n + pnd w m + s ≤ p ∧ m ≤ p ∧ ∀ j, j < m → 0 ≤ (w j).toInt
theorem ST_note0 {f h s : Nat} {c w : Nat → Int32} {n m p p' : Nat} {x : Int32} (hp : ST f h s c w n m p) (h0 : 0 ≤ x.toInt) (hx : cOp x = 0 ∨ (cOp x = 1 ∧ cV x < 10)) (hpp : p < p') : ST f (h + 1) s (upd c n x) w (n + 1) m p' := by
  obtain ⟨a1, a2, a3, a4⟩ := hp
  exact ⟨PS_app a1 h0 (hx.elim (fun e => Or.inl ⟨e, rfl⟩) (fun e => Or.inr (Or.inl ⟨e.1, e.2, rfl⟩))), by omega, by omega, a4⟩
theorem ST_push {f h s : Nat} {c w : Nat → Int32} {n m p : Nat} {x : Int32} (hp : ST f h s c w n m p) (h0 : 0 ≤ x.toInt) (hx : ¬ jmpW x) : ST f h s c (upd w m x) n (m + 1) (p + 1) := by
  obtain ⟨a1, a2, a3, a4⟩ := hp
  refine ⟨PS_push a1 hx, ?_, by omega, fun j hj => ?_⟩
  · have e9 : pnd (upd w m x) m = pnd w m := pnd_congr m (fun j hj => pk_un (by omega))
    unfold pnd
    rw [e9]
    split <;> omega
  · by_cases e : j = m
    · rw [e, pk_us]; exact h0
    · rw [pk_un e]; exact a4 j (by omega)
theorem ST_bin {f h s : Nat} {c w : Nat → Int32} {n m p : Nat} {x : Int32} (hp : ST f h s c w n (m + 1) p) (hb : binW (w m)) (hh : 2 ≤ h) (h0 : 0 ≤ x.toInt) (hx : cOp x = cOp (w m)) : ST f (h - 1) s (upd c n x) w (n + 1) m p := by
  obtain ⟨a1, a2, a3, a4⟩ := hp
  unfold binW at hb
  refine ⟨PS_app (PS_pop a1 (by unfold jmpW; omega)) h0 (Or.inr (Or.inr (Or.inr ⟨by omega, by omega, hh, by omega⟩))), ?_, by omega, fun j hj => a4 j (by omega)⟩
  unfold pnd at a2
  rw [if_pos (Or.inl hb)] at a2
  omega
theorem ST_not {f h s : Nat} {c w : Nat → Int32} {n m p : Nat} {x : Int32} (hp : ST f h s c w n (m + 1) p) (hb : cOp (w m) = 10) (hh : 1 ≤ h) (h0 : 0 ≤ x.toInt) (hx : cOp x = 10) : ST f h s (upd c n x) w (n + 1) m p := by
  obtain ⟨a1, a2, a3, a4⟩ := hp
  refine ⟨PS_app (PS_pop a1 (by unfold jmpW; omega)) h0 (Or.inr (Or.inr (Or.inl ⟨hx, hh, rfl⟩))), ?_, by omega, fun j hj => a4 j (by omega)⟩
  unfold pnd at a2
  rw [if_pos (Or.inr hb)] at a2
  omega
theorem ST_pop {f h s : Nat} {c w : Nat → Int32} {n m p : Nat} (hp : ST f h s c w n (m + 1) p) (hb : ¬ jmpW (w m)) : ST f h s c w n m p := by
  obtain ⟨a1, a2, a3, a4⟩ := hp
  refine ⟨PS_pop a1 hb, ?_, by omega, fun j hj => a4 j (by omega)⟩
  unfold pnd at a2
  omega
theorem ST_cmp {f s : Nat} {c w : Nat → Int32} {n m p : Nat} {x : Int32} (hp : ST f 2 (s + 1) c w n m p) (h0 : 0 ≤ x.toInt) (hx : 7 ≤ cOp x ∧ cOp x ≤ 9) : ST f 1 s (upd c n x) w (n + 1) m p := by
  obtain ⟨a1, a2, a3, a4⟩ := hp
  exact ⟨PS_app a1 h0 (Or.inr (Or.inr (Or.inr ⟨by omega, by omega, by omega, by omega⟩))), by omega, a3, a4⟩
theorem ST_land {f s : Nat} {c w : Nat → Int32} {n m p : Nat} (hp : ST f 1 s c w n (m + 1) p) (hj : jmpW (w m)) : ∃ v : Nat, cV (w m) = v ∧ f ≤ v ∧ v < n ∧ jmpW (c v) ∧ 0 ≤ (c v).toInt ∧ ∀ x : Int32, 0 ≤ x.toInt → cOp x = cOp (c v) → cV x = n → ST f 1 s (upd c v x) w n m p := by
  obtain ⟨a1, a2, a3, a4⟩ := hp
  obtain ⟨v, b1, b2, b3, b4, b5, b6⟩ := PS_land a1 hj
  refine ⟨v, b1, b2, b3, b4, b5, fun x h0 h1 h2 => ⟨b6 x h0 h1 h2, ?_, by omega, fun j hj => a4 j (by omega)⟩⟩
  unfold pnd at a2
  omega
theorem ST_jump {f s : Nat} {c w : Nat → Int32} {n m p : Nat} {x y : Int32} (hp : ST f 1 s c w n m p) (h0 : 0 ≤ x.toInt) (hx : jmpW x) (hy0 : 0 ≤ y.toInt) (hy : jmpW y) (hv : cV y = n) : ST f 0 s (upd c n x) (upd w m y) (n + 1) (m + 1) (p + 1) := by
  obtain ⟨a1, a2, a3, a4⟩ := hp
  refine ⟨PS_jump a1 h0 hx hy hv, ?_, by omega, fun j hj => ?_⟩
  · have e9 : pnd (upd w m y) m = pnd w m := pnd_congr m (fun j hj => pk_un (by omega))
    unfold pnd
    rw [e9, pk_us, if_neg (by unfold jmpW at hy; omega)]
    omega
  · by_cases e : j = m
    · rw [e, pk_us]; exact hy0
    · rw [pk_un e]; exact a4 j (by omega)
theorem ST_adv {f h s s' : Nat} {c w : Nat → Int32} {n m p p' : Nat} (hp : ST f h s c w n m p) (h1 : p ≤ p') (h2 : s' + p ≤ s + p') : ST f h s' c w n m p' := by
  obtain ⟨a1, a2, a3, a4⟩ := hp
  exact ⟨a1, by omega, by omega, a4⟩
theorem ST_start {f s : Nat} {c w : Nat → Int32} {p : Nat} (h : f + s ≤ p) : ST f 0 s c w f 0 p := ⟨⟨Nat.le_refl _, fun _ => 0, rfl, rfl, fun k h1 h2 => by omega, fun j hj => by omega⟩, by unfold pnd; omega, by omega, fun j hj => by omega⟩
theorem segOK_congr {c c' : Nat → Int32} {f t : Nat} (h : segOK c f t) (he : ∀ k, k < t → c' k = c k) : segOK c' f t := by
  obtain ⟨a1, a2, g, a3, a4⟩ := h
  refine ⟨a1, a2, g, a3, fun k h1 h2 => ?_⟩
  have := a4 k h1 h2
  unfold stepOK at this ⊢
  rw [he k h2]; exact this
theorem cOp_mk {x : Int32} {o v : Int} (hx : x.toInt = 1048576 * o + v) (hv : 0 ≤ v ∧ v < 1048576) : cOp x = o ∧ cV x = v := by
  unfold cOp cV; rw [hx]; omega
