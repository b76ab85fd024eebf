-- the class's steps and the machine's
def qSg (x : Int) : Int := if x = 0 then 48 else if x = 1 then 107 else if x = 2 then 43 else if x = 3 then 45 else if x = 4 then 42 else if x = 5 then 47 else if x = 6 then 37 else if x = 7 then 60 else if x = 8 then 62 else if x = 9 then 61 else if x = 10 then 33 else if x = 11 then 38 else if x = 12 then 124 else -1
def qRel (sg op c : Nat → Int32) (n : Nat) : Prop := ∀ k, k < n → (sg k).toInt = qSg (cOp (c k)) ∧ (op k).toInt = cV (c k) ∧ 0 ≤ cOp (c k) ∧ cOp (c k) ≤ 12
section QREL
variable {sg op c c2 : Nat → Int32} {n n2 : Nat}
theorem qRel_add {a v : Nat} {s u : Int32} (h : qRel sg op c n) (ha : a ≤ 12) (hv : v < 1048576) (e1 : s.toInt = qSg (a : Int)) (e2 : u.toInt = (v : Int)) : qRel (upd sg n s) (upd op n u) (upd c n (nI (1048576 * a + v))) (n + 1) := by
  intro k hk
  obtain ⟨c1, c2⟩ := cOp_n (o := a) (v := v) (by omega) hv
  by_cases e : k = n
  · rw [e, pk_us, pk_us, pk_us, c1, c2]; exact ⟨e1, e2, by omega, by omega⟩
  · rw [pk_un e, pk_un e, pk_un e]; exact h k (by omega)
theorem qRel_lnd {f : Nat} {u : Int32} (h : qRel sg op c n) (hf : f < n) (hn : n < 1048576) (eu : u.toInt = (n : Int)) : qRel sg (upd op f u) (upd c f (nI (1048576 * (cOp (c f)).toNat + n))) n := by
  intro k hk
  obtain ⟨a1, a2, a3, a4⟩ := h f hf
  obtain ⟨c1, c2⟩ := cOp_n (o := (cOp (c f)).toNat) (v := n) (by omega) hn
  by_cases e : k = f
  · rw [e, pk_us, pk_us, c1, c2]
    refine ⟨?_, eu, by omega, by omega⟩
    rw [a1, show (((cOp (c f)).toNat : Nat) : Int) = cOp (c f) by omega]
  · rw [pk_un e, pk_un e]; exact h k hk
end QREL
-- what a reading method of the class has done, by the machine
def qEd (T : qC) : Prop := T.1 = 20 ∧ 1 ≤ T.2.2.1.toInt
def qX (tx : Nat → Int) (ph1 ph2 : Nat) (o : Int32) (K E : Int → Prop) (fx : Prop) (i : Nat → Int32) (r : Nat → Nat → Int32) (i2 : Nat → Int32) (r2 : Nat → Nat → Int32) (z : Int32) : Prop :=
  ∀ (m n b rc s9 : Nat) (hf : qE) (w c : Nat → Int32), (i 7).toInt = (n : Int) → n + s9 ≤ (i 4).toInt.toNat → qRel (r 17) (r 18) c n → (fx → b ≤ m) → (fx ∨ 1 ≤ m) → K (qTop w m) →
    (z.toInt ≠ 0 → ∃ (n2 b2 rc2 : Nat) (w2 c2 : Nat → Int32), qR tx (qc ph1 (i 4).toInt.toNat o m n b rc hf w c) (qc ph2 (i2 4).toInt.toNat o m n2 b2 rc2 hf w2 c2) ∧ (i2 7).toInt = (n2 : Int) ∧ n2 + s9 ≤ (i2 4).toInt.toNat ∧ qRel (r2 17) (r2 18) c2 n2 ∧ n ≤ n2 ∧ (∀ k, k < m → w2 k = w k) ∧ (∀ k, k < n → c2 k = c k) ∧ E (tx (i2 4).toInt.toNat) ∧ (fx → b2 = b ∧ rc2 = rc)) ∧
    (z.toInt = 0 → ∃ T : qC, qR tx (qc ph1 (i 4).toInt.toNat o m n b rc hf w c) T ∧ qEd T ∧ (i2 5).toInt = -1000 * T.2.2.1.toInt - (T.2.1 : Int))
-- a step was added, if there was room
def qAdd (i : Nat → Int32) (r : Nat → Nat → Int32) (i2 : Nat → Int32) (r2 : Nat → Nat → Int32) (s u : Int32) : Prop := (i 7).toInt < 200 → (i2 7).toInt = (i 7).toInt + 1 ∧ r2 17 = upd (r 17) (i 7).toInt.toNat s ∧ r2 18 = upd (r 18) (i 7).toInt.toNat u
def qK3 (t : Int) : Prop := ¬ (4 ≤ t ∧ t ≤ 6)
def qK4 (t : Int) : Prop := ¬ (2 ≤ t ∧ t ≤ 6)
def qE3 (x : Int) : Prop := ¬ 4 ≤ qSum x
def qE4 (x : Int) : Prop := qSum x = -1
def qTt (_ : Int) : Prop := True
def qKa (t : Int) : Prop := ¬ (2 ≤ t ∧ t ≤ 6) ∧ t ≠ 10 ∧ t ≠ 11
def qKo (t : Int) : Prop := ¬ (2 ≤ t ∧ t ≤ 6) ∧ t ≠ 10 ∧ t ≠ 11 ∧ t ≠ 12
def qEa (x : Int) : Prop := x ≠ 38
def qEo (x : Int) : Prop := x ≠ 38 ∧ x ≠ 124
section QX
variable {tx : Nat → Int} {ph1 ph2 : Nat} {o : Int32} {K E : Int → Prop} {fx : Prop} {i i1 i2 i3 : Nat → Int32} {r r1 r2 r3 : Nat → Nat → Int32} {z : Int32} {a a2 : Nat}
theorem cOp14 : cOp (nI 14680064) = 14 := by decide
theorem cOp13 : cOp (nI 13631488) = 13 := by decide
theorem cOp10 : cOp (nI 10485760) = 10 := by decide
theorem qTop_u {w : Nat → Int32} {m : Nat} {x : Int32} : qTop (upd w m x) (m + 1) = cOp x := by rw [qTop_s, pk_us]
-- it fails at once
theorem qX_fail {p9 : Nat} {k9 : Int32} {kz : Int} (h : ∀ (m n b rc : Nat) (hf : qE) (w c : Nat → Int32), qR tx (qc ph1 (i 4).toInt.toNat o m n b rc hf w c) (qc 20 p9 k9 m n b rc hf w c)) (e : (i2 5).toInt = -1000 * kz - (p9 : Int)) (hk : k9.toInt = kz := by decide) (h1 : 1 ≤ kz := by decide) : qX tx ph1 ph2 o K E fx i r i2 r2 0 := by
  intro m n b rc s9 hf w c _ _ _ _ _ _
  exact ⟨fun h9 => absurd rfl h9, fun _ => ⟨_, h m n b rc hf w c, ⟨rfl, by show 1 ≤ k9.toInt; rw [hk]; exact h1⟩, by show (i2 5).toInt = -1000 * k9.toInt - (p9 : Int); rw [hk]; exact e⟩⟩
-- a step is noted
theorem qX_note {d k v : Nat} {s u : Int32} (h : ∀ (m n b rc : Nat) (hf : qE) (w c : Nat → Int32), qR tx (qc 0 (i 4).toInt.toNat o m n b rc hf w c) (qc 1 ((i 4).toInt.toNat + d) o m (n + 1) b rc hf w (upd c n (nI (1048576 * k + v))))) (h0 : 0 ≤ (i 4).toInt) (h200 : (i 4).toInt < 200) (hd : 1 ≤ d) (e4 : (i2 4).toInt = (i 4).toInt + (d : Int)) (hA : qAdd i r i2 r2 s u) (hk : k ≤ 12) (hv : v < 1048576) (es : s.toInt = qSg (k : Int)) (eu : u.toInt = (v : Int)) : qX tx 0 1 o qTt qTt True i r i2 r2 1 := by
  intro m n b rc s9 hf w c h7 hs hr hb _ _
  refine ⟨fun _ => ?_, fun h9 => absurd h9 (by decide)⟩
  have hn : (i 7).toInt.toNat = n := by omega
  have ha : (i2 4).toInt.toNat = (i 4).toInt.toNat + d := by omega
  obtain ⟨e7, e17, e18⟩ := hA (by omega)
  rw [hn] at e17 e18
  refine ⟨n + 1, b, rc, w, _, by rw [ha]; exact h m n b rc hf w c, by omega, by omega, by rw [e17, e18]; exact qRel_add hr hk hv es eu, by omega, fun _ _ => rfl, fun q hq => pk_un (by omega), trivial, fun _ => ⟨rfl, rfl⟩⟩
-- a bracket: what stands in it fails
theorem qf_brkE (ho : o ≠ 6) (h91 : tx (i 4).toInt.toNat = 91) (h0 : 0 ≤ (i 4).toInt) (e4 : (i1 4).toInt = (i 4).toInt + 1) (e7 : i1 7 = i 7) (e17 : r1 17 = r 17) (e18 : r1 18 = r 18) (hX : qX tx 0 4 (o + 1) qK4 qE4 True i1 r1 i2 r2 0) : qX tx 0 1 o qTt qTt True i r i2 r2 0 := by
  intro m n b rc s9 hf w c h7 hs hr hb _ _
  refine ⟨fun h9 => absurd rfl h9, fun _ => ?_⟩
  have ha : (i1 4).toInt.toNat = (i 4).toInt.toNat + 1 := by omega
  obtain ⟨T, t1, t2, t3⟩ := (hX (m + 1) n b rc s9 hf (upd w m (nI 14680064)) c (by rw [e7]; exact h7) (by omega) (by rw [e17, e18]; exact hr) (fun _ => by have h9 := hb trivial; omega) (Or.inl trivial) (by rw [qTop_u, cOp14]; unfold qK4; omega)).2 rfl
  rw [ha] at t1
  exact ⟨T, qR_tr (qm_brk h91 ho) t1, t2, t3⟩
-- a bracket: read to its end, where it is closed or not
theorem qf_brk (ho : o ≠ 6) (h91 : tx (i 4).toInt.toNat = 91) (h0 : 0 ≤ (i 4).toInt) (e4 : (i1 4).toInt = (i 4).toInt + 1) (e7 : i1 7 = i 7) (e17 : r1 17 = r 17) (e18 : r1 18 = r 18) (hX : qX tx 0 4 (o + 1) qK4 qE4 True i1 r1 i2 r2 1) (h2 : 0 ≤ (i2 4).toInt)
    (hz : (z = 1 ∧ tx (i2 4).toInt.toNat = 93 ∧ (i3 4).toInt = (i2 4).toInt + 1 ∧ i3 7 = i2 7 ∧ r3 17 = r2 17 ∧ r3 18 = r2 18) ∨ (z = 0 ∧ tx (i2 4).toInt.toNat ≠ 93 ∧ (i3 5).toInt = -1000 - (i2 4).toInt)) : qX tx 0 1 o qTt qTt True i r i3 r3 z := by
  intro m n b rc s9 hf w c h7 hs hr hb _ _
  have ha : (i1 4).toInt.toNat = (i 4).toInt.toNat + 1 := by omega
  obtain ⟨n2, b2, rc2, w2, c2, t1, t2, t3, t4, t5, t6, t7, t8, t9⟩ := (hX (m + 1) n b rc (s9 + 1) hf (upd w m (nI 14680064)) c (by rw [e7]; exact h7) (by omega) (by rw [e17, e18]; exact hr) (fun _ => by have h9 := hb trivial; omega) (Or.inl trivial) (by rw [qTop_u, cOp14]; unfold qK4; omega)).1 (by decide)
  obtain ⟨rfl, rfl⟩ := t9 trivial
  rw [ha] at t1
  have hm : w2 m = nI 14680064 := (t6 m (by omega)).trans pk_us
  have hH : qHas w2 b2 (m + 1) = true := (qHas_iff _).mpr ⟨m, hb trivial, by omega, by rw [hm]; exact cOp14⟩
  have hsm : ¬ (2 ≤ qSum (tx (i2 4).toInt.toNat) ∧ qSum (tx (i2 4).toInt.toNat) ≤ 3) := by have h9 : qSum (tx (i2 4).toInt.toNat) = -1 := t8; omega
  rcases hz with ⟨rfl, g1, g2, g3, g4, g5⟩ | ⟨rfl, g1, g2⟩
  · refine ⟨fun _ => ?_, fun h9 => absurd h9 (by decide)⟩
    have hb4 : (i3 4).toInt.toNat = (i2 4).toInt.toNat + 1 := by omega
    have t10 := qR_tr (qR_tr (qm_brk h91 ho) t1) (qm_cls hsm hH g1)
    rw [o_11, Nat.add_sub_cancel] at t10
    refine ⟨n2, b2, rc2, w2, c2, by rw [hb4]; exact t10, by rw [g3]; exact t2, by omega, by rw [g4, g5]; exact t4, t5, fun k hk => (t6 k (by omega)).trans (pk_un (by omega)), t7, trivial, fun _ => ⟨rfl, rfl⟩⟩
  · refine ⟨fun h9 => absurd rfl h9, fun _ => ⟨_, qR_tr (qR_tr (qm_brk h91 ho) t1) (qm_noc hsm hH g1), ⟨rfl, Int.le_refl 1⟩, ?_⟩⟩
    show (i3 5).toInt = -1000 * 1 - (((i2 4).toInt.toNat : Nat) : Int)
    omega
theorem qSg_sum {x : Int} (h : 2 ≤ qSum x) : qSg (qSum x) = x := by
  unfold qSum at *
  by_cases h1 : x = 43
  · rw [if_pos h1, h1]; rfl
  · rw [if_neg h1] at h ⊢
    by_cases h2 : x = 45
    · rw [if_pos h2, h2]; rfl
    · rw [if_neg h2] at h ⊢
      by_cases h3 : x = 42
      · rw [if_pos h3, h3]; rfl
      · rw [if_neg h3] at h ⊢
        by_cases h4 : x = 47
        · rw [if_pos h4, h4]; rfl
        · rw [if_neg h4] at h ⊢
          by_cases h5 : x = 37
          · rw [if_pos h5, h5]; rfl
          · rw [if_neg h5] at h; omega
-- a term: between two of its pieces
def qLT (tx : Nat → Int) (o : Int32) (i : Nat → Int32) (r : Nat → Nat → Int32) (ic : Nat → Int32) (rx : Nat → Nat → Int32) (sg : Int32) : Prop :=
  ∀ (m n b rc s9 : Nat) (hf : qE) (w c : Nat → Int32), (i 7).toInt = (n : Int) → n + s9 ≤ (i 4).toInt.toNat → qRel (r 17) (r 18) c n → b ≤ m → qK3 (qTop w m) →
    ∃ (m1 n1 : Nat) (w1 c1 : Nat → Int32), qR tx (qc 0 (i 4).toInt.toNat o m n b rc hf w c) (qc 0 (ic 4).toInt.toNat o m1 n1 b rc hf w1 c1) ∧ (ic 7).toInt = (n1 : Int) ∧ qRel (rx 17) (rx 18) c1 n1 ∧ n ≤ n1 ∧ (∀ k, k < m → w1 k = w k) ∧ (∀ k, k < n → c1 k = c k) ∧ ((sg.toInt = -1 ∧ m1 = m ∧ n1 + s9 ≤ (ic 4).toInt.toNat) ∨ (sg.toInt ≠ -1 ∧ m1 = m + 1 ∧ w1 m = nI (1048576 * (qSum sg.toInt).toNat) ∧ n1 + 1 + s9 ≤ (ic 4).toInt.toNat ∧ 4 ≤ qSum sg.toInt ∧ qSum sg.toInt ≤ 6))
def qMT (tx : Nat → Int) (o : Int32) (i : Nat → Int32) (r : Nat → Nat → Int32) (ic : Nat → Int32) (rx : Nat → Nat → Int32) : Prop :=
  ∀ (m n b rc s9 : Nat) (hf : qE) (w c : Nat → Int32), (i 7).toInt = (n : Int) → n + s9 ≤ (i 4).toInt.toNat → qRel (r 17) (r 18) c n → b ≤ m → qK3 (qTop w m) →
    ∃ (n1 : Nat) (w1 c1 : Nat → Int32), qR tx (qc 0 (i 4).toInt.toNat o m n b rc hf w c) (qc 2 (ic 4).toInt.toNat o m n1 b rc hf w1 c1) ∧ (ic 7).toInt = (n1 : Int) ∧ n1 + s9 ≤ (ic 4).toInt.toNat ∧ qRel (rx 17) (rx 18) c1 n1 ∧ n ≤ n1 ∧ (∀ k, k < m → w1 k = w k) ∧ (∀ k, k < n → c1 k = c k)
theorem qLT_0 {sg : Int32} (h : sg.toInt = -1) : qLT tx o i r i r sg := fun m n b rc s9 hf w c h7 hs hr _ _ => ⟨m, n, w, c, qR_rf, h7, hr, Nat.le_refl _, fun _ _ => rfl, fun _ _ => rfl, Or.inl ⟨h, rfl, hs⟩⟩
theorem qLT_f {sg : Int32} (hL : qLT tx o i r i1 r1 sg) (hX : qX tx 0 1 o qTt qTt True i1 r1 i2 r2 0) : qX tx 0 3 o qK3 qE3 True i r i2 r2 0 := by
  intro m n b rc s9 hf w c h7 hs hr hb _ hK
  refine ⟨fun h9 => absurd rfl h9, fun _ => ?_⟩
  obtain ⟨m1, n1, w1, c1, t1, t2, t3, t4, t5, t6, t7⟩ := hL m n b rc s9 hf w c h7 hs hr (hb trivial) hK
  have hbm := hb trivial
  have hK1 : qTt (qTop w1 m1) := by
    rcases t7 with ⟨_, rfl, _⟩ | ⟨_, rfl, e, _, e2, e3⟩
    · rw [qTop_co t5]; exact trivial
    · exact trivial
  obtain ⟨T, u1, u2, u3⟩ := (hX m1 n1 b rc 0 hf w1 c1 t2 (by rcases t7 with ⟨_, _, h⟩ | ⟨_, _, _, h, _⟩ <;> omega) t3 (fun _ => by rcases t7 with ⟨_, h, _⟩ | ⟨_, h, _⟩ <;> omega) (Or.inl trivial) hK1).2 rfl
  exact ⟨T, qR_tr t1 u1, u2, u3⟩
theorem qLT_c {sg : Int32} (hL : qLT tx o i r i1 r1 sg) (hX : qX tx 0 1 o qTt qTt True i1 r1 i2 r2 1) (h2 : 0 ≤ (i2 4).toInt) (h22 : (i2 4).toInt ≤ 200) (e4 : i3 4 = i2 4)
    (ha : (sg.toInt = -1 ∧ i3 7 = i2 7 ∧ r3 17 = r2 17 ∧ r3 18 = r2 18) ∨ (sg.toInt ≠ -1 ∧ qAdd i2 r2 i3 r3 sg 0)) : qMT tx o i r i3 r3 := by
  intro m n b rc s9 hf w c h7 hs hr hb hK
  obtain ⟨m1, n1, w1, c1, t1, t2, t3, t4, t5, t6, t7⟩ := hL m n b rc s9 hf w c h7 hs hr hb hK
  rcases t7 with ⟨a1, rfl, a2⟩ | ⟨a1, rfl, a2, a3, a4, a5⟩
  · have hK1 : qTt (qTop w1 m1) := by rw [qTop_co t5]; exact trivial
    obtain ⟨n2, b2, rc2, w2, c2, u1, u2, u3, u4, u5, u6, u7, u8, u9⟩ := (hX m1 n1 b rc s9 hf w1 c1 t2 a2 t3 (fun _ => hb) (Or.inl trivial) hK1).1 (by decide)
    obtain ⟨rfl, rfl⟩ := u9 trivial
    have hK2 : qK3 (qTop w2 m1) := by rw [qTop_co u6, qTop_co t5]; exact hK
    rcases ha with ⟨_, g1, g2, g3⟩ | ⟨g0, _⟩
    · rw [e4, g1, g2, g3]
      exact ⟨n2, w2, c2, qR_tr (qR_tr t1 u1) (qm_12 hK2), u2, u3, u4, by omega, fun k hk => (u6 k hk).trans (t5 k hk), fun k hk => (u7 k (by omega)).trans (t6 k hk)⟩
    · exact absurd a1 g0
  · obtain ⟨q1, q2⟩ := cOp_n (o := (qSum sg.toInt).toNat) (v := 0) (by omega) (by omega)
    rw [Nat.add_zero] at q1 q2
    have hK1 : qTt (qTop w1 (m + 1)) := by exact trivial
    obtain ⟨n2, b2, rc2, w2, c2, u1, u2, u3, u4, u5, u6, u7, u8, u9⟩ := (hX (m + 1) n1 b rc (s9 + 1) hf w1 c1 t2 (by omega) t3 (fun _ => by omega) (Or.inl trivial) hK1).1 (by decide)
    obtain ⟨rfl, rfl⟩ := u9 trivial
    have hw : qTop w2 (m + 1) = qSum sg.toInt := by rw [qTop_s, u6 m (by omega), a2, q1]; omega
    have hK2 : qK3 (qTop w2 m) := by rw [qTop_co (w := w) (fun k hk => (u6 k (by omega)).trans (t5 k hk))]; exact hK
    rcases ha with ⟨g0, _⟩ | ⟨_, hA⟩
    · exact absurd g0 a1
    · obtain ⟨g1, g2, g3⟩ := hA (by omega)
      have hn2 : (i2 7).toInt.toNat = n2 := by omega
      rw [hn2] at g2 g3
      have v1 := qR_tr (qR_tr t1 u1) (qm_pop1 (by rw [hw]; omega))
      rw [Nat.add_sub_cancel, hw] at v1
      rw [e4, g2, g3]
      refine ⟨n2 + 1, w2, _, qR_tr v1 (qm_12 hK2), by omega, by omega, ?_, by omega, fun k hk => (u6 k (by omega)).trans (t5 k hk), fun k hk => (pk_un (by omega)).trans ((u7 k (by omega)).trans (t6 k hk))⟩
      have h9 := qRel_add (a := (qSum sg.toInt).toNat) (v := 0) (s := sg) (u := 0) u4 (by omega) (by omega) (by rw [show (((qSum sg.toInt).toNat : Nat) : Int) = qSum sg.toInt by omega]; exact (qSg_sum (by omega)).symm) rfl
      rw [Nat.add_zero] at h9
      exact h9
theorem qLT_s {sg : Int32} (hM : qMT tx o i r i1 r1) (h : 4 ≤ qSum sg.toInt) (hx : sg.toInt = tx (i1 4).toInt.toNat) (h0 : 0 ≤ (i1 4).toInt) (e4 : (i2 4).toInt = (i1 4).toInt + 1) (e7 : i2 7 = i1 7) (e17 : r2 17 = r1 17) (e18 : r2 18 = r1 18) : qLT tx o i r i2 r2 sg := by
  intro m n b rc s9 hf w c h7 hs hr hb hK
  obtain ⟨n1, w1, c1, t1, t2, t3, t4, t5, t6, t7⟩ := hM m n b rc s9 hf w c h7 hs hr hb hK
  have ha : (i2 4).toInt.toNat = (i1 4).toInt.toNat + 1 := by omega
  have hq := qSum_r sg.toInt
  have hne : sg.toInt ≠ -1 := fun h9 => by rw [h9] at h; exact absurd h (by decide)
  rw [hx] at h
  refine ⟨m + 1, n1, _, c1, by rw [ha]; exact qR_tr t1 (qm_tim h), by rw [e7]; exact t2, by rw [e17, e18]; exact t4, t5, fun k hk => (pk_un (by omega)).trans (t6 k hk), t7, Or.inr ⟨hne, rfl, by rw [pk_us, hx], by omega, by rw [hx]; exact h, by omega⟩⟩
theorem qLT_e (hM : qMT tx o i r i1 r1) (h : ¬ 4 ≤ qSum (tx (i1 4).toInt.toNat)) : qX tx 0 3 o qK3 qE3 True i r i1 r1 1 := by
  intro m n b rc s9 hf w c h7 hs hr hb _ hK
  refine ⟨fun _ => ?_, fun h9 => absurd h9 (by decide)⟩
  obtain ⟨n1, w1, c1, t1, t2, t3, t4, t5, t6, t7⟩ := hM m n b rc s9 hf w c h7 hs hr (hb trivial) hK
  exact ⟨n1, b, rc, w1, c1, qR_tr t1 (qm_23 h), t2, t3, t4, t5, t6, t7, h, fun _ => ⟨rfl, rfl⟩⟩
-- a sum: between two of its pieces
def qLS (tx : Nat → Int) (o : Int32) (i : Nat → Int32) (r : Nat → Nat → Int32) (ic : Nat → Int32) (rx : Nat → Nat → Int32) (sg : Int32) : Prop :=
  ∀ (m n b rc s9 : Nat) (hf : qE) (w c : Nat → Int32), (i 7).toInt = (n : Int) → n + s9 ≤ (i 4).toInt.toNat → qRel (r 17) (r 18) c n → b ≤ m → qK4 (qTop w m) →
    ∃ (m1 n1 : Nat) (w1 c1 : Nat → Int32), qR tx (qc 0 (i 4).toInt.toNat o m n b rc hf w c) (qc 0 (ic 4).toInt.toNat o m1 n1 b rc hf w1 c1) ∧ (ic 7).toInt = (n1 : Int) ∧ qRel (rx 17) (rx 18) c1 n1 ∧ n ≤ n1 ∧ (∀ k, k < m → w1 k = w k) ∧ (∀ k, k < n → c1 k = c k) ∧ ((sg.toInt = -1 ∧ m1 = m ∧ n1 + s9 ≤ (ic 4).toInt.toNat) ∨ (sg.toInt ≠ -1 ∧ m1 = m + 1 ∧ w1 m = nI (1048576 * (qSum sg.toInt).toNat) ∧ n1 + 1 + s9 ≤ (ic 4).toInt.toNat ∧ 2 ≤ qSum sg.toInt ∧ qSum sg.toInt ≤ 3))
def qMS (tx : Nat → Int) (o : Int32) (i : Nat → Int32) (r : Nat → Nat → Int32) (ic : Nat → Int32) (rx : Nat → Nat → Int32) : Prop :=
  ∀ (m n b rc s9 : Nat) (hf : qE) (w c : Nat → Int32), (i 7).toInt = (n : Int) → n + s9 ≤ (i 4).toInt.toNat → qRel (r 17) (r 18) c n → b ≤ m → qK4 (qTop w m) →
    ∃ (n1 : Nat) (w1 c1 : Nat → Int32), qR tx (qc 0 (i 4).toInt.toNat o m n b rc hf w c) (qc 4 (ic 4).toInt.toNat o m n1 b rc hf w1 c1) ∧ (ic 7).toInt = (n1 : Int) ∧ n1 + s9 ≤ (ic 4).toInt.toNat ∧ qRel (rx 17) (rx 18) c1 n1 ∧ n ≤ n1 ∧ (∀ k, k < m → w1 k = w k) ∧ (∀ k, k < n → c1 k = c k) ∧ qE3 (tx (ic 4).toInt.toNat)
theorem qLS_0 {sg : Int32} (h : sg.toInt = -1) : qLS tx o i r i r sg := fun m n b rc s9 hf w c h7 hs hr _ _ => ⟨m, n, w, c, qR_rf, h7, hr, Nat.le_refl _, fun _ _ => rfl, fun _ _ => rfl, Or.inl ⟨h, rfl, hs⟩⟩
theorem qLS_f {sg : Int32} (hL : qLS tx o i r i1 r1 sg) (hX : qX tx 0 3 o qK3 qE3 True i1 r1 i2 r2 0) : qX tx 0 4 o qK4 qE4 True i r i2 r2 0 := by
  intro m n b rc s9 hf w c h7 hs hr hb _ hK
  refine ⟨fun h9 => absurd rfl h9, fun _ => ?_⟩
  obtain ⟨m1, n1, w1, c1, t1, t2, t3, t4, t5, t6, t7⟩ := hL m n b rc s9 hf w c h7 hs hr (hb trivial) hK
  have hbm := hb trivial
  have hK1 : qK3 (qTop w1 m1) := by
    rcases t7 with ⟨_, rfl, _⟩ | ⟨_, rfl, e, _, e2, e3⟩
    · rw [qTop_co t5]; unfold qK4 at hK; unfold qK3; omega
    · rw [qTop_s, e]; have h9 := (cOp_n (o := (qSum sg.toInt).toNat) (v := 0) (by omega) (by omega)).1; rw [Nat.add_zero] at h9; rw [h9]; unfold qK3; omega
  obtain ⟨T, u1, u2, u3⟩ := (hX m1 n1 b rc 0 hf w1 c1 t2 (by rcases t7 with ⟨_, _, h⟩ | ⟨_, _, _, h, _⟩ <;> omega) t3 (fun _ => by rcases t7 with ⟨_, h, _⟩ | ⟨_, h, _⟩ <;> omega) (Or.inl trivial) hK1).2 rfl
  exact ⟨T, qR_tr t1 u1, u2, u3⟩
theorem qLS_c {sg : Int32} (hL : qLS tx o i r i1 r1 sg) (hX : qX tx 0 3 o qK3 qE3 True i1 r1 i2 r2 1) (h2 : 0 ≤ (i2 4).toInt) (h22 : (i2 4).toInt ≤ 200) (e4 : i3 4 = i2 4)
    (ha : (sg.toInt = -1 ∧ i3 7 = i2 7 ∧ r3 17 = r2 17 ∧ r3 18 = r2 18) ∨ (sg.toInt ≠ -1 ∧ qAdd i2 r2 i3 r3 sg 0)) : qMS tx o i r i3 r3 := by
  intro m n b rc s9 hf w c h7 hs hr hb hK
  obtain ⟨m1, n1, w1, c1, t1, t2, t3, t4, t5, t6, t7⟩ := hL m n b rc s9 hf w c h7 hs hr hb hK
  rcases t7 with ⟨a1, rfl, a2⟩ | ⟨a1, rfl, a2, a3, a4, a5⟩
  · have hK1 : qK3 (qTop w1 m1) := by rw [qTop_co t5]; unfold qK4 at hK; unfold qK3; omega
    obtain ⟨n2, b2, rc2, w2, c2, u1, u2, u3, u4, u5, u6, u7, u8, u9⟩ := (hX m1 n1 b rc s9 hf w1 c1 t2 a2 t3 (fun _ => hb) (Or.inl trivial) hK1).1 (by decide)
    obtain ⟨rfl, rfl⟩ := u9 trivial
    have hK2 : qK4 (qTop w2 m1) := by rw [qTop_co u6, qTop_co t5]; exact hK
    rcases ha with ⟨_, g1, g2, g3⟩ | ⟨g0, _⟩
    · rw [e4, g1, g2, g3]
      exact ⟨n2, w2, c2, qR_tr (qR_tr t1 u1) (qm_34 hK2), u2, u3, u4, by omega, fun k hk => (u6 k hk).trans (t5 k hk), fun k hk => (u7 k (by omega)).trans (t6 k hk), u8⟩
    · exact absurd a1 g0
  · obtain ⟨q1, q2⟩ := cOp_n (o := (qSum sg.toInt).toNat) (v := 0) (by omega) (by omega)
    rw [Nat.add_zero] at q1 q2
    have hK1 : qK3 (qTop w1 (m + 1)) := by rw [qTop_s, a2, q1]; unfold qK3; omega
    obtain ⟨n2, b2, rc2, w2, c2, u1, u2, u3, u4, u5, u6, u7, u8, u9⟩ := (hX (m + 1) n1 b rc (s9 + 1) hf w1 c1 t2 (by omega) t3 (fun _ => by omega) (Or.inl trivial) hK1).1 (by decide)
    obtain ⟨rfl, rfl⟩ := u9 trivial
    have hw : qTop w2 (m + 1) = qSum sg.toInt := by rw [qTop_s, u6 m (by omega), a2, q1]; omega
    have hK2 : qK4 (qTop w2 m) := by rw [qTop_co (w := w) (fun k hk => (u6 k (by omega)).trans (t5 k hk))]; exact hK
    rcases ha with ⟨g0, _⟩ | ⟨_, hA⟩
    · exact absurd g0 a1
    · obtain ⟨g1, g2, g3⟩ := hA (by omega)
      have hn2 : (i2 7).toInt.toNat = n2 := by omega
      rw [hn2] at g2 g3
      have v1 := qR_tr (qR_tr t1 u1) (qm_pop3 (by rw [hw]; omega))
      rw [Nat.add_sub_cancel, hw] at v1
      rw [e4, g2, g3]
      refine ⟨n2 + 1, w2, _, qR_tr v1 (qm_34 hK2), by omega, by omega, ?_, by omega, fun k hk => (u6 k (by omega)).trans (t5 k hk), fun k hk => (pk_un (by omega)).trans ((u7 k (by omega)).trans (t6 k hk)), u8⟩
      have h9 := qRel_add (a := (qSum sg.toInt).toNat) (v := 0) (s := sg) (u := 0) u4 (by omega) (by omega) (by rw [show (((qSum sg.toInt).toNat : Nat) : Int) = qSum sg.toInt by omega]; exact (qSg_sum (by omega)).symm) rfl
      rw [Nat.add_zero] at h9
      exact h9
theorem qLS_s {sg : Int32} (hM : qMS tx o i r i1 r1) (h : 2 ≤ qSum sg.toInt) (h3 : qSum sg.toInt ≤ 3) (hx : sg.toInt = tx (i1 4).toInt.toNat) (h0 : 0 ≤ (i1 4).toInt) (e4 : (i2 4).toInt = (i1 4).toInt + 1) (e7 : i2 7 = i1 7) (e17 : r2 17 = r1 17) (e18 : r2 18 = r1 18) : qLS tx o i r i2 r2 sg := by
  intro m n b rc s9 hf w c h7 hs hr hb hK
  obtain ⟨n1, w1, c1, t1, t2, t3, t4, t5, t6, t7, t8⟩ := hM m n b rc s9 hf w c h7 hs hr hb hK
  have ha : (i2 4).toInt.toNat = (i1 4).toInt.toNat + 1 := by omega
  have hne : sg.toInt ≠ -1 := fun h9 => by rw [h9] at h; exact absurd h (by decide)
  rw [hx] at h h3
  refine ⟨m + 1, n1, _, c1, by rw [ha]; exact qR_tr t1 (qm_pls ⟨h, h3⟩), by rw [e7]; exact t2, by rw [e17, e18]; exact t4, t5, fun k hk => (pk_un (by omega)).trans (t6 k hk), t7, Or.inr ⟨hne, rfl, by rw [pk_us, hx], by omega, by rw [hx]; exact h, by rw [hx]; exact h3⟩⟩
theorem qLS_e (hM : qMS tx o i r i1 r1) (h : ¬ (2 ≤ qSum (tx (i1 4).toInt.toNat) ∧ qSum (tx (i1 4).toInt.toNat) ≤ 3)) : qX tx 0 4 o qK4 qE4 True i r i1 r1 1 := by
  intro m n b rc s9 hf w c h7 hs hr hb _ hK
  refine ⟨fun _ => ?_, fun h9 => absurd h9 (by decide)⟩
  obtain ⟨n1, w1, c1, t1, t2, t3, t4, t5, t6, t7, t8⟩ := hM m n b rc s9 hf w c h7 hs hr (hb trivial) hK
  refine ⟨n1, b, rc, w1, c1, t1, t2, t3, t4, t5, t6, t7, ?_, fun _ => ⟨rfl, rfl⟩⟩
  have h1 := qSum_r (tx (i1 4).toInt.toNat)
  unfold qE3 at t8
  unfold qE4
  omega
-- a row of parts with 38 between two
def qLA (tx : Nat → Int) (o : Int32) (i : Nat → Int32) (r : Nat → Nat → Int32) (ic : Nat → Int32) (rx : Nat → Nat → Int32) (jv : Int32) : Prop :=
  ∀ (m n b rc s9 : Nat) (hf : qE) (w c : Nat → Int32), (i 7).toInt = (n : Int) → n + s9 ≤ (i 4).toInt.toNat → qRel (r 17) (r 18) c n → 1 ≤ m → qKa (qTop w m) →
    ∃ (m1 n1 b1 rc1 : Nat) (w1 c1 : Nat → Int32), qR tx (qc 8 (i 4).toInt.toNat o m n b rc hf w c) (qc 8 (ic 4).toInt.toNat o m1 n1 b1 rc1 hf w1 c1) ∧ (ic 7).toInt = (n1 : Int) ∧ n1 + s9 ≤ (ic 4).toInt.toNat ∧ qRel (rx 17) (rx 18) c1 n1 ∧ n ≤ n1 ∧ (∀ k, k < m → w1 k = w k) ∧ (∀ k, k < n → c1 k = c k) ∧ ((jv.toInt = -1 ∧ m1 = m) ∨ (∃ f : Nat, jv.toInt = (f : Int) ∧ m1 = m + 1 ∧ w1 m = nI (11534336 + f) ∧ cOp (c1 f) = 11 ∧ n ≤ f ∧ f < n1))
def qMA (tx : Nat → Int) (o : Int32) (i : Nat → Int32) (r : Nat → Nat → Int32) (ic : Nat → Int32) (rx : Nat → Nat → Int32) : Prop :=
  ∀ (m n b rc s9 : Nat) (hf : qE) (w c : Nat → Int32), (i 7).toInt = (n : Int) → n + s9 ≤ (i 4).toInt.toNat → qRel (r 17) (r 18) c n → 1 ≤ m → qKa (qTop w m) →
    ∃ (n1 b1 rc1 : Nat) (w1 c1 : Nat → Int32), qR tx (qc 8 (i 4).toInt.toNat o m n b rc hf w c) (qc 9 (ic 4).toInt.toNat o m n1 b1 rc1 hf w1 c1) ∧ (ic 7).toInt = (n1 : Int) ∧ n1 + s9 ≤ (ic 4).toInt.toNat ∧ qRel (rx 17) (rx 18) c1 n1 ∧ n ≤ n1 ∧ (∀ k, k < m → w1 k = w k) ∧ (∀ k, k < n → c1 k = c k)
theorem qLA_0 {jv : Int32} (h : jv.toInt = -1) : qLA tx o i r i r jv := fun m n b rc s9 hf w c h7 hs hr _ _ => ⟨m, n, b, rc, w, c, qR_rf, h7, hs, hr, Nat.le_refl _, fun _ _ => rfl, fun _ _ => rfl, Or.inl ⟨h, rfl⟩⟩
theorem qLA_k {jv : Int32} {m m1 n n1 : Nat} {w w1 c1 : Nat → Int32} (hK : qKa (qTop w m)) (t6 : ∀ k, k < m → w1 k = w k) (h2 : n1 ≤ 200) (t8 : (jv.toInt = -1 ∧ m1 = m) ∨ (∃ f : Nat, jv.toInt = (f : Int) ∧ m1 = m + 1 ∧ w1 m = nI (11534336 + f) ∧ cOp (c1 f) = 11 ∧ n ≤ f ∧ f < n1)) : qK4 (qTop w1 m1) := by
  rcases t8 with ⟨_, rfl⟩ | ⟨f, _, rfl, e, _, _, _⟩
  · rw [qTop_co t6]; unfold qKa at hK; unfold qK4; omega
  · have h9 := (cOp_n (o := 11) (v := f) (by omega) (by omega)).1
    rw [qTop_s, e]
    have h8 : cOp (nI (11534336 + f)) = 11 := h9
    rw [h8]; unfold qK4; omega
theorem qLA_f {jv : Int32} (hL : qLA tx o i r i1 r1 jv) (h2 : (i1 4).toInt ≤ 200) (hX : qX tx 8 7 o qK4 qTt False i1 r1 i2 r2 0) : qX tx 8 10 o qKa qEa False i r i2 r2 0 := by
  intro m n b rc s9 hf w c h7 hs hr _ hm hK
  refine ⟨fun h9 => absurd rfl h9, fun _ => ?_⟩
  have hm1 : 1 ≤ m := hm.elim False.elim id
  obtain ⟨m1, n1, b1, rc1, w1, c1, t1, t2, t3, t4, t5, t6, t7, t8⟩ := hL m n b rc s9 hf w c h7 hs hr hm1 hK
  obtain ⟨T, u1, u2, u3⟩ := (hX m1 n1 b1 rc1 s9 hf w1 c1 t2 t3 t4 (fun h => h.elim) (Or.inr (by rcases t8 with ⟨_, h⟩ | ⟨_, _, h, _⟩ <;> omega)) (qLA_k hK t6 (by omega) t8)).2 rfl
  exact ⟨T, qR_tr t1 u1, u2, u3⟩
theorem qLA_c {jv : Int32} (hL : qLA tx o i r i1 r1 jv) (h1 : (i1 4).toInt ≤ 200) (hX : qX tx 8 7 o qK4 qTt False i1 r1 i2 r2 1) (h2 : 0 ≤ (i2 4).toInt) (h22 : (i2 4).toInt ≤ 200) (e4 : i3 4 = i2 4) (e7 : i3 7 = i2 7) (e17 : r3 17 = r2 17)
    (ha : (jv.toInt = -1 ∧ r3 18 = r2 18) ∨ (∃ f : Nat, jv.toInt = (f : Int) ∧ ((f : Int) < (i2 7).toInt → r3 18 = upd (r2 18) f (i2 7)))) : qMA tx o i r i3 r3 := by
  intro m n b rc s9 hf w c h7 hs hr hm1 hK
  obtain ⟨m1, n1, b1, rc1, w1, c1, t1, t2, t3, t4, t5, t6, t7, t8⟩ := hL m n b rc s9 hf w c h7 hs hr hm1 hK
  obtain ⟨n2, b2, rc2, w2, c2, u1, u2, u3, u4, u5, u6, u7, u8, u9⟩ := (hX m1 n1 b1 rc1 s9 hf w1 c1 t2 t3 t4 (fun h => h.elim) (Or.inr (by rcases t8 with ⟨_, h⟩ | ⟨_, _, h, _⟩ <;> omega)) (qLA_k hK t6 (by omega) t8)).1 (by decide)
  rcases t8 with ⟨a1, rfl⟩ | ⟨f, a1, rfl, a2, a3, a4, a5⟩
  · have hK2 : qKa (qTop w2 m1) := by rw [qTop_co u6, qTop_co t6]; exact hK
    have h79 : qTop w2 m1 ≠ 10 := hK2.2.1
    rcases ha with ⟨_, g1⟩ | ⟨f, g0, _⟩
    · rw [e4, e7, e17, g1]
      exact ⟨n2, b2, rc2, w2, c2, (qR_tr (qR_tr t1 u1) (qm_79 h79)), u2, u3, u4, by omega, fun k hk => (u6 k hk).trans (t6 k hk), fun k hk => (u7 k (by omega)).trans (t7 k hk)⟩
    · omega
  · obtain ⟨q1, q2⟩ := cOp_n (o := 11) (v := f) (by omega) (by omega)
    have q1 : cOp (nI (11534336 + f)) = 11 := q1
    have q2 : cV (nI (11534336 + f)) = (f : Int) := q2
    have hwm : w2 m = nI (11534336 + f) := (u6 m (by omega)).trans a2
    have h11 : qTop w2 (m + 1) = 11 := by rw [qTop_s, hwm, q1]
    have h79 : qTop w2 (m + 1) ≠ 10 := by rw [h11]; decide
    have hfc : (cV (w2 (m + 1 - 1))).toNat = f := by rw [Nat.add_sub_cancel, hwm, q2]; omega
    have v1 := qR_tr (qR_tr (qR_tr t1 u1) (qm_79 h79)) (qm_lnd9 h11)
    unfold qLnd at v1
    rw [hfc, Nat.add_sub_cancel] at v1
    rcases ha with ⟨g0, _⟩ | ⟨f2, g0, g1⟩
    · omega
    · have hf2 : f2 = f := by omega
      subst hf2
      have g1 := g1 (by omega)
      rw [e4, e7, e17, g1]
      refine ⟨n2, b2, rc2, w2, _, v1, u2, u3, qRel_lnd u4 (by omega) (by omega) u2, by omega, fun k hk => (u6 k (by omega)).trans (t6 k hk), fun k hk => (pk_un (by omega)).trans ((u7 k (by omega)).trans (t7 k hk))⟩
theorem qLA_s {jv : Int32} {u s : Int32} (hM : qMA tx o i r i1 r1) (h0 : 0 ≤ (i1 4).toInt) (h2 : (i1 4).toInt ≤ 200) (h199 : (i1 4).toInt < 200) (hx : tx (i1 4).toInt.toNat = 38) (e4 : (i2 4).toInt = (i1 4).toInt + 1) (ej : (i1 7).toInt < 200 → jv.toInt = (i1 7).toInt) (hA : qAdd i1 r1 i2 r2 s u) (es : s.toInt = 38) (eu : u.toInt = 0) : qLA tx o i r i2 r2 jv := by
  intro m n b rc s9 hf w c h7 hs hr hm1 hK
  obtain ⟨n1, b1, rc1, w1, c1, t1, t2, t3, t4, t5, t6, t7⟩ := hM m n b rc s9 hf w c h7 hs hr hm1 hK
  have ha : (i2 4).toInt.toNat = (i1 4).toInt.toNat + 1 := by omega
  have hn : (i1 7).toInt.toNat = n1 := by omega
  obtain ⟨e7, e17, e18⟩ := hA (by omega)
  have ej := ej (by omega)
  rw [hn] at e17 e18
  have hK2 : qKa (qTop w1 m) := by rw [qTop_co t6]; exact hK
  have hq := qRel_add (a := 11) (v := 0) (s := s) (u := u) t4 (by decide) (by decide) es eu
  refine ⟨m + 1, n1 + 1, b1, rc1, _, _, by rw [ha]; exact qR_tr t1 (qm_and hK2.2.2 hx), by omega, by omega, by rw [e17, e18]; exact hq, by omega, fun k hk => (pk_un (by omega)).trans (t6 k hk), fun k hk => (pk_un (by omega)).trans (t7 k hk), Or.inr ⟨n1, by omega, rfl, pk_us, by rw [pk_us]; decide, by omega, by omega⟩⟩
theorem qLA_e (hM : qMA tx o i r i1 r1) (hx : tx (i1 4).toInt.toNat ≠ 38) : qX tx 8 10 o qKa qEa False i r i1 r1 1 := by
  intro m n b rc s9 hf w c h7 hs hr _ hm hK
  refine ⟨fun _ => ?_, fun h9 => absurd h9 (by decide)⟩
  have hm1 : 1 ≤ m := hm.elim False.elim id
  obtain ⟨n1, b1, rc1, w1, c1, t1, t2, t3, t4, t5, t6, t7⟩ := hM m n b rc s9 hf w c h7 hs hr hm1 hK
  have hK2 : qKa (qTop w1 m) := by rw [qTop_co t6]; exact hK
  exact ⟨n1, b1, rc1, w1, c1, qR_tr t1 (qm_9a hK2.2.2 hx), t2, t3, t4, t5, t6, t7, hx, fun h => h.elim⟩
-- a row of parts with 124 between two
def qLO (tx : Nat → Int) (o : Int32) (i : Nat → Int32) (r : Nat → Nat → Int32) (ic : Nat → Int32) (rx : Nat → Nat → Int32) (jv : Int32) : Prop :=
  ∀ (m n b rc s9 : Nat) (hf : qE) (w c : Nat → Int32), (i 7).toInt = (n : Int) → n + s9 ≤ (i 4).toInt.toNat → qRel (r 17) (r 18) c n → 1 ≤ m → qKo (qTop w m) →
    ∃ (m1 n1 b1 rc1 : Nat) (w1 c1 : Nat → Int32), qR tx (qc 8 (i 4).toInt.toNat o m n b rc hf w c) (qc 8 (ic 4).toInt.toNat o m1 n1 b1 rc1 hf w1 c1) ∧ (ic 7).toInt = (n1 : Int) ∧ n1 + s9 ≤ (ic 4).toInt.toNat ∧ qRel (rx 17) (rx 18) c1 n1 ∧ n ≤ n1 ∧ (∀ k, k < m → w1 k = w k) ∧ (∀ k, k < n → c1 k = c k) ∧ ((jv.toInt = -1 ∧ m1 = m) ∨ (∃ f : Nat, jv.toInt = (f : Int) ∧ m1 = m + 1 ∧ w1 m = nI (12582912 + f) ∧ cOp (c1 f) = 12 ∧ n ≤ f ∧ f < n1))
def qMO (tx : Nat → Int) (o : Int32) (i : Nat → Int32) (r : Nat → Nat → Int32) (ic : Nat → Int32) (rx : Nat → Nat → Int32) : Prop :=
  ∀ (m n b rc s9 : Nat) (hf : qE) (w c : Nat → Int32), (i 7).toInt = (n : Int) → n + s9 ≤ (i 4).toInt.toNat → qRel (r 17) (r 18) c n → 1 ≤ m → qKo (qTop w m) →
    ∃ (n1 b1 rc1 : Nat) (w1 c1 : Nat → Int32), qR tx (qc 8 (i 4).toInt.toNat o m n b rc hf w c) (qc 10 (ic 4).toInt.toNat o m n1 b1 rc1 hf w1 c1) ∧ (ic 7).toInt = (n1 : Int) ∧ n1 + s9 ≤ (ic 4).toInt.toNat ∧ qRel (rx 17) (rx 18) c1 n1 ∧ n ≤ n1 ∧ (∀ k, k < m → w1 k = w k) ∧ (∀ k, k < n → c1 k = c k) ∧ qEa (tx (ic 4).toInt.toNat)
theorem qLO_0 {jv : Int32} (h : jv.toInt = -1) : qLO tx o i r i r jv := fun m n b rc s9 hf w c h7 hs hr _ _ => ⟨m, n, b, rc, w, c, qR_rf, h7, hs, hr, Nat.le_refl _, fun _ _ => rfl, fun _ _ => rfl, Or.inl ⟨h, rfl⟩⟩
theorem qLO_k {jv : Int32} {m m1 n n1 : Nat} {w w1 c1 : Nat → Int32} (hK : qKo (qTop w m)) (t6 : ∀ k, k < m → w1 k = w k) (h2 : n1 ≤ 200) (t8 : (jv.toInt = -1 ∧ m1 = m) ∨ (∃ f : Nat, jv.toInt = (f : Int) ∧ m1 = m + 1 ∧ w1 m = nI (12582912 + f) ∧ cOp (c1 f) = 12 ∧ n ≤ f ∧ f < n1)) : qKa (qTop w1 m1) := by
  rcases t8 with ⟨_, rfl⟩ | ⟨f, _, rfl, e, _, _, _⟩
  · rw [qTop_co t6]; unfold qKo at hK; unfold qKa; omega
  · have h9 := (cOp_n (o := 12) (v := f) (by omega) (by omega)).1
    rw [qTop_s, e]
    have h8 : cOp (nI (12582912 + f)) = 12 := h9
    rw [h8]; unfold qKa; omega
theorem qLO_f {jv : Int32} (hL : qLO tx o i r i1 r1 jv) (h2 : (i1 4).toInt ≤ 200) (hX : qX tx 8 10 o qKa qEa False i1 r1 i2 r2 0) : qX tx 8 10 o qKo qEo False i r i2 r2 0 := by
  intro m n b rc s9 hf w c h7 hs hr _ hm hK
  refine ⟨fun h9 => absurd rfl h9, fun _ => ?_⟩
  have hm1 : 1 ≤ m := hm.elim False.elim id
  obtain ⟨m1, n1, b1, rc1, w1, c1, t1, t2, t3, t4, t5, t6, t7, t8⟩ := hL m n b rc s9 hf w c h7 hs hr hm1 hK
  obtain ⟨T, u1, u2, u3⟩ := (hX m1 n1 b1 rc1 s9 hf w1 c1 t2 t3 t4 (fun h => h.elim) (Or.inr (by rcases t8 with ⟨_, h⟩ | ⟨_, _, h, _⟩ <;> omega)) (qLO_k hK t6 (by omega) t8)).2 rfl
  exact ⟨T, qR_tr t1 u1, u2, u3⟩
theorem qLO_c {jv : Int32} (hL : qLO tx o i r i1 r1 jv) (h1 : (i1 4).toInt ≤ 200) (hX : qX tx 8 10 o qKa qEa False i1 r1 i2 r2 1) (h2 : 0 ≤ (i2 4).toInt) (h22 : (i2 4).toInt ≤ 200) (e4 : i3 4 = i2 4) (e7 : i3 7 = i2 7) (e17 : r3 17 = r2 17)
    (ha : (jv.toInt = -1 ∧ r3 18 = r2 18) ∨ (∃ f : Nat, jv.toInt = (f : Int) ∧ ((f : Int) < (i2 7).toInt → r3 18 = upd (r2 18) f (i2 7)))) : qMO tx o i r i3 r3 := by
  intro m n b rc s9 hf w c h7 hs hr hm1 hK
  obtain ⟨m1, n1, b1, rc1, w1, c1, t1, t2, t3, t4, t5, t6, t7, t8⟩ := hL m n b rc s9 hf w c h7 hs hr hm1 hK
  obtain ⟨n2, b2, rc2, w2, c2, u1, u2, u3, u4, u5, u6, u7, u8, u9⟩ := (hX m1 n1 b1 rc1 s9 hf w1 c1 t2 t3 t4 (fun h => h.elim) (Or.inr (by rcases t8 with ⟨_, h⟩ | ⟨_, _, h, _⟩ <;> omega)) (qLO_k hK t6 (by omega) t8)).1 (by decide)
  rcases t8 with ⟨a1, rfl⟩ | ⟨f, a1, rfl, a2, a3, a4, a5⟩
  · have hK2 : qKo (qTop w2 m1) := by rw [qTop_co u6, qTop_co t6]; exact hK
    skip
    rcases ha with ⟨_, g1⟩ | ⟨f, g0, _⟩
    · rw [e4, e7, e17, g1]
      exact ⟨n2, b2, rc2, w2, c2, (qR_tr t1 u1), u2, u3, u4, by omega, fun k hk => (u6 k hk).trans (t6 k hk), fun k hk => (u7 k (by omega)).trans (t7 k hk), u8⟩
    · omega
  · obtain ⟨q1, q2⟩ := cOp_n (o := 12) (v := f) (by omega) (by omega)
    have q1 : cOp (nI (12582912 + f)) = 12 := q1
    have q2 : cV (nI (12582912 + f)) = (f : Int) := q2
    have hwm : w2 m = nI (12582912 + f) := (u6 m (by omega)).trans a2
    have h11 : qTop w2 (m + 1) = 12 := by rw [qTop_s, hwm, q1]
    skip
    have hfc : (cV (w2 (m + 1 - 1))).toNat = f := by rw [Nat.add_sub_cancel, hwm, q2]; omega
    have v1 := qR_tr (qR_tr t1 u1) (qm_lnda (Or.inr h11))
    unfold qLnd at v1
    rw [hfc, Nat.add_sub_cancel] at v1
    rcases ha with ⟨g0, _⟩ | ⟨f2, g0, g1⟩
    · omega
    · have hf2 : f2 = f := by omega
      subst hf2
      have g1 := g1 (by omega)
      rw [e4, e7, e17, g1]
      refine ⟨n2, b2, rc2, w2, _, v1, u2, u3, qRel_lnd u4 (by omega) (by omega) u2, by omega, fun k hk => (u6 k (by omega)).trans (t6 k hk), fun k hk => (pk_un (by omega)).trans ((u7 k (by omega)).trans (t7 k hk)), u8⟩
theorem qLO_s {jv : Int32} {u s : Int32} (hM : qMO tx o i r i1 r1) (h0 : 0 ≤ (i1 4).toInt) (h2 : (i1 4).toInt ≤ 200) (h199 : (i1 4).toInt < 200) (hx : tx (i1 4).toInt.toNat = 124) (e4 : (i2 4).toInt = (i1 4).toInt + 1) (ej : (i1 7).toInt < 200 → jv.toInt = (i1 7).toInt) (hA : qAdd i1 r1 i2 r2 s u) (es : s.toInt = 124) (eu : u.toInt = 0) : qLO tx o i r i2 r2 jv := by
  intro m n b rc s9 hf w c h7 hs hr hm1 hK
  obtain ⟨n1, b1, rc1, w1, c1, t1, t2, t3, t4, t5, t6, t7, t8⟩ := hM m n b rc s9 hf w c h7 hs hr hm1 hK
  have ha : (i2 4).toInt.toNat = (i1 4).toInt.toNat + 1 := by omega
  have hn : (i1 7).toInt.toNat = n1 := by omega
  obtain ⟨e7, e17, e18⟩ := hA (by omega)
  have ej := ej (by omega)
  rw [hn] at e17 e18
  have hK2 : qKo (qTop w1 m) := by rw [qTop_co t6]; exact hK
  have hq := qRel_add (a := 12) (v := 0) (s := s) (u := u) t4 (by decide) (by decide) es eu
  refine ⟨m + 1, n1 + 1, b1, rc1, _, _, by rw [ha]; exact qR_tr t1 (qm_or (by unfold qKo at hK2; omega) hx), by omega, by omega, by rw [e17, e18]; exact hq, by omega, fun k hk => (pk_un (by omega)).trans (t6 k hk), fun k hk => (pk_un (by omega)).trans (t7 k hk), Or.inr ⟨n1, by omega, rfl, pk_us, by rw [pk_us]; decide, by omega, by omega⟩⟩
theorem qLO_e (hM : qMO tx o i r i1 r1) (hx : tx (i1 4).toInt.toNat ≠ 124) : qX tx 8 10 o qKo qEo False i r i1 r1 1 := by
  intro m n b rc s9 hf w c h7 hs hr _ hm hK
  refine ⟨fun _ => ?_, fun h9 => absurd h9 (by decide)⟩
  have hm1 : 1 ≤ m := hm.elim False.elim id
  obtain ⟨n1, b1, rc1, w1, c1, t1, t2, t3, t4, t5, t6, t7, t8⟩ := hM m n b rc s9 hf w c h7 hs hr hm1 hK
  have hK2 : qKo (qTop w1 m) := by rw [qTop_co t6]; exact hK
  exact ⟨n1, b1, rc1, w1, c1, t1, t2, t3, t4, t5, t6, t7, ⟨t8, hx⟩, fun h => h.elim⟩
-- a piece in brackets: what stands in them fails
theorem qp_parE (ho : o ≠ 6) (hx : tx (i 4).toInt.toNat = 40) (h0 : 0 ≤ (i 4).toInt) (e4 : (i1 4).toInt = (i 4).toInt + 1) (e7 : i1 7 = i 7) (e17 : r1 17 = r 17) (e18 : r1 18 = r 18) (hX : qX tx 8 10 (o + 1) qKo qEo False i1 r1 i2 r2 0) : qX tx 8 7 o qK4 qTt False i r i2 r2 0 := by
  intro m n b rc s9 hf w c h7 hs hr _ hm _
  refine ⟨fun h9 => absurd rfl h9, fun _ => ?_⟩
  have ha : (i1 4).toInt.toNat = (i 4).toInt.toNat + 1 := by omega
  obtain ⟨T, t1, t2, t3⟩ := (hX (m + 1) n b rc s9 hf (upd w m (nI 13631488)) c (by rw [e7]; exact h7) (by omega) (by rw [e17, e18]; exact hr) (fun h => h.elim) (Or.inr (by omega)) (by rw [qTop_u, cOp13]; unfold qKo; omega)).2 rfl
  rw [ha] at t1
  exact ⟨T, qR_tr (qm_opn hx ho) t1, t2, t3⟩
theorem qp_par (ho : o ≠ 6) (hx : tx (i 4).toInt.toNat = 40) (h0 : 0 ≤ (i 4).toInt) (e4 : (i1 4).toInt = (i 4).toInt + 1) (e7 : i1 7 = i 7) (e17 : r1 17 = r 17) (e18 : r1 18 = r 18) (hX : qX tx 8 10 (o + 1) qKo qEo False i1 r1 i2 r2 1) (h2 : 0 ≤ (i2 4).toInt)
    (hz : (z = 1 ∧ tx (i2 4).toInt.toNat = 41 ∧ (i3 4).toInt = (i2 4).toInt + 1 ∧ i3 7 = i2 7 ∧ r3 17 = r2 17 ∧ r3 18 = r2 18) ∨ (z = 0 ∧ tx (i2 4).toInt.toNat ≠ 41 ∧ (i3 5).toInt = -1000 - (i2 4).toInt)) : qX tx 8 7 o qK4 qTt False i r i3 r3 z := by
  intro m n b rc s9 hf w c h7 hs hr _ hm _
  have hm1 : 1 ≤ m := hm.elim False.elim id
  have ha : (i1 4).toInt.toNat = (i 4).toInt.toNat + 1 := by omega
  obtain ⟨n2, b2, rc2, w2, c2, t1, t2, t3, t4, t5, t6, t7, t8, t9⟩ := (hX (m + 1) n b rc (s9 + 1) hf (upd w m (nI 13631488)) c (by rw [e7]; exact h7) (by omega) (by rw [e17, e18]; exact hr) (fun h => h.elim) (Or.inr (by omega)) (by rw [qTop_u, cOp13]; unfold qKo; omega)).1 (by decide)
  rw [ha] at t1
  have hw : ¬ (qTop w2 (m + 1) = 11 ∨ qTop w2 (m + 1) = 12) := by rw [qTop_s, t6 m (by omega), pk_us, cOp13]; omega
  rcases hz with ⟨rfl, g1, g2, g3, g4, g5⟩ | ⟨rfl, g1, g2⟩
  · refine ⟨fun _ => ?_, fun h9 => absurd h9 (by decide)⟩
    have hb4 : (i3 4).toInt.toNat = (i2 4).toInt.toNat + 1 := by omega
    have t10 := qR_tr (qR_tr (qm_opn hx ho) t1) (qm_clp hw g1 (by omega))
    rw [o_11, Nat.add_sub_cancel] at t10
    exact ⟨n2, b2, rc2, w2, c2, by rw [hb4]; exact t10, by rw [g3]; exact t2, by omega, by rw [g4, g5]; exact t4, t5, fun k hk => (t6 k (by omega)).trans (pk_un (by omega)), t7, trivial, fun h => h.elim⟩
  · refine ⟨fun h9 => absurd rfl h9, fun _ => ⟨_, qR_tr (qR_tr (qm_opn hx ho) t1) (qm_noa hw t8.2 g1), ⟨rfl, Int.le_refl 1⟩, ?_⟩⟩
    show (i3 5).toInt = -1000 * 1 - (((i2 4).toInt.toNat : Nat) : Int)
    omega
-- a piece that must not hold
theorem qp_notE (ho : o ≠ 6) (hx : tx (i 4).toInt.toNat = 33) (h0 : 0 ≤ (i 4).toInt) (e4 : (i1 4).toInt = (i 4).toInt + 1) (e7 : i1 7 = i 7) (e17 : r1 17 = r 17) (e18 : r1 18 = r 18) (hX : qX tx 8 7 (o + 1) qK4 qTt False i1 r1 i2 r2 0) : qX tx 8 7 o qK4 qTt False i r i2 r2 0 := by
  intro m n b rc s9 hf w c h7 hs hr _ hm _
  refine ⟨fun h9 => absurd rfl h9, fun _ => ?_⟩
  have ha : (i1 4).toInt.toNat = (i 4).toInt.toNat + 1 := by omega
  obtain ⟨T, t1, t2, t3⟩ := (hX (m + 1) n b rc s9 hf (upd w m (nI 10485760)) c (by rw [e7]; exact h7) (by omega) (by rw [e17, e18]; exact hr) (fun h => h.elim) (Or.inr (by omega)) (by rw [qTop_u, cOp10]; unfold qK4; omega)).2 rfl
  rw [ha] at t1
  exact ⟨T, qR_tr (qm_not hx ho) t1, t2, t3⟩
theorem qp_not {s u : Int32} (ho : o ≠ 6) (hx : tx (i 4).toInt.toNat = 33) (h0 : 0 ≤ (i 4).toInt) (e4 : (i1 4).toInt = (i 4).toInt + 1) (e7 : i1 7 = i 7) (e17 : r1 17 = r 17) (e18 : r1 18 = r 18) (hX : qX tx 8 7 (o + 1) qK4 qTt False i1 r1 i2 r2 1) (h2 : 0 ≤ (i2 4).toInt) (h22 : (i2 4).toInt ≤ 200) (f4 : i3 4 = i2 4) (hA : qAdd i2 r2 i3 r3 s u) (es : s.toInt = 33) (eu : u.toInt = 0) : qX tx 8 7 o qK4 qTt False i r i3 r3 1 := by
  intro m n b rc s9 hf w c h7 hs hr _ hm _
  refine ⟨fun _ => ?_, fun h9 => absurd h9 (by decide)⟩
  have ha : (i1 4).toInt.toNat = (i 4).toInt.toNat + 1 := by omega
  obtain ⟨n2, b2, rc2, w2, c2, t1, t2, t3, t4, t5, t6, t7, t8, t9⟩ := (hX (m + 1) n b rc (s9 + 1) hf (upd w m (nI 10485760)) c (by rw [e7]; exact h7) (by omega) (by rw [e17, e18]; exact hr) (fun h => h.elim) (Or.inr (by omega)) (by rw [qTop_u, cOp10]; unfold qK4; omega)).1 (by decide)
  rw [ha] at t1
  have hw : qTop w2 (m + 1) = 10 := by rw [qTop_s, t6 m (by omega), pk_us, cOp10]
  have hn : (i2 7).toInt.toNat = n2 := by omega
  obtain ⟨f7, f17, f18⟩ := hA (by omega)
  rw [hn] at f17 f18
  have t10 := qR_tr (qR_tr (qm_not hx ho) t1) (qm_pop7 hw)
  rw [o_11, Nat.add_sub_cancel] at t10
  rw [f4]
  refine ⟨n2 + 1, b2, rc2, w2, _, t10, by omega, by omega, by rw [f17, f18]; exact qRel_add (a := 10) (v := 0) t4 (by decide) (by decide) es eu, by omega, fun k hk => (t6 k (by omega)).trans (pk_un (by omega)), fun k hk => (pk_un (by omega)).trans (t7 k hk), trivial, fun h => h.elim⟩
-- two sums compared
theorem qp_e1 (h1 : tx (i 4).toInt.toNat ≠ 33) (h2 : tx (i 4).toInt.toNat ≠ 40) (hX : qX tx 0 4 o qK4 qE4 True i r i2 r2 0) : qX tx 8 7 o qK4 qTt False i r i2 r2 0 := by
  intro m n b rc s9 hf w c h7 hs hr _ hm hK
  refine ⟨fun h9 => absurd rfl h9, fun _ => ?_⟩
  obtain ⟨T, t1, t2, t3⟩ := (hX m n m 1 s9 hf w c h7 hs hr (fun _ => Nat.le_refl _) (Or.inl trivial) hK).2 rfl
  exact ⟨T, qR_tr (qm_80 h1 h2) t1, t2, t3⟩
theorem qHas_0 {w : Nat → Int32} {m : Nat} : ¬ qHas w m m = true := fun h => by
  obtain ⟨k, k1, k2, _⟩ := (qHas_iff m).mp h
  omega
theorem qp_e1' (h1 : tx (i 4).toInt.toNat ≠ 33) (h2 : tx (i 4).toInt.toNat ≠ 40) (hX : qX tx 0 4 o qK4 qE4 True i r i2 r2 1) : ∀ (m n b rc s9 : Nat) (hf : qE) (w c : Nat → Int32), (i 7).toInt = (n : Int) → n + s9 ≤ (i 4).toInt.toNat → qRel (r 17) (r 18) c n → qK4 (qTop w m) →
    ∃ (n2 : Nat) (w2 c2 : Nat → Int32), qR tx (qc 8 (i 4).toInt.toNat o m n b rc hf w c) (qc 5 (i2 4).toInt.toNat o m n2 m 1 hf w2 c2) ∧ (i2 7).toInt = (n2 : Int) ∧ n2 + s9 ≤ (i2 4).toInt.toNat ∧ qRel (r2 17) (r2 18) c2 n2 ∧ n ≤ n2 ∧ (∀ k, k < m → w2 k = w k) ∧ (∀ k, k < n → c2 k = c k) := by
  intro m n b rc s9 hf w c h7 hs hr hK
  obtain ⟨n2, b2, rc2, w2, c2, t1, t2, t3, t4, t5, t6, t7, t8, t9⟩ := (hX m n m 1 s9 hf w c h7 hs hr (fun _ => Nat.le_refl _) (Or.inl trivial) hK).1 (by decide)
  obtain ⟨rfl, rfl⟩ := t9 trivial
  exact ⟨n2, w2, c2, qR_tr (qR_tr (qm_80 h1 h2) t1) (qm_45 (by have h9 : qSum (tx (i2 4).toInt.toNat) = -1 := t8; omega) qHas_0), t2, t3, t4, t5, t6, t7⟩
theorem qp_cmp0 (h1 : tx (i 4).toInt.toNat ≠ 33) (h2 : tx (i 4).toInt.toNat ≠ 40) (hX : qX tx 0 4 o qK4 qE4 True i r i2 r2 1) (h0 : 0 ≤ (i2 4).toInt) (hc : ¬ 7 ≤ qCmp (tx (i2 4).toInt.toNat)) (e : (i3 5).toInt = -1000 - (i2 4).toInt) : qX tx 8 7 o qK4 qTt False i r i3 r3 0 := by
  intro m n b rc s9 hf w c h7 hs hr _ hm hK
  refine ⟨fun h9 => absurd rfl h9, fun _ => ?_⟩
  obtain ⟨n2, w2, c2, t1, t2, t3, t4, t5, t6, t7⟩ := qp_e1' h1 h2 hX m n b rc s9 hf w c h7 hs hr hK
  refine ⟨_, qR_tr t1 (qm_noq hc), ⟨rfl, Int.le_refl 1⟩, ?_⟩
  show (i3 5).toInt = -1000 * 1 - (((i2 4).toInt.toNat : Nat) : Int)
  omega
theorem qp_e2 (h1 : tx (i 4).toInt.toNat ≠ 33) (h2 : tx (i 4).toInt.toNat ≠ 40) (hX : qX tx 0 4 o qK4 qE4 True i r i2 r2 1) (h0 : 0 ≤ (i2 4).toInt) (hc : 7 ≤ qCmp (tx (i2 4).toInt.toNat)) (e4 : (i3 4).toInt = (i2 4).toInt + 1) (e7 : i3 7 = i2 7) (e17 : r3 17 = r2 17) (e18 : r3 18 = r2 18) {i4 : Nat → Int32} {r4 : Nat → Nat → Int32} (hX2 : qX tx 0 4 o qK4 qE4 True i3 r3 i4 r4 0) : qX tx 8 7 o qK4 qTt False i r i4 r4 0 := by
  intro m n b rc s9 hf w c h7 hs hr _ hm hK
  refine ⟨fun h9 => absurd rfl h9, fun _ => ?_⟩
  obtain ⟨n2, w2, c2, t1, t2, t3, t4, t5, t6, t7⟩ := qp_e1' h1 h2 hX m n b rc s9 hf w c h7 hs hr hK
  have ha : (i3 4).toInt.toNat = (i2 4).toInt.toNat + 1 := by omega
  obtain ⟨T, u1, u2, u3⟩ := (hX2 m n2 m (qCmp (tx (i2 4).toInt.toNat)).toNat s9 hf w2 c2 (by rw [e7]; exact t2) (by omega) (by rw [e17, e18]; exact t4) (fun _ => Nat.le_refl _) (Or.inl trivial) (by rw [qTop_co t6]; exact hK)).2 rfl
  rw [ha] at u1
  exact ⟨T, qR_tr (qR_tr t1 (qm_cmp hc)) u1, u2, u3⟩
theorem qSg_cmp {x : Int} (h : 7 ≤ qCmp x) : qSg (qCmp x) = x := by
  unfold qCmp at *
  by_cases h1 : x = 60
  · rw [if_pos h1, h1]; rfl
  · rw [if_neg h1] at h ⊢
    by_cases h2 : x = 62
    · rw [if_pos h2, h2]; rfl
    · rw [if_neg h2] at h ⊢
      by_cases h3 : x = 61
      · rw [if_pos h3, h3]; rfl
      · rw [if_neg h3] at h; omega
theorem qp_cmp {s u : Int32} (h1 : tx (i 4).toInt.toNat ≠ 33) (h2 : tx (i 4).toInt.toNat ≠ 40) (hX : qX tx 0 4 o qK4 qE4 True i r i2 r2 1) (h0 : 0 ≤ (i2 4).toInt) (hc : 7 ≤ qCmp (tx (i2 4).toInt.toNat)) (e4 : (i3 4).toInt = (i2 4).toInt + 1) (e7 : i3 7 = i2 7) (e17 : r3 17 = r2 17) (e18 : r3 18 = r2 18) {i4 i5 : Nat → Int32} {r4 r5 : Nat → Nat → Int32} (hX2 : qX tx 0 4 o qK4 qE4 True i3 r3 i4 r4 1) (h4 : 0 ≤ (i4 4).toInt) (h44 : (i4 4).toInt ≤ 200) (f4 : i5 4 = i4 4) (hA : qAdd i4 r4 i5 r5 s u) (es : s.toInt = tx (i2 4).toInt.toNat) (eu : u.toInt = 0) : qX tx 8 7 o qK4 qTt False i r i5 r5 1 := by
  intro m n b rc s9 hf w c h7 hs hr _ hm hK
  refine ⟨fun _ => ?_, fun h9 => absurd h9 (by decide)⟩
  obtain ⟨n2, w2, c2, t1, t2, t3, t4, t5, t6, t7⟩ := qp_e1' h1 h2 hX m n b rc s9 hf w c h7 hs hr hK
  have ha : (i3 4).toInt.toNat = (i2 4).toInt.toNat + 1 := by omega
  have hcr := qCmp_r (tx (i2 4).toInt.toNat)
  obtain ⟨n3, b3, rc3, w3, c3, u1, u2, u3, u4, u5, u6, u7, u8, u9⟩ := (hX2 m n2 m (qCmp (tx (i2 4).toInt.toNat)).toNat (s9 + 1) hf w2 c2 (by rw [e7]; exact t2) (by omega) (by rw [e17, e18]; exact t4) (fun _ => Nat.le_refl _) (Or.inl trivial) (by rw [qTop_co t6]; exact hK)).1 (by decide)
  obtain ⟨rfl, rfl⟩ := u9 trivial
  rw [ha] at u1
  have hn : (i4 7).toInt.toNat = n3 := by omega
  obtain ⟨f7, f17, f18⟩ := hA (by omega)
  rw [hn] at f17 f18
  have v1 := qR_tr (qR_tr (qR_tr (qR_tr t1 (qm_cmp hc)) u1) (qm_45 (by have h9 : qSum (tx (i4 4).toInt.toNat) = -1 := u8; omega) qHas_0)) (qm_57 (by omega))
  have hq := qRel_add (a := (qCmp (tx (i2 4).toInt.toNat)).toNat) (v := 0) (s := s) (u := u) u4 (by omega) (by decide) (by rw [es, show (((qCmp (tx (i2 4).toInt.toNat)).toNat : Nat) : Int) = qCmp (tx (i2 4).toInt.toNat) by omega]; exact (qSg_cmp hc).symm) eu
  rw [Nat.add_zero] at hq
  rw [f4]
  exact ⟨n3 + 1, _, _, w3, _, v1, by omega, by omega, by rw [f17, f18]; exact hq, by omega, fun k hk => (u6 k hk).trans (t6 k hk), fun k hk => (pk_un (by omega)).trans ((u7 k (by omega)).trans (t7 k hk)), trivial, fun h => h.elim⟩
end QX
