-- the class's clauses and the machine's; the whole text
def qCR (r : Nat → Nat → Int32) (x : qE) : Prop := ∀ k, k < x.2.1 → r 13 k = x.2.2 0 k ∧ r 14 k = x.2.2 1 k ∧ r 15 k = x.2.2 2 k ∧ r 16 k = x.2.2 3 k
def qRD (tx : Nat → Int) (i : Nat → Int32) (r : Nat → Nat → Int32) : Prop := ∀ S0 : qC, qI0 S0 → ∃ (o : Int32) (m n b rc : Nat) (hf : qE) (w c : Nat → Int32), qR tx S0 (qc 14 (i 4).toInt.toNat o m n b rc hf w c) ∧ (i 7).toInt = (n : Int) ∧ n ≤ (i 4).toInt.toNat ∧ qRel (r 17) (r 18) c n ∧ (i 6).toInt = (hf.2.1 : Int) ∧ qCR r hf
def qRF (tx : Nat → Int) (z : Int) : Prop := ∀ S0 : qC, qI0 S0 → ∃ T : qC, qR tx S0 T ∧ qEd T ∧ z = -1000 * T.2.2.1.toInt - (T.2.1 : Int)
def qRO (tx : Nat → Int) (i : Nat → Int32) (r : Nat → Nat → Int32) : Prop := ∀ S0 : qC, qI0 S0 → ∃ (p : Nat) (o : Int32) (m n b rc : Nat) (hf : qE) (w c : Nat → Int32), qR tx S0 (qc 13 p o m n b rc hf w c) ∧ (i 7).toInt = (n : Int) ∧ qRel (r 17) (r 18) c n ∧ (i 6).toInt = (hf.2.1 : Int) ∧ qCR r hf
-- within a clause: ph 0 its amount, 6 its test is to come, 8 in its test, 10 at its test's end, 11 at its end
def qRG (tx : Nat → Int) (ph : Nat) (o : Int32) (m k : Nat) (i : Nat → Int32) (r : Nat → Nat → Int32) : Prop := ∀ S0 : qC, qI0 S0 → ∃ (n b rc : Nat) (hf : qE) (w c : Nat → Int32), qR tx S0 (qc ph (i 4).toInt.toNat o m n b rc hf w c) ∧ (i 7).toInt = (n : Int) ∧ n ≤ (i 4).toInt.toNat ∧ qRel (r 17) (r 18) c n ∧ (i 6).toInt = (hf.2.1 : Int) ∧ hf.2.1 < 14 ∧ qCR r hf ∧ r 13 hf.2.1 = hf.2.2 0 hf.2.1 ∧ r 14 hf.2.1 = hf.2.2 1 hf.2.1 ∧ (1 ≤ k → r 15 hf.2.1 = nI hf.1 ∧ w 0 = nI 13631488) ∧ (k = 0 → b = 0 ∧ rc = 0) ∧ (ph = 6 → hf.1 = n)
section QT
variable {tx : Nat → Int} {i i1 i2 : Nat → Int32} {r r1 r2 : Nat → Nat → Int32} {z : Int32} {ph m k : Nat} {o : Int32}
theorem qRD_0 (e4 : (i 4).toInt = 0) (e7 : (i 7).toInt = 0) (e6 : (i 6).toInt = 0) : qRD tx i r := by
  intro S0 hS
  obtain ⟨o, m, b, rc, h, cl, w, c, rfl⟩ := hS
  have h4 : (i 4).toInt.toNat = 0 := by omega
  exact ⟨o, m, 0, b, rc, (h, 0, cl), w, c, by rw [h4]; exact qR_rf, e7, by omega, fun k hk => absurd hk (Nat.not_lt_zero k), e6, fun k hk => absurd hk (Nat.not_lt_zero k)⟩
theorem qT_nol (h : qRD tx i r) (h0 : 0 ≤ (i 4).toInt) (hl : ¬ qLt (tx (i 4).toInt.toNat)) : qRF tx (-1000 - (i 4).toInt) := by
  intro S0 hS
  obtain ⟨o, m, n, b, rc, hf, w, c, t1, _⟩ := h S0 hS
  refine ⟨_, qR_tr t1 (qm_nol hl), ⟨rfl, Int.le_refl 1⟩, ?_⟩
  show -1000 - (i 4).toInt = -1000 * 1 - (((i 4).toInt.toNat : Nat) : Int)
  omega
theorem qT_ful (h : qRD tx i r) (h0 : 0 ≤ (i 4).toInt) (hl : qLt (tx (i 4).toInt.toNat)) (h6 : (i 6).toInt = 14) : qRF tx (-4000 - (i 4).toInt) := by
  intro S0 hS
  obtain ⟨o, m, n, b, rc, hf, w, c, t1, _, _, _, t5, _⟩ := h S0 hS
  refine ⟨_, qR_tr t1 (qm_ful hl (by omega)), ⟨rfl, show (1 : Int) ≤ 4 by decide⟩, ?_⟩
  show -4000 - (i 4).toInt = -1000 * 4 - (((i 4).toInt.toNat : Nat) : Int)
  omega
theorem qT_beg {L : Int32} (h : qRD tx i r) (h0 : 0 ≤ (i 4).toInt) (h2 : (i 4).toInt ≤ 200) (eL : L.toInt = tx (i 4).toInt.toNat) (hl : qLt (tx (i 4).toInt.toNat)) (h6 : (i 6).toInt < 14) (e4 : (i1 4).toInt = (i 4).toInt + 1) (e7 : i1 7 = i 7) (e6 : i1 6 = i 6) (e13 : r1 13 = upd (r 13) (i 6).toInt.toNat L) (e14 : r1 14 = upd (r 14) (i 6).toInt.toNat (i 7)) (e15 : r1 15 = r 15) (e16 : r1 16 = r 16) (e17 : r1 17 = r 17) (e18 : r1 18 = r 18) (hp : ph = if tx (i 4).toInt.toNat = 98 then 6 else 0) : qRG tx ph 0 0 0 i1 r1 := by
  intro S0 hS
  obtain ⟨o, m, n, b, rc, hf, w, c, t1, t2, t3, t4, t5, t6⟩ := h S0 hS
  have ha : (i1 4).toInt.toNat = (i 4).toInt.toNat + 1 := by omega
  have hs : (i 6).toInt.toNat = hf.2.1 := by omega
  have hlr : 0 ≤ tx (i 4).toInt.toNat ∧ tx (i 4).toInt.toNat ≤ 200 := by unfold qLt at hl; omega
  have hL : L = nI (tx (i 4).toInt.toNat).toNat := Int32.toInt_inj.mp (by rw [nI_toInt (by omega)]; omega)
  have hN : i 7 = nI n := Int32.toInt_inj.mp (by rw [nI_toInt (by omega)]; exact t2)
  rw [hs] at e13 e14
  have hR : qR tx S0 (qc ph (i1 4).toInt.toNat 0 0 n 0 0 (qBg hf (tx (i 4).toInt.toNat).toNat n) w c) := by
    rw [hp, ha]
    by_cases h98 : tx (i 4).toInt.toNat = 98
    · rw [if_pos h98]; exact qR_tr t1 (qm_clb h98 (by omega))
    · rw [if_neg h98]; exact qR_tr t1 (qm_cle hl h98 (by omega))
  refine ⟨n, 0, 0, _, w, c, hR, by rw [e7]; exact t2, by omega, by rw [e17, e18]; exact t4, by rw [e6]; exact t5, by show hf.2.1 < 14; omega, fun q hq => ?_, ?_, ?_, fun h9 => absurd h9 (by decide), fun _ => ⟨rfl, rfl⟩, fun _ => rfl⟩
  · have hq : q < hf.2.1 := hq
    obtain ⟨a1, a2, a3, a4⟩ := t6 q hq
    rw [e13, e14, e15, e16]
    show upd (r 13) hf.2.1 L q = upd (hf.2.2 0) hf.2.1 _ q ∧ upd (r 14) hf.2.1 (i 7) q = upd (hf.2.2 1) hf.2.1 _ q ∧ r 15 q = hf.2.2 2 q ∧ r 16 q = hf.2.2 3 q
    rw [pk_un (by omega), pk_un (by omega), pk_un (by omega), pk_un (by omega)]
    exact ⟨a1, a2, a3, a4⟩
  · rw [e13]; show upd (r 13) hf.2.1 L hf.2.1 = upd (hf.2.2 0) hf.2.1 _ hf.2.1; rw [pk_us, pk_us]; exact hL
  · rw [e14]; show upd (r 14) hf.2.1 (i 7) hf.2.1 = upd (hf.2.2 1) hf.2.1 _ hf.2.1; rw [pk_us, pk_us]; exact hN
theorem qT_expF (h : qRG tx 0 0 0 0 i r) (hX : qX tx 0 4 0 qK4 qE4 True i r i1 r1 0) : qRF tx (i1 5).toInt := by
  intro S0 hS
  obtain ⟨n, b, rc, hf, w, c, t1, t2, t3, t4, t5, t6, t7, t8, t9, t10, t11, t12⟩ := h S0 hS
  obtain ⟨T, u1, u2, u3⟩ := (hX 0 n b rc 0 hf w c t2 (by omega) t4 (fun _ => by have h9 := (t11 rfl).1; omega) (Or.inl trivial) (by unfold qK4 qTop; rw [if_pos rfl]; omega)).2 rfl
  exact ⟨T, qR_tr t1 u1, u2, u3⟩
theorem qT_exp (h : qRG tx 0 0 0 0 i r) (hX : qX tx 0 4 0 qK4 qE4 True i r i1 r1 1) (e6 : i1 6 = i 6) (e13 : r1 13 = r 13) (e14 : r1 14 = r 14) (e15 : r1 15 = r 15) (e16 : r1 16 = r 16) : qRG tx 6 0 0 0 i1 r1 := by
  intro S0 hS
  obtain ⟨n, b, rc, hf, w, c, t1, t2, t3, t4, t5, t6, t7, t8, t9, t10, t11, t12⟩ := h S0 hS
  obtain ⟨rfl, rfl⟩ := t11 rfl
  obtain ⟨n2, b2, rc2, w2, c2, u1, u2, u3, u4, u5, u6, u7, u8, u9⟩ := (hX 0 n 0 0 0 hf w c t2 (by omega) t4 (fun _ => Nat.le_refl _) (Or.inl trivial) (by unfold qK4 qTop; rw [if_pos rfl]; omega)).1 (by decide)
  obtain ⟨rfl, rfl⟩ := u9 trivial
  have v1 := qR_tr (qR_tr (qR_tr t1 u1) (qm_45 (by have h9 : qSum (tx (i1 4).toInt.toNat) = -1 := u8; omega) qHas_0)) qm_56
  refine ⟨n2, 0, 0, (n2, hf.2), w2, c2, v1, u2, by omega, u4, by rw [e6]; exact t5, t6, fun q hq => by rw [e13, e14, e15, e16]; exact t7 q hq, by rw [e13]; exact t8, by rw [e14]; exact t9, fun h9 => absurd h9 (by decide), fun _ => ⟨rfl, rfl⟩, fun _ => rfl⟩
theorem qT_tst (h : qRG tx 6 0 0 0 i r) (h0 : 0 ≤ (i 4).toInt) (h2 : (i 4).toInt ≤ 200) (hx : tx (i 4).toInt.toNat = 40) (e4 : (i1 4).toInt = (i 4).toInt + 1) (e7 : i1 7 = i 7) (e6 : i1 6 = i 6) (e13 : r1 13 = r 13) (e14 : r1 14 = r 14) (e15 : (i 6).toInt < 14 → r1 15 = upd (r 15) (i 6).toInt.toNat (i 7)) (e16 : r1 16 = r 16) (e17 : r1 17 = r 17) (e18 : r1 18 = r 18) : qRG tx 8 1 1 1 i1 r1 := by
  intro S0 hS
  obtain ⟨n, b, rc, hf, w, c, t1, t2, t3, t4, t5, t6, t7, t8, t9, t10, t11, t12⟩ := h S0 hS
  have ha : (i1 4).toInt.toNat = (i 4).toInt.toNat + 1 := by omega
  have hs : (i 6).toInt.toNat = hf.2.1 := by omega
  have e15 := e15 (by omega)
  rw [hs] at e15
  have hN : i 7 = nI hf.1 := by rw [t12 rfl]; exact Int32.toInt_inj.mp (by rw [nI_toInt (by omega)]; exact t2)
  refine ⟨n, b, rc, hf, _, c, by rw [ha]; exact qR_tr t1 (qm_68 hx), by rw [e7]; exact t2, by omega, by rw [e17, e18]; exact t4, by rw [e6]; exact t5, t6, fun q hq => ?_, by rw [e13]; exact t8, by rw [e14]; exact t9, fun _ => ⟨by rw [e15, pk_us]; exact hN, pk_us⟩, fun h9 => absurd h9 (by decide), fun h9 => absurd h9 (by decide)⟩
  rw [e13, e14, e15, e16, pk_un (by omega)]
  exact t7 q hq
theorem qT_fail {p9 : Nat} (h : qRG tx ph o m k i r) (hp : (p9 : Int) = (i 4).toInt) (hm : ∀ (n b rc : Nat) (hf : qE) (w c : Nat → Int32), (1 ≤ k → w 0 = nI 13631488) → qR tx (qc ph p9 o m n b rc hf w c) (qc 20 p9 1 m n b rc hf w c)) : qRF tx (-1000 - (i 4).toInt) := by
  intro S0 hS
  obtain ⟨n, b, rc, hf, w, c, t1, t2, t3, t4, t5, t6, t7, t8, t9, t10, t11, t12⟩ := h S0 hS
  have ha : (i 4).toInt.toNat = p9 := by omega
  rw [ha] at t1
  refine ⟨_, qR_tr t1 (hm n b rc hf w c (fun h9 => (t10 h9).2)), ⟨rfl, Int.le_refl 1⟩, ?_⟩
  show -1000 - (i 4).toInt = -1000 * 1 - (p9 : Int)
  omega
theorem qT_conF (h : qRG tx 8 1 1 1 i r) (hX : qX tx 8 10 1 qKo qEo False i r i1 r1 0) : qRF tx (i1 5).toInt := by
  intro S0 hS
  obtain ⟨n, b, rc, hf, w, c, t1, t2, t3, t4, t5, t6, t7, t8, t9, t10, t11, t12⟩ := h S0 hS
  obtain ⟨T, u1, u2, u3⟩ := (hX 1 n b rc 0 hf w c t2 (by omega) t4 (fun h9 => h9.elim) (Or.inr (Nat.le_refl _)) (by rw [show qTop w 1 = cOp (w 0) from qTop_s, (t10 (Nat.le_refl _)).2, cOp13]; unfold qKo; omega)).2 rfl
  exact ⟨T, qR_tr t1 u1, u2, u3⟩
theorem qT_con (h : qRG tx 8 1 1 1 i r) (hX : qX tx 8 10 1 qKo qEo False i r i1 r1 1) (e6 : i1 6 = i 6) (e13 : r1 13 = r 13) (e14 : r1 14 = r 14) (e15 : r1 15 = r 15) (e16 : r1 16 = r 16) : qRG tx 10 1 1 1 i1 r1 ∧ (tx (i1 4).toInt.toNat ≠ 38 ∧ tx (i1 4).toInt.toNat ≠ 124) := by
  have key : ∀ S0 : qC, qI0 S0 → (∃ (n b rc : Nat) (hf : qE) (w c : Nat → Int32), qR tx S0 (qc 10 (i1 4).toInt.toNat 1 1 n b rc hf w c) ∧ (i1 7).toInt = (n : Int) ∧ n ≤ (i1 4).toInt.toNat ∧ qRel (r1 17) (r1 18) c n ∧ (i1 6).toInt = (hf.2.1 : Int) ∧ hf.2.1 < 14 ∧ qCR r1 hf ∧ r1 13 hf.2.1 = hf.2.2 0 hf.2.1 ∧ r1 14 hf.2.1 = hf.2.2 1 hf.2.1 ∧ (1 ≤ 1 → r1 15 hf.2.1 = nI hf.1 ∧ w 0 = nI 13631488) ∧ (1 = 0 → b = 0 ∧ rc = 0) ∧ (10 = 6 → hf.1 = n)) ∧ (tx (i1 4).toInt.toNat ≠ 38 ∧ tx (i1 4).toInt.toNat ≠ 124) := by
    intro S0 hS
    obtain ⟨n, b, rc, hf, w, c, t1, t2, t3, t4, t5, t6, t7, t8, t9, t10, t11, t12⟩ := h S0 hS
    obtain ⟨n2, b2, rc2, w2, c2, u1, u2, u3, u4, u5, u6, u7, u8, u9⟩ := (hX 1 n b rc 0 hf w c t2 (by omega) t4 (fun h9 => h9.elim) (Or.inr (Nat.le_refl _)) (by rw [show qTop w 1 = cOp (w 0) from qTop_s, (t10 (Nat.le_refl _)).2, cOp13]; unfold qKo; omega)).1 (by decide)
    refine ⟨⟨n2, b2, rc2, hf, w2, c2, qR_tr t1 u1, u2, by omega, u4, by rw [e6]; exact t5, t6, fun q hq => by rw [e13, e14, e15, e16]; exact t7 q hq, by rw [e13]; exact t8, by rw [e14]; exact t9, fun h9 => ⟨by rw [e15]; exact (t10 h9).1, (u6 0 (by decide)).trans (t10 h9).2⟩, fun h9 => absurd h9 (by decide), fun h9 => absurd h9 (by decide)⟩, u8⟩
  exact ⟨fun S0 hS => (key S0 hS).1, (key (qc 14 0 0 0 0 0 0 (0, 0, fun _ _ => 0) (fun _ => 0) (fun _ => 0)) ⟨0, 0, 0, 0, 0, _, _, _, rfl⟩).2⟩
theorem qT_end (h : qRG tx 10 1 1 1 i r) (h0 : 0 ≤ (i 4).toInt) (hx : tx (i 4).toInt.toNat = 41) (e4 : (i1 4).toInt = (i 4).toInt + 1) (e7 : i1 7 = i 7) (e6 : i1 6 = i 6) (e13 : r1 13 = r 13) (e14 : r1 14 = r 14) (e15 : r1 15 = r 15) (e16 : r1 16 = r 16) (e17 : r1 17 = r 17) (e18 : r1 18 = r 18) : qRG tx 11 0 0 1 i1 r1 := by
  intro S0 hS
  obtain ⟨n, b, rc, hf, w, c, t1, t2, t3, t4, t5, t6, t7, t8, t9, t10, t11, t12⟩ := h S0 hS
  have ha : (i1 4).toInt.toNat = (i 4).toInt.toNat + 1 := by omega
  have hw : ¬ (qTop w 1 = 11 ∨ qTop w 1 = 12) := by rw [show qTop w 1 = cOp (w 0) from qTop_s, (t10 (Nat.le_refl _)).2, cOp13]; omega
  exact ⟨n, b, rc, hf, w, c, by rw [ha]; exact qR_tr t1 (qm_end hw hx rfl), by rw [e7]; exact t2, by omega, by rw [e17, e18]; exact t4, by rw [e6]; exact t5, t6, fun q hq => by rw [e13, e14, e15, e16]; exact t7 q hq, by rw [e13]; exact t8, by rw [e14]; exact t9, fun h9 => ⟨by rw [e15]; exact (t10 h9).1, (t10 h9).2⟩, fun h9 => absurd h9 (by decide), fun h9 => absurd h9 (by decide)⟩
theorem qT_put (h : qRG tx 11 0 0 1 i r) (h2 : (i 4).toInt ≤ 200) (e6 : (i 6).toInt < 14 → (i1 6).toInt = (i 6).toInt + 1) (e13 : r1 13 = r 13) (e14 : r1 14 = r 14) (e15 : r1 15 = r 15) (e16 : (i 6).toInt < 14 → r1 16 = upd (r 16) (i 6).toInt.toNat (i 7)) : ∀ S0 : qC, qI0 S0 → ∃ (n b rc : Nat) (hf : qE) (w c : Nat → Int32), qR tx S0 (qc 11 (i 4).toInt.toNat 0 0 n b rc hf w c) ∧ (i 7).toInt = (n : Int) ∧ n ≤ (i 4).toInt.toNat ∧ qRel (r 17) (r 18) c n ∧ (i1 6).toInt = ((qNd hf n).2.1 : Int) ∧ qCR r1 (qNd hf n) := by
  intro S0 hS
  obtain ⟨n, b, rc, hf, w, c, t1, t2, t3, t4, t5, t6, t7, t8, t9, t10, t11, t12⟩ := h S0 hS
  have hs : (i 6).toInt.toNat = hf.2.1 := by omega
  have e6 := e6 (by omega)
  have e16 := e16 (by omega)
  rw [hs] at e16
  have hN : i 7 = nI n := Int32.toInt_inj.mp (by rw [nI_toInt (by omega)]; exact t2)
  refine ⟨n, b, rc, hf, w, c, t1, t2, t3, t4, by show (i1 6).toInt = ((hf.2.1 + 1 : Nat) : Int); omega, fun q hq => ?_⟩
  have hq : q < hf.2.1 + 1 := hq
  rw [e13, e14, e15, e16]
  show r 13 q = hf.2.2 0 q ∧ r 14 q = hf.2.2 1 q ∧ r 15 q = upd (hf.2.2 2) hf.2.1 (nI hf.1) q ∧ upd (r 16) hf.2.1 (i 7) q = upd (hf.2.2 3) hf.2.1 (nI n) q
  by_cases e : q = hf.2.1
  · rw [e, pk_us, pk_us, pk_us]; exact ⟨t8, t9, (t10 (Nat.le_refl _)).1, hN⟩
  · rw [pk_un e, pk_un e, pk_un e]; exact t7 q (by omega)
theorem qT_fin (h : qRG tx 11 0 0 1 i r) (h2 : (i 4).toInt ≤ 200) (hx : tx (i 4).toInt.toNat = -1) (e7 : i1 7 = i 7) (e6 : (i 6).toInt < 14 → (i1 6).toInt = (i 6).toInt + 1) (e13 : r1 13 = r 13) (e14 : r1 14 = r 14) (e15 : r1 15 = r 15) (e16 : (i 6).toInt < 14 → r1 16 = upd (r 16) (i 6).toInt.toNat (i 7)) (e17 : r1 17 = r 17) (e18 : r1 18 = r 18) : qRO tx i1 r1 := by
  intro S0 hS
  obtain ⟨n, b, rc, hf, w, c, t1, t2, t3, t4, t5, t6⟩ := qT_put h h2 e6 e13 e14 e15 e16 S0 hS
  exact ⟨_, _, _, n, b, rc, _, w, c, qR_tr t1 (qm_fin hx), by rw [e7]; exact t2, by rw [e17, e18]; exact t4, t5, t6⟩
theorem qT_nxt (h : qRG tx 11 0 0 1 i r) (h0 : 0 ≤ (i 4).toInt) (h2 : (i 4).toInt ≤ 200) (hx : tx (i 4).toInt.toNat = 59) (e4 : (i1 4).toInt = (i 4).toInt + 1) (e7 : i1 7 = i 7) (e6 : (i 6).toInt < 14 → (i1 6).toInt = (i 6).toInt + 1) (e13 : r1 13 = r 13) (e14 : r1 14 = r 14) (e15 : r1 15 = r 15) (e16 : (i 6).toInt < 14 → r1 16 = upd (r 16) (i 6).toInt.toNat (i 7)) (e17 : r1 17 = r 17) (e18 : r1 18 = r 18) : qRD tx i1 r1 := by
  intro S0 hS
  obtain ⟨n, b, rc, hf, w, c, t1, t2, t3, t4, t5, t6⟩ := qT_put h h2 e6 e13 e14 e15 e16 S0 hS
  have ha : (i1 4).toInt.toNat = (i 4).toInt.toNat + 1 := by omega
  exact ⟨0, 0, n, b, rc, _, w, c, by rw [ha]; exact qR_tr t1 (qm_nxt hx), by rw [e7]; exact t2, by omega, by rw [e17, e18]; exact t4, t5, t6⟩
end QT
theorem qRF_neg {tx : Nat → Int} {z : Int} (h : qRF tx z) : z < 0 := by
  obtain ⟨T, _, ⟨_, h1⟩, h2⟩ := h (qc 14 0 0 0 0 0 0 (0, 0, fun _ _ => 0) (fun _ => 0) (fun _ => 0)) ⟨0, 0, 0, 0, 0, _, _, _, rfl⟩
  omega
theorem qRd_f {tx : Nat → Int} {i : Nat → Int32} {r : Nat → Nat → Int32} {z : Int32} {v : Int} (h : qRF tx v) (e : z.toInt = v) : (z.toInt = 0 → qRO tx i r) ∧ (z.toInt ≠ 0 → qRF tx z.toInt) := by
  have h1 := qRF_neg h
  rw [e]
  exact ⟨fun h0 => by omega, fun _ => h⟩
theorem qTX_cp {e e2 : Int32} {t t2 : Nat → Int32} (h : e = e2) (h2 : ∀ k : Nat, (k : Int) < e2.toInt → t k &&& 255 = t2 k &&& 255) : qTX e t = qTX e2 t2 := by
  subst h
  funext p
  unfold qTX
  by_cases h9 : (p : Int) < e.toInt
  · rw [if_pos h9, if_pos h9, h2 p h9]
  · rw [if_neg h9, if_neg h9]
theorem min_id {x : Int32} (h : x.toInt ≤ 200) : (if (200 : Int32) < x then 200 else x) = x := if_neg (fun h9 => by have h8 := b_lt h9; have h7 : (200 : Int32).toInt = 200 := rfl; omega)
theorem nar255 {x : Int32} : vp_nar .byte x &&& 255 = x &&& 255 := by
  apply Int32.toBitVec_inj.mp
  show BitVec.signExtend 32 (BitVec.signExtend 8 x.toBitVec) &&& 255#32 = x.toBitVec &&& 255#32
  apply BitVec.eq_of_getLsbD_eq
  intro k hk
  have hm : ∀ k, k < 32 → (255#32).getLsbD k = decide (k < 8) := by decide
  rw [BitVec.getLsbD_and, BitVec.getLsbD_and, hm k hk]
  by_cases h : k < 8
  · rw [BitVec.getLsbD_signExtend, BitVec.getLsbD_signExtend, if_pos h, if_pos hk]; simp [h, hk]
  · simp [h]
set_option maxHeartbeats 4000000 in
set_option maxRecDepth 100000 in
theorem c_X5_clear9 (l : Launch) (D : va_G) (cy : Nat → ClassId) (a : Nat → Nat) (i : Nat → Int32) (r : Nat → Nat → Int32) (q : Nat → Option Nat) (tl : va_W) (sz : Nat) (hRi : yRi i) (hRr : yRr r) : Met l yX5_clear (Cond.code yX5_clear cX5_clear 1 none :: gT) { frames := 1, cells := 0, slots := 0, locals := 24 } (va_Pc [.ref (a 12)] (rQ D cy (xW cy a i r q (a 20) (a 12) ++ tl) sz)) (va_Qv (fun u : (Nat → Int32) × (Nat → Nat → Int32) => yRi u.1 ∧ yRr u.2 ∧ mEi [6, 7] i u.1 ∧ mEr [] r u.2 ∧ (u.1 6 = 0 ∧ u.1 7 = 0)) (fun (u : (Nat → Int32) × (Nat → Nat → Int32)) t => va_P D vwCl (xW cy a u.1 u.2 q (a 20) (a 12) ++ tl) t.heap ∧ va_K D vwCl (vT cy) t ∧ va_D (va_A (xW cy a i r q (a 20) (a 12) ++ tl) sz) (xW cy a u.1 u.2 q (a 20) (a 12) ++ tl)) (va_A (xW cy a i r q (a 20) (a 12) ++ tl) sz)) 0 0 (va_A (xW cy a i r q (a 20) (a 12) ++ tl) sz) := by
  refine Met.ofQ (cc := cX5_clear) (maxL := 1) (ret := none) (by decide) rfl ?_
  intro p e s m args below meth c s₁ B hml hv Q hQ
  obtain ⟨rfl, hsz, hP, hK, hD0⟩ := hv
  have hx := B.exec
  have hb := B.bytes
  have hr := B.returns
  have hlocks := B.notSynchronized
  have hT : ∀ w ∈ gT, w.before _ s = true := fun w h => atoms_spec (ws := (Cond.code yX5_clear cX5_clear 1 none :: gT)) B.pre w (List.mem_cons_of_mem _ h)
  have hown : s.vm.findClass RX5 = some m.cls := findClass_of_methodNamed B.named
  subst hsz
  have hD := hD0.self (sz := s.heap.size)
  generalize hAe : va_A (xW cy a i r q (a 20) (a 12) ++ tl) s.heap.size = A at hD hQ
  have hA : ∀ q : Nat, s.heap.size ≤ q → A q := fun q h => by rw [← hAe]; exact Or.inr h
  have hS : va_S A s.heap s.heap [] := va_S.rf
  have hl := lv_entry ([.ref (a 12)]) (n := 1) (Nat.le_of_ble_eq_true rfl)
  rw [lg_entry_eq]
  generalize (lg_sl ([.ref (a 12)]) ++ List.replicate (1 - (lg_sl ([.ref (a 12)])).length) Slot.unset).toArray = ls at hl ⊢
  have hl : lv_has ls 1 [(0, .ref (a 12))] := hl
  have hEi : mEi [6, 7] i i := Ei_rf
  have hEr : mEr [] r r := Er_rf
  refine lv_aload_n hx hb dX5_clear_0 rfl (lv_at hl 0 rfl) ?_
  refine lv_iconst (v := 0) hx hb dX5_clear_1 (by decide) ?_
  refine va_put (D := D) (ci := 5) (v := .int 0) (ty := .int) (C := RX5) (T := TX5) (N := 9) hx hb hT iX5 tyX5 tyX5_ok nmX5 hown hK hP hD hS 12 rfl rfl 0 (by decide) (hT _ t_370) (fun _ h9 => h9) rfl (by decide +kernel) rfl rfl (Nat.le_of_ble_eq_true rfl) dX5_clear_2 (fun H locs hP hD hS => ?_)
  rw [zP6] at hP hD
  have hRi := Yi_upd hRi 6 0 ⟨by decide, by decide⟩
  have hEi := Ei_upd hEi 6 0 (by decide)
  refine lv_aload_n hx hb dX5_clear_5 rfl (lv_at hl 0 rfl) ?_
  refine lv_iconst (v := 0) hx hb dX5_clear_6 (by decide) ?_
  refine va_put (D := D) (ci := 5) (v := .int 0) (ty := .int) (C := RX5) (T := TX5) (N := 9) hx hb hT iX5 tyX5 tyX5_ok nmX5 hown hK hP hD hS 12 rfl rfl 1 (by decide) (hT _ t_643) (fun _ h9 => h9) rfl (by decide +kernel) rfl rfl (Nat.le_of_ble_eq_true rfl) dX5_clear_7 (fun H locs hP hD hS => ?_)
  rw [zP7] at hP hD
  have hRi := Yi_upd hRi 7 0 ⟨by decide, by decide⟩
  have hEi := Ei_upd hEi 7 0 (by decide)
  subst hQ
  have hpo9 : (upd (upd i 6 0) 7 0) 6 = 0 ∧ (upd (upd i 6 0) 7 0) 7 = 0 := ⟨rfl, rfl⟩
  exact W.vret hx hb hr (fun t ht hW => ⟨⟨(upd (upd i 6 0) 7 0, r), rfl, ⟨hRi, hRr, hEi, hEr, hpo9⟩, by rw [ht]; exact hP, va_K.moved hW.alike hK, hD⟩, hS.F ht⟩) hS.2.2 dX5_clear_10
set_option maxHeartbeats 4000000 in
set_option maxRecDepth 100000 in
theorem c_X5_beginClause9 (l : Launch) (D : va_G) (cy : Nat → ClassId) (a : Nat → Nat) (i : Nat → Int32) (r : Nat → Nat → Int32) (q : Nat → Option Nat) (tl : va_W) (p0 : Int32) (sz : Nat) (hRi : yRi i) (hRr : yRr r) : Met l yX5_beginClause (Cond.code yX5_beginClause cX5_beginClause 2 none :: gT) { frames := 2, cells := 0, slots := 0, locals := 44 } (va_Pc [.ref (a 12), .int p0] (rQ D cy (xW cy a i r q (a 20) (a 12) ++ tl) sz)) (va_Qv (fun u : Nat → Nat → Int32 => yRr u ∧ mEr [13, 14] r u ∧ ((i 6).toInt < 14 → u 13 = upd (r 13) (i 6).toInt.toNat p0 ∧ u 14 = upd (r 14) (i 6).toInt.toNat (i 7))) (fun (u : Nat → Nat → Int32) t => va_P D vwCl (xW cy a i u q (a 20) (a 12) ++ tl) t.heap ∧ va_K D vwCl (vT cy) t ∧ va_D (va_A (xW cy a i r q (a 20) (a 12) ++ tl) sz) (xW cy a i u q (a 20) (a 12) ++ tl)) (va_A (xW cy a i r q (a 20) (a 12) ++ tl) sz)) 0 0 (va_A (xW cy a i r q (a 20) (a 12) ++ tl) sz) := by
  refine Met.ofQ (cc := cX5_beginClause) (maxL := 2) (ret := none) (by decide) rfl ?_
  intro p e s m args below meth c s₁ B hml hv Q hQ
  obtain ⟨rfl, hsz, hP, hK, hD0⟩ := hv
  have hx := B.exec
  have hb := B.bytes
  have hr := B.returns
  have hlocks := B.notSynchronized
  have hT : ∀ w ∈ gT, w.before _ s = true := fun w h => atoms_spec (ws := (Cond.code yX5_beginClause cX5_beginClause 2 none :: gT)) B.pre w (List.mem_cons_of_mem _ h)
  have hown : s.vm.findClass RX5 = some m.cls := findClass_of_methodNamed B.named
  subst hsz
  have hD := hD0.self (sz := s.heap.size)
  generalize hAe : va_A (xW cy a i r q (a 20) (a 12) ++ tl) s.heap.size = A at hD hQ
  have hA : ∀ q : Nat, s.heap.size ≤ q → A q := fun q h => by rw [← hAe]; exact Or.inr h
  have hS : va_S A s.heap s.heap [] := va_S.rf
  have hl := lv_entry ([.ref (a 12), .int p0]) (n := 2) (Nat.le_of_ble_eq_true rfl)
  rw [lg_entry_eq]
  generalize (lg_sl ([.ref (a 12), .int p0]) ++ List.replicate (2 - (lg_sl ([.ref (a 12), .int p0])).length) Slot.unset).toArray = ls at hl ⊢
  have hl : lv_has ls 2 [(0, .ref (a 12)), (1, .int p0)] := hl
  have hEi : mEi [] i i := Ei_rf
  have hEr : mEr [13, 14] r r := Er_rf
  refine lv_aload_n hx hb dX5_beginClause_0 rfl (lv_at hl 0 rfl) ?_
  refine vp_callSi (W.runV (As := []) (rest := []) ⟨hx, hb, hml, hown, hT⟩ (c_X5_isFull l D cy a i r q tl hRi hRr) (cwV 0 hT (gV t_644 t_645 t_646 t_647 t_367) rfl rfl rfl (by decide +kernel) ⟨Nat.le_of_ble_eq_true rfl, Nat.le_of_ble_eq_true rfl⟩) (rP_v hP hK (va_recv hK hP (ci := 5) (q0 := 12) rfl rfl)) rfl rfl hl.1 rfl (lv_room (Nat.le_of_ble_eq_true rfl)) dX5_beginClause_1 ⟨Nat.le_of_ble_eq_true rfl, Nat.le_of_ble_eq_true rfl⟩) (fun r_1 hr_1 => ?_)
  have hg_2 : 0 ≤ (i 6).toInt ∧ (i 6).toInt ≤ 14 := hRi 6
  have hr_1 : BR r_1 (14 ≤ (i 6).toInt) 1 0 := hr_1
  rcases hr_1 with ⟨rfl, h_3⟩ | ⟨rfl, h_3⟩
  · skip
    refine lv_if_ne (tgt := 30) hx hb dX5_beginClause_4 (by decide) (fun c_4 => ?_) (fun c_4 => absurd c_4 (by decide))
    subst hQ
    have hpo9 : (i 6).toInt < 14 → r 13 = upd (r 13) (i 6).toInt.toNat p0 ∧ r 14 = upd (r 14) (i 6).toInt.toNat (i 7) := (fun h9 => absurd h9 (by omega))
    exact W.vret hx hb hr (fun t ht hW => ⟨⟨r, rfl, ⟨hRr, hEr, hpo9⟩, by rw [ht]; exact hP, va_K.moved hW.alike hK, hD⟩, hS.F ht⟩) hS.2.2 dX5_beginClause_30
  · skip
    refine lv_if_ne (tgt := 30) hx hb dX5_beginClause_4 (by decide) (fun c_5 => absurd (by decide) c_5) (fun c_5 => ?_)
    refine lv_aload_n hx hb dX5_beginClause_7 rfl (lv_at hl 0 rfl) ?_
    refine va_get (D := D) (ci := 5) (v := .ref (a 13)) (C := RX5) (T := TX5) (N := 9) hx hb hT iX5 hown hK hP 12 rfl rfl 2 (by decide) (hT _ t_371) (fun _ h9 => h9) rfl dX5_beginClause_8 ?_
    refine lv_aload_n hx hb dX5_beginClause_11 rfl (lv_at hl 0 rfl) ?_
    refine va_get (D := D) (ci := 5) (v := .int (i 6)) (C := RX5) (T := TX5) (N := 9) hx hb hT iX5 hown hK hP 12 rfl rfl 0 (by decide) (hT _ t_370) (fun _ h9 => h9) rfl dX5_beginClause_12 ?_
    refine lv_iload_n hx hb dX5_beginClause_15 rfl (lv_at hl 1 rfl) ?_
    refine va_iast hx hb hK hP hD hS 13 0 rfl rfl (vp_inI (by omega) (by omega)) dX5_beginClause_16 (fun H locs hP hD hS => ?_)
    rw [zS13] at hP hD
    have hRr : yRr (va_up r 13 (upd (r 13) ((i 6).toNatClampNeg) p0)) := Yr_upd hRr 13 ((i 6).toNatClampNeg) p0 (b_rg _)
    have hEr : mEr [13, 14] _ (va_up r 13 (upd (r 13) ((i 6).toNatClampNeg) p0)) := Er_up hEr 13 _ (by decide)
    refine lv_aload_n hx hb dX5_beginClause_17 rfl (lv_at hl 0 rfl) ?_
    refine va_get (D := D) (ci := 5) (v := .ref (a 14)) (C := RX5) (T := TX5) (N := 9) hx hb hT iX5 hown hK hP 12 rfl rfl 3 (by decide) (hT _ t_378) (fun _ h9 => h9) rfl dX5_beginClause_18 ?_
    refine lv_aload_n hx hb dX5_beginClause_21 rfl (lv_at hl 0 rfl) ?_
    refine va_get (D := D) (ci := 5) (v := .int (i 6)) (C := RX5) (T := TX5) (N := 9) hx hb hT iX5 hown hK hP 12 rfl rfl 0 (by decide) (hT _ t_370) (fun _ h9 => h9) rfl dX5_beginClause_22 ?_
    refine lv_aload_n hx hb dX5_beginClause_25 rfl (lv_at hl 0 rfl) ?_
    refine va_get (D := D) (ci := 5) (v := .int (i 7)) (C := RX5) (T := TX5) (N := 9) hx hb hT iX5 hown hK hP 12 rfl rfl 1 (by decide) (hT _ t_643) (fun _ h9 => h9) rfl dX5_beginClause_26 ?_
    have hg_6 : 0 ≤ (i 7).toInt ∧ (i 7).toInt ≤ 200 := hRi 7
    refine va_iast hx hb hK hP hD hS 14 0 rfl rfl (vp_inI (by omega) (by omega)) dX5_beginClause_29 (fun H locs hP hD hS => ?_)
    rw [zS14] at hP hD
    have hRr : yRr (va_up (va_up r 13 (upd (r 13) ((i 6).toNatClampNeg) p0)) 14 (upd (r 14) ((i 6).toNatClampNeg) (i 7))) := Yr_upd hRr 14 ((i 6).toNatClampNeg) (i 7) ⟨by show (0 : Int) ≤ (i 7).toInt; omega, by show (i 7).toInt ≤ (200 : Int); omega⟩
    have hEr : mEr [13, 14] _ (va_up (va_up r 13 (upd (r 13) ((i 6).toNatClampNeg) p0)) 14 (upd (r 14) ((i 6).toNatClampNeg) (i 7))) := Er_up hEr 14 _ (by decide)
    subst hQ
    have hpo9 : (i 6).toInt < 14 → (va_up (va_up r 13 (upd (r 13) ((i 6).toNatClampNeg) p0)) 14 (upd (r 14) ((i 6).toNatClampNeg) (i 7))) 13 = upd (r 13) (i 6).toInt.toNat p0 ∧ (va_up (va_up r 13 (upd (r 13) ((i 6).toNatClampNeg) p0)) 14 (upd (r 14) ((i 6).toNatClampNeg) (i 7))) 14 = upd (r 14) (i 6).toInt.toNat (i 7) := (fun _ => ⟨rfl, rfl⟩)
    exact W.vret hx hb hr (fun t ht hW => ⟨⟨(va_up (va_up r 13 (upd (r 13) ((i 6).toNatClampNeg) p0)) 14 (upd (r 14) ((i 6).toNatClampNeg) (i 7))), rfl, ⟨hRr, hEr, hpo9⟩, by rw [ht]; exact hP, va_K.moved hW.alike hK, hD⟩, hS.F ht⟩) hS.2.2 dX5_beginClause_30
set_option maxHeartbeats 4000000 in
set_option maxRecDepth 100000 in
theorem c_X5_beginTest9 (l : Launch) (D : va_G) (cy : Nat → ClassId) (a : Nat → Nat) (i : Nat → Int32) (r : Nat → Nat → Int32) (q : Nat → Option Nat) (tl : va_W) (sz : Nat) (hRi : yRi i) (hRr : yRr r) : Met l yX5_beginTest (Cond.code yX5_beginTest cX5_beginTest 1 none :: gT) { frames := 2, cells := 0, slots := 0, locals := 44 } (va_Pc [.ref (a 12)] (rQ D cy (xW cy a i r q (a 20) (a 12) ++ tl) sz)) (va_Qv (fun u : Nat → Nat → Int32 => yRr u ∧ mEr [15] r u ∧ ((i 6).toInt < 14 → u 15 = upd (r 15) (i 6).toInt.toNat (i 7))) (fun (u : Nat → Nat → Int32) t => va_P D vwCl (xW cy a i u q (a 20) (a 12) ++ tl) t.heap ∧ va_K D vwCl (vT cy) t ∧ va_D (va_A (xW cy a i r q (a 20) (a 12) ++ tl) sz) (xW cy a i u q (a 20) (a 12) ++ tl)) (va_A (xW cy a i r q (a 20) (a 12) ++ tl) sz)) 0 0 (va_A (xW cy a i r q (a 20) (a 12) ++ tl) sz) := by
  refine Met.ofQ (cc := cX5_beginTest) (maxL := 1) (ret := none) (by decide) rfl ?_
  intro p e s m args below meth c s₁ B hml hv Q hQ
  obtain ⟨rfl, hsz, hP, hK, hD0⟩ := hv
  have hx := B.exec
  have hb := B.bytes
  have hr := B.returns
  have hlocks := B.notSynchronized
  have hT : ∀ w ∈ gT, w.before _ s = true := fun w h => atoms_spec (ws := (Cond.code yX5_beginTest cX5_beginTest 1 none :: gT)) B.pre w (List.mem_cons_of_mem _ h)
  have hown : s.vm.findClass RX5 = some m.cls := findClass_of_methodNamed B.named
  subst hsz
  have hD := hD0.self (sz := s.heap.size)
  generalize hAe : va_A (xW cy a i r q (a 20) (a 12) ++ tl) s.heap.size = A at hD hQ
  have hA : ∀ q : Nat, s.heap.size ≤ q → A q := fun q h => by rw [← hAe]; exact Or.inr h
  have hS : va_S A s.heap s.heap [] := va_S.rf
  have hl := lv_entry ([.ref (a 12)]) (n := 1) (Nat.le_of_ble_eq_true rfl)
  rw [lg_entry_eq]
  generalize (lg_sl ([.ref (a 12)]) ++ List.replicate (1 - (lg_sl ([.ref (a 12)])).length) Slot.unset).toArray = ls at hl ⊢
  have hl : lv_has ls 1 [(0, .ref (a 12))] := hl
  have hEi : mEi [] i i := Ei_rf
  have hEr : mEr [15] r r := Er_rf
  refine lv_aload_n hx hb dX5_beginTest_0 rfl (lv_at hl 0 rfl) ?_
  refine vp_callSi (W.runV (As := []) (rest := []) ⟨hx, hb, hml, hown, hT⟩ (c_X5_isFull l D cy a i r q tl hRi hRr) (cwV 0 hT (gV t_644 t_645 t_646 t_647 t_367) rfl rfl rfl (by decide +kernel) ⟨Nat.le_of_ble_eq_true rfl, Nat.le_of_ble_eq_true rfl⟩) (rP_v hP hK (va_recv hK hP (ci := 5) (q0 := 12) rfl rfl)) rfl rfl hl.1 rfl (lv_room (Nat.le_of_ble_eq_true rfl)) dX5_beginTest_1 ⟨Nat.le_of_ble_eq_true rfl, Nat.le_of_ble_eq_true rfl⟩) (fun r_1 hr_1 => ?_)
  have hg_2 : 0 ≤ (i 6).toInt ∧ (i 6).toInt ≤ 14 := hRi 6
  have hr_1 : BR r_1 (14 ≤ (i 6).toInt) 1 0 := hr_1
  rcases hr_1 with ⟨rfl, h_3⟩ | ⟨rfl, h_3⟩
  · skip
    refine lv_if_ne (tgt := 20) hx hb dX5_beginTest_4 (by decide) (fun c_4 => ?_) (fun c_4 => absurd c_4 (by decide))
    subst hQ
    have hpo9 : (i 6).toInt < 14 → r 15 = upd (r 15) (i 6).toInt.toNat (i 7) := (fun h9 => absurd h9 (by omega))
    exact W.vret hx hb hr (fun t ht hW => ⟨⟨r, rfl, ⟨hRr, hEr, hpo9⟩, by rw [ht]; exact hP, va_K.moved hW.alike hK, hD⟩, hS.F ht⟩) hS.2.2 dX5_beginTest_20
  · skip
    refine lv_if_ne (tgt := 20) hx hb dX5_beginTest_4 (by decide) (fun c_5 => absurd (by decide) c_5) (fun c_5 => ?_)
    refine lv_aload_n hx hb dX5_beginTest_7 rfl (lv_at hl 0 rfl) ?_
    refine va_get (D := D) (ci := 5) (v := .ref (a 15)) (C := RX5) (T := TX5) (N := 9) hx hb hT iX5 hown hK hP 12 rfl rfl 4 (by decide) (hT _ t_372) (fun _ h9 => h9) rfl dX5_beginTest_8 ?_
    refine lv_aload_n hx hb dX5_beginTest_11 rfl (lv_at hl 0 rfl) ?_
    refine va_get (D := D) (ci := 5) (v := .int (i 6)) (C := RX5) (T := TX5) (N := 9) hx hb hT iX5 hown hK hP 12 rfl rfl 0 (by decide) (hT _ t_370) (fun _ h9 => h9) rfl dX5_beginTest_12 ?_
    refine lv_aload_n hx hb dX5_beginTest_15 rfl (lv_at hl 0 rfl) ?_
    refine va_get (D := D) (ci := 5) (v := .int (i 7)) (C := RX5) (T := TX5) (N := 9) hx hb hT iX5 hown hK hP 12 rfl rfl 1 (by decide) (hT _ t_643) (fun _ h9 => h9) rfl dX5_beginTest_16 ?_
    have hg_6 : 0 ≤ (i 7).toInt ∧ (i 7).toInt ≤ 200 := hRi 7
    refine va_iast hx hb hK hP hD hS 15 0 rfl rfl (vp_inI (by omega) (by omega)) dX5_beginTest_19 (fun H locs hP hD hS => ?_)
    rw [zS15] at hP hD
    have hRr : yRr (va_up r 15 (upd (r 15) ((i 6).toNatClampNeg) (i 7))) := Yr_upd hRr 15 ((i 6).toNatClampNeg) (i 7) ⟨by show (0 : Int) ≤ (i 7).toInt; omega, by show (i 7).toInt ≤ (200 : Int); omega⟩
    have hEr : mEr [15] _ (va_up r 15 (upd (r 15) ((i 6).toNatClampNeg) (i 7))) := Er_up hEr 15 _ (by decide)
    subst hQ
    have hpo9 : (i 6).toInt < 14 → (va_up r 15 (upd (r 15) ((i 6).toNatClampNeg) (i 7))) 15 = upd (r 15) (i 6).toInt.toNat (i 7) := (fun _ => rfl)
    exact W.vret hx hb hr (fun t ht hW => ⟨⟨(va_up r 15 (upd (r 15) ((i 6).toNatClampNeg) (i 7))), rfl, ⟨hRr, hEr, hpo9⟩, by rw [ht]; exact hP, va_K.moved hW.alike hK, hD⟩, hS.F ht⟩) hS.2.2 dX5_beginTest_20
set_option maxHeartbeats 4000000 in
set_option maxRecDepth 100000 in
theorem c_X5_endClause9 (l : Launch) (D : va_G) (cy : Nat → ClassId) (a : Nat → Nat) (i : Nat → Int32) (r : Nat → Nat → Int32) (q : Nat → Option Nat) (tl : va_W) (sz : Nat) (hRi : yRi i) (hRr : yRr r) : Met l yX5_endClause (Cond.code yX5_endClause cX5_endClause 1 none :: gT) { frames := 2, cells := 0, slots := 0, locals := 44 } (va_Pc [.ref (a 12)] (rQ D cy (xW cy a i r q (a 20) (a 12) ++ tl) sz)) (va_Qv (fun u : (Nat → Int32) × (Nat → Nat → Int32) => yRi u.1 ∧ yRr u.2 ∧ mEi [6] i u.1 ∧ mEr [16] r u.2 ∧ ((i 6).toInt < 14 → (u.1 6).toInt = (i 6).toInt + 1 ∧ u.2 16 = upd (r 16) (i 6).toInt.toNat (i 7))) (fun (u : (Nat → Int32) × (Nat → Nat → Int32)) t => va_P D vwCl (xW cy a u.1 u.2 q (a 20) (a 12) ++ tl) t.heap ∧ va_K D vwCl (vT cy) t ∧ va_D (va_A (xW cy a i r q (a 20) (a 12) ++ tl) sz) (xW cy a u.1 u.2 q (a 20) (a 12) ++ tl)) (va_A (xW cy a i r q (a 20) (a 12) ++ tl) sz)) 0 0 (va_A (xW cy a i r q (a 20) (a 12) ++ tl) sz) := by
  refine Met.ofQ (cc := cX5_endClause) (maxL := 1) (ret := none) (by decide) rfl ?_
  intro p e s m args below meth c s₁ B hml hv Q hQ
  obtain ⟨rfl, hsz, hP, hK, hD0⟩ := hv
  have hx := B.exec
  have hb := B.bytes
  have hr := B.returns
  have hlocks := B.notSynchronized
  have hT : ∀ w ∈ gT, w.before _ s = true := fun w h => atoms_spec (ws := (Cond.code yX5_endClause cX5_endClause 1 none :: gT)) B.pre w (List.mem_cons_of_mem _ h)
  have hown : s.vm.findClass RX5 = some m.cls := findClass_of_methodNamed B.named
  subst hsz
  have hD := hD0.self (sz := s.heap.size)
  generalize hAe : va_A (xW cy a i r q (a 20) (a 12) ++ tl) s.heap.size = A at hD hQ
  have hA : ∀ q : Nat, s.heap.size ≤ q → A q := fun q h => by rw [← hAe]; exact Or.inr h
  have hS : va_S A s.heap s.heap [] := va_S.rf
  have hl := lv_entry ([.ref (a 12)]) (n := 1) (Nat.le_of_ble_eq_true rfl)
  rw [lg_entry_eq]
  generalize (lg_sl ([.ref (a 12)]) ++ List.replicate (1 - (lg_sl ([.ref (a 12)])).length) Slot.unset).toArray = ls at hl ⊢
  have hl : lv_has ls 1 [(0, .ref (a 12))] := hl
  have hEi : mEi [6] i i := Ei_rf
  have hEr : mEr [16] r r := Er_rf
  refine lv_aload_n hx hb dX5_endClause_0 rfl (lv_at hl 0 rfl) ?_
  refine vp_callSi (W.runV (As := []) (rest := []) ⟨hx, hb, hml, hown, hT⟩ (c_X5_isFull l D cy a i r q tl hRi hRr) (cwV 0 hT (gV t_644 t_645 t_646 t_647 t_367) rfl rfl rfl (by decide +kernel) ⟨Nat.le_of_ble_eq_true rfl, Nat.le_of_ble_eq_true rfl⟩) (rP_v hP hK (va_recv hK hP (ci := 5) (q0 := 12) rfl rfl)) rfl rfl hl.1 rfl (lv_room (Nat.le_of_ble_eq_true rfl)) dX5_endClause_1 ⟨Nat.le_of_ble_eq_true rfl, Nat.le_of_ble_eq_true rfl⟩) (fun r_1 hr_1 => ?_)
  have hg_2 : 0 ≤ (i 6).toInt ∧ (i 6).toInt ≤ 14 := hRi 6
  have hr_1 : BR r_1 (14 ≤ (i 6).toInt) 1 0 := hr_1
  rcases hr_1 with ⟨rfl, h_3⟩ | ⟨rfl, h_3⟩
  · skip
    refine lv_if_ne (tgt := 30) hx hb dX5_endClause_4 (by decide) (fun c_4 => ?_) (fun c_4 => absurd c_4 (by decide))
    subst hQ
    have hpo9 : (i 6).toInt < 14 → (i 6).toInt = (i 6).toInt + 1 ∧ r 16 = upd (r 16) (i 6).toInt.toNat (i 7) := (fun h9 => absurd h9 (by omega))
    exact W.vret hx hb hr (fun t ht hW => ⟨⟨(i, r), rfl, ⟨hRi, hRr, hEi, hEr, hpo9⟩, by rw [ht]; exact hP, va_K.moved hW.alike hK, hD⟩, hS.F ht⟩) hS.2.2 dX5_endClause_30
  · skip
    refine lv_if_ne (tgt := 30) hx hb dX5_endClause_4 (by decide) (fun c_5 => absurd (by decide) c_5) (fun c_5 => ?_)
    refine lv_aload_n hx hb dX5_endClause_7 rfl (lv_at hl 0 rfl) ?_
    refine va_get (D := D) (ci := 5) (v := .ref (a 16)) (C := RX5) (T := TX5) (N := 9) hx hb hT iX5 hown hK hP 12 rfl rfl 5 (by decide) (hT _ t_373) (fun _ h9 => h9) rfl dX5_endClause_8 ?_
    refine lv_aload_n hx hb dX5_endClause_11 rfl (lv_at hl 0 rfl) ?_
    refine va_get (D := D) (ci := 5) (v := .int (i 6)) (C := RX5) (T := TX5) (N := 9) hx hb hT iX5 hown hK hP 12 rfl rfl 0 (by decide) (hT _ t_370) (fun _ h9 => h9) rfl dX5_endClause_12 ?_
    refine lv_aload_n hx hb dX5_endClause_15 rfl (lv_at hl 0 rfl) ?_
    refine va_get (D := D) (ci := 5) (v := .int (i 7)) (C := RX5) (T := TX5) (N := 9) hx hb hT iX5 hown hK hP 12 rfl rfl 1 (by decide) (hT _ t_643) (fun _ h9 => h9) rfl dX5_endClause_16 ?_
    have hg_6 : 0 ≤ (i 7).toInt ∧ (i 7).toInt ≤ 200 := hRi 7
    refine va_iast hx hb hK hP hD hS 16 0 rfl rfl (vp_inI (by omega) (by omega)) dX5_endClause_19 (fun H locs hP hD hS => ?_)
    rw [zS16] at hP hD
    have hRr : yRr (va_up r 16 (upd (r 16) ((i 6).toNatClampNeg) (i 7))) := Yr_upd hRr 16 ((i 6).toNatClampNeg) (i 7) ⟨by show (0 : Int) ≤ (i 7).toInt; omega, by show (i 7).toInt ≤ (200 : Int); omega⟩
    have hEr : mEr [16] _ (va_up r 16 (upd (r 16) ((i 6).toNatClampNeg) (i 7))) := Er_up hEr 16 _ (by decide)
    refine lv_aload_n hx hb dX5_endClause_20 rfl (lv_at hl 0 rfl) ?_
    refine lv_dup hx hb dX5_endClause_21 rfl ?_
    refine va_get (D := D) (ci := 5) (v := .int (i 6)) (C := RX5) (T := TX5) (N := 9) hx hb hT iX5 hown hK hP 12 rfl rfl 0 (by decide) (hT _ t_370) (fun _ h9 => h9) rfl dX5_endClause_22 ?_
    refine lv_iconst (v := 1) hx hb dX5_endClause_25 (by decide) ?_
    refine lv_iadd hx hb dX5_endClause_26 ?_
    refine lv_topi (fun v_7 ev_7 => ?_)
    have hv_7 : v_7.toInt = (i 6).toInt + 1 := by rw [ev_7]; have := b_rg (i 6); exact i_add (a := (i 6).toInt) (b := 1) rfl rfl (by omega) (by omega)
    refine va_put (D := D) (ci := 5) (v := .int v_7) (ty := .int) (C := RX5) (T := TX5) (N := 9) hx hb hT iX5 tyX5 tyX5_ok nmX5 hown hK hP hD hS 12 rfl rfl 0 (by decide) (hT _ t_370) (fun _ h9 => h9) rfl (by decide +kernel) rfl rfl (Nat.le_of_ble_eq_true rfl) dX5_endClause_27 (fun H locs hP hD hS => ?_)
    rw [zP6] at hP hD
    have hRi := Yi_upd hRi 6 v_7 ⟨by show (0 : Int) ≤ v_7.toInt; omega, by show v_7.toInt ≤ (14 : Int); omega⟩
    have hEi := Ei_upd hEi 6 v_7 (by decide)
    subst hQ
    have hpo9 : (i 6).toInt < 14 → ((upd i 6 v_7) 6).toInt = (i 6).toInt + 1 ∧ (va_up r 16 (upd (r 16) ((i 6).toNatClampNeg) (i 7))) 16 = upd (r 16) (i 6).toInt.toNat (i 7) := (fun _ => ⟨by show v_7.toInt = _; omega, rfl⟩)
    exact W.vret hx hb hr (fun t ht hW => ⟨⟨(upd i 6 v_7, va_up r 16 (upd (r 16) ((i 6).toNatClampNeg) (i 7))), rfl, ⟨hRi, hRr, hEi, hEr, hpo9⟩, by rw [ht]; exact hP, va_K.moved hW.alike hK, hD⟩, hS.F ht⟩) hS.2.2 dX5_endClause_30
set_option maxHeartbeats 4000000 in
set_option maxRecDepth 100000 in
theorem c_X6_beginClause9 (l : Launch) (D : va_G) (cy : Nat → ClassId) (a : Nat → Nat) (i : Nat → Int32) (r : Nat → Nat → Int32) (q : Nat → Option Nat) (tl : va_W) (p0 : Int32) (sz : Nat) (hRi : yRi i) (hRr : yRr r) (h4 : 0 ≤ (i 4).toInt ∧ (i 4).toInt ≤ 200) : Met l yX6_beginClause (Cond.code yX6_beginClause cX6_beginClause 2 (some .boolean) :: gT) { frames := 3, cells := 0, slots := 0, locals := 65 } (va_Pc [.ref (a 10), .int p0] (rQ D cy (xW cy a i r q (a 20) (a 12) ++ tl) sz)) (va_Qi (fun (z : Int32) (u : (Nat → Int32) × (Nat → Nat → Int32)) => yRi u.1 ∧ yRr u.2 ∧ mEi [4, 5] i u.1 ∧ mEr [13, 14] r u.2 ∧ ((z = 1 ∧ qLt p0.toInt ∧ (i 6).toInt < 14 ∧ (u.1 4).toInt = (i 4).toInt + 1 ∧ u.1 5 = i 5 ∧ u.2 13 = upd (r 13) (i 6).toInt.toNat p0 ∧ u.2 14 = upd (r 14) (i 6).toInt.toNat (i 7)) ∨ (z = 0 ∧ ((¬ qLt p0.toInt ∧ (u.1 5).toInt = -1000 - (i 4).toInt) ∨ (qLt p0.toInt ∧ 14 ≤ (i 6).toInt ∧ (u.1 5).toInt = -4000 - (i 4).toInt))))) (fun (u : (Nat → Int32) × (Nat → Nat → Int32)) t => va_P D vwCl (xW cy a u.1 u.2 q (a 20) (a 12) ++ tl) t.heap ∧ va_K D vwCl (vT cy) t ∧ va_D (va_A (xW cy a i r q (a 20) (a 12) ++ tl) sz) (xW cy a u.1 u.2 q (a 20) (a 12) ++ tl)) (va_A (xW cy a i r q (a 20) (a 12) ++ tl) sz)) 0 0 (va_A (xW cy a i r q (a 20) (a 12) ++ tl) sz) := by
  refine Met.ofQ (cc := cX6_beginClause) (maxL := 2) (ret := (some .boolean)) (by decide) rfl ?_
  intro p e s m args below meth c s₁ B hml hv Q hQ
  obtain ⟨rfl, hsz, hP, hK, hD0⟩ := hv
  have hx := B.exec
  have hb := B.bytes
  have hr := B.returns
  have hlocks := B.notSynchronized
  have hT : ∀ w ∈ gT, w.before _ s = true := fun w h => atoms_spec (ws := (Cond.code yX6_beginClause cX6_beginClause 2 (some .boolean) :: gT)) B.pre w (List.mem_cons_of_mem _ h)
  have hown : s.vm.findClass RX6 = some m.cls := findClass_of_methodNamed B.named
  subst hsz
  have hD := hD0.self (sz := s.heap.size)
  generalize hAe : va_A (xW cy a i r q (a 20) (a 12) ++ tl) s.heap.size = A at hD hQ
  have hA : ∀ q : Nat, s.heap.size ≤ q → A q := fun q h => by rw [← hAe]; exact Or.inr h
  have hS : va_S A s.heap s.heap [] := va_S.rf
  have hl := lv_entry ([.ref (a 10), .int p0]) (n := 2) (Nat.le_of_ble_eq_true rfl)
  rw [lg_entry_eq]
  generalize (lg_sl ([.ref (a 10), .int p0]) ++ List.replicate (2 - (lg_sl ([.ref (a 10), .int p0])).length) Slot.unset).toArray = ls at hl ⊢
  have hl : lv_has ls 2 [(0, .ref (a 10)), (1, .int p0)] := hl
  have hEi : mEi [4, 5] i i := Ei_rf
  have hEr : mEr [13, 14] r r := Er_rf
  refine lv_iload_n hx hb dX6_beginClause_0 rfl (lv_at hl 1 rfl) ?_
  refine lv_bipush (v := 102) hx hb dX6_beginClause_1 (by decide) ?_
  refine lv_icmp_eq (tgt := 36) hx hb dX6_beginClause_3 (by decide) (fun c_1 => ?_) (fun c_1 => ?_)
  · have c_1 : p0.toInt = 102 := b_eq c_1
    refine lv_aload_n hx hb dX6_beginClause_36 rfl (lv_at hl 0 rfl) ?_
    refine va_get (D := D) (ci := 6) (v := .ref (a 12)) (C := RX6) (T := TX6) (N := 5) hx hb hT iX6 hown hK hP 10 rfl rfl 0 (by decide) (hT _ t_661) (fun _ h9 => h9) rfl dX6_beginClause_37 ?_
    refine vp_callSi (W.runV (As := []) (rest := []) ⟨hx, hb, hml, hown, hT⟩ (c_X5_isFull l D cy a i r q tl hRi hRr) (cwV 0 hT (gV t_644 t_698 t_646 t_647 t_367) rfl rfl rfl (by decide +kernel) ⟨Nat.le_of_ble_eq_true rfl, Nat.le_of_ble_eq_true rfl⟩) (rP_v hP hK (va_recv hK hP (ci := 5) (q0 := 12) rfl rfl)) rfl rfl hl.1 rfl (lv_room (Nat.le_of_ble_eq_true rfl)) dX6_beginClause_40 ⟨Nat.le_of_ble_eq_true rfl, Nat.le_of_ble_eq_true rfl⟩) (fun r_2 hr_2 => ?_)
    have hg_3 : 0 ≤ (i 6).toInt ∧ (i 6).toInt ≤ 14 := hRi 6
    have hr_2 : BR r_2 (14 ≤ (i 6).toInt) 1 0 := hr_2
    rcases hr_2 with ⟨rfl, h_4⟩ | ⟨rfl, h_4⟩
    · skip
      refine lv_if_eq (tgt := 52) hx hb dX6_beginClause_43 (by decide) (fun c_5 => absurd c_5 (by decide)) (fun c_5 => ?_)
      refine lv_aload_n hx hb dX6_beginClause_46 rfl (lv_at hl 0 rfl) ?_
      refine lv_iconst (v := 4) hx hb dX6_beginClause_47 (by decide) ?_
      have hF_6 := rF hD hS hA
      refine va_calli (va_runV (As := [.int 4]) (rest := []) ⟨hx, hb, hml, hown, hT⟩ (c_X6_refuse9 l D cy a i r q tl 4 _ hRi hRr (by decide) (show 0 ≤ (i 4).toInt ∧ (i 4).toInt ≤ 300 by omega)) (cwV 1 hT (gV t_657 t_658 t_659 t_660 t_653) rfl rfl rfl (by decide +kernel) ⟨Nat.le_of_ble_eq_true rfl, Nat.le_of_ble_eq_true rfl⟩) (rQ_v hP hK hD (va_recv hK hP (ci := 6) (q0 := 10) rfl rfl)) rfl rfl hl.1 rfl (lv_room (Nat.le_of_ble_eq_true rfl)) dX6_beginClause_48 ⟨Nat.le_of_ble_eq_true rfl, Nat.le_of_ble_eq_true rfl⟩) hS (fun q _ h => hF_6 q h) hF_6 (fun r_7 u_8 t H1 locs ht hvm hr_7 hB hz1 hk1 hS => ?_)
      obtain ⟨i8, r8⟩ := u_8
      obtain ⟨hP, hK1, hD1⟩ := hB
      rw [ht] at hP
      have hD := hD1.weaken (fun k q _ h => hF_6 q.1 h)
      obtain ⟨hRi, hRr, hE1, hE2, hr_7⟩ := hr_7
      have hRi : yRi i8 := hRi
      have hE1 : mEi [5] i i8 := hE1
      have hRr : yRr r8 := hRr
      have hE2 : mEr [] r r8 := hE2
      have hP : va_P D vwCl (xW cy a i8 r8 q (a 20) (a 12) ++ tl) H1 := hP
      have hD : va_D A (xW cy a i8 r8 q (a 20) (a 12) ++ tl) := hD
      have hEi : mEi [4, 5] _ i8 := Ei_tr hEi hE1 (by decide)
      have hEr : mEr [13, 14] _ r8 := Er_tr hEr hE2 (by decide)
      obtain ⟨rfl, hF9⟩ := hr_7
      have hF9 : (i8 5).toInt = -1000 * 4 - (i 4).toInt := hF9
      have hF4 : i8 4 = (i 4) := hE1 4 (by decide)
      subst hQ
      have hpo9 : ((0 : Int32) = 1 ∧ qLt p0.toInt ∧ (i 6).toInt < 14 ∧ (i8 4).toInt = (i 4).toInt + 1 ∧ i8 5 = i 5 ∧ r8 13 = upd (r 13) (i 6).toInt.toNat p0 ∧ r8 14 = upd (r 14) (i 6).toInt.toNat (i 7)) ∨ ((0 : Int32) = 0 ∧ ((¬ qLt p0.toInt ∧ (i8 5).toInt = -1000 - (i 4).toInt) ∨ (qLt p0.toInt ∧ 14 ≤ (i 6).toInt ∧ (i8 5).toInt = -4000 - (i 4).toInt))) := (Or.inr ⟨rfl, Or.inr ⟨(by unfold qLt; omega), by omega, by omega⟩⟩)
      exact W.zret hx hb hr rfl (fun t ht hW => ⟨⟨_, (i8, r8), rfl, ⟨hRi, hRr, hEi, hEr, hpo9⟩, by rw [ht]; exact hP, va_K.moved hW.alike hK, hD⟩, hS.F ht⟩) hS.2.2 dX6_beginClause_51
    · skip
      refine lv_if_eq (tgt := 52) hx hb dX6_beginClause_43 (by decide) (fun c_9 => ?_) (fun c_9 => absurd (by decide) c_9)
      refine lv_aload_n hx hb dX6_beginClause_52 rfl (lv_at hl 0 rfl) ?_
      refine lv_dup hx hb dX6_beginClause_53 rfl ?_
      refine va_get (D := D) (ci := 6) (v := .int (i 4)) (C := RX6) (T := TX6) (N := 5) hx hb hT iX6 hown hK hP 10 rfl rfl 3 (by decide) (hT _ t_648) (fun _ h9 => h9) rfl dX6_beginClause_54 ?_
      refine lv_iconst (v := 1) hx hb dX6_beginClause_57 (by decide) ?_
      refine lv_iadd hx hb dX6_beginClause_58 ?_
      refine lv_topi (fun v_10 ev_10 => ?_)
      have hv_10 : v_10.toInt = (i 4).toInt + 1 := by rw [ev_10]; have := b_rg (i 4); exact i_add (a := (i 4).toInt) (b := 1) rfl rfl (by omega) (by omega)
      refine va_put (D := D) (ci := 6) (v := .int v_10) (ty := .int) (C := RX6) (T := TX6) (N := 5) hx hb hT iX6 tyX6 tyX6_ok nmX6 hown hK hP hD hS 10 rfl rfl 3 (by decide) (hT _ t_648) (fun _ h9 => h9) rfl (by decide +kernel) rfl rfl (Nat.le_of_ble_eq_true rfl) dX6_beginClause_59 (fun H locs hP hD hS => ?_)
      rw [zP4] at hP hD
      have hRi := Yi_upd hRi 4 v_10 (b_rg _)
      have hEi := Ei_upd hEi 4 v_10 (by decide)
      refine lv_aload_n hx hb dX6_beginClause_62 rfl (lv_at hl 0 rfl) ?_
      refine va_get (D := D) (ci := 6) (v := .ref (a 12)) (C := RX6) (T := TX6) (N := 5) hx hb hT iX6 hown hK hP 10 rfl rfl 0 (by decide) (hT _ t_661) (fun _ h9 => h9) rfl dX6_beginClause_63 ?_
      refine lv_iload_n hx hb dX6_beginClause_66 rfl (lv_at hl 1 rfl) ?_
      have hF_11 := rF hD hS hA
      refine va_callv (va_runV (As := [.int p0]) (rest := []) ⟨hx, hb, hml, hown, hT⟩ (c_X5_beginClause9 l D cy a (upd i 4 v_10) r q tl p0 _ hRi hRr) (cwV 1 hT (gV t_699 t_700 t_701 t_702 t_367) rfl rfl rfl (by decide +kernel) ⟨Nat.le_of_ble_eq_true rfl, Nat.le_of_ble_eq_true rfl⟩) (rQ_v hP hK hD (va_recv hK hP (ci := 5) (q0 := 12) rfl rfl)) rfl rfl hl.1 rfl (lv_room (Nat.le_of_ble_eq_true rfl)) dX6_beginClause_67 ⟨Nat.le_of_ble_eq_true rfl, Nat.le_of_ble_eq_true rfl⟩) hS (fun q _ h => hF_11 q h) hF_11 (fun u_13 t H1 locs ht hvm hr_12 hB hz1 hk1 hS => ?_)
      obtain ⟨r13, rfl⟩ : ∃ z, z = u_13 := ⟨_, rfl⟩
      obtain ⟨hP, hK1, hD1⟩ := hB
      rw [ht] at hP
      have hD := hD1.weaken (fun k q _ h => hF_11 q.1 h)
      obtain ⟨hRr, hE2, hr_12⟩ := hr_12
      have hRr : yRr r13 := hRr
      have hE2 : mEr [13, 14] r r13 := hE2
      have hP : va_P D vwCl (xW cy a (upd i 4 v_10) r13 q (a 20) (a 12) ++ tl) H1 := hP
      have hD : va_D A (xW cy a (upd i 4 v_10) r13 q (a 20) (a 12) ++ tl) := hD
      have hEr : mEr [13, 14] _ r13 := Er_tr hEr hE2 (by decide)
      have hb9r_12 : ((upd i 4 v_10) 6).toInt < 14 → r13 13 = upd (r 13) ((upd i 4 v_10) 6).toInt.toNat p0 ∧ r13 14 = upd (r 14) ((upd i 4 v_10) 6).toInt.toNat ((upd i 4 v_10) 7) := hr_12
      refine lv_iconst (v := 1) hx hb dX6_beginClause_70 (by decide) ?_
      subst hQ
      have hbb := hb9r_12 (by show (i 6).toInt < 14; omega)
      have hpo9 : ((1 : Int32) = 1 ∧ qLt p0.toInt ∧ (i 6).toInt < 14 ∧ ((upd i 4 v_10) 4).toInt = (i 4).toInt + 1 ∧ (upd i 4 v_10) 5 = i 5 ∧ r13 13 = upd (r 13) (i 6).toInt.toNat p0 ∧ r13 14 = upd (r 14) (i 6).toInt.toNat (i 7)) ∨ ((1 : Int32) = 0 ∧ ((¬ qLt p0.toInt ∧ ((upd i 4 v_10) 5).toInt = -1000 - (i 4).toInt) ∨ (qLt p0.toInt ∧ 14 ≤ (i 6).toInt ∧ ((upd i 4 v_10) 5).toInt = -4000 - (i 4).toInt))) := (Or.inl ⟨rfl, (by unfold qLt; omega), by omega, (by show v_10.toInt = _; omega), rfl, hbb.1, hbb.2⟩)
      exact W.zret hx hb hr rfl (fun t ht hW => ⟨⟨_, (upd i 4 v_10, r13), rfl, ⟨hRi, hRr, hEi, hEr, hpo9⟩, by rw [ht]; exact hP, va_K.moved hW.alike hK, hD⟩, hS.F ht⟩) hS.2.2 dX6_beginClause_71
  · have c_1 : p0.toInt ≠ 102 := b_ne c_1
    refine lv_iload_n hx hb dX6_beginClause_6 rfl (lv_at hl 1 rfl) ?_
    refine lv_bipush (v := 112) hx hb dX6_beginClause_7 (by decide) ?_
    refine lv_icmp_eq (tgt := 36) hx hb dX6_beginClause_9 (by decide) (fun c_14 => ?_) (fun c_14 => ?_)
    · have c_14 : p0.toInt = 112 := b_eq c_14
      refine lv_aload_n hx hb dX6_beginClause_36 rfl (lv_at hl 0 rfl) ?_
      refine va_get (D := D) (ci := 6) (v := .ref (a 12)) (C := RX6) (T := TX6) (N := 5) hx hb hT iX6 hown hK hP 10 rfl rfl 0 (by decide) (hT _ t_661) (fun _ h9 => h9) rfl dX6_beginClause_37 ?_
      refine vp_callSi (W.runV (As := []) (rest := []) ⟨hx, hb, hml, hown, hT⟩ (c_X5_isFull l D cy a i r q tl hRi hRr) (cwV 0 hT (gV t_644 t_698 t_646 t_647 t_367) rfl rfl rfl (by decide +kernel) ⟨Nat.le_of_ble_eq_true rfl, Nat.le_of_ble_eq_true rfl⟩) (rP_v hP hK (va_recv hK hP (ci := 5) (q0 := 12) rfl rfl)) rfl rfl hl.1 rfl (lv_room (Nat.le_of_ble_eq_true rfl)) dX6_beginClause_40 ⟨Nat.le_of_ble_eq_true rfl, Nat.le_of_ble_eq_true rfl⟩) (fun r_15 hr_15 => ?_)
      have hg_16 : 0 ≤ (i 6).toInt ∧ (i 6).toInt ≤ 14 := hRi 6
      have hr_15 : BR r_15 (14 ≤ (i 6).toInt) 1 0 := hr_15
      rcases hr_15 with ⟨rfl, h_17⟩ | ⟨rfl, h_17⟩
      · skip
        refine lv_if_eq (tgt := 52) hx hb dX6_beginClause_43 (by decide) (fun c_18 => absurd c_18 (by decide)) (fun c_18 => ?_)
        refine lv_aload_n hx hb dX6_beginClause_46 rfl (lv_at hl 0 rfl) ?_
        refine lv_iconst (v := 4) hx hb dX6_beginClause_47 (by decide) ?_
        have hF_19 := rF hD hS hA
        refine va_calli (va_runV (As := [.int 4]) (rest := []) ⟨hx, hb, hml, hown, hT⟩ (c_X6_refuse9 l D cy a i r q tl 4 _ hRi hRr (by decide) (show 0 ≤ (i 4).toInt ∧ (i 4).toInt ≤ 300 by omega)) (cwV 1 hT (gV t_657 t_658 t_659 t_660 t_653) rfl rfl rfl (by decide +kernel) ⟨Nat.le_of_ble_eq_true rfl, Nat.le_of_ble_eq_true rfl⟩) (rQ_v hP hK hD (va_recv hK hP (ci := 6) (q0 := 10) rfl rfl)) rfl rfl hl.1 rfl (lv_room (Nat.le_of_ble_eq_true rfl)) dX6_beginClause_48 ⟨Nat.le_of_ble_eq_true rfl, Nat.le_of_ble_eq_true rfl⟩) hS (fun q _ h => hF_19 q h) hF_19 (fun r_20 u_21 t H1 locs ht hvm hr_20 hB hz1 hk1 hS => ?_)
        obtain ⟨i21, r21⟩ := u_21
        obtain ⟨hP, hK1, hD1⟩ := hB
        rw [ht] at hP
        have hD := hD1.weaken (fun k q _ h => hF_19 q.1 h)
        obtain ⟨hRi, hRr, hE1, hE2, hr_20⟩ := hr_20
        have hRi : yRi i21 := hRi
        have hE1 : mEi [5] i i21 := hE1
        have hRr : yRr r21 := hRr
        have hE2 : mEr [] r r21 := hE2
        have hP : va_P D vwCl (xW cy a i21 r21 q (a 20) (a 12) ++ tl) H1 := hP
        have hD : va_D A (xW cy a i21 r21 q (a 20) (a 12) ++ tl) := hD
        have hEi : mEi [4, 5] _ i21 := Ei_tr hEi hE1 (by decide)
        have hEr : mEr [13, 14] _ r21 := Er_tr hEr hE2 (by decide)
        obtain ⟨rfl, hF9⟩ := hr_20
        have hF9 : (i21 5).toInt = -1000 * 4 - (i 4).toInt := hF9
        have hF4 : i21 4 = (i 4) := hE1 4 (by decide)
        subst hQ
        have hpo9 : ((0 : Int32) = 1 ∧ qLt p0.toInt ∧ (i 6).toInt < 14 ∧ (i21 4).toInt = (i 4).toInt + 1 ∧ i21 5 = i 5 ∧ r21 13 = upd (r 13) (i 6).toInt.toNat p0 ∧ r21 14 = upd (r 14) (i 6).toInt.toNat (i 7)) ∨ ((0 : Int32) = 0 ∧ ((¬ qLt p0.toInt ∧ (i21 5).toInt = -1000 - (i 4).toInt) ∨ (qLt p0.toInt ∧ 14 ≤ (i 6).toInt ∧ (i21 5).toInt = -4000 - (i 4).toInt))) := (Or.inr ⟨rfl, Or.inr ⟨(by unfold qLt; omega), by omega, by omega⟩⟩)
        exact W.zret hx hb hr rfl (fun t ht hW => ⟨⟨_, (i21, r21), rfl, ⟨hRi, hRr, hEi, hEr, hpo9⟩, by rw [ht]; exact hP, va_K.moved hW.alike hK, hD⟩, hS.F ht⟩) hS.2.2 dX6_beginClause_51
      · skip
        refine lv_if_eq (tgt := 52) hx hb dX6_beginClause_43 (by decide) (fun c_22 => ?_) (fun c_22 => absurd (by decide) c_22)
        refine lv_aload_n hx hb dX6_beginClause_52 rfl (lv_at hl 0 rfl) ?_
        refine lv_dup hx hb dX6_beginClause_53 rfl ?_
        refine va_get (D := D) (ci := 6) (v := .int (i 4)) (C := RX6) (T := TX6) (N := 5) hx hb hT iX6 hown hK hP 10 rfl rfl 3 (by decide) (hT _ t_648) (fun _ h9 => h9) rfl dX6_beginClause_54 ?_
        refine lv_iconst (v := 1) hx hb dX6_beginClause_57 (by decide) ?_
        refine lv_iadd hx hb dX6_beginClause_58 ?_
        refine lv_topi (fun v_23 ev_23 => ?_)
        have hv_23 : v_23.toInt = (i 4).toInt + 1 := by rw [ev_23]; have := b_rg (i 4); exact i_add (a := (i 4).toInt) (b := 1) rfl rfl (by omega) (by omega)
        refine va_put (D := D) (ci := 6) (v := .int v_23) (ty := .int) (C := RX6) (T := TX6) (N := 5) hx hb hT iX6 tyX6 tyX6_ok nmX6 hown hK hP hD hS 10 rfl rfl 3 (by decide) (hT _ t_648) (fun _ h9 => h9) rfl (by decide +kernel) rfl rfl (Nat.le_of_ble_eq_true rfl) dX6_beginClause_59 (fun H locs hP hD hS => ?_)
        rw [zP4] at hP hD
        have hRi := Yi_upd hRi 4 v_23 (b_rg _)
        have hEi := Ei_upd hEi 4 v_23 (by decide)
        refine lv_aload_n hx hb dX6_beginClause_62 rfl (lv_at hl 0 rfl) ?_
        refine va_get (D := D) (ci := 6) (v := .ref (a 12)) (C := RX6) (T := TX6) (N := 5) hx hb hT iX6 hown hK hP 10 rfl rfl 0 (by decide) (hT _ t_661) (fun _ h9 => h9) rfl dX6_beginClause_63 ?_
        refine lv_iload_n hx hb dX6_beginClause_66 rfl (lv_at hl 1 rfl) ?_
        have hF_24 := rF hD hS hA
        refine va_callv (va_runV (As := [.int p0]) (rest := []) ⟨hx, hb, hml, hown, hT⟩ (c_X5_beginClause9 l D cy a (upd i 4 v_23) r q tl p0 _ hRi hRr) (cwV 1 hT (gV t_699 t_700 t_701 t_702 t_367) rfl rfl rfl (by decide +kernel) ⟨Nat.le_of_ble_eq_true rfl, Nat.le_of_ble_eq_true rfl⟩) (rQ_v hP hK hD (va_recv hK hP (ci := 5) (q0 := 12) rfl rfl)) rfl rfl hl.1 rfl (lv_room (Nat.le_of_ble_eq_true rfl)) dX6_beginClause_67 ⟨Nat.le_of_ble_eq_true rfl, Nat.le_of_ble_eq_true rfl⟩) hS (fun q _ h => hF_24 q h) hF_24 (fun u_26 t H1 locs ht hvm hr_25 hB hz1 hk1 hS => ?_)
        obtain ⟨r26, rfl⟩ : ∃ z, z = u_26 := ⟨_, rfl⟩
        obtain ⟨hP, hK1, hD1⟩ := hB
        rw [ht] at hP
        have hD := hD1.weaken (fun k q _ h => hF_24 q.1 h)
        obtain ⟨hRr, hE2, hr_25⟩ := hr_25
        have hRr : yRr r26 := hRr
        have hE2 : mEr [13, 14] r r26 := hE2
        have hP : va_P D vwCl (xW cy a (upd i 4 v_23) r26 q (a 20) (a 12) ++ tl) H1 := hP
        have hD : va_D A (xW cy a (upd i 4 v_23) r26 q (a 20) (a 12) ++ tl) := hD
        have hEr : mEr [13, 14] _ r26 := Er_tr hEr hE2 (by decide)
        have hb9r_25 : ((upd i 4 v_23) 6).toInt < 14 → r26 13 = upd (r 13) ((upd i 4 v_23) 6).toInt.toNat p0 ∧ r26 14 = upd (r 14) ((upd i 4 v_23) 6).toInt.toNat ((upd i 4 v_23) 7) := hr_25
        refine lv_iconst (v := 1) hx hb dX6_beginClause_70 (by decide) ?_
        subst hQ
        have hbb := hb9r_25 (by show (i 6).toInt < 14; omega)
        have hpo9 : ((1 : Int32) = 1 ∧ qLt p0.toInt ∧ (i 6).toInt < 14 ∧ ((upd i 4 v_23) 4).toInt = (i 4).toInt + 1 ∧ (upd i 4 v_23) 5 = i 5 ∧ r26 13 = upd (r 13) (i 6).toInt.toNat p0 ∧ r26 14 = upd (r 14) (i 6).toInt.toNat (i 7)) ∨ ((1 : Int32) = 0 ∧ ((¬ qLt p0.toInt ∧ ((upd i 4 v_23) 5).toInt = -1000 - (i 4).toInt) ∨ (qLt p0.toInt ∧ 14 ≤ (i 6).toInt ∧ ((upd i 4 v_23) 5).toInt = -4000 - (i 4).toInt))) := (Or.inl ⟨rfl, (by unfold qLt; omega), by omega, (by show v_23.toInt = _; omega), rfl, hbb.1, hbb.2⟩)
        exact W.zret hx hb hr rfl (fun t ht hW => ⟨⟨_, (upd i 4 v_23, r26), rfl, ⟨hRi, hRr, hEi, hEr, hpo9⟩, by rw [ht]; exact hP, va_K.moved hW.alike hK, hD⟩, hS.F ht⟩) hS.2.2 dX6_beginClause_71
    · have c_14 : p0.toInt ≠ 112 := b_ne c_14
      refine lv_iload_n hx hb dX6_beginClause_12 rfl (lv_at hl 1 rfl) ?_
      refine lv_bipush (v := 100) hx hb dX6_beginClause_13 (by decide) ?_
      refine lv_icmp_eq (tgt := 36) hx hb dX6_beginClause_15 (by decide) (fun c_27 => ?_) (fun c_27 => ?_)
      · have c_27 : p0.toInt = 100 := b_eq c_27
        refine lv_aload_n hx hb dX6_beginClause_36 rfl (lv_at hl 0 rfl) ?_
        refine va_get (D := D) (ci := 6) (v := .ref (a 12)) (C := RX6) (T := TX6) (N := 5) hx hb hT iX6 hown hK hP 10 rfl rfl 0 (by decide) (hT _ t_661) (fun _ h9 => h9) rfl dX6_beginClause_37 ?_
        refine vp_callSi (W.runV (As := []) (rest := []) ⟨hx, hb, hml, hown, hT⟩ (c_X5_isFull l D cy a i r q tl hRi hRr) (cwV 0 hT (gV t_644 t_698 t_646 t_647 t_367) rfl rfl rfl (by decide +kernel) ⟨Nat.le_of_ble_eq_true rfl, Nat.le_of_ble_eq_true rfl⟩) (rP_v hP hK (va_recv hK hP (ci := 5) (q0 := 12) rfl rfl)) rfl rfl hl.1 rfl (lv_room (Nat.le_of_ble_eq_true rfl)) dX6_beginClause_40 ⟨Nat.le_of_ble_eq_true rfl, Nat.le_of_ble_eq_true rfl⟩) (fun r_28 hr_28 => ?_)
        have hg_29 : 0 ≤ (i 6).toInt ∧ (i 6).toInt ≤ 14 := hRi 6
        have hr_28 : BR r_28 (14 ≤ (i 6).toInt) 1 0 := hr_28
        rcases hr_28 with ⟨rfl, h_30⟩ | ⟨rfl, h_30⟩
        · skip
          refine lv_if_eq (tgt := 52) hx hb dX6_beginClause_43 (by decide) (fun c_31 => absurd c_31 (by decide)) (fun c_31 => ?_)
          refine lv_aload_n hx hb dX6_beginClause_46 rfl (lv_at hl 0 rfl) ?_
          refine lv_iconst (v := 4) hx hb dX6_beginClause_47 (by decide) ?_
          have hF_32 := rF hD hS hA
          refine va_calli (va_runV (As := [.int 4]) (rest := []) ⟨hx, hb, hml, hown, hT⟩ (c_X6_refuse9 l D cy a i r q tl 4 _ hRi hRr (by decide) (show 0 ≤ (i 4).toInt ∧ (i 4).toInt ≤ 300 by omega)) (cwV 1 hT (gV t_657 t_658 t_659 t_660 t_653) rfl rfl rfl (by decide +kernel) ⟨Nat.le_of_ble_eq_true rfl, Nat.le_of_ble_eq_true rfl⟩) (rQ_v hP hK hD (va_recv hK hP (ci := 6) (q0 := 10) rfl rfl)) rfl rfl hl.1 rfl (lv_room (Nat.le_of_ble_eq_true rfl)) dX6_beginClause_48 ⟨Nat.le_of_ble_eq_true rfl, Nat.le_of_ble_eq_true rfl⟩) hS (fun q _ h => hF_32 q h) hF_32 (fun r_33 u_34 t H1 locs ht hvm hr_33 hB hz1 hk1 hS => ?_)
          obtain ⟨i34, r34⟩ := u_34
          obtain ⟨hP, hK1, hD1⟩ := hB
          rw [ht] at hP
          have hD := hD1.weaken (fun k q _ h => hF_32 q.1 h)
          obtain ⟨hRi, hRr, hE1, hE2, hr_33⟩ := hr_33
          have hRi : yRi i34 := hRi
          have hE1 : mEi [5] i i34 := hE1
          have hRr : yRr r34 := hRr
          have hE2 : mEr [] r r34 := hE2
          have hP : va_P D vwCl (xW cy a i34 r34 q (a 20) (a 12) ++ tl) H1 := hP
          have hD : va_D A (xW cy a i34 r34 q (a 20) (a 12) ++ tl) := hD
          have hEi : mEi [4, 5] _ i34 := Ei_tr hEi hE1 (by decide)
          have hEr : mEr [13, 14] _ r34 := Er_tr hEr hE2 (by decide)
          obtain ⟨rfl, hF9⟩ := hr_33
          have hF9 : (i34 5).toInt = -1000 * 4 - (i 4).toInt := hF9
          have hF4 : i34 4 = (i 4) := hE1 4 (by decide)
          subst hQ
          have hpo9 : ((0 : Int32) = 1 ∧ qLt p0.toInt ∧ (i 6).toInt < 14 ∧ (i34 4).toInt = (i 4).toInt + 1 ∧ i34 5 = i 5 ∧ r34 13 = upd (r 13) (i 6).toInt.toNat p0 ∧ r34 14 = upd (r 14) (i 6).toInt.toNat (i 7)) ∨ ((0 : Int32) = 0 ∧ ((¬ qLt p0.toInt ∧ (i34 5).toInt = -1000 - (i 4).toInt) ∨ (qLt p0.toInt ∧ 14 ≤ (i 6).toInt ∧ (i34 5).toInt = -4000 - (i 4).toInt))) := (Or.inr ⟨rfl, Or.inr ⟨(by unfold qLt; omega), by omega, by omega⟩⟩)
          exact W.zret hx hb hr rfl (fun t ht hW => ⟨⟨_, (i34, r34), rfl, ⟨hRi, hRr, hEi, hEr, hpo9⟩, by rw [ht]; exact hP, va_K.moved hW.alike hK, hD⟩, hS.F ht⟩) hS.2.2 dX6_beginClause_51
        · skip
          refine lv_if_eq (tgt := 52) hx hb dX6_beginClause_43 (by decide) (fun c_35 => ?_) (fun c_35 => absurd (by decide) c_35)
          refine lv_aload_n hx hb dX6_beginClause_52 rfl (lv_at hl 0 rfl) ?_
          refine lv_dup hx hb dX6_beginClause_53 rfl ?_
          refine va_get (D := D) (ci := 6) (v := .int (i 4)) (C := RX6) (T := TX6) (N := 5) hx hb hT iX6 hown hK hP 10 rfl rfl 3 (by decide) (hT _ t_648) (fun _ h9 => h9) rfl dX6_beginClause_54 ?_
          refine lv_iconst (v := 1) hx hb dX6_beginClause_57 (by decide) ?_
          refine lv_iadd hx hb dX6_beginClause_58 ?_
          refine lv_topi (fun v_36 ev_36 => ?_)
          have hv_36 : v_36.toInt = (i 4).toInt + 1 := by rw [ev_36]; have := b_rg (i 4); exact i_add (a := (i 4).toInt) (b := 1) rfl rfl (by omega) (by omega)
          refine va_put (D := D) (ci := 6) (v := .int v_36) (ty := .int) (C := RX6) (T := TX6) (N := 5) hx hb hT iX6 tyX6 tyX6_ok nmX6 hown hK hP hD hS 10 rfl rfl 3 (by decide) (hT _ t_648) (fun _ h9 => h9) rfl (by decide +kernel) rfl rfl (Nat.le_of_ble_eq_true rfl) dX6_beginClause_59 (fun H locs hP hD hS => ?_)
          rw [zP4] at hP hD
          have hRi := Yi_upd hRi 4 v_36 (b_rg _)
          have hEi := Ei_upd hEi 4 v_36 (by decide)
          refine lv_aload_n hx hb dX6_beginClause_62 rfl (lv_at hl 0 rfl) ?_
          refine va_get (D := D) (ci := 6) (v := .ref (a 12)) (C := RX6) (T := TX6) (N := 5) hx hb hT iX6 hown hK hP 10 rfl rfl 0 (by decide) (hT _ t_661) (fun _ h9 => h9) rfl dX6_beginClause_63 ?_
          refine lv_iload_n hx hb dX6_beginClause_66 rfl (lv_at hl 1 rfl) ?_
          have hF_37 := rF hD hS hA
          refine va_callv (va_runV (As := [.int p0]) (rest := []) ⟨hx, hb, hml, hown, hT⟩ (c_X5_beginClause9 l D cy a (upd i 4 v_36) r q tl p0 _ hRi hRr) (cwV 1 hT (gV t_699 t_700 t_701 t_702 t_367) rfl rfl rfl (by decide +kernel) ⟨Nat.le_of_ble_eq_true rfl, Nat.le_of_ble_eq_true rfl⟩) (rQ_v hP hK hD (va_recv hK hP (ci := 5) (q0 := 12) rfl rfl)) rfl rfl hl.1 rfl (lv_room (Nat.le_of_ble_eq_true rfl)) dX6_beginClause_67 ⟨Nat.le_of_ble_eq_true rfl, Nat.le_of_ble_eq_true rfl⟩) hS (fun q _ h => hF_37 q h) hF_37 (fun u_39 t H1 locs ht hvm hr_38 hB hz1 hk1 hS => ?_)
          obtain ⟨r39, rfl⟩ : ∃ z, z = u_39 := ⟨_, rfl⟩
          obtain ⟨hP, hK1, hD1⟩ := hB
          rw [ht] at hP
          have hD := hD1.weaken (fun k q _ h => hF_37 q.1 h)
          obtain ⟨hRr, hE2, hr_38⟩ := hr_38
          have hRr : yRr r39 := hRr
          have hE2 : mEr [13, 14] r r39 := hE2
          have hP : va_P D vwCl (xW cy a (upd i 4 v_36) r39 q (a 20) (a 12) ++ tl) H1 := hP
          have hD : va_D A (xW cy a (upd i 4 v_36) r39 q (a 20) (a 12) ++ tl) := hD
          have hEr : mEr [13, 14] _ r39 := Er_tr hEr hE2 (by decide)
          have hb9r_38 : ((upd i 4 v_36) 6).toInt < 14 → r39 13 = upd (r 13) ((upd i 4 v_36) 6).toInt.toNat p0 ∧ r39 14 = upd (r 14) ((upd i 4 v_36) 6).toInt.toNat ((upd i 4 v_36) 7) := hr_38
          refine lv_iconst (v := 1) hx hb dX6_beginClause_70 (by decide) ?_
          subst hQ
          have hbb := hb9r_38 (by show (i 6).toInt < 14; omega)
          have hpo9 : ((1 : Int32) = 1 ∧ qLt p0.toInt ∧ (i 6).toInt < 14 ∧ ((upd i 4 v_36) 4).toInt = (i 4).toInt + 1 ∧ (upd i 4 v_36) 5 = i 5 ∧ r39 13 = upd (r 13) (i 6).toInt.toNat p0 ∧ r39 14 = upd (r 14) (i 6).toInt.toNat (i 7)) ∨ ((1 : Int32) = 0 ∧ ((¬ qLt p0.toInt ∧ ((upd i 4 v_36) 5).toInt = -1000 - (i 4).toInt) ∨ (qLt p0.toInt ∧ 14 ≤ (i 6).toInt ∧ ((upd i 4 v_36) 5).toInt = -4000 - (i 4).toInt))) := (Or.inl ⟨rfl, (by unfold qLt; omega), by omega, (by show v_36.toInt = _; omega), rfl, hbb.1, hbb.2⟩)
          exact W.zret hx hb hr rfl (fun t ht hW => ⟨⟨_, (upd i 4 v_36, r39), rfl, ⟨hRi, hRr, hEi, hEr, hpo9⟩, by rw [ht]; exact hP, va_K.moved hW.alike hK, hD⟩, hS.F ht⟩) hS.2.2 dX6_beginClause_71
      · have c_27 : p0.toInt ≠ 100 := b_ne c_27
        refine lv_iload_n hx hb dX6_beginClause_18 rfl (lv_at hl 1 rfl) ?_
        refine lv_bipush (v := 116) hx hb dX6_beginClause_19 (by decide) ?_
        refine lv_icmp_eq (tgt := 36) hx hb dX6_beginClause_21 (by decide) (fun c_40 => ?_) (fun c_40 => ?_)
        · have c_40 : p0.toInt = 116 := b_eq c_40
          refine lv_aload_n hx hb dX6_beginClause_36 rfl (lv_at hl 0 rfl) ?_
          refine va_get (D := D) (ci := 6) (v := .ref (a 12)) (C := RX6) (T := TX6) (N := 5) hx hb hT iX6 hown hK hP 10 rfl rfl 0 (by decide) (hT _ t_661) (fun _ h9 => h9) rfl dX6_beginClause_37 ?_
          refine vp_callSi (W.runV (As := []) (rest := []) ⟨hx, hb, hml, hown, hT⟩ (c_X5_isFull l D cy a i r q tl hRi hRr) (cwV 0 hT (gV t_644 t_698 t_646 t_647 t_367) rfl rfl rfl (by decide +kernel) ⟨Nat.le_of_ble_eq_true rfl, Nat.le_of_ble_eq_true rfl⟩) (rP_v hP hK (va_recv hK hP (ci := 5) (q0 := 12) rfl rfl)) rfl rfl hl.1 rfl (lv_room (Nat.le_of_ble_eq_true rfl)) dX6_beginClause_40 ⟨Nat.le_of_ble_eq_true rfl, Nat.le_of_ble_eq_true rfl⟩) (fun r_41 hr_41 => ?_)
          have hg_42 : 0 ≤ (i 6).toInt ∧ (i 6).toInt ≤ 14 := hRi 6
          have hr_41 : BR r_41 (14 ≤ (i 6).toInt) 1 0 := hr_41
          rcases hr_41 with ⟨rfl, h_43⟩ | ⟨rfl, h_43⟩
          · skip
            refine lv_if_eq (tgt := 52) hx hb dX6_beginClause_43 (by decide) (fun c_44 => absurd c_44 (by decide)) (fun c_44 => ?_)
            refine lv_aload_n hx hb dX6_beginClause_46 rfl (lv_at hl 0 rfl) ?_
            refine lv_iconst (v := 4) hx hb dX6_beginClause_47 (by decide) ?_
            have hF_45 := rF hD hS hA
            refine va_calli (va_runV (As := [.int 4]) (rest := []) ⟨hx, hb, hml, hown, hT⟩ (c_X6_refuse9 l D cy a i r q tl 4 _ hRi hRr (by decide) (show 0 ≤ (i 4).toInt ∧ (i 4).toInt ≤ 300 by omega)) (cwV 1 hT (gV t_657 t_658 t_659 t_660 t_653) rfl rfl rfl (by decide +kernel) ⟨Nat.le_of_ble_eq_true rfl, Nat.le_of_ble_eq_true rfl⟩) (rQ_v hP hK hD (va_recv hK hP (ci := 6) (q0 := 10) rfl rfl)) rfl rfl hl.1 rfl (lv_room (Nat.le_of_ble_eq_true rfl)) dX6_beginClause_48 ⟨Nat.le_of_ble_eq_true rfl, Nat.le_of_ble_eq_true rfl⟩) hS (fun q _ h => hF_45 q h) hF_45 (fun r_46 u_47 t H1 locs ht hvm hr_46 hB hz1 hk1 hS => ?_)
            obtain ⟨i47, r47⟩ := u_47
            obtain ⟨hP, hK1, hD1⟩ := hB
            rw [ht] at hP
            have hD := hD1.weaken (fun k q _ h => hF_45 q.1 h)
            obtain ⟨hRi, hRr, hE1, hE2, hr_46⟩ := hr_46
            have hRi : yRi i47 := hRi
            have hE1 : mEi [5] i i47 := hE1
            have hRr : yRr r47 := hRr
            have hE2 : mEr [] r r47 := hE2
            have hP : va_P D vwCl (xW cy a i47 r47 q (a 20) (a 12) ++ tl) H1 := hP
            have hD : va_D A (xW cy a i47 r47 q (a 20) (a 12) ++ tl) := hD
            have hEi : mEi [4, 5] _ i47 := Ei_tr hEi hE1 (by decide)
            have hEr : mEr [13, 14] _ r47 := Er_tr hEr hE2 (by decide)
            obtain ⟨rfl, hF9⟩ := hr_46
            have hF9 : (i47 5).toInt = -1000 * 4 - (i 4).toInt := hF9
            have hF4 : i47 4 = (i 4) := hE1 4 (by decide)
            subst hQ
            have hpo9 : ((0 : Int32) = 1 ∧ qLt p0.toInt ∧ (i 6).toInt < 14 ∧ (i47 4).toInt = (i 4).toInt + 1 ∧ i47 5 = i 5 ∧ r47 13 = upd (r 13) (i 6).toInt.toNat p0 ∧ r47 14 = upd (r 14) (i 6).toInt.toNat (i 7)) ∨ ((0 : Int32) = 0 ∧ ((¬ qLt p0.toInt ∧ (i47 5).toInt = -1000 - (i 4).toInt) ∨ (qLt p0.toInt ∧ 14 ≤ (i 6).toInt ∧ (i47 5).toInt = -4000 - (i 4).toInt))) := (Or.inr ⟨rfl, Or.inr ⟨(by unfold qLt; omega), by omega, by omega⟩⟩)
            exact W.zret hx hb hr rfl (fun t ht hW => ⟨⟨_, (i47, r47), rfl, ⟨hRi, hRr, hEi, hEr, hpo9⟩, by rw [ht]; exact hP, va_K.moved hW.alike hK, hD⟩, hS.F ht⟩) hS.2.2 dX6_beginClause_51
          · skip
            refine lv_if_eq (tgt := 52) hx hb dX6_beginClause_43 (by decide) (fun c_48 => ?_) (fun c_48 => absurd (by decide) c_48)
            refine lv_aload_n hx hb dX6_beginClause_52 rfl (lv_at hl 0 rfl) ?_
            refine lv_dup hx hb dX6_beginClause_53 rfl ?_
            refine va_get (D := D) (ci := 6) (v := .int (i 4)) (C := RX6) (T := TX6) (N := 5) hx hb hT iX6 hown hK hP 10 rfl rfl 3 (by decide) (hT _ t_648) (fun _ h9 => h9) rfl dX6_beginClause_54 ?_
            refine lv_iconst (v := 1) hx hb dX6_beginClause_57 (by decide) ?_
            refine lv_iadd hx hb dX6_beginClause_58 ?_
            refine lv_topi (fun v_49 ev_49 => ?_)
            have hv_49 : v_49.toInt = (i 4).toInt + 1 := by rw [ev_49]; have := b_rg (i 4); exact i_add (a := (i 4).toInt) (b := 1) rfl rfl (by omega) (by omega)
            refine va_put (D := D) (ci := 6) (v := .int v_49) (ty := .int) (C := RX6) (T := TX6) (N := 5) hx hb hT iX6 tyX6 tyX6_ok nmX6 hown hK hP hD hS 10 rfl rfl 3 (by decide) (hT _ t_648) (fun _ h9 => h9) rfl (by decide +kernel) rfl rfl (Nat.le_of_ble_eq_true rfl) dX6_beginClause_59 (fun H locs hP hD hS => ?_)
            rw [zP4] at hP hD
            have hRi := Yi_upd hRi 4 v_49 (b_rg _)
            have hEi := Ei_upd hEi 4 v_49 (by decide)
            refine lv_aload_n hx hb dX6_beginClause_62 rfl (lv_at hl 0 rfl) ?_
            refine va_get (D := D) (ci := 6) (v := .ref (a 12)) (C := RX6) (T := TX6) (N := 5) hx hb hT iX6 hown hK hP 10 rfl rfl 0 (by decide) (hT _ t_661) (fun _ h9 => h9) rfl dX6_beginClause_63 ?_
            refine lv_iload_n hx hb dX6_beginClause_66 rfl (lv_at hl 1 rfl) ?_
            have hF_50 := rF hD hS hA
            refine va_callv (va_runV (As := [.int p0]) (rest := []) ⟨hx, hb, hml, hown, hT⟩ (c_X5_beginClause9 l D cy a (upd i 4 v_49) r q tl p0 _ hRi hRr) (cwV 1 hT (gV t_699 t_700 t_701 t_702 t_367) rfl rfl rfl (by decide +kernel) ⟨Nat.le_of_ble_eq_true rfl, Nat.le_of_ble_eq_true rfl⟩) (rQ_v hP hK hD (va_recv hK hP (ci := 5) (q0 := 12) rfl rfl)) rfl rfl hl.1 rfl (lv_room (Nat.le_of_ble_eq_true rfl)) dX6_beginClause_67 ⟨Nat.le_of_ble_eq_true rfl, Nat.le_of_ble_eq_true rfl⟩) hS (fun q _ h => hF_50 q h) hF_50 (fun u_52 t H1 locs ht hvm hr_51 hB hz1 hk1 hS => ?_)
            obtain ⟨r52, rfl⟩ : ∃ z, z = u_52 := ⟨_, rfl⟩
            obtain ⟨hP, hK1, hD1⟩ := hB
            rw [ht] at hP
            have hD := hD1.weaken (fun k q _ h => hF_50 q.1 h)
            obtain ⟨hRr, hE2, hr_51⟩ := hr_51
            have hRr : yRr r52 := hRr
            have hE2 : mEr [13, 14] r r52 := hE2
            have hP : va_P D vwCl (xW cy a (upd i 4 v_49) r52 q (a 20) (a 12) ++ tl) H1 := hP
            have hD : va_D A (xW cy a (upd i 4 v_49) r52 q (a 20) (a 12) ++ tl) := hD
            have hEr : mEr [13, 14] _ r52 := Er_tr hEr hE2 (by decide)
            have hb9r_51 : ((upd i 4 v_49) 6).toInt < 14 → r52 13 = upd (r 13) ((upd i 4 v_49) 6).toInt.toNat p0 ∧ r52 14 = upd (r 14) ((upd i 4 v_49) 6).toInt.toNat ((upd i 4 v_49) 7) := hr_51
            refine lv_iconst (v := 1) hx hb dX6_beginClause_70 (by decide) ?_
            subst hQ
            have hbb := hb9r_51 (by show (i 6).toInt < 14; omega)
            have hpo9 : ((1 : Int32) = 1 ∧ qLt p0.toInt ∧ (i 6).toInt < 14 ∧ ((upd i 4 v_49) 4).toInt = (i 4).toInt + 1 ∧ (upd i 4 v_49) 5 = i 5 ∧ r52 13 = upd (r 13) (i 6).toInt.toNat p0 ∧ r52 14 = upd (r 14) (i 6).toInt.toNat (i 7)) ∨ ((1 : Int32) = 0 ∧ ((¬ qLt p0.toInt ∧ ((upd i 4 v_49) 5).toInt = -1000 - (i 4).toInt) ∨ (qLt p0.toInt ∧ 14 ≤ (i 6).toInt ∧ ((upd i 4 v_49) 5).toInt = -4000 - (i 4).toInt))) := (Or.inl ⟨rfl, (by unfold qLt; omega), by omega, (by show v_49.toInt = _; omega), rfl, hbb.1, hbb.2⟩)
            exact W.zret hx hb hr rfl (fun t ht hW => ⟨⟨_, (upd i 4 v_49, r52), rfl, ⟨hRi, hRr, hEi, hEr, hpo9⟩, by rw [ht]; exact hP, va_K.moved hW.alike hK, hD⟩, hS.F ht⟩) hS.2.2 dX6_beginClause_71
        · have c_40 : p0.toInt ≠ 116 := b_ne c_40
          refine lv_iload_n hx hb dX6_beginClause_24 rfl (lv_at hl 1 rfl) ?_
          refine lv_bipush (v := 98) hx hb dX6_beginClause_25 (by decide) ?_
          refine lv_icmp_eq (tgt := 36) hx hb dX6_beginClause_27 (by decide) (fun c_53 => ?_) (fun c_53 => ?_)
          · have c_53 : p0.toInt = 98 := b_eq c_53
            refine lv_aload_n hx hb dX6_beginClause_36 rfl (lv_at hl 0 rfl) ?_
            refine va_get (D := D) (ci := 6) (v := .ref (a 12)) (C := RX6) (T := TX6) (N := 5) hx hb hT iX6 hown hK hP 10 rfl rfl 0 (by decide) (hT _ t_661) (fun _ h9 => h9) rfl dX6_beginClause_37 ?_
            refine vp_callSi (W.runV (As := []) (rest := []) ⟨hx, hb, hml, hown, hT⟩ (c_X5_isFull l D cy a i r q tl hRi hRr) (cwV 0 hT (gV t_644 t_698 t_646 t_647 t_367) rfl rfl rfl (by decide +kernel) ⟨Nat.le_of_ble_eq_true rfl, Nat.le_of_ble_eq_true rfl⟩) (rP_v hP hK (va_recv hK hP (ci := 5) (q0 := 12) rfl rfl)) rfl rfl hl.1 rfl (lv_room (Nat.le_of_ble_eq_true rfl)) dX6_beginClause_40 ⟨Nat.le_of_ble_eq_true rfl, Nat.le_of_ble_eq_true rfl⟩) (fun r_54 hr_54 => ?_)
            have hg_55 : 0 ≤ (i 6).toInt ∧ (i 6).toInt ≤ 14 := hRi 6
            have hr_54 : BR r_54 (14 ≤ (i 6).toInt) 1 0 := hr_54
            rcases hr_54 with ⟨rfl, h_56⟩ | ⟨rfl, h_56⟩
            · skip
              refine lv_if_eq (tgt := 52) hx hb dX6_beginClause_43 (by decide) (fun c_57 => absurd c_57 (by decide)) (fun c_57 => ?_)
              refine lv_aload_n hx hb dX6_beginClause_46 rfl (lv_at hl 0 rfl) ?_
              refine lv_iconst (v := 4) hx hb dX6_beginClause_47 (by decide) ?_
              have hF_58 := rF hD hS hA
              refine va_calli (va_runV (As := [.int 4]) (rest := []) ⟨hx, hb, hml, hown, hT⟩ (c_X6_refuse9 l D cy a i r q tl 4 _ hRi hRr (by decide) (show 0 ≤ (i 4).toInt ∧ (i 4).toInt ≤ 300 by omega)) (cwV 1 hT (gV t_657 t_658 t_659 t_660 t_653) rfl rfl rfl (by decide +kernel) ⟨Nat.le_of_ble_eq_true rfl, Nat.le_of_ble_eq_true rfl⟩) (rQ_v hP hK hD (va_recv hK hP (ci := 6) (q0 := 10) rfl rfl)) rfl rfl hl.1 rfl (lv_room (Nat.le_of_ble_eq_true rfl)) dX6_beginClause_48 ⟨Nat.le_of_ble_eq_true rfl, Nat.le_of_ble_eq_true rfl⟩) hS (fun q _ h => hF_58 q h) hF_58 (fun r_59 u_60 t H1 locs ht hvm hr_59 hB hz1 hk1 hS => ?_)
              obtain ⟨i60, r60⟩ := u_60
              obtain ⟨hP, hK1, hD1⟩ := hB
              rw [ht] at hP
              have hD := hD1.weaken (fun k q _ h => hF_58 q.1 h)
              obtain ⟨hRi, hRr, hE1, hE2, hr_59⟩ := hr_59
              have hRi : yRi i60 := hRi
              have hE1 : mEi [5] i i60 := hE1
              have hRr : yRr r60 := hRr
              have hE2 : mEr [] r r60 := hE2
              have hP : va_P D vwCl (xW cy a i60 r60 q (a 20) (a 12) ++ tl) H1 := hP
              have hD : va_D A (xW cy a i60 r60 q (a 20) (a 12) ++ tl) := hD
              have hEi : mEi [4, 5] _ i60 := Ei_tr hEi hE1 (by decide)
              have hEr : mEr [13, 14] _ r60 := Er_tr hEr hE2 (by decide)
              obtain ⟨rfl, hF9⟩ := hr_59
              have hF9 : (i60 5).toInt = -1000 * 4 - (i 4).toInt := hF9
              have hF4 : i60 4 = (i 4) := hE1 4 (by decide)
              subst hQ
              have hpo9 : ((0 : Int32) = 1 ∧ qLt p0.toInt ∧ (i 6).toInt < 14 ∧ (i60 4).toInt = (i 4).toInt + 1 ∧ i60 5 = i 5 ∧ r60 13 = upd (r 13) (i 6).toInt.toNat p0 ∧ r60 14 = upd (r 14) (i 6).toInt.toNat (i 7)) ∨ ((0 : Int32) = 0 ∧ ((¬ qLt p0.toInt ∧ (i60 5).toInt = -1000 - (i 4).toInt) ∨ (qLt p0.toInt ∧ 14 ≤ (i 6).toInt ∧ (i60 5).toInt = -4000 - (i 4).toInt))) := (Or.inr ⟨rfl, Or.inr ⟨(by unfold qLt; omega), by omega, by omega⟩⟩)
              exact W.zret hx hb hr rfl (fun t ht hW => ⟨⟨_, (i60, r60), rfl, ⟨hRi, hRr, hEi, hEr, hpo9⟩, by rw [ht]; exact hP, va_K.moved hW.alike hK, hD⟩, hS.F ht⟩) hS.2.2 dX6_beginClause_51
            · skip
              refine lv_if_eq (tgt := 52) hx hb dX6_beginClause_43 (by decide) (fun c_61 => ?_) (fun c_61 => absurd (by decide) c_61)
              refine lv_aload_n hx hb dX6_beginClause_52 rfl (lv_at hl 0 rfl) ?_
              refine lv_dup hx hb dX6_beginClause_53 rfl ?_
              refine va_get (D := D) (ci := 6) (v := .int (i 4)) (C := RX6) (T := TX6) (N := 5) hx hb hT iX6 hown hK hP 10 rfl rfl 3 (by decide) (hT _ t_648) (fun _ h9 => h9) rfl dX6_beginClause_54 ?_
              refine lv_iconst (v := 1) hx hb dX6_beginClause_57 (by decide) ?_
              refine lv_iadd hx hb dX6_beginClause_58 ?_
              refine lv_topi (fun v_62 ev_62 => ?_)
              have hv_62 : v_62.toInt = (i 4).toInt + 1 := by rw [ev_62]; have := b_rg (i 4); exact i_add (a := (i 4).toInt) (b := 1) rfl rfl (by omega) (by omega)
              refine va_put (D := D) (ci := 6) (v := .int v_62) (ty := .int) (C := RX6) (T := TX6) (N := 5) hx hb hT iX6 tyX6 tyX6_ok nmX6 hown hK hP hD hS 10 rfl rfl 3 (by decide) (hT _ t_648) (fun _ h9 => h9) rfl (by decide +kernel) rfl rfl (Nat.le_of_ble_eq_true rfl) dX6_beginClause_59 (fun H locs hP hD hS => ?_)
              rw [zP4] at hP hD
              have hRi := Yi_upd hRi 4 v_62 (b_rg _)
              have hEi := Ei_upd hEi 4 v_62 (by decide)
              refine lv_aload_n hx hb dX6_beginClause_62 rfl (lv_at hl 0 rfl) ?_
              refine va_get (D := D) (ci := 6) (v := .ref (a 12)) (C := RX6) (T := TX6) (N := 5) hx hb hT iX6 hown hK hP 10 rfl rfl 0 (by decide) (hT _ t_661) (fun _ h9 => h9) rfl dX6_beginClause_63 ?_
              refine lv_iload_n hx hb dX6_beginClause_66 rfl (lv_at hl 1 rfl) ?_
              have hF_63 := rF hD hS hA
              refine va_callv (va_runV (As := [.int p0]) (rest := []) ⟨hx, hb, hml, hown, hT⟩ (c_X5_beginClause9 l D cy a (upd i 4 v_62) r q tl p0 _ hRi hRr) (cwV 1 hT (gV t_699 t_700 t_701 t_702 t_367) rfl rfl rfl (by decide +kernel) ⟨Nat.le_of_ble_eq_true rfl, Nat.le_of_ble_eq_true rfl⟩) (rQ_v hP hK hD (va_recv hK hP (ci := 5) (q0 := 12) rfl rfl)) rfl rfl hl.1 rfl (lv_room (Nat.le_of_ble_eq_true rfl)) dX6_beginClause_67 ⟨Nat.le_of_ble_eq_true rfl, Nat.le_of_ble_eq_true rfl⟩) hS (fun q _ h => hF_63 q h) hF_63 (fun u_65 t H1 locs ht hvm hr_64 hB hz1 hk1 hS => ?_)
              obtain ⟨r65, rfl⟩ : ∃ z, z = u_65 := ⟨_, rfl⟩
              obtain ⟨hP, hK1, hD1⟩ := hB
              rw [ht] at hP
              have hD := hD1.weaken (fun k q _ h => hF_63 q.1 h)
              obtain ⟨hRr, hE2, hr_64⟩ := hr_64
              have hRr : yRr r65 := hRr
              have hE2 : mEr [13, 14] r r65 := hE2
              have hP : va_P D vwCl (xW cy a (upd i 4 v_62) r65 q (a 20) (a 12) ++ tl) H1 := hP
              have hD : va_D A (xW cy a (upd i 4 v_62) r65 q (a 20) (a 12) ++ tl) := hD
              have hEr : mEr [13, 14] _ r65 := Er_tr hEr hE2 (by decide)
              have hb9r_64 : ((upd i 4 v_62) 6).toInt < 14 → r65 13 = upd (r 13) ((upd i 4 v_62) 6).toInt.toNat p0 ∧ r65 14 = upd (r 14) ((upd i 4 v_62) 6).toInt.toNat ((upd i 4 v_62) 7) := hr_64
              refine lv_iconst (v := 1) hx hb dX6_beginClause_70 (by decide) ?_
              subst hQ
              have hbb := hb9r_64 (by show (i 6).toInt < 14; omega)
              have hpo9 : ((1 : Int32) = 1 ∧ qLt p0.toInt ∧ (i 6).toInt < 14 ∧ ((upd i 4 v_62) 4).toInt = (i 4).toInt + 1 ∧ (upd i 4 v_62) 5 = i 5 ∧ r65 13 = upd (r 13) (i 6).toInt.toNat p0 ∧ r65 14 = upd (r 14) (i 6).toInt.toNat (i 7)) ∨ ((1 : Int32) = 0 ∧ ((¬ qLt p0.toInt ∧ ((upd i 4 v_62) 5).toInt = -1000 - (i 4).toInt) ∨ (qLt p0.toInt ∧ 14 ≤ (i 6).toInt ∧ ((upd i 4 v_62) 5).toInt = -4000 - (i 4).toInt))) := (Or.inl ⟨rfl, (by unfold qLt; omega), by omega, (by show v_62.toInt = _; omega), rfl, hbb.1, hbb.2⟩)
              exact W.zret hx hb hr rfl (fun t ht hW => ⟨⟨_, (upd i 4 v_62, r65), rfl, ⟨hRi, hRr, hEi, hEr, hpo9⟩, by rw [ht]; exact hP, va_K.moved hW.alike hK, hD⟩, hS.F ht⟩) hS.2.2 dX6_beginClause_71
          · have c_53 : p0.toInt ≠ 98 := b_ne c_53
            refine lv_aload_n hx hb dX6_beginClause_30 rfl (lv_at hl 0 rfl) ?_
            refine lv_iconst (v := 1) hx hb dX6_beginClause_31 (by decide) ?_
            have hF_66 := rF hD hS hA
            refine va_calli (va_runV (As := [.int 1]) (rest := []) ⟨hx, hb, hml, hown, hT⟩ (c_X6_refuse9 l D cy a i r q tl 1 _ hRi hRr (by decide) (show 0 ≤ (i 4).toInt ∧ (i 4).toInt ≤ 300 by omega)) (cwV 1 hT (gV t_657 t_658 t_659 t_660 t_653) rfl rfl rfl (by decide +kernel) ⟨Nat.le_of_ble_eq_true rfl, Nat.le_of_ble_eq_true rfl⟩) (rQ_v hP hK hD (va_recv hK hP (ci := 6) (q0 := 10) rfl rfl)) rfl rfl hl.1 rfl (lv_room (Nat.le_of_ble_eq_true rfl)) dX6_beginClause_32 ⟨Nat.le_of_ble_eq_true rfl, Nat.le_of_ble_eq_true rfl⟩) hS (fun q _ h => hF_66 q h) hF_66 (fun r_67 u_68 t H1 locs ht hvm hr_67 hB hz1 hk1 hS => ?_)
            obtain ⟨i68, r68⟩ := u_68
            obtain ⟨hP, hK1, hD1⟩ := hB
            rw [ht] at hP
            have hD := hD1.weaken (fun k q _ h => hF_66 q.1 h)
            obtain ⟨hRi, hRr, hE1, hE2, hr_67⟩ := hr_67
            have hRi : yRi i68 := hRi
            have hE1 : mEi [5] i i68 := hE1
            have hRr : yRr r68 := hRr
            have hE2 : mEr [] r r68 := hE2
            have hP : va_P D vwCl (xW cy a i68 r68 q (a 20) (a 12) ++ tl) H1 := hP
            have hD : va_D A (xW cy a i68 r68 q (a 20) (a 12) ++ tl) := hD
            have hEi : mEi [4, 5] _ i68 := Ei_tr hEi hE1 (by decide)
            have hEr : mEr [13, 14] _ r68 := Er_tr hEr hE2 (by decide)
            obtain ⟨rfl, hF9⟩ := hr_67
            have hF9 : (i68 5).toInt = -1000 * 1 - (i 4).toInt := hF9
            have hF4 : i68 4 = (i 4) := hE1 4 (by decide)
            subst hQ
            have hpo9 : ((0 : Int32) = 1 ∧ qLt p0.toInt ∧ (i 6).toInt < 14 ∧ (i68 4).toInt = (i 4).toInt + 1 ∧ i68 5 = i 5 ∧ r68 13 = upd (r 13) (i 6).toInt.toNat p0 ∧ r68 14 = upd (r 14) (i 6).toInt.toNat (i 7)) ∨ ((0 : Int32) = 0 ∧ ((¬ qLt p0.toInt ∧ (i68 5).toInt = -1000 - (i 4).toInt) ∨ (qLt p0.toInt ∧ 14 ≤ (i 6).toInt ∧ (i68 5).toInt = -4000 - (i 4).toInt))) := (Or.inr ⟨rfl, Or.inl ⟨(by unfold qLt; omega), by omega⟩⟩)
            exact W.zret hx hb hr rfl (fun t ht hW => ⟨⟨_, (i68, r68), rfl, ⟨hRi, hRr, hEi, hEr, hpo9⟩, by rw [ht]; exact hP, va_K.moved hW.alike hK, hD⟩, hS.F ht⟩) hS.2.2 dX6_beginClause_35
set_option maxHeartbeats 4000000 in
set_option maxRecDepth 100000 in
theorem c_X6_beginTest9 (l : Launch) (D : va_G) (cy : Nat → ClassId) (a : Nat → Nat) (i : Nat → Int32) (r : Nat → Nat → Int32) (q : Nat → Option Nat) (tl : va_W) (sz : Nat) (hRi : yRi i) (hRr : yRr r) (h4 : 0 ≤ (i 4).toInt ∧ (i 4).toInt ≤ 200) : Met l yX6_beginTest (Cond.code yX6_beginTest cX6_beginTest 1 (some .boolean) :: gT) { frames := 3, cells := 0, slots := 0, locals := 66 } (va_Pc [.ref (a 10)] (rQ D cy (xW cy a i r q (a 20) (a 12) ++ tl) sz)) (va_Qi (fun (z : Int32) (u : (Nat → Int32) × (Nat → Nat → Int32)) => yRi u.1 ∧ yRr u.2 ∧ mEi [4, 5] i u.1 ∧ mEr [15] r u.2 ∧ (((i 6).toInt < 14 → u.2 15 = upd (r 15) (i 6).toInt.toNat (i 7)) ∧ ((z = 1 ∧ qTX (i 3) (r 11) (i 4).toInt.toNat = 40 ∧ (u.1 4).toInt = (i 4).toInt + 1 ∧ u.1 5 = i 5) ∨ (z = 0 ∧ qTX (i 3) (r 11) (i 4).toInt.toNat ≠ 40 ∧ (u.1 5).toInt = -1000 - (i 4).toInt)))) (fun (u : (Nat → Int32) × (Nat → Nat → Int32)) t => va_P D vwCl (xW cy a u.1 u.2 q (a 20) (a 12) ++ tl) t.heap ∧ va_K D vwCl (vT cy) t ∧ va_D (va_A (xW cy a i r q (a 20) (a 12) ++ tl) sz) (xW cy a u.1 u.2 q (a 20) (a 12) ++ tl)) (va_A (xW cy a i r q (a 20) (a 12) ++ tl) sz)) 0 0 (va_A (xW cy a i r q (a 20) (a 12) ++ tl) sz) := by
  refine Met.ofQ (cc := cX6_beginTest) (maxL := 1) (ret := (some .boolean)) (by decide) rfl ?_
  intro p e s m args below meth c s₁ B hml hv Q hQ
  obtain ⟨rfl, hsz, hP, hK, hD0⟩ := hv
  have hx := B.exec
  have hb := B.bytes
  have hr := B.returns
  have hlocks := B.notSynchronized
  have hT : ∀ w ∈ gT, w.before _ s = true := fun w h => atoms_spec (ws := (Cond.code yX6_beginTest cX6_beginTest 1 (some .boolean) :: gT)) B.pre w (List.mem_cons_of_mem _ h)
  have hown : s.vm.findClass RX6 = some m.cls := findClass_of_methodNamed B.named
  subst hsz
  have hD := hD0.self (sz := s.heap.size)
  generalize hAe : va_A (xW cy a i r q (a 20) (a 12) ++ tl) s.heap.size = A at hD hQ
  have hA : ∀ q : Nat, s.heap.size ≤ q → A q := fun q h => by rw [← hAe]; exact Or.inr h
  have hS : va_S A s.heap s.heap [] := va_S.rf
  have hl := lv_entry ([.ref (a 10)]) (n := 1) (Nat.le_of_ble_eq_true rfl)
  rw [lg_entry_eq]
  generalize (lg_sl ([.ref (a 10)]) ++ List.replicate (1 - (lg_sl ([.ref (a 10)])).length) Slot.unset).toArray = ls at hl ⊢
  have hl : lv_has ls 1 [(0, .ref (a 10))] := hl
  have hEi : mEi [4, 5] i i := Ei_rf
  have hEr : mEr [15] r r := Er_rf
  refine lv_aload_n hx hb dX6_beginTest_0 rfl (lv_at hl 0 rfl) ?_
  refine va_get (D := D) (ci := 6) (v := .ref (a 12)) (C := RX6) (T := TX6) (N := 5) hx hb hT iX6 hown hK hP 10 rfl rfl 0 (by decide) (hT _ t_661) (fun _ h9 => h9) rfl dX6_beginTest_1 ?_
  have hF_1 := rF hD hS hA
  refine va_callv (va_runV (As := []) (rest := []) ⟨hx, hb, hml, hown, hT⟩ (c_X5_beginTest9 l D cy a i r q tl _ hRi hRr) (cwV 0 hT (gV t_703 t_704 t_705 t_706 t_367) rfl rfl rfl (by decide +kernel) ⟨Nat.le_of_ble_eq_true rfl, Nat.le_of_ble_eq_true rfl⟩) (rQ_v hP hK hD (va_recv hK hP (ci := 5) (q0 := 12) rfl rfl)) rfl rfl hl.1 rfl (lv_room (Nat.le_of_ble_eq_true rfl)) dX6_beginTest_4 ⟨Nat.le_of_ble_eq_true rfl, Nat.le_of_ble_eq_true rfl⟩) hS (fun q _ h => hF_1 q h) hF_1 (fun u_3 t H1 locs ht hvm hr_2 hB hz1 hk1 hS => ?_)
  obtain ⟨r3, rfl⟩ : ∃ z, z = u_3 := ⟨_, rfl⟩
  obtain ⟨hP, hK1, hD1⟩ := hB
  rw [ht] at hP
  have hD := hD1.weaken (fun k q _ h => hF_1 q.1 h)
  obtain ⟨hRr, hE2, hr_2⟩ := hr_2
  have hRr : yRr r3 := hRr
  have hE2 : mEr [15] r r3 := hE2
  have hP : va_P D vwCl (xW cy a i r3 q (a 20) (a 12) ++ tl) H1 := hP
  have hD : va_D A (xW cy a i r3 q (a 20) (a 12) ++ tl) := hD
  have hEr : mEr [15] _ r3 := Er_tr hEr hE2 (by decide)
  have hb9r_2 : (i 6).toInt < 14 → r3 15 = upd (r 15) (i 6).toInt.toNat (i 7) := hr_2
  refine lv_aload_n hx hb dX6_beginTest_7 rfl (lv_at hl 0 rfl) ?_
  refine lv_bipush (v := 40) hx hb dX6_beginTest_8 (by decide) ?_
  have hF_4 := rF hD hS hA
  refine va_calli (va_runV (As := [.int 40]) (rest := []) ⟨hx, hb, hml, hown, hT⟩ (c_X6_pass9 l D cy a i r3 q tl 40 _ hRi hRr (show 0 ≤ (i 4).toInt ∧ (i 4).toInt ≤ 200 by omega)) (cwV 1 hT (gV t_678 t_679 t_680 t_681 t_653) rfl rfl rfl (by decide +kernel) ⟨Nat.le_of_ble_eq_true rfl, Nat.le_of_ble_eq_true rfl⟩) (rQ_v hP hK hD (va_recv hK hP (ci := 6) (q0 := 10) rfl rfl)) rfl rfl hl.1 rfl (lv_room (Nat.le_of_ble_eq_true rfl)) dX6_beginTest_10 ⟨Nat.le_of_ble_eq_true rfl, Nat.le_of_ble_eq_true rfl⟩) hS (fun q _ h => hF_4 q h) hF_4 (fun r_5 u_6 t H1 locs ht hvm hr_5 hB hz1 hk1 hS => ?_)
  obtain ⟨i6, r6⟩ := u_6
  obtain ⟨hP, hK1, hD1⟩ := hB
  rw [ht] at hP
  have hD := hD1.weaken (fun k q _ h => hF_4 q.1 h)
  obtain ⟨hRi, hRr, hE1, hE2, hr_5⟩ := hr_5
  have hRi : yRi i6 := hRi
  have hE1 : mEi [4, 5] i i6 := hE1
  have hRr : yRr r6 := hRr
  have hE2 : mEr [] r3 r6 := hE2
  have hP : va_P D vwCl (xW cy a i6 r6 q (a 20) (a 12) ++ tl) H1 := hP
  have hD : va_D A (xW cy a i6 r6 q (a 20) (a 12) ++ tl) := hD
  have hEi : mEi [4, 5] _ i6 := Ei_tr hEi hE1 (by decide)
  have hEr : mEr [15] _ r6 := Er_tr hEr hE2 (by decide)
  have h3r_5 : i 3 = i 3 := (hE1 3 (by decide)).symm.trans (hEi 3 (by decide))
  have h11r_5 : r3 11 = r 11 := (hE2 11 (by decide)).symm.trans (hEr 11 (by decide))
  rw [h3r_5, h11r_5] at hr_5
  rcases hr_5 with ⟨rfl, hp1, hp2, hp5⟩ | ⟨rfl, hp1, hp2, hp3⟩
  · have hp1 : qTX (i 3) (r 11) (i 4).toInt.toNat = 40 := hp1
    have h5r_5 : i6 5 = i 5 := hp5.trans rfl
    have hp2 : (i6 4).toInt = (i 4).toInt + 1 := hp2
    have hpl := qTX_lt (e := i 3) (t := r 11) (p := (i 4).toInt.toNat) (by omega)
    subst hQ
    have h15 : r6 15 = r3 15 := hE2 15 (by decide)
    have hpo9 : ((i 6).toInt < 14 → r6 15 = upd (r 15) (i 6).toInt.toNat (i 7)) ∧ (((1 : Int32) = 1 ∧ qTX (i 3) (r 11) (i 4).toInt.toNat = 40 ∧ (i6 4).toInt = (i 4).toInt + 1 ∧ i6 5 = i 5) ∨ ((1 : Int32) = 0 ∧ qTX (i 3) (r 11) (i 4).toInt.toNat ≠ 40 ∧ (i6 5).toInt = -1000 - (i 4).toInt)) := ⟨(fun h9 => h15.trans (hb9r_2 h9)), Or.inl ⟨rfl, hp1, hp2, h5r_5⟩⟩
    exact W.zret hx hb hr rfl (fun t ht hW => ⟨⟨_, (i6, r6), rfl, ⟨hRi, hRr, hEi, hEr, hpo9⟩, by rw [ht]; exact hP, va_K.moved hW.alike hK, hD⟩, hS.F ht⟩) hS.2.2 dX6_beginTest_13
  · have hp1 : qTX (i 3) (r 11) (i 4).toInt.toNat ≠ 40 := hp1
    have hp2 : (i6 5).toInt = -1000 - (i 4).toInt := hp2
    have hp3 : i6 4 = (i 4) := hp3
    subst hQ
    have h15 : r6 15 = r3 15 := hE2 15 (by decide)
    have hpo9 : ((i 6).toInt < 14 → r6 15 = upd (r 15) (i 6).toInt.toNat (i 7)) ∧ (((0 : Int32) = 1 ∧ qTX (i 3) (r 11) (i 4).toInt.toNat = 40 ∧ (i6 4).toInt = (i 4).toInt + 1 ∧ i6 5 = i 5) ∨ ((0 : Int32) = 0 ∧ qTX (i 3) (r 11) (i 4).toInt.toNat ≠ 40 ∧ (i6 5).toInt = -1000 - (i 4).toInt)) := ⟨(fun h9 => h15.trans (hb9r_2 h9)), Or.inr ⟨rfl, hp1, hp2⟩⟩
    exact W.zret hx hb hr rfl (fun t ht hW => ⟨⟨_, (i6, r6), rfl, ⟨hRi, hRr, hEi, hEr, hpo9⟩, by rw [ht]; exact hP, va_K.moved hW.alike hK, hD⟩, hS.F ht⟩) hS.2.2 dX6_beginTest_13
set_option maxHeartbeats 4000000 in
set_option maxRecDepth 100000 in
theorem c_X6_endClause9 (l : Launch) (D : va_G) (cy : Nat → ClassId) (a : Nat → Nat) (i : Nat → Int32) (r : Nat → Nat → Int32) (q : Nat → Option Nat) (tl : va_W) (sz : Nat) (hRi : yRi i) (hRr : yRr r) (h4 : 0 ≤ (i 4).toInt ∧ (i 4).toInt ≤ 200) : Met l yX6_endClause (Cond.code yX6_endClause cX6_endClause 1 (some .boolean) :: gT) { frames := 3, cells := 0, slots := 0, locals := 66 } (va_Pc [.ref (a 10)] (rQ D cy (xW cy a i r q (a 20) (a 12) ++ tl) sz)) (va_Qi (fun (z : Int32) (u : (Nat → Int32) × (Nat → Nat → Int32)) => yRi u.1 ∧ yRr u.2 ∧ mEi [4, 5, 6] i u.1 ∧ mEr [16] r u.2 ∧ ((z = 1 ∧ qTX (i 3) (r 11) (i 4).toInt.toNat = 41 ∧ (u.1 4).toInt = (i 4).toInt + 1 ∧ u.1 5 = i 5 ∧ ((i 6).toInt < 14 → (u.1 6).toInt = (i 6).toInt + 1 ∧ u.2 16 = upd (r 16) (i 6).toInt.toNat (i 7))) ∨ (z = 0 ∧ qTX (i 3) (r 11) (i 4).toInt.toNat ≠ 41 ∧ (u.1 5).toInt = -1000 - (i 4).toInt))) (fun (u : (Nat → Int32) × (Nat → Nat → Int32)) t => va_P D vwCl (xW cy a u.1 u.2 q (a 20) (a 12) ++ tl) t.heap ∧ va_K D vwCl (vT cy) t ∧ va_D (va_A (xW cy a i r q (a 20) (a 12) ++ tl) sz) (xW cy a u.1 u.2 q (a 20) (a 12) ++ tl)) (va_A (xW cy a i r q (a 20) (a 12) ++ tl) sz)) 0 0 (va_A (xW cy a i r q (a 20) (a 12) ++ tl) sz) := by
  refine Met.ofQ (cc := cX6_endClause) (maxL := 1) (ret := (some .boolean)) (by decide) rfl ?_
  intro p e s m args below meth c s₁ B hml hv Q hQ
  obtain ⟨rfl, hsz, hP, hK, hD0⟩ := hv
  have hx := B.exec
  have hb := B.bytes
  have hr := B.returns
  have hlocks := B.notSynchronized
  have hT : ∀ w ∈ gT, w.before _ s = true := fun w h => atoms_spec (ws := (Cond.code yX6_endClause cX6_endClause 1 (some .boolean) :: gT)) B.pre w (List.mem_cons_of_mem _ h)
  have hown : s.vm.findClass RX6 = some m.cls := findClass_of_methodNamed B.named
  subst hsz
  have hD := hD0.self (sz := s.heap.size)
  generalize hAe : va_A (xW cy a i r q (a 20) (a 12) ++ tl) s.heap.size = A at hD hQ
  have hA : ∀ q : Nat, s.heap.size ≤ q → A q := fun q h => by rw [← hAe]; exact Or.inr h
  have hS : va_S A s.heap s.heap [] := va_S.rf
  have hl := lv_entry ([.ref (a 10)]) (n := 1) (Nat.le_of_ble_eq_true rfl)
  rw [lg_entry_eq]
  generalize (lg_sl ([.ref (a 10)]) ++ List.replicate (1 - (lg_sl ([.ref (a 10)])).length) Slot.unset).toArray = ls at hl ⊢
  have hl : lv_has ls 1 [(0, .ref (a 10))] := hl
  have hEi : mEi [4, 5, 6] i i := Ei_rf
  have hEr : mEr [16] r r := Er_rf
  refine lv_aload_n hx hb dX6_endClause_0 rfl (lv_at hl 0 rfl) ?_
  refine lv_bipush (v := 41) hx hb dX6_endClause_1 (by decide) ?_
  have hF_1 := rF hD hS hA
  refine va_calli (va_runV (As := [.int 41]) (rest := []) ⟨hx, hb, hml, hown, hT⟩ (c_X6_pass9 l D cy a i r q tl 41 _ hRi hRr (show 0 ≤ (i 4).toInt ∧ (i 4).toInt ≤ 200 by omega)) (cwV 1 hT (gV t_678 t_679 t_680 t_681 t_653) rfl rfl rfl (by decide +kernel) ⟨Nat.le_of_ble_eq_true rfl, Nat.le_of_ble_eq_true rfl⟩) (rQ_v hP hK hD (va_recv hK hP (ci := 6) (q0 := 10) rfl rfl)) rfl rfl hl.1 rfl (lv_room (Nat.le_of_ble_eq_true rfl)) dX6_endClause_3 ⟨Nat.le_of_ble_eq_true rfl, Nat.le_of_ble_eq_true rfl⟩) hS (fun q _ h => hF_1 q h) hF_1 (fun r_2 u_3 t H1 locs ht hvm hr_2 hB hz1 hk1 hS => ?_)
  obtain ⟨i3, r3⟩ := u_3
  obtain ⟨hP, hK1, hD1⟩ := hB
  rw [ht] at hP
  have hD := hD1.weaken (fun k q _ h => hF_1 q.1 h)
  obtain ⟨hRi, hRr, hE1, hE2, hr_2⟩ := hr_2
  have hRi : yRi i3 := hRi
  have hE1 : mEi [4, 5] i i3 := hE1
  have hRr : yRr r3 := hRr
  have hE2 : mEr [] r r3 := hE2
  have hP : va_P D vwCl (xW cy a i3 r3 q (a 20) (a 12) ++ tl) H1 := hP
  have hD : va_D A (xW cy a i3 r3 q (a 20) (a 12) ++ tl) := hD
  have hEi : mEi [4, 5, 6] _ i3 := Ei_tr hEi hE1 (by decide)
  have hEr : mEr [16] _ r3 := Er_tr hEr hE2 (by decide)
  have h3r_2 : i 3 = i 3 := (hE1 3 (by decide)).symm.trans (hEi 3 (by decide))
  have h11r_2 : r 11 = r 11 := (hE2 11 (by decide)).symm.trans (hEr 11 (by decide))
  rcases hr_2 with ⟨rfl, hp1, hp2, hp5⟩ | ⟨rfl, hp1, hp2, hp3⟩
  · have hp1 : qTX (i 3) (r 11) (i 4).toInt.toNat = 41 := hp1
    have h5r_2 : i3 5 = i 5 := hp5.trans rfl
    have hp2 : (i3 4).toInt = (i 4).toInt + 1 := hp2
    have hpl := qTX_lt (e := i 3) (t := r 11) (p := (i 4).toInt.toNat) (by omega)
    refine lv_if_ne (tgt := 11) hx hb dX6_endClause_6 (by decide) (fun c_4 => ?_) (fun c_4 => absurd c_4 (by decide))
    refine lv_aload_n hx hb dX6_endClause_11 rfl (lv_at hl 0 rfl) ?_
    have hpe6 : i3 6 = i 6 := hE1 6 (by decide)
    have hpe7 : i3 7 = i 7 := hE1 7 (by decide)
    have hpe16 : r3 16 = r 16 := hE2 16 (by decide)
    refine va_get (D := D) (ci := 6) (v := .ref (a 12)) (C := RX6) (T := TX6) (N := 5) hx hb hT iX6 hown hK hP 10 rfl rfl 0 (by decide) (hT _ t_661) (fun _ h9 => h9) rfl dX6_endClause_12 ?_
    have hF_5 := rF hD hS hA
    refine va_callv (va_runV (As := []) (rest := []) ⟨hx, hb, hml, hown, hT⟩ (c_X5_endClause9 l D cy a i3 r3 q tl _ hRi hRr) (cwV 0 hT (gV t_707 t_708 t_709 t_710 t_367) rfl rfl rfl (by decide +kernel) ⟨Nat.le_of_ble_eq_true rfl, Nat.le_of_ble_eq_true rfl⟩) (rQ_v hP hK hD (va_recv hK hP (ci := 5) (q0 := 12) rfl rfl)) rfl rfl hl.1 rfl (lv_room (Nat.le_of_ble_eq_true rfl)) dX6_endClause_15 ⟨Nat.le_of_ble_eq_true rfl, Nat.le_of_ble_eq_true rfl⟩) hS (fun q _ h => hF_5 q h) hF_5 (fun u_7 t H1 locs ht hvm hr_6 hB hz1 hk1 hS => ?_)
    obtain ⟨i7, r7⟩ := u_7
    obtain ⟨hP, hK1, hD1⟩ := hB
    rw [ht] at hP
    have hD := hD1.weaken (fun k q _ h => hF_5 q.1 h)
    obtain ⟨hRi, hRr, hE1, hE2, hr_6⟩ := hr_6
    have hRi : yRi i7 := hRi
    have hE1 : mEi [6] i3 i7 := hE1
    have hRr : yRr r7 := hRr
    have hE2 : mEr [16] r3 r7 := hE2
    have hP : va_P D vwCl (xW cy a i7 r7 q (a 20) (a 12) ++ tl) H1 := hP
    have hD : va_D A (xW cy a i7 r7 q (a 20) (a 12) ++ tl) := hD
    have hEi : mEi [4, 5, 6] _ i7 := Ei_tr hEi hE1 (by decide)
    have hEr : mEr [16] _ r7 := Er_tr hEr hE2 (by decide)
    have hb9r_6 : (i3 6).toInt < 14 → (i7 6).toInt = (i3 6).toInt + 1 ∧ r7 16 = upd (r3 16) (i3 6).toInt.toNat (i3 7) := hr_6
    refine lv_iconst (v := 1) hx hb dX6_endClause_18 (by decide) ?_
    subst hQ
    have h4e : i7 4 = i3 4 := hE1 4 (by decide)
    have h5e : i7 5 = i 5 := (hE1 5 (by decide)).trans h5r_2
    have he9 : (i 6).toInt < 14 → (i7 6).toInt = (i 6).toInt + 1 ∧ r7 16 = upd (r 16) (i 6).toInt.toNat (i 7) := by have h9 := hb9r_6; rw [hpe6, hpe7, hpe16] at h9; exact h9
    have hpo9 : ((1 : Int32) = 1 ∧ qTX (i 3) (r 11) (i 4).toInt.toNat = 41 ∧ (i7 4).toInt = (i 4).toInt + 1 ∧ i7 5 = i 5 ∧ ((i 6).toInt < 14 → (i7 6).toInt = (i 6).toInt + 1 ∧ r7 16 = upd (r 16) (i 6).toInt.toNat (i 7))) ∨ ((1 : Int32) = 0 ∧ qTX (i 3) (r 11) (i 4).toInt.toNat ≠ 41 ∧ (i7 5).toInt = -1000 - (i 4).toInt) := (Or.inl ⟨rfl, hp1, by rw [h4e]; exact hp2, h5e, he9⟩)
    exact W.zret hx hb hr rfl (fun t ht hW => ⟨⟨_, (i7, r7), rfl, ⟨hRi, hRr, hEi, hEr, hpo9⟩, by rw [ht]; exact hP, va_K.moved hW.alike hK, hD⟩, hS.F ht⟩) hS.2.2 dX6_endClause_19
  · have hp1 : qTX (i 3) (r 11) (i 4).toInt.toNat ≠ 41 := hp1
    have hp2 : (i3 5).toInt = -1000 - (i 4).toInt := hp2
    have hp3 : i3 4 = (i 4) := hp3
    refine lv_if_ne (tgt := 11) hx hb dX6_endClause_6 (by decide) (fun c_8 => absurd (by decide) c_8) (fun c_8 => ?_)
    refine lv_iconst (v := 0) hx hb dX6_endClause_9 (by decide) ?_
    subst hQ
    have hpo9 : ((0 : Int32) = 1 ∧ qTX (i 3) (r 11) (i 4).toInt.toNat = 41 ∧ (i3 4).toInt = (i 4).toInt + 1 ∧ i3 5 = i 5 ∧ ((i 6).toInt < 14 → (i3 6).toInt = (i 6).toInt + 1 ∧ r3 16 = upd (r 16) (i 6).toInt.toNat (i 7))) ∨ ((0 : Int32) = 0 ∧ qTX (i 3) (r 11) (i 4).toInt.toNat ≠ 41 ∧ (i3 5).toInt = -1000 - (i 4).toInt) := (Or.inr ⟨rfl, hp1, hp2⟩)
    exact W.zret hx hb hr rfl (fun t ht hW => ⟨⟨_, (i3, r3), rfl, ⟨hRi, hRr, hEi, hEr, hpo9⟩, by rw [ht]; exact hP, va_K.moved hW.alike hK, hD⟩, hS.F ht⟩) hS.2.2 dX6_endClause_10
set_option maxHeartbeats 4000000 in
set_option maxRecDepth 100000 in
theorem c_X6_read9 (l : Launch) (D : va_G) (cy : Nat → ClassId) (a : Nat → Nat) (i : Nat → Int32) (r : Nat → Nat → Int32) (q : Nat → Option Nat) (tl : va_W) (kq vq : Nat) (p0 : Int32) (sz : Nat) (hRi : yRi i) (hRr : yRr r) (q0 : 1 ≤ p0.toInt ∧ p0.toInt ≤ 200) : Met l yX6_read (Cond.code yX6_read cX6_read 5 (some .int) :: gT) { frames := 26, cells := 0, slots := 0, locals := 640 } (va_Pc [.ref (a 10), .ref (a 8), .int p0] (rS D cy (xW cy a i r q (a 20) (a 12) ++ tl) sz kq vq)) (va_Qi (fun (z : Int32) (u : (Nat → Int32) × (Nat → Nat → Int32)) => yRi u.1 ∧ yRr u.2 ∧ mEi [3, 4, 5, 6, 7] i u.1 ∧ mEr [11, 13, 14, 15, 16, 17, 18] r u.2 ∧ ((z.toInt = 0 → qRO (qTX p0 (r 9)) u.1 u.2) ∧ (z.toInt ≠ 0 → qRF (qTX p0 (r 9)) z.toInt))) (fun (u : (Nat → Int32) × (Nat → Nat → Int32)) t => va_P D vwCl (xW cy a u.1 u.2 q (a 20) (a 12) ++ tl) t.heap ∧ va_K D vwCl (vT cy) t ∧ va_D (va_A (xW cy a i r q (a 20) (a 12) ++ tl) sz) (xW cy a u.1 u.2 q (a 20) (a 12) ++ tl)) (va_A (xW cy a i r q (a 20) (a 12) ++ tl) sz)) 0 0 (va_A (xW cy a i r q (a 20) (a 12) ++ tl) sz) := by
  refine Met.ofQ (cc := cX6_read) (maxL := 5) (ret := (some .int)) (by decide) rfl ?_
  intro p e s m args below meth c s₁ B hml hv Q hQ
  obtain ⟨rfl, hsk, hsz, hP, hK, hD0⟩ := hv
  have hx := B.exec
  have hb := B.bytes
  have hr := B.returns
  have hlocks := B.notSynchronized
  have hT : ∀ w ∈ gT, w.before _ s = true := fun w h => atoms_spec (ws := (Cond.code yX6_read cX6_read 5 (some .int) :: gT)) B.pre w (List.mem_cons_of_mem _ h)
  have hown : s.vm.findClass RX6 = some m.cls := findClass_of_methodNamed B.named
  subst hsz
  have hD := hD0.self (sz := s.heap.size)
  generalize hAe : va_A (xW cy a i r q (a 20) (a 12) ++ tl) s.heap.size = A at hD hQ hsk
  have hA : ∀ q : Nat, s.heap.size ≤ q → A q := fun q h => by rw [← hAe]; exact Or.inr h
  have hS : va_S A s.heap s.heap [] := va_S.rf
  have hl := lv_entry ([.ref (a 10), .ref (a 8), .int p0]) (n := 5) (Nat.le_of_ble_eq_true rfl)
  rw [lg_entry_eq]
  generalize (lg_sl ([.ref (a 10), .ref (a 8), .int p0]) ++ List.replicate (5 - (lg_sl ([.ref (a 10), .ref (a 8), .int p0])).length) Slot.unset).toArray = ls at hl ⊢
  have hl : lv_has ls 5 [(0, .ref (a 10)), (1, .ref (a 8)), (2, .int p0)] := hl
  have hEi : mEi [3, 4, 5, 6, 7] i i := Ei_rf
  have hEr : mEr [11, 13, 14, 15, 16, 17, 18] r r := Er_rf
  refine lv_aload_n hx hb dX6_read_0 rfl (lv_at hl 0 rfl) ?_
  refine va_get (D := D) (ci := 6) (v := .ref (a 12)) (C := RX6) (T := TX6) (N := 5) hx hb hT iX6 hown hK hP 10 rfl rfl 0 (by decide) (hT _ t_661) (fun _ h9 => h9) rfl dX6_read_1 ?_
  have hF_1 := rF hD hS hA
  refine va_callv (va_runV (As := []) (rest := []) ⟨hx, hb, hml, hown, hT⟩ (c_X5_clear9 l D cy a i r q tl _ hRi hRr) (cwV 0 hT (gV t_711 t_712 t_713 t_714 t_367) rfl rfl rfl (by decide +kernel) ⟨Nat.le_of_ble_eq_true rfl, Nat.le_of_ble_eq_true rfl⟩) (rQ_v hP hK hD (va_recv hK hP (ci := 5) (q0 := 12) rfl rfl)) rfl rfl hl.1 rfl (lv_room (Nat.le_of_ble_eq_true rfl)) dX6_read_4 ⟨Nat.le_of_ble_eq_true rfl, Nat.le_of_ble_eq_true rfl⟩) hS (fun q _ h => hF_1 q h) hF_1 (fun u_3 t H1 locs ht hvm hr_2 hB hz1 hk1 hS => ?_)
  obtain ⟨i3, r3⟩ := u_3
  obtain ⟨hP, hK1, hD1⟩ := hB
  rw [ht] at hP
  have hD := hD1.weaken (fun k q _ h => hF_1 q.1 h)
  obtain ⟨hRi, hRr, hE1, hE2, hr_2⟩ := hr_2
  have hRi : yRi i3 := hRi
  have hE1 : mEi [6, 7] i i3 := hE1
  have hRr : yRr r3 := hRr
  have hE2 : mEr [] r r3 := hE2
  have hP : va_P D vwCl (xW cy a i3 r3 q (a 20) (a 12) ++ tl) H1 := hP
  have hD : va_D A (xW cy a i3 r3 q (a 20) (a 12) ++ tl) := hD
  have hEi : mEi [3, 4, 5, 6, 7] _ i3 := Ei_tr hEi hE1 (by decide)
  have hEr : mEr [11, 13, 14, 15, 16, 17, 18] _ r3 := Er_tr hEr hE2 (by decide)
  have hcl9 : i3 6 = 0 ∧ i3 7 = 0 := hr_2
  refine lv_aload_n hx hb dX6_read_7 rfl (lv_at hl 0 rfl) ?_
  refine lv_iload_n hx hb dX6_read_8 rfl (lv_at hl 2 rfl) ?_
  refine lv_sipush (v := 200) hx hb dX6_read_9 (by decide) ?_
  refine va_mmin hx hb (by rw [hml]; exact hl.1.symm) hown (hT _ t_715) (hT _ t_380) (hT _ t_289) (hT _ t_381) (Nat.le_of_ble_eq_true rfl) (Nat.le_of_ble_eq_true rfl) (Nat.le_of_ble_eq_true rfl) (Nat.le_of_ble_eq_true rfl) dX6_read_12 ?_
  refine lv_topi (fun v_4 ev_4 => ?_)
  have hv12 : v_4 = p0 := by rw [ev_4]; exact min_id (by omega)
  have hmv_4 : 1 ≤ v_4.toInt ∧ v_4.toInt ≤ 200 := by rw [hv12]; exact q0
  refine va_put (D := D) (ci := 6) (v := .int v_4) (ty := .int) (C := RX6) (T := TX6) (N := 5) hx hb hT iX6 tyX6 tyX6_ok nmX6 hown hK hP hD hS 10 rfl rfl 2 (by decide) (hT _ t_649) (fun _ h9 => h9) rfl (by decide +kernel) rfl rfl (Nat.le_of_ble_eq_true rfl) dX6_read_15 (fun H locs hP hD hS => ?_)
  rw [zP3] at hP hD
  have hRi := Yi_upd hRi 3 v_4 ⟨by show (0 : Int) ≤ v_4.toInt; omega, by show v_4.toInt ≤ (200 : Int); omega⟩
  have hEi := Ei_upd hEi 3 v_4 (by decide)
  refine lv_iconst (v := 0) hx hb dX6_read_18 (by decide) ?_
  refine lv_istore_n (lv' := [(3, .int 0), (0, .ref (a 10)), (1, .ref (a 8)), (2, .int p0)]) hx hb dX6_read_19 rfl hl (by decide) rfl (fun ls hl => ?_)
  have loop_5 : ∀ (n : Nat) (x5_3 : Int32) (r5 : Nat → Nat → Int32) (H : Heap) (locs : List Loc) (ls : Array Slot), (200 - x5_3.toInt).toNat < n → (0 ≤ x5_3.toInt ∧ x5_3.toInt ≤ 200) → yRr r5 → mEr [11, 13, 14, 15, 16, 17, 18] r r5 → (∀ k, k < x5_3.toNatClampNeg → r5 11 k &&& 255 = r 9 k &&& 255) → va_P D vwCl (xW cy a (upd i3 3 v_4) r5 q (a 20) (a 12) ++ tl) H → va_D A (xW cy a (upd i3 3 v_4) r5 q (a 20) (a 12) ++ tl) → va_S A s.heap H locs → lv_has ls 5 [(3, .int x5_3), (0, .ref (a 10)), (1, .ref (a 8)), (2, .int p0)] → W p l e ({ frames := 26, cells := 0, slots := 0, locals := 640 } : Room) s m ([.ref (a 10), .ref (a 8), .int p0] : List Value).toArray below meth c H locs 0 0 Q (F0 m 20 ls []) := by
    intro n
    induction n with
    | zero =>
      intro x5_3 r5 H locs ls hm5 hf5_0 hRr hEr hx5 hP hD hS hl
      exact absurd hm5 (by omega)
    | succ n ih5 =>
      intro x5_3 r5 H locs ls hm5 hf5_0 hRr hEr hx5 hP hD hS hl
      refine lv_iload_n hx hb dX6_read_20 rfl (lv_at hl 0 rfl) ?_
      have h95 : r5 9 = r 9 := hEr 9 (by decide)
      refine lv_aload_n hx hb dX6_read_21 rfl (lv_at hl 1 rfl) ?_
      refine va_get (D := D) (ci := 6) (v := .int v_4) (C := RX6) (T := TX6) (N := 5) hx hb hT iX6 hown hK hP 10 rfl rfl 2 (by decide) (hT _ t_649) (fun _ h9 => h9) rfl dX6_read_22 ?_
      refine lv_icmp_ge (tgt := 46) hx hb dX6_read_25 (by decide) (fun c_6 => ?_) (fun c_6 => ?_)
      · have c_6 : v_4.toInt ≤ x5_3.toInt := b_le c_6
        refine lv_aload_n hx hb dX6_read_46 rfl (lv_at hl 1 rfl) ?_
        refine lv_iconst (v := 0) hx hb dX6_read_47 (by decide) ?_
        refine va_put (D := D) (ci := 6) (v := .int 0) (ty := .int) (C := RX6) (T := TX6) (N := 5) hx hb hT iX6 tyX6 tyX6_ok nmX6 hown hK hP hD hS 10 rfl rfl 3 (by decide) (hT _ t_648) (fun _ h9 => h9) rfl (by decide +kernel) rfl rfl (Nat.le_of_ble_eq_true rfl) dX6_read_48 (fun H locs hP hD hS => ?_)
        rw [zP4] at hP hD
        have hRi := Yi_upd hRi 4 0 (b_rg _)
        have hEi := Ei_upd hEi 4 0 (by decide)
        refine lv_aload_n hx hb dX6_read_51 rfl (lv_at hl 1 rfl) ?_
        refine lv_iconst (v := 0) hx hb dX6_read_52 (by decide) ?_
        refine va_put (D := D) (ci := 6) (v := .int 0) (ty := .int) (C := RX6) (T := TX6) (N := 5) hx hb hT iX6 tyX6 tyX6_ok nmX6 hown hK hP hD hS 10 rfl rfl 4 (by decide) (hT _ t_651) (fun _ h9 => h9) rfl (by decide +kernel) rfl rfl (Nat.le_of_ble_eq_true rfl) dX6_read_53 (fun H locs hP hD hS => ?_)
        rw [zP5] at hP hD
        have hRi := Yi_upd hRi 5 0 (b_rg _)
        have hEi := Ei_upd hEi 5 0 (by decide)
        obtain ⟨e9, he9⟩ : ∃ x9 : Int32, x9 = v_4 := ⟨_, rfl⟩
        obtain ⟨t9, ht9⟩ : ∃ f9 : Nat → Int32, f9 = r5 11 := ⟨_, rfl⟩
        have he2 : 1 ≤ e9.toInt ∧ e9.toInt ≤ 200 := by rw [he9]; omega
        have hnv : x5_3.toNatClampNeg = x5_3.toInt.toNat := rfl
        have htx : qTX e9 t9 = (qTX p0 (r 9)) := qTX_cp (he9.trans hv12) (fun k hk => by rw [ht9]; exact hx5 k (by rw [← hv12] at hk; omega))
        refine lv_iconst (v := 0) hx hb dX6_read_56 (by decide) ?_
        refine lv_istore_n (lv' := [(3, .int 0), (0, .ref (a 10)), (1, .ref (a 8)), (2, .int p0)]) hx hb dX6_read_57 rfl hl (by decide) rfl (fun ls hl => ?_)
        have loop_7 : ∀ (n : Nat) (x7_3 : Int32) (i7 : Nat → Int32) (r7 : Nat → Nat → Int32) (H : Heap) (locs : List Loc) (ls : Array Slot), (15 - x7_3.toInt).toNat < n → (0 ≤ x7_3.toInt ∧ x7_3.toInt ≤ 15) → yRi i7 → mEi [3, 4, 5, 6, 7] i i7 → yRr r7 → mEr [11, 13, 14, 15, 16, 17, 18] r r7 → (qRD (qTX e9 t9) i7 r7 ∧ (i7 3 = e9 ∧ r7 11 = t9 ∧ i7 5 = 0) ∧ (0 ≤ (i7 4).toInt ∧ (i7 4).toInt ≤ e9.toInt) ∧ (i7 6).toInt = x7_3.toInt) → va_P D vwCl (xW cy a i7 r7 q (a 20) (a 12) ++ tl) H → va_D A (xW cy a i7 r7 q (a 20) (a 12) ++ tl) → va_S A s.heap H locs → lv_has ls 5 [(3, .int x7_3), (0, .ref (a 10)), (1, .ref (a 8)), (2, .int p0)] → W p l e ({ frames := 26, cells := 0, slots := 0, locals := 640 } : Room) s m ([.ref (a 10), .ref (a 8), .int p0] : List Value).toArray below meth c H locs 0 0 Q (F0 m 58 ls []) := by
          intro n
          induction n with
          | zero =>
            intro x7_3 i7 r7 H locs ls hm7 hf7_0 hRi hEi hRr hEr hx7 hP hD hS hl
            exact absurd hm7 (by omega)
          | succ n ih7 =>
            intro x7_3 i7 r7 H locs ls hm7 hf7_0 hRi hEi hRr hEr hx7 hP hD hS hl
            refine lv_iload_n hx hb dX6_read_58 rfl (lv_at hl 0 rfl) ?_
            obtain ⟨hD9, ⟨hk3, hk11, hk5⟩, ⟨h4a, h4b⟩, h6e⟩ := hx7
            have hi6 : 0 ≤ (i7 6).toInt ∧ (i7 6).toInt ≤ 14 := hRi 6
            refine lv_bipush (v := 14) hx hb dX6_read_59 (by decide) ?_
            refine lv_icmp_gt (tgt := 150) hx hb dX6_read_61 (by decide) (fun c_8 => ?_) (fun c_8 => ?_)
            · have c_8 : 14 < x7_3.toInt := b_lt c_8
              refine lv_aload_n hx hb dX6_read_150 rfl (lv_at hl 1 rfl) ?_
              refine va_get (D := D) (ci := 6) (v := .int (i7 5)) (C := RX6) (T := TX6) (N := 5) hx hb hT iX6 hown hK hP 10 rfl rfl 4 (by decide) (hT _ t_651) (fun _ h9 => h9) rfl dX6_read_151 ?_
              subst hQ
              have hpo9 : ((i7 5).toInt = 0 → qRO (qTX p0 (r 9)) i7 r7) ∧ ((i7 5).toInt ≠ 0 → qRF (qTX p0 (r 9)) (i7 5).toInt) := (absurd hi6.2 (by omega))
              exact W.iret (v := i7 5) hx hb hr (fun t ht hW => ⟨⟨_, (i7, r7), rfl, ⟨hRi, hRr, hEi, hEr, hpo9⟩, by rw [ht]; exact hP, va_K.moved hW.alike hK, hD⟩, hS.F ht⟩) hS.2.2 dX6_read_154
            · have c_8 : x7_3.toInt ≤ 14 := b_nlt c_8
              refine lv_aload_n hx hb dX6_read_64 rfl (lv_at hl 1 rfl) ?_
              refine vp_callSi (W.runV (As := []) (rest := []) ⟨hx, hb, hml, hown, hT⟩ (c_X6_peek9 l D cy a i7 r7 q tl hRi hRr (show 0 ≤ (i7 4).toInt by omega)) (cwV 0 hT (gV t_652 t_654 t_655 t_656 t_653) rfl rfl rfl (by decide +kernel) ⟨Nat.le_of_ble_eq_true rfl, Nat.le_of_ble_eq_true rfl⟩) (rP_v hP hK (va_recv hK hP (ci := 6) (q0 := 10) rfl rfl)) rfl rfl hl.1 rfl (lv_room (Nat.le_of_ble_eq_true rfl)) dX6_read_65 ⟨Nat.le_of_ble_eq_true rfl, Nat.le_of_ble_eq_true rfl⟩) (fun r_9 hr_9 => ?_)
              have hqr_9 : r_9.toInt = qTX e9 t9 (i7 4).toInt.toNat := by have h9 := hr_9.1; rw [show (i7) 3 = e9 from hk3, show (r7) 11 = t9 from hk11] at h9; exact h9
              have hr_9 : -1 ≤ r_9.toInt ∧ r_9.toInt ≤ 255 := hr_9.2
              refine lv_istore (lv' := [(4, .int r_9), (3, .int x7_3), (0, .ref (a 10)), (1, .ref (a 8)), (2, .int p0)]) hx hb dX6_read_68 hl (by decide) rfl (fun ls hl => ?_)
              refine lv_aload_n hx hb dX6_read_70 rfl (lv_at hl 2 rfl) ?_
              refine lv_iload hx hb dX6_read_71 (lv_at hl 0 rfl) ?_
              have hF_10 := rF hD hS hA
              refine va_calli (va_runV (As := [.int r_9]) (rest := []) ⟨hx, hb, hml, hown, hT⟩ (c_X6_beginClause9 l D cy a i7 r7 q tl r_9 _ hRi hRr (show 0 ≤ (i7 4).toInt ∧ (i7 4).toInt ≤ 200 by omega)) (cwV 1 hT (gV t_716 t_717 t_718 t_719 t_653) rfl rfl rfl (by decide +kernel) ⟨Nat.le_of_ble_eq_true rfl, Nat.le_of_ble_eq_true rfl⟩) (rQ_v hP hK hD (va_recv hK hP (ci := 6) (q0 := 10) rfl rfl)) rfl rfl hl.1 rfl (lv_room (Nat.le_of_ble_eq_true rfl)) dX6_read_73 ⟨Nat.le_of_ble_eq_true rfl, Nat.le_of_ble_eq_true rfl⟩) hS (fun q _ h => hF_10 q h) hF_10 (fun r_11 u_12 t H1 locs ht hvm hr_11 hB hz1 hk1 hS => ?_)
              obtain ⟨i12, r12⟩ := u_12
              obtain ⟨hP, hK1, hD1⟩ := hB
              rw [ht] at hP
              have hD := hD1.weaken (fun k q _ h => hF_10 q.1 h)
              obtain ⟨hRi, hRr, hE1, hE2, hr_11⟩ := hr_11
              have hRi : yRi i12 := hRi
              have hE1 : mEi [4, 5] i7 i12 := hE1
              have hRr : yRr r12 := hRr
              have hE2 : mEr [13, 14] r7 r12 := hE2
              have hP : va_P D vwCl (xW cy a i12 r12 q (a 20) (a 12) ++ tl) H1 := hP
              have hD : va_D A (xW cy a i12 r12 q (a 20) (a 12) ++ tl) := hD
              have hEi : mEi [3, 4, 5, 6, 7] _ i12 := Ei_tr hEi hE1 (by decide)
              have hEr : mEr [11, 13, 14, 15, 16, 17, 18] _ r12 := Er_tr hEr hE2 (by decide)
              have h3r_11 : i7 3 = e9 := hk3
              have k3r_11 : i12 3 = e9 := (hE1 3 (by decide)).trans h3r_11
              have h11r_11 : r7 11 = t9 := hk11
              have k11r_11 : r12 11 = t9 := (hE2 11 (by decide)).trans h11r_11
              rcases hr_11 with ⟨rfl, hg1, hg2, hg3, hg4, hg5, hg6⟩ | ⟨rfl, hg1⟩
              · have hg3 : (i12 4).toInt = (i7 4).toInt + 1 := hg3
                have hg5 : r12 13 = upd (r7 13) (i7 6).toInt.toNat r_9 := hg5
                have hg6 : r12 14 = upd (r7 14) (i7 6).toInt.toNat (i7 7) := hg6
                have hg7 : i12 5 = i7 5 := hg4
                have h5r_11 : i12 5 = 0 := hg7.trans hk5
                have hg15 : r12 15 = r7 15 := hE2 15 (by decide)
                have hg16 : r12 16 = r7 16 := hE2 16 (by decide)
                have hg17 : r12 17 = r7 17 := hE2 17 (by decide)
                have hg18 : r12 18 = r7 18 := hE2 18 (by decide)
                have hgi6 : i12 6 = i7 6 := hE1 6 (by decide)
                have hgi7 : i12 7 = i7 7 := hE1 7 (by decide)
                refine lv_if_eq (tgt := 139) hx hb dX6_read_76 (by decide) (fun c_13 => absurd c_13 (by decide)) (fun c_13 => ?_)
                refine lv_iload hx hb dX6_read_79 (lv_at hl 0 rfl) ?_
                refine lv_bipush (v := 98) hx hb dX6_read_81 (by decide) ?_
                refine lv_icmp_eq (tgt := 95) hx hb dX6_read_83 (by decide) (fun c_14 => ?_) (fun c_14 => ?_)
                · have c_14 : r_9.toInt = 98 := b_eq c_14
                  have hL9 : qLt ((qTX e9 t9) (i7 4).toInt.toNat) := by rw [← hqr_9]; exact hg1
                  have hR0 : qRG (qTX e9 t9) 6 0 0 0 i12 r12 := qT_beg (L := r_9) hD9 h4a (by omega) hqr_9 hL9 hg2 hg3 hgi7 hgi6 hg5 hg6 hg15 hg16 hg17 hg18 (by rw [if_pos (by omega)])
                  have hal : (i12 4).toInt ≤ e9.toInt := by have h9 := qTX_lt (e := e9) (t := t9) (p := (i7 4).toInt.toNat) (by unfold qLt at hL9; omega); omega
                  refine lv_aload_n hx hb dX6_read_95 rfl (lv_at hl 2 rfl) ?_
                  have hF_15 := rF hD hS hA
                  refine va_calli (va_runV (As := []) (rest := []) ⟨hx, hb, hml, hown, hT⟩ (c_X6_beginTest9 l D cy a i12 r12 q tl _ hRi hRr (show 0 ≤ (i12 4).toInt ∧ (i12 4).toInt ≤ 200 by omega)) (cwV 0 hT (gV t_720 t_721 t_722 t_723 t_653) rfl rfl rfl (by decide +kernel) ⟨Nat.le_of_ble_eq_true rfl, Nat.le_of_ble_eq_true rfl⟩) (rQ_v hP hK hD (va_recv hK hP (ci := 6) (q0 := 10) rfl rfl)) rfl rfl hl.1 rfl (lv_room (Nat.le_of_ble_eq_true rfl)) dX6_read_96 ⟨Nat.le_of_ble_eq_true rfl, Nat.le_of_ble_eq_true rfl⟩) hS (fun q _ h => hF_15 q h) hF_15 (fun r_16 u_17 t H1 locs ht hvm hr_16 hB hz1 hk1 hS => ?_)
                  obtain ⟨i17, r17⟩ := u_17
                  obtain ⟨hP, hK1, hD1⟩ := hB
                  rw [ht] at hP
                  have hD := hD1.weaken (fun k q _ h => hF_15 q.1 h)
                  obtain ⟨hRi, hRr, hE1, hE2, hr_16⟩ := hr_16
                  have hRi : yRi i17 := hRi
                  have hE1 : mEi [4, 5] i12 i17 := hE1
                  have hRr : yRr r17 := hRr
                  have hE2 : mEr [15] r12 r17 := hE2
                  have hP : va_P D vwCl (xW cy a i17 r17 q (a 20) (a 12) ++ tl) H1 := hP
                  have hD : va_D A (xW cy a i17 r17 q (a 20) (a 12) ++ tl) := hD
                  have hEi : mEi [3, 4, 5, 6, 7] _ i17 := Ei_tr hEi hE1 (by decide)
                  have hEr : mEr [11, 13, 14, 15, 16, 17, 18] _ r17 := Er_tr hEr hE2 (by decide)
                  have h3r_16 : i12 3 = e9 := k3r_11
                  have k3r_16 : i17 3 = e9 := (hE1 3 (by decide)).trans h3r_16
                  have h11r_16 : r12 11 = t9 := k11r_11
                  have k11r_16 : r17 11 = t9 := (hE2 11 (by decide)).trans h11r_16
                  rw [h3r_16, h11r_16] at hr_16
                  obtain ⟨ht15, htr_16⟩ := hr_16
                  rcases htr_16 with ⟨rfl, ht1, ht2, ht3⟩ | ⟨rfl, ht1, ht2⟩
                  · have ht2 : (i17 4).toInt = (i12 4).toInt + 1 := ht2
                    have ht13 : r17 13 = r12 13 := hE2 13 (by decide)
                    have ht14 : r17 14 = r12 14 := hE2 14 (by decide)
                    have ht16 : r17 16 = r12 16 := hE2 16 (by decide)
                    have ht17 : r17 17 = r12 17 := hE2 17 (by decide)
                    have ht18 : r17 18 = r12 18 := hE2 18 (by decide)
                    have hti6 : i17 6 = i12 6 := hE1 6 (by decide)
                    have hti7 : i17 7 = i12 7 := hE1 7 (by decide)
                    have htl := qTX_lt (e := e9) (t := t9) (p := (i12 4).toInt.toNat) (by omega)
                    have h5r_16 : i17 5 = 0 := ht3.trans h5r_11
                    refine lv_if_eq (tgt := 139) hx hb dX6_read_99 (by decide) (fun c_18 => absurd c_18 (by decide)) (fun c_18 => ?_)
                    refine lv_aload_n hx hb dX6_read_102 rfl (lv_at hl 2 rfl) ?_
                    have hR8 : qRG (qTX e9 t9) 8 1 1 1 i17 r17 := qT_tst hR0 (by omega) (by omega) ht1 ht2 hti7 hti6 ht13 ht14 ht15 ht16 ht17 ht18
                    refine lv_iconst (v := 1) hx hb dX6_read_103 (by decide) ?_
                    refine lv_bipush (v := 124) hx hb dX6_read_104 (by decide) ?_
                    have hF_19 := rF hD hS hA
                    refine va_calli (va_runV (As := [.int 1, .int 124]) (rest := []) ⟨hx, hb, hml, hown, hT⟩ (c_X6_condition_k1_124_9 l D cy a i17 r17 q tl kq vq _ hRi hRr (show 0 ≤ (i17 4).toInt ∧ (i17 4).toInt ≤ (i17 3).toInt from ⟨by omega, by rw [show (i17) 3 = e9 from k3r_16]; omega⟩)) (cwV 2 hT (gV t_690 t_691 t_692 t_693 t_653) rfl rfl rfl (by decide +kernel) ⟨Nat.le_of_ble_eq_true rfl, Nat.le_of_ble_eq_true rfl⟩) (rS_v hsk hS hF_19 hP hK hD (va_recv hK hP (ci := 6) (q0 := 10) rfl rfl)) rfl rfl hl.1 rfl (lv_room (Nat.le_of_ble_eq_true rfl)) dX6_read_106 ⟨Nat.le_of_ble_eq_true rfl, Nat.le_of_ble_eq_true rfl⟩) hS (fun q _ h => hF_19 q h) hF_19 (fun r_20 u_21 t H1 locs ht hvm hr_20 hB hz1 hk1 hS => ?_)
                    obtain ⟨i21, r21⟩ := u_21
                    obtain ⟨hP, hK1, hD1⟩ := hB
                    rw [ht] at hP
                    have hD := hD1.weaken (fun k q _ h => hF_19 q.1 h)
                    obtain ⟨hRi, hRr, hE1, hE2, hr_20⟩ := hr_20
                    have hRi : yRi i21 := hRi
                    have hE1 : mEi [4, 5, 7] i17 i21 := hE1
                    have hRr : yRr r21 := hRr
                    have hE2 : mEr [17, 18] r17 r21 := hE2
                    have hP : va_P D vwCl (xW cy a i21 r21 q (a 20) (a 12) ++ tl) H1 := hP
                    have hD : va_D A (xW cy a i21 r21 q (a 20) (a 12) ++ tl) := hD
                    have hEi : mEi [3, 4, 5, 6, 7] _ i21 := Ei_tr hEi hE1 (by decide)
                    have hEr : mEr [11, 13, 14, 15, 16, 17, 18] _ r21 := Er_tr hEr hE2 (by decide)
                    have h3r_20 : i17 3 = e9 := k3r_16
                    have k3r_20 : i21 3 = e9 := (hE1 3 (by decide)).trans h3r_20
                    have h11r_20 : r17 11 = t9 := k11r_16
                    have k11r_20 : r21 11 = t9 := (hE2 11 (by decide)).trans h11r_20
                    obtain ⟨hzr_20, ⟨⟨har_20, hbr_20⟩, hcr_20⟩, hXr_20⟩ := hr_20
                    have har_20 : 0 ≤ (i21 4).toInt := har_20
                    have hbr_20 : (i21 4).toInt ≤ (e9).toInt := by rw [← h3r_20]; exact hbr_20
                    try dsimp only at hXr_20
                    rw [h3r_20, h11r_20] at hXr_20
                    rcases hzr_20 with rfl | rfl
                    · skip
                      refine lv_if_eq (tgt := 139) hx hb dX6_read_109 (by decide) (fun c_22 => ?_) (fun c_22 => absurd (by decide) c_22)
                      refine lv_aload_n hx hb dX6_read_139 rfl (lv_at hl 2 rfl) ?_
                      refine va_get (D := D) (ci := 6) (v := .int (i21 5)) (C := RX6) (T := TX6) (N := 5) hx hb hT iX6 hown hK hP 10 rfl rfl 4 (by decide) (hT _ t_651) (fun _ h9 => h9) rfl dX6_read_140 ?_
                      subst hQ
                      have hF9 : qRF (qTX e9 t9) _ := qT_conF hR8 hXr_20
                      rw [htx] at hF9
                      have hpo9 : ((i21 5).toInt = 0 → qRO (qTX p0 (r 9)) i21 r21) ∧ ((i21 5).toInt ≠ 0 → qRF (qTX p0 (r 9)) (i21 5).toInt) := (qRd_f hF9 rfl)
                      exact W.iret (v := i21 5) hx hb hr (fun t ht hW => ⟨⟨_, (i21, r21), rfl, ⟨hRi, hRr, hEi, hEr, hpo9⟩, by rw [ht]; exact hP, va_K.moved hW.alike hK, hD⟩, hS.F ht⟩) hS.2.2 dX6_read_143
                    · skip
                      have h5r_20 : i21 5 = (0 : Int32) := (hcr_20 (by decide)).2.trans h5r_16
                      have hcr_20 : (i17 4).toInt < (i21 4).toInt := (hcr_20 (by decide)).1
                      refine lv_if_eq (tgt := 139) hx hb dX6_read_109 (by decide) (fun c_23 => absurd c_23 (by decide)) (fun c_23 => ?_)
                      refine lv_aload_n hx hb dX6_read_112 rfl (lv_at hl 2 rfl) ?_
                      have hR10 := qT_con hR8 hXr_20 (hE1 6 (by decide)) (hE2 13 (by decide)) (hE2 14 (by decide)) (hE2 15 (by decide)) (hE2 16 (by decide))
                      have h6c : (i21 6).toInt = (i7 6).toInt := by
                        have a1 : i21 6 = i17 6 := hE1 6 (by decide)
                        rw [a1, hti6]; exact congrArg Int32.toInt hgi6
                      have hF_24 := rF hD hS hA
                      refine va_calli (va_runV (As := []) (rest := []) ⟨hx, hb, hml, hown, hT⟩ (c_X6_endClause9 l D cy a i21 r21 q tl _ hRi hRr (show 0 ≤ (i21 4).toInt ∧ (i21 4).toInt ≤ 200 by omega)) (cwV 0 hT (gV t_724 t_725 t_726 t_727 t_653) rfl rfl rfl (by decide +kernel) ⟨Nat.le_of_ble_eq_true rfl, Nat.le_of_ble_eq_true rfl⟩) (rQ_v hP hK hD (va_recv hK hP (ci := 6) (q0 := 10) rfl rfl)) rfl rfl hl.1 rfl (lv_room (Nat.le_of_ble_eq_true rfl)) dX6_read_113 ⟨Nat.le_of_ble_eq_true rfl, Nat.le_of_ble_eq_true rfl⟩) hS (fun q _ h => hF_24 q h) hF_24 (fun r_25 u_26 t H1 locs ht hvm hr_25 hB hz1 hk1 hS => ?_)
                      obtain ⟨i26, r26⟩ := u_26
                      obtain ⟨hP, hK1, hD1⟩ := hB
                      rw [ht] at hP
                      have hD := hD1.weaken (fun k q _ h => hF_24 q.1 h)
                      obtain ⟨hRi, hRr, hE1, hE2, hr_25⟩ := hr_25
                      have hRi : yRi i26 := hRi
                      have hE1 : mEi [4, 5, 6] i21 i26 := hE1
                      have hRr : yRr r26 := hRr
                      have hE2 : mEr [16] r21 r26 := hE2
                      have hP : va_P D vwCl (xW cy a i26 r26 q (a 20) (a 12) ++ tl) H1 := hP
                      have hD : va_D A (xW cy a i26 r26 q (a 20) (a 12) ++ tl) := hD
                      have hEi : mEi [3, 4, 5, 6, 7] _ i26 := Ei_tr hEi hE1 (by decide)
                      have hEr : mEr [11, 13, 14, 15, 16, 17, 18] _ r26 := Er_tr hEr hE2 (by decide)
                      have h3r_25 : i21 3 = e9 := k3r_20
                      have k3r_25 : i26 3 = e9 := (hE1 3 (by decide)).trans h3r_25
                      have h11r_25 : r21 11 = t9 := k11r_20
                      have k11r_25 : r26 11 = t9 := (hE2 11 (by decide)).trans h11r_25
                      rw [h3r_25, h11r_25] at hr_25
                      rcases hr_25 with ⟨rfl, he1, he2, he3, he4⟩ | ⟨rfl, he1, he2⟩
                      · have he2 : (i26 4).toInt = (i21 4).toInt + 1 := he2
                        have he13 : r26 13 = r21 13 := hE2 13 (by decide)
                        have he14 : r26 14 = r21 14 := hE2 14 (by decide)
                        have he15 : r26 15 = r21 15 := hE2 15 (by decide)
                        have he17 : r26 17 = r21 17 := hE2 17 (by decide)
                        have he18 : r26 18 = r21 18 := hE2 18 (by decide)
                        have hei7 : i26 7 = i21 7 := hE1 7 (by decide)
                        have he4 : (i21 6).toInt < 14 → (i26 6).toInt = (i21 6).toInt + 1 ∧ r26 16 = upd (r21 16) (i21 6).toInt.toNat (i21 7) := he4
                        have hel := qTX_lt (e := e9) (t := t9) (p := (i21 4).toInt.toNat) (by omega)
                        have h5r_25 : i26 5 = 0 := he3.trans h5r_20
                        refine lv_if_eq (tgt := 139) hx hb dX6_read_116 (by decide) (fun c_27 => absurd c_27 (by decide)) (fun c_27 => ?_)
                        refine lv_aload_n hx hb dX6_read_119 rfl (lv_at hl 2 rfl) ?_
                        have hR11 : qRG (qTX e9 t9) 11 0 0 1 (upd i21 4 (i26 4)) r21 := qT_end hR10.1 (by omega) he1 he2 rfl rfl rfl rfl rfl rfl rfl rfl
                        have hae : (i26 4).toInt ≤ e9.toInt := by omega
                        have hae0 : 0 ≤ (i26 4).toInt := by omega
                        have hk39 : (i26 3).toInt = e9.toInt := congrArg Int32.toInt k3r_25
                        refine va_get (D := D) (ci := 6) (v := .int (i26 4)) (C := RX6) (T := TX6) (N := 5) hx hb hT iX6 hown hK hP 10 rfl rfl 3 (by decide) (hT _ t_648) (fun _ h9 => h9) rfl dX6_read_120 ?_
                        refine lv_aload_n hx hb dX6_read_123 rfl (lv_at hl 2 rfl) ?_
                        refine va_get (D := D) (ci := 6) (v := .int (i26 3)) (C := RX6) (T := TX6) (N := 5) hx hb hT iX6 hown hK hP 10 rfl rfl 2 (by decide) (hT _ t_649) (fun _ h9 => h9) rfl dX6_read_124 ?_
                        have hg_28 : 0 ≤ (i26 3).toInt ∧ (i26 3).toInt ≤ 200 := hRi 3
                        refine lv_icmp_eq (tgt := 139) hx hb dX6_read_127 (by decide) (fun c_29 => ?_) (fun c_29 => ?_)
                        · have c_29 : (i26 4).toInt = (i26 3).toInt := b_eq c_29
                          refine lv_aload_n hx hb dX6_read_139 rfl (lv_at hl 2 rfl) ?_
                          refine va_get (D := D) (ci := 6) (v := .int (i26 5)) (C := RX6) (T := TX6) (N := 5) hx hb hT iX6 hown hK hP 10 rfl rfl 4 (by decide) (hT _ t_651) (fun _ h9 => h9) rfl dX6_read_140 ?_
                          subst hQ
                          have hO9 : qRO (qTX e9 t9) i26 r26 := qT_fin hR11 (by show (i26 4).toInt ≤ 200; omega) (qTX_end (show e9.toInt ≤ (((i26 4).toInt.toNat : Nat) : Int) by omega)) hei7 (fun h9 => (he4 h9).1) he13 he14 he15 (fun h9 => (he4 h9).2) he17 he18
                          rw [htx] at hO9
                          have h05 : (i26 5).toInt = 0 := by rw [h5r_25]; rfl
                          have hpo9 : ((i26 5).toInt = 0 → qRO (qTX p0 (r 9)) i26 r26) ∧ ((i26 5).toInt ≠ 0 → qRF (qTX p0 (r 9)) (i26 5).toInt) := ⟨fun _ => hO9, fun h9 => absurd h05 h9⟩
                          exact W.iret (v := i26 5) hx hb hr (fun t ht hW => ⟨⟨_, (i26, r26), rfl, ⟨hRi, hRr, hEi, hEr, hpo9⟩, by rw [ht]; exact hP, va_K.moved hW.alike hK, hD⟩, hS.F ht⟩) hS.2.2 dX6_read_143
                        · have c_29 : (i26 4).toInt ≠ (i26 3).toInt := b_ne c_29
                          have hne : (qTX e9 t9) (i26 4).toInt.toNat ≠ -1 := qTX_in (by omega)
                          refine lv_aload_n hx hb dX6_read_130 rfl (lv_at hl 2 rfl) ?_
                          refine lv_bipush (v := 59) hx hb dX6_read_131 (by decide) ?_
                          have hF_30 := rF hD hS hA
                          refine va_calli (va_runV (As := [.int 59]) (rest := []) ⟨hx, hb, hml, hown, hT⟩ (c_X6_pass9 l D cy a i26 r26 q tl 59 _ hRi hRr (show 0 ≤ (i26 4).toInt ∧ (i26 4).toInt ≤ 200 by omega)) (cwV 1 hT (gV t_678 t_679 t_680 t_681 t_653) rfl rfl rfl (by decide +kernel) ⟨Nat.le_of_ble_eq_true rfl, Nat.le_of_ble_eq_true rfl⟩) (rQ_v hP hK hD (va_recv hK hP (ci := 6) (q0 := 10) rfl rfl)) rfl rfl hl.1 rfl (lv_room (Nat.le_of_ble_eq_true rfl)) dX6_read_133 ⟨Nat.le_of_ble_eq_true rfl, Nat.le_of_ble_eq_true rfl⟩) hS (fun q _ h => hF_30 q h) hF_30 (fun r_31 u_32 t H1 locs ht hvm hr_31 hB hz1 hk1 hS => ?_)
                          obtain ⟨i32, r32⟩ := u_32
                          obtain ⟨hP, hK1, hD1⟩ := hB
                          rw [ht] at hP
                          have hD := hD1.weaken (fun k q _ h => hF_30 q.1 h)
                          obtain ⟨hRi, hRr, hE1, hE2, hr_31⟩ := hr_31
                          have hRi : yRi i32 := hRi
                          have hE1 : mEi [4, 5] i26 i32 := hE1
                          have hRr : yRr r32 := hRr
                          have hE2 : mEr [] r26 r32 := hE2
                          have hP : va_P D vwCl (xW cy a i32 r32 q (a 20) (a 12) ++ tl) H1 := hP
                          have hD : va_D A (xW cy a i32 r32 q (a 20) (a 12) ++ tl) := hD
                          have hEi : mEi [3, 4, 5, 6, 7] _ i32 := Ei_tr hEi hE1 (by decide)
                          have hEr : mEr [11, 13, 14, 15, 16, 17, 18] _ r32 := Er_tr hEr hE2 (by decide)
                          have h3r_31 : i26 3 = e9 := k3r_25
                          have k3r_31 : i32 3 = e9 := (hE1 3 (by decide)).trans h3r_31
                          have h11r_31 : r26 11 = t9 := k11r_25
                          have k11r_31 : r32 11 = t9 := (hE2 11 (by decide)).trans h11r_31
                          rw [h3r_31, h11r_31] at hr_31
                          rcases hr_31 with ⟨rfl, hp1, hp2, hp5⟩ | ⟨rfl, hp1, hp2, hp3⟩
                          · have hp1 : qTX e9 t9 (i26 4).toInt.toNat = 59 := hp1
                            have h5r_31 : i32 5 = (0 : Int32) := hp5.trans h5r_25
                            have hp2 : (i32 4).toInt = (i26 4).toInt + 1 := hp2
                            have hpl := qTX_lt (e := e9) (t := t9) (p := (i26 4).toInt.toNat) (by omega)
                            refine lv_if_ne (tgt := 144) hx hb dX6_read_136 (by decide) (fun c_33 => ?_) (fun c_33 => absurd c_33 (by decide))
                            obtain ⟨x_34, ex_34⟩ : ∃ y : Int32, y = x7_3 + 1 := ⟨_, rfl⟩
                            refine lv_iinc (v := x_34) (lv' := [(3, .int x_34), (4, .int r_9), (0, .ref (a 10)), (1, .ref (a 8)), (2, .int p0)]) hx hb dX6_read_144 hl (k := 1) rfl (by rw [ex_34]; rfl) (by decide) rfl (fun ls hl => ?_)
                            have hx_34 : x_34.toInt = x7_3.toInt + 1 := by rw [ex_34]; have := b_rg x7_3; exact i_add (a := x7_3.toInt) (b := 1) rfl rfl (by omega) (by omega)
                            refine lv_goto (tgt := 58) hx hb dX6_read_147 (by decide) ?_
                            have hz13 : r32 13 = r26 13 := hE2 13 (by decide)
                            have hz14 : r32 14 = r26 14 := hE2 14 (by decide)
                            have hz15 : r32 15 = r26 15 := hE2 15 (by decide)
                            have hz16 : r32 16 = r26 16 := hE2 16 (by decide)
                            have hz17 : r32 17 = r26 17 := hE2 17 (by decide)
                            have hz18 : r32 18 = r26 18 := hE2 18 (by decide)
                            have hzi6 : i32 6 = i26 6 := hE1 6 (by decide)
                            have hzi7 : i32 7 = i26 7 := hE1 7 (by decide)
                            have hD8 : qRD (qTX e9 t9) i32 r32 := qT_nxt hR11 (by show 0 ≤ (i26 4).toInt; omega) (by show (i26 4).toInt ≤ 200; omega) hp1 hp2 (hzi7.trans hei7) (fun h9 => by rw [hzi6]; exact (he4 h9).1) (hz13.trans he13) (hz14.trans he14) (hz15.trans he15) (fun h9 => hz16.trans (he4 h9).2) (hz17.trans he17) (hz18.trans he18)
                            have h6n : (i32 6).toInt = x_34.toInt := by have h9 : (i32 6).toInt = (i26 6).toInt := congrArg Int32.toInt hzi6; have h8 : (i21 6).toInt = (i7 6).toInt := h6c; have h7 := (he4 (by omega)).1; omega
                            exact ih7 x_34 i32 r32 _ _ _ (by first | omega | (simp only [Int.toNat]; omega)) (by first | omega | decide) hRi hEi hRr hEr ⟨hD8, ⟨k3r_31, k11r_31, h5r_31⟩, ⟨by omega, by omega⟩, h6n⟩ hP hD hS (lv_sub hl [0, 2, 3, 4] rfl)
                          · have hp1 : qTX e9 t9 (i26 4).toInt.toNat ≠ 59 := hp1
                            have hp2 : (i32 5).toInt = -1000 - (i26 4).toInt := hp2
                            have hp3 : i32 4 = (i26 4) := hp3
                            refine lv_if_ne (tgt := 144) hx hb dX6_read_136 (by decide) (fun c_35 => absurd (by decide) c_35) (fun c_35 => ?_)
                            refine lv_aload_n hx hb dX6_read_139 rfl (lv_at hl 2 rfl) ?_
                            refine va_get (D := D) (ci := 6) (v := .int (i32 5)) (C := RX6) (T := TX6) (N := 5) hx hb hT iX6 hown hK hP 10 rfl rfl 4 (by decide) (hT _ t_651) (fun _ h9 => h9) rfl dX6_read_140 ?_
                            subst hQ
                            have hF9 : qRF (qTX e9 t9) _ := qT_fail hR11 (p9 := (i26 4).toInt.toNat) (by show (((i26 4).toInt.toNat : Nat) : Int) = (i26 4).toInt; omega) (fun n b rc hf w c _ => qm_nob hne hp1)
                            rw [htx] at hF9
                            have hpo9 : ((i32 5).toInt = 0 → qRO (qTX p0 (r 9)) i32 r32) ∧ ((i32 5).toInt ≠ 0 → qRF (qTX p0 (r 9)) (i32 5).toInt) := (qRd_f hF9 hp2)
                            exact W.iret (v := i32 5) hx hb hr (fun t ht hW => ⟨⟨_, (i32, r32), rfl, ⟨hRi, hRr, hEi, hEr, hpo9⟩, by rw [ht]; exact hP, va_K.moved hW.alike hK, hD⟩, hS.F ht⟩) hS.2.2 dX6_read_143
                      · have he2 : (i26 5).toInt = -1000 - (i21 4).toInt := he2
                        refine lv_if_eq (tgt := 139) hx hb dX6_read_116 (by decide) (fun c_36 => ?_) (fun c_36 => absurd (by decide) c_36)
                        refine lv_aload_n hx hb dX6_read_139 rfl (lv_at hl 2 rfl) ?_
                        refine va_get (D := D) (ci := 6) (v := .int (i26 5)) (C := RX6) (T := TX6) (N := 5) hx hb hT iX6 hown hK hP 10 rfl rfl 4 (by decide) (hT _ t_651) (fun _ h9 => h9) rfl dX6_read_140 ?_
                        subst hQ
                        have hF9 : qRF (qTX e9 t9) _ := qT_fail hR10.1 (p9 := (i21 4).toInt.toNat) (by omega) (fun n b rc hf w c h0 => qm_noa (by rw [show qTop w 1 = cOp (w 0) from qTop_s, h0 (Nat.le_refl 1), cOp13]; omega) hR10.2.2 he1)
                        rw [htx] at hF9
                        have hpo9 : ((i26 5).toInt = 0 → qRO (qTX p0 (r 9)) i26 r26) ∧ ((i26 5).toInt ≠ 0 → qRF (qTX p0 (r 9)) (i26 5).toInt) := (qRd_f hF9 he2)
                        exact W.iret (v := i26 5) hx hb hr (fun t ht hW => ⟨⟨_, (i26, r26), rfl, ⟨hRi, hRr, hEi, hEr, hpo9⟩, by rw [ht]; exact hP, va_K.moved hW.alike hK, hD⟩, hS.F ht⟩) hS.2.2 dX6_read_143
                  · have ht2 : (i17 5).toInt = -1000 - (i12 4).toInt := ht2
                    refine lv_if_eq (tgt := 139) hx hb dX6_read_99 (by decide) (fun c_37 => ?_) (fun c_37 => absurd (by decide) c_37)
                    refine lv_aload_n hx hb dX6_read_139 rfl (lv_at hl 2 rfl) ?_
                    refine va_get (D := D) (ci := 6) (v := .int (i17 5)) (C := RX6) (T := TX6) (N := 5) hx hb hT iX6 hown hK hP 10 rfl rfl 4 (by decide) (hT _ t_651) (fun _ h9 => h9) rfl dX6_read_140 ?_
                    subst hQ
                    have hF9 : qRF (qTX e9 t9) _ := qT_fail hR0 (p9 := (i12 4).toInt.toNat) (by omega) (fun n b rc hf w c _ => qm_no6 ht1)
                    rw [htx] at hF9
                    have hpo9 : ((i17 5).toInt = 0 → qRO (qTX p0 (r 9)) i17 r17) ∧ ((i17 5).toInt ≠ 0 → qRF (qTX p0 (r 9)) (i17 5).toInt) := (qRd_f hF9 ht2)
                    exact W.iret (v := i17 5) hx hb hr (fun t ht hW => ⟨⟨_, (i17, r17), rfl, ⟨hRi, hRr, hEi, hEr, hpo9⟩, by rw [ht]; exact hP, va_K.moved hW.alike hK, hD⟩, hS.F ht⟩) hS.2.2 dX6_read_143
                · have c_14 : r_9.toInt ≠ 98 := b_ne c_14
                  have hL9 : qLt ((qTX e9 t9) (i7 4).toInt.toNat) := by rw [← hqr_9]; exact hg1
                  have hR0 : qRG (qTX e9 t9) 0 0 0 0 i12 r12 := qT_beg (L := r_9) hD9 h4a (by omega) hqr_9 hL9 hg2 hg3 hgi7 hgi6 hg5 hg6 hg15 hg16 hg17 hg18 (by rw [if_neg (by omega)])
                  have hal : (i12 4).toInt ≤ e9.toInt := by have h9 := qTX_lt (e := e9) (t := t9) (p := (i7 4).toInt.toNat) (by unfold qLt at hL9; omega); omega
                  refine lv_aload_n hx hb dX6_read_86 rfl (lv_at hl 2 rfl) ?_
                  refine lv_iconst (v := 0) hx hb dX6_read_87 (by decide) ?_
                  refine lv_iconst (v := 1) hx hb dX6_read_88 (by decide) ?_
                  have hF_38 := rF hD hS hA
                  refine va_calli (va_runV (As := [.int 0, .int 1]) (rest := []) ⟨hx, hb, hml, hown, hT⟩ (c_X6_expression_k0_1_9 l D cy a i12 r12 q tl kq vq _ hRi hRr (show 0 ≤ (i12 4).toInt ∧ (i12 4).toInt ≤ (i12 3).toInt from ⟨by omega, by rw [show (i12) 3 = e9 from k3r_11]; omega⟩)) (cwV 2 hT (gV t_674 t_675 t_676 t_677 t_653) rfl rfl rfl (by decide +kernel) ⟨Nat.le_of_ble_eq_true rfl, Nat.le_of_ble_eq_true rfl⟩) (rS_v hsk hS hF_38 hP hK hD (va_recv hK hP (ci := 6) (q0 := 10) rfl rfl)) rfl rfl hl.1 rfl (lv_room (Nat.le_of_ble_eq_true rfl)) dX6_read_89 ⟨Nat.le_of_ble_eq_true rfl, Nat.le_of_ble_eq_true rfl⟩) hS (fun q _ h => hF_38 q h) hF_38 (fun r_39 u_40 t H1 locs ht hvm hr_39 hB hz1 hk1 hS => ?_)
                  obtain ⟨i40, r40⟩ := u_40
                  obtain ⟨hP, hK1, hD1⟩ := hB
                  rw [ht] at hP
                  have hD := hD1.weaken (fun k q _ h => hF_38 q.1 h)
                  obtain ⟨hRi, hRr, hE1, hE2, hr_39⟩ := hr_39
                  have hRi : yRi i40 := hRi
                  have hE1 : mEi [4, 5, 7] i12 i40 := hE1
                  have hRr : yRr r40 := hRr
                  have hE2 : mEr [17, 18] r12 r40 := hE2
                  have hP : va_P D vwCl (xW cy a i40 r40 q (a 20) (a 12) ++ tl) H1 := hP
                  have hD : va_D A (xW cy a i40 r40 q (a 20) (a 12) ++ tl) := hD
                  have hEi : mEi [3, 4, 5, 6, 7] _ i40 := Ei_tr hEi hE1 (by decide)
                  have hEr : mEr [11, 13, 14, 15, 16, 17, 18] _ r40 := Er_tr hEr hE2 (by decide)
                  have h3r_39 : i12 3 = e9 := k3r_11
                  have k3r_39 : i40 3 = e9 := (hE1 3 (by decide)).trans h3r_39
                  have h11r_39 : r12 11 = t9 := k11r_11
                  have k11r_39 : r40 11 = t9 := (hE2 11 (by decide)).trans h11r_39
                  obtain ⟨hzr_39, ⟨⟨har_39, hbr_39⟩, hcr_39⟩, hXr_39⟩ := hr_39
                  have har_39 : 0 ≤ (i40 4).toInt := har_39
                  have hbr_39 : (i40 4).toInt ≤ (e9).toInt := by rw [← h3r_39]; exact hbr_39
                  try dsimp only at hXr_39
                  rw [h3r_39, h11r_39] at hXr_39
                  rcases hzr_39 with rfl | rfl
                  · skip
                    refine lv_if_eq (tgt := 139) hx hb dX6_read_92 (by decide) (fun c_41 => ?_) (fun c_41 => absurd (by decide) c_41)
                    refine lv_aload_n hx hb dX6_read_139 rfl (lv_at hl 2 rfl) ?_
                    refine va_get (D := D) (ci := 6) (v := .int (i40 5)) (C := RX6) (T := TX6) (N := 5) hx hb hT iX6 hown hK hP 10 rfl rfl 4 (by decide) (hT _ t_651) (fun _ h9 => h9) rfl dX6_read_140 ?_
                    subst hQ
                    have hF9 : qRF (qTX e9 t9) _ := qT_expF hR0 hXr_39
                    rw [htx] at hF9
                    have hpo9 : ((i40 5).toInt = 0 → qRO (qTX p0 (r 9)) i40 r40) ∧ ((i40 5).toInt ≠ 0 → qRF (qTX p0 (r 9)) (i40 5).toInt) := (qRd_f hF9 rfl)
                    exact W.iret (v := i40 5) hx hb hr (fun t ht hW => ⟨⟨_, (i40, r40), rfl, ⟨hRi, hRr, hEi, hEr, hpo9⟩, by rw [ht]; exact hP, va_K.moved hW.alike hK, hD⟩, hS.F ht⟩) hS.2.2 dX6_read_143
                  · skip
                    have h5r_39 : i40 5 = (0 : Int32) := (hcr_39 (by decide)).2.trans h5r_11
                    have hcr_39 : (i12 4).toInt < (i40 4).toInt := (hcr_39 (by decide)).1
                    refine lv_if_eq (tgt := 139) hx hb dX6_read_92 (by decide) (fun c_42 => absurd c_42 (by decide)) (fun c_42 => ?_)
                    refine lv_aload_n hx hb dX6_read_95 rfl (lv_at hl 2 rfl) ?_
                    have h6x : i40 6 = i12 6 := hE1 6 (by decide)
                    have hR6 : qRG (qTX e9 t9) 6 0 0 0 i40 r40 := qT_exp hR0 hXr_39 (hE1 6 (by decide)) (hE2 13 (by decide)) (hE2 14 (by decide)) (hE2 15 (by decide)) (hE2 16 (by decide))
                    have hF_43 := rF hD hS hA
                    refine va_calli (va_runV (As := []) (rest := []) ⟨hx, hb, hml, hown, hT⟩ (c_X6_beginTest9 l D cy a i40 r40 q tl _ hRi hRr (show 0 ≤ (i40 4).toInt ∧ (i40 4).toInt ≤ 200 by omega)) (cwV 0 hT (gV t_720 t_721 t_722 t_723 t_653) rfl rfl rfl (by decide +kernel) ⟨Nat.le_of_ble_eq_true rfl, Nat.le_of_ble_eq_true rfl⟩) (rQ_v hP hK hD (va_recv hK hP (ci := 6) (q0 := 10) rfl rfl)) rfl rfl hl.1 rfl (lv_room (Nat.le_of_ble_eq_true rfl)) dX6_read_96 ⟨Nat.le_of_ble_eq_true rfl, Nat.le_of_ble_eq_true rfl⟩) hS (fun q _ h => hF_43 q h) hF_43 (fun r_44 u_45 t H1 locs ht hvm hr_44 hB hz1 hk1 hS => ?_)
                    obtain ⟨i45, r45⟩ := u_45
                    obtain ⟨hP, hK1, hD1⟩ := hB
                    rw [ht] at hP
                    have hD := hD1.weaken (fun k q _ h => hF_43 q.1 h)
                    obtain ⟨hRi, hRr, hE1, hE2, hr_44⟩ := hr_44
                    have hRi : yRi i45 := hRi
                    have hE1 : mEi [4, 5] i40 i45 := hE1
                    have hRr : yRr r45 := hRr
                    have hE2 : mEr [15] r40 r45 := hE2
                    have hP : va_P D vwCl (xW cy a i45 r45 q (a 20) (a 12) ++ tl) H1 := hP
                    have hD : va_D A (xW cy a i45 r45 q (a 20) (a 12) ++ tl) := hD
                    have hEi : mEi [3, 4, 5, 6, 7] _ i45 := Ei_tr hEi hE1 (by decide)
                    have hEr : mEr [11, 13, 14, 15, 16, 17, 18] _ r45 := Er_tr hEr hE2 (by decide)
                    have h3r_44 : i40 3 = e9 := k3r_39
                    have k3r_44 : i45 3 = e9 := (hE1 3 (by decide)).trans h3r_44
                    have h11r_44 : r40 11 = t9 := k11r_39
                    have k11r_44 : r45 11 = t9 := (hE2 11 (by decide)).trans h11r_44
                    rw [h3r_44, h11r_44] at hr_44
                    obtain ⟨ht15, htr_44⟩ := hr_44
                    rcases htr_44 with ⟨rfl, ht1, ht2, ht3⟩ | ⟨rfl, ht1, ht2⟩
                    · have ht2 : (i45 4).toInt = (i40 4).toInt + 1 := ht2
                      have ht13 : r45 13 = r40 13 := hE2 13 (by decide)
                      have ht14 : r45 14 = r40 14 := hE2 14 (by decide)
                      have ht16 : r45 16 = r40 16 := hE2 16 (by decide)
                      have ht17 : r45 17 = r40 17 := hE2 17 (by decide)
                      have ht18 : r45 18 = r40 18 := hE2 18 (by decide)
                      have hti6 : i45 6 = i40 6 := hE1 6 (by decide)
                      have hti7 : i45 7 = i40 7 := hE1 7 (by decide)
                      have htl := qTX_lt (e := e9) (t := t9) (p := (i40 4).toInt.toNat) (by omega)
                      have h5r_44 : i45 5 = 0 := ht3.trans h5r_39
                      refine lv_if_eq (tgt := 139) hx hb dX6_read_99 (by decide) (fun c_46 => absurd c_46 (by decide)) (fun c_46 => ?_)
                      refine lv_aload_n hx hb dX6_read_102 rfl (lv_at hl 2 rfl) ?_
                      have hR8 : qRG (qTX e9 t9) 8 1 1 1 i45 r45 := qT_tst hR6 (by omega) (by omega) ht1 ht2 hti7 hti6 ht13 ht14 ht15 ht16 ht17 ht18
                      refine lv_iconst (v := 1) hx hb dX6_read_103 (by decide) ?_
                      refine lv_bipush (v := 124) hx hb dX6_read_104 (by decide) ?_
                      have hF_47 := rF hD hS hA
                      refine va_calli (va_runV (As := [.int 1, .int 124]) (rest := []) ⟨hx, hb, hml, hown, hT⟩ (c_X6_condition_k1_124_9 l D cy a i45 r45 q tl kq vq _ hRi hRr (show 0 ≤ (i45 4).toInt ∧ (i45 4).toInt ≤ (i45 3).toInt from ⟨by omega, by rw [show (i45) 3 = e9 from k3r_44]; omega⟩)) (cwV 2 hT (gV t_690 t_691 t_692 t_693 t_653) rfl rfl rfl (by decide +kernel) ⟨Nat.le_of_ble_eq_true rfl, Nat.le_of_ble_eq_true rfl⟩) (rS_v hsk hS hF_47 hP hK hD (va_recv hK hP (ci := 6) (q0 := 10) rfl rfl)) rfl rfl hl.1 rfl (lv_room (Nat.le_of_ble_eq_true rfl)) dX6_read_106 ⟨Nat.le_of_ble_eq_true rfl, Nat.le_of_ble_eq_true rfl⟩) hS (fun q _ h => hF_47 q h) hF_47 (fun r_48 u_49 t H1 locs ht hvm hr_48 hB hz1 hk1 hS => ?_)
                      obtain ⟨i49, r49⟩ := u_49
                      obtain ⟨hP, hK1, hD1⟩ := hB
                      rw [ht] at hP
                      have hD := hD1.weaken (fun k q _ h => hF_47 q.1 h)
                      obtain ⟨hRi, hRr, hE1, hE2, hr_48⟩ := hr_48
                      have hRi : yRi i49 := hRi
                      have hE1 : mEi [4, 5, 7] i45 i49 := hE1
                      have hRr : yRr r49 := hRr
                      have hE2 : mEr [17, 18] r45 r49 := hE2
                      have hP : va_P D vwCl (xW cy a i49 r49 q (a 20) (a 12) ++ tl) H1 := hP
                      have hD : va_D A (xW cy a i49 r49 q (a 20) (a 12) ++ tl) := hD
                      have hEi : mEi [3, 4, 5, 6, 7] _ i49 := Ei_tr hEi hE1 (by decide)
                      have hEr : mEr [11, 13, 14, 15, 16, 17, 18] _ r49 := Er_tr hEr hE2 (by decide)
                      have h3r_48 : i45 3 = e9 := k3r_44
                      have k3r_48 : i49 3 = e9 := (hE1 3 (by decide)).trans h3r_48
                      have h11r_48 : r45 11 = t9 := k11r_44
                      have k11r_48 : r49 11 = t9 := (hE2 11 (by decide)).trans h11r_48
                      obtain ⟨hzr_48, ⟨⟨har_48, hbr_48⟩, hcr_48⟩, hXr_48⟩ := hr_48
                      have har_48 : 0 ≤ (i49 4).toInt := har_48
                      have hbr_48 : (i49 4).toInt ≤ (e9).toInt := by rw [← h3r_48]; exact hbr_48
                      try dsimp only at hXr_48
                      rw [h3r_48, h11r_48] at hXr_48
                      rcases hzr_48 with rfl | rfl
                      · skip
                        refine lv_if_eq (tgt := 139) hx hb dX6_read_109 (by decide) (fun c_50 => ?_) (fun c_50 => absurd (by decide) c_50)
                        refine lv_aload_n hx hb dX6_read_139 rfl (lv_at hl 2 rfl) ?_
                        refine va_get (D := D) (ci := 6) (v := .int (i49 5)) (C := RX6) (T := TX6) (N := 5) hx hb hT iX6 hown hK hP 10 rfl rfl 4 (by decide) (hT _ t_651) (fun _ h9 => h9) rfl dX6_read_140 ?_
                        subst hQ
                        have hF9 : qRF (qTX e9 t9) _ := qT_conF hR8 hXr_48
                        rw [htx] at hF9
                        have hpo9 : ((i49 5).toInt = 0 → qRO (qTX p0 (r 9)) i49 r49) ∧ ((i49 5).toInt ≠ 0 → qRF (qTX p0 (r 9)) (i49 5).toInt) := (qRd_f hF9 rfl)
                        exact W.iret (v := i49 5) hx hb hr (fun t ht hW => ⟨⟨_, (i49, r49), rfl, ⟨hRi, hRr, hEi, hEr, hpo9⟩, by rw [ht]; exact hP, va_K.moved hW.alike hK, hD⟩, hS.F ht⟩) hS.2.2 dX6_read_143
                      · skip
                        have h5r_48 : i49 5 = (0 : Int32) := (hcr_48 (by decide)).2.trans h5r_44
                        have hcr_48 : (i45 4).toInt < (i49 4).toInt := (hcr_48 (by decide)).1
                        refine lv_if_eq (tgt := 139) hx hb dX6_read_109 (by decide) (fun c_51 => absurd c_51 (by decide)) (fun c_51 => ?_)
                        refine lv_aload_n hx hb dX6_read_112 rfl (lv_at hl 2 rfl) ?_
                        have hR10 := qT_con hR8 hXr_48 (hE1 6 (by decide)) (hE2 13 (by decide)) (hE2 14 (by decide)) (hE2 15 (by decide)) (hE2 16 (by decide))
                        have h6c : (i49 6).toInt = (i7 6).toInt := by
                          have a1 : i49 6 = i45 6 := hE1 6 (by decide)
                          have a2 : i40 6 = i12 6 := h6x
                          rw [a1, hti6, a2]; exact congrArg Int32.toInt hgi6
                        have hF_52 := rF hD hS hA
                        refine va_calli (va_runV (As := []) (rest := []) ⟨hx, hb, hml, hown, hT⟩ (c_X6_endClause9 l D cy a i49 r49 q tl _ hRi hRr (show 0 ≤ (i49 4).toInt ∧ (i49 4).toInt ≤ 200 by omega)) (cwV 0 hT (gV t_724 t_725 t_726 t_727 t_653) rfl rfl rfl (by decide +kernel) ⟨Nat.le_of_ble_eq_true rfl, Nat.le_of_ble_eq_true rfl⟩) (rQ_v hP hK hD (va_recv hK hP (ci := 6) (q0 := 10) rfl rfl)) rfl rfl hl.1 rfl (lv_room (Nat.le_of_ble_eq_true rfl)) dX6_read_113 ⟨Nat.le_of_ble_eq_true rfl, Nat.le_of_ble_eq_true rfl⟩) hS (fun q _ h => hF_52 q h) hF_52 (fun r_53 u_54 t H1 locs ht hvm hr_53 hB hz1 hk1 hS => ?_)
                        obtain ⟨i54, r54⟩ := u_54
                        obtain ⟨hP, hK1, hD1⟩ := hB
                        rw [ht] at hP
                        have hD := hD1.weaken (fun k q _ h => hF_52 q.1 h)
                        obtain ⟨hRi, hRr, hE1, hE2, hr_53⟩ := hr_53
                        have hRi : yRi i54 := hRi
                        have hE1 : mEi [4, 5, 6] i49 i54 := hE1
                        have hRr : yRr r54 := hRr
                        have hE2 : mEr [16] r49 r54 := hE2
                        have hP : va_P D vwCl (xW cy a i54 r54 q (a 20) (a 12) ++ tl) H1 := hP
                        have hD : va_D A (xW cy a i54 r54 q (a 20) (a 12) ++ tl) := hD
                        have hEi : mEi [3, 4, 5, 6, 7] _ i54 := Ei_tr hEi hE1 (by decide)
                        have hEr : mEr [11, 13, 14, 15, 16, 17, 18] _ r54 := Er_tr hEr hE2 (by decide)
                        have h3r_53 : i49 3 = e9 := k3r_48
                        have k3r_53 : i54 3 = e9 := (hE1 3 (by decide)).trans h3r_53
                        have h11r_53 : r49 11 = t9 := k11r_48
                        have k11r_53 : r54 11 = t9 := (hE2 11 (by decide)).trans h11r_53
                        rw [h3r_53, h11r_53] at hr_53
                        rcases hr_53 with ⟨rfl, he1, he2, he3, he4⟩ | ⟨rfl, he1, he2⟩
                        · have he2 : (i54 4).toInt = (i49 4).toInt + 1 := he2
                          have he13 : r54 13 = r49 13 := hE2 13 (by decide)
                          have he14 : r54 14 = r49 14 := hE2 14 (by decide)
                          have he15 : r54 15 = r49 15 := hE2 15 (by decide)
                          have he17 : r54 17 = r49 17 := hE2 17 (by decide)
                          have he18 : r54 18 = r49 18 := hE2 18 (by decide)
                          have hei7 : i54 7 = i49 7 := hE1 7 (by decide)
                          have he4 : (i49 6).toInt < 14 → (i54 6).toInt = (i49 6).toInt + 1 ∧ r54 16 = upd (r49 16) (i49 6).toInt.toNat (i49 7) := he4
                          have hel := qTX_lt (e := e9) (t := t9) (p := (i49 4).toInt.toNat) (by omega)
                          have h5r_53 : i54 5 = 0 := he3.trans h5r_48
                          refine lv_if_eq (tgt := 139) hx hb dX6_read_116 (by decide) (fun c_55 => absurd c_55 (by decide)) (fun c_55 => ?_)
                          refine lv_aload_n hx hb dX6_read_119 rfl (lv_at hl 2 rfl) ?_
                          have hR11 : qRG (qTX e9 t9) 11 0 0 1 (upd i49 4 (i54 4)) r49 := qT_end hR10.1 (by omega) he1 he2 rfl rfl rfl rfl rfl rfl rfl rfl
                          have hae : (i54 4).toInt ≤ e9.toInt := by omega
                          have hae0 : 0 ≤ (i54 4).toInt := by omega
                          have hk39 : (i54 3).toInt = e9.toInt := congrArg Int32.toInt k3r_53
                          refine va_get (D := D) (ci := 6) (v := .int (i54 4)) (C := RX6) (T := TX6) (N := 5) hx hb hT iX6 hown hK hP 10 rfl rfl 3 (by decide) (hT _ t_648) (fun _ h9 => h9) rfl dX6_read_120 ?_
                          refine lv_aload_n hx hb dX6_read_123 rfl (lv_at hl 2 rfl) ?_
                          refine va_get (D := D) (ci := 6) (v := .int (i54 3)) (C := RX6) (T := TX6) (N := 5) hx hb hT iX6 hown hK hP 10 rfl rfl 2 (by decide) (hT _ t_649) (fun _ h9 => h9) rfl dX6_read_124 ?_
                          have hg_56 : 0 ≤ (i54 3).toInt ∧ (i54 3).toInt ≤ 200 := hRi 3
                          refine lv_icmp_eq (tgt := 139) hx hb dX6_read_127 (by decide) (fun c_57 => ?_) (fun c_57 => ?_)
                          · have c_57 : (i54 4).toInt = (i54 3).toInt := b_eq c_57
                            refine lv_aload_n hx hb dX6_read_139 rfl (lv_at hl 2 rfl) ?_
                            refine va_get (D := D) (ci := 6) (v := .int (i54 5)) (C := RX6) (T := TX6) (N := 5) hx hb hT iX6 hown hK hP 10 rfl rfl 4 (by decide) (hT _ t_651) (fun _ h9 => h9) rfl dX6_read_140 ?_
                            subst hQ
                            have hO9 : qRO (qTX e9 t9) i54 r54 := qT_fin hR11 (by show (i54 4).toInt ≤ 200; omega) (qTX_end (show e9.toInt ≤ (((i54 4).toInt.toNat : Nat) : Int) by omega)) hei7 (fun h9 => (he4 h9).1) he13 he14 he15 (fun h9 => (he4 h9).2) he17 he18
                            rw [htx] at hO9
                            have h05 : (i54 5).toInt = 0 := by rw [h5r_53]; rfl
                            have hpo9 : ((i54 5).toInt = 0 → qRO (qTX p0 (r 9)) i54 r54) ∧ ((i54 5).toInt ≠ 0 → qRF (qTX p0 (r 9)) (i54 5).toInt) := ⟨fun _ => hO9, fun h9 => absurd h05 h9⟩
                            exact W.iret (v := i54 5) hx hb hr (fun t ht hW => ⟨⟨_, (i54, r54), rfl, ⟨hRi, hRr, hEi, hEr, hpo9⟩, by rw [ht]; exact hP, va_K.moved hW.alike hK, hD⟩, hS.F ht⟩) hS.2.2 dX6_read_143
                          · have c_57 : (i54 4).toInt ≠ (i54 3).toInt := b_ne c_57
                            have hne : (qTX e9 t9) (i54 4).toInt.toNat ≠ -1 := qTX_in (by omega)
                            refine lv_aload_n hx hb dX6_read_130 rfl (lv_at hl 2 rfl) ?_
                            refine lv_bipush (v := 59) hx hb dX6_read_131 (by decide) ?_
                            have hF_58 := rF hD hS hA
                            refine va_calli (va_runV (As := [.int 59]) (rest := []) ⟨hx, hb, hml, hown, hT⟩ (c_X6_pass9 l D cy a i54 r54 q tl 59 _ hRi hRr (show 0 ≤ (i54 4).toInt ∧ (i54 4).toInt ≤ 200 by omega)) (cwV 1 hT (gV t_678 t_679 t_680 t_681 t_653) rfl rfl rfl (by decide +kernel) ⟨Nat.le_of_ble_eq_true rfl, Nat.le_of_ble_eq_true rfl⟩) (rQ_v hP hK hD (va_recv hK hP (ci := 6) (q0 := 10) rfl rfl)) rfl rfl hl.1 rfl (lv_room (Nat.le_of_ble_eq_true rfl)) dX6_read_133 ⟨Nat.le_of_ble_eq_true rfl, Nat.le_of_ble_eq_true rfl⟩) hS (fun q _ h => hF_58 q h) hF_58 (fun r_59 u_60 t H1 locs ht hvm hr_59 hB hz1 hk1 hS => ?_)
                            obtain ⟨i60, r60⟩ := u_60
                            obtain ⟨hP, hK1, hD1⟩ := hB
                            rw [ht] at hP
                            have hD := hD1.weaken (fun k q _ h => hF_58 q.1 h)
                            obtain ⟨hRi, hRr, hE1, hE2, hr_59⟩ := hr_59
                            have hRi : yRi i60 := hRi
                            have hE1 : mEi [4, 5] i54 i60 := hE1
                            have hRr : yRr r60 := hRr
                            have hE2 : mEr [] r54 r60 := hE2
                            have hP : va_P D vwCl (xW cy a i60 r60 q (a 20) (a 12) ++ tl) H1 := hP
                            have hD : va_D A (xW cy a i60 r60 q (a 20) (a 12) ++ tl) := hD
                            have hEi : mEi [3, 4, 5, 6, 7] _ i60 := Ei_tr hEi hE1 (by decide)
                            have hEr : mEr [11, 13, 14, 15, 16, 17, 18] _ r60 := Er_tr hEr hE2 (by decide)
                            have h3r_59 : i54 3 = e9 := k3r_53
                            have k3r_59 : i60 3 = e9 := (hE1 3 (by decide)).trans h3r_59
                            have h11r_59 : r54 11 = t9 := k11r_53
                            have k11r_59 : r60 11 = t9 := (hE2 11 (by decide)).trans h11r_59
                            rw [h3r_59, h11r_59] at hr_59
                            rcases hr_59 with ⟨rfl, hp1, hp2, hp5⟩ | ⟨rfl, hp1, hp2, hp3⟩
                            · have hp1 : qTX e9 t9 (i54 4).toInt.toNat = 59 := hp1
                              have h5r_59 : i60 5 = (0 : Int32) := hp5.trans h5r_53
                              have hp2 : (i60 4).toInt = (i54 4).toInt + 1 := hp2
                              have hpl := qTX_lt (e := e9) (t := t9) (p := (i54 4).toInt.toNat) (by omega)
                              refine lv_if_ne (tgt := 144) hx hb dX6_read_136 (by decide) (fun c_61 => ?_) (fun c_61 => absurd c_61 (by decide))
                              obtain ⟨x_62, ex_62⟩ : ∃ y : Int32, y = x7_3 + 1 := ⟨_, rfl⟩
                              refine lv_iinc (v := x_62) (lv' := [(3, .int x_62), (4, .int r_9), (0, .ref (a 10)), (1, .ref (a 8)), (2, .int p0)]) hx hb dX6_read_144 hl (k := 1) rfl (by rw [ex_62]; rfl) (by decide) rfl (fun ls hl => ?_)
                              have hx_62 : x_62.toInt = x7_3.toInt + 1 := by rw [ex_62]; have := b_rg x7_3; exact i_add (a := x7_3.toInt) (b := 1) rfl rfl (by omega) (by omega)
                              refine lv_goto (tgt := 58) hx hb dX6_read_147 (by decide) ?_
                              have hz13 : r60 13 = r54 13 := hE2 13 (by decide)
                              have hz14 : r60 14 = r54 14 := hE2 14 (by decide)
                              have hz15 : r60 15 = r54 15 := hE2 15 (by decide)
                              have hz16 : r60 16 = r54 16 := hE2 16 (by decide)
                              have hz17 : r60 17 = r54 17 := hE2 17 (by decide)
                              have hz18 : r60 18 = r54 18 := hE2 18 (by decide)
                              have hzi6 : i60 6 = i54 6 := hE1 6 (by decide)
                              have hzi7 : i60 7 = i54 7 := hE1 7 (by decide)
                              have hD8 : qRD (qTX e9 t9) i60 r60 := qT_nxt hR11 (by show 0 ≤ (i54 4).toInt; omega) (by show (i54 4).toInt ≤ 200; omega) hp1 hp2 (hzi7.trans hei7) (fun h9 => by rw [hzi6]; exact (he4 h9).1) (hz13.trans he13) (hz14.trans he14) (hz15.trans he15) (fun h9 => hz16.trans (he4 h9).2) (hz17.trans he17) (hz18.trans he18)
                              have h6n : (i60 6).toInt = x_62.toInt := by have h9 : (i60 6).toInt = (i54 6).toInt := congrArg Int32.toInt hzi6; have h8 : (i49 6).toInt = (i7 6).toInt := h6c; have h7 := (he4 (by omega)).1; omega
                              exact ih7 x_62 i60 r60 _ _ _ (by first | omega | (simp only [Int.toNat]; omega)) (by first | omega | decide) hRi hEi hRr hEr ⟨hD8, ⟨k3r_59, k11r_59, h5r_59⟩, ⟨by omega, by omega⟩, h6n⟩ hP hD hS (lv_sub hl [0, 2, 3, 4] rfl)
                            · have hp1 : qTX e9 t9 (i54 4).toInt.toNat ≠ 59 := hp1
                              have hp2 : (i60 5).toInt = -1000 - (i54 4).toInt := hp2
                              have hp3 : i60 4 = (i54 4) := hp3
                              refine lv_if_ne (tgt := 144) hx hb dX6_read_136 (by decide) (fun c_63 => absurd (by decide) c_63) (fun c_63 => ?_)
                              refine lv_aload_n hx hb dX6_read_139 rfl (lv_at hl 2 rfl) ?_
                              refine va_get (D := D) (ci := 6) (v := .int (i60 5)) (C := RX6) (T := TX6) (N := 5) hx hb hT iX6 hown hK hP 10 rfl rfl 4 (by decide) (hT _ t_651) (fun _ h9 => h9) rfl dX6_read_140 ?_
                              subst hQ
                              have hF9 : qRF (qTX e9 t9) _ := qT_fail hR11 (p9 := (i54 4).toInt.toNat) (by show (((i54 4).toInt.toNat : Nat) : Int) = (i54 4).toInt; omega) (fun n b rc hf w c _ => qm_nob hne hp1)
                              rw [htx] at hF9
                              have hpo9 : ((i60 5).toInt = 0 → qRO (qTX p0 (r 9)) i60 r60) ∧ ((i60 5).toInt ≠ 0 → qRF (qTX p0 (r 9)) (i60 5).toInt) := (qRd_f hF9 hp2)
                              exact W.iret (v := i60 5) hx hb hr (fun t ht hW => ⟨⟨_, (i60, r60), rfl, ⟨hRi, hRr, hEi, hEr, hpo9⟩, by rw [ht]; exact hP, va_K.moved hW.alike hK, hD⟩, hS.F ht⟩) hS.2.2 dX6_read_143
                        · have he2 : (i54 5).toInt = -1000 - (i49 4).toInt := he2
                          refine lv_if_eq (tgt := 139) hx hb dX6_read_116 (by decide) (fun c_64 => ?_) (fun c_64 => absurd (by decide) c_64)
                          refine lv_aload_n hx hb dX6_read_139 rfl (lv_at hl 2 rfl) ?_
                          refine va_get (D := D) (ci := 6) (v := .int (i54 5)) (C := RX6) (T := TX6) (N := 5) hx hb hT iX6 hown hK hP 10 rfl rfl 4 (by decide) (hT _ t_651) (fun _ h9 => h9) rfl dX6_read_140 ?_
                          subst hQ
                          have hF9 : qRF (qTX e9 t9) _ := qT_fail hR10.1 (p9 := (i49 4).toInt.toNat) (by omega) (fun n b rc hf w c h0 => qm_noa (by rw [show qTop w 1 = cOp (w 0) from qTop_s, h0 (Nat.le_refl 1), cOp13]; omega) hR10.2.2 he1)
                          rw [htx] at hF9
                          have hpo9 : ((i54 5).toInt = 0 → qRO (qTX p0 (r 9)) i54 r54) ∧ ((i54 5).toInt ≠ 0 → qRF (qTX p0 (r 9)) (i54 5).toInt) := (qRd_f hF9 he2)
                          exact W.iret (v := i54 5) hx hb hr (fun t ht hW => ⟨⟨_, (i54, r54), rfl, ⟨hRi, hRr, hEi, hEr, hpo9⟩, by rw [ht]; exact hP, va_K.moved hW.alike hK, hD⟩, hS.F ht⟩) hS.2.2 dX6_read_143
                    · have ht2 : (i45 5).toInt = -1000 - (i40 4).toInt := ht2
                      refine lv_if_eq (tgt := 139) hx hb dX6_read_99 (by decide) (fun c_65 => ?_) (fun c_65 => absurd (by decide) c_65)
                      refine lv_aload_n hx hb dX6_read_139 rfl (lv_at hl 2 rfl) ?_
                      refine va_get (D := D) (ci := 6) (v := .int (i45 5)) (C := RX6) (T := TX6) (N := 5) hx hb hT iX6 hown hK hP 10 rfl rfl 4 (by decide) (hT _ t_651) (fun _ h9 => h9) rfl dX6_read_140 ?_
                      subst hQ
                      have hF9 : qRF (qTX e9 t9) _ := qT_fail hR6 (p9 := (i40 4).toInt.toNat) (by omega) (fun n b rc hf w c _ => qm_no6 ht1)
                      rw [htx] at hF9
                      have hpo9 : ((i45 5).toInt = 0 → qRO (qTX p0 (r 9)) i45 r45) ∧ ((i45 5).toInt ≠ 0 → qRF (qTX p0 (r 9)) (i45 5).toInt) := (qRd_f hF9 ht2)
                      exact W.iret (v := i45 5) hx hb hr (fun t ht hW => ⟨⟨_, (i45, r45), rfl, ⟨hRi, hRr, hEi, hEr, hpo9⟩, by rw [ht]; exact hP, va_K.moved hW.alike hK, hD⟩, hS.F ht⟩) hS.2.2 dX6_read_143
              · skip
                refine lv_if_eq (tgt := 139) hx hb dX6_read_76 (by decide) (fun c_66 => ?_) (fun c_66 => absurd (by decide) c_66)
                refine lv_aload_n hx hb dX6_read_139 rfl (lv_at hl 2 rfl) ?_
                refine va_get (D := D) (ci := 6) (v := .int (i12 5)) (C := RX6) (T := TX6) (N := 5) hx hb hT iX6 hown hK hP 10 rfl rfl 4 (by decide) (hT _ t_651) (fun _ h9 => h9) rfl dX6_read_140 ?_
                subst hQ
                have hF9 : qRF (qTX e9 t9) (i12 5).toInt := by
                  rcases hg1 with ⟨a1, a2⟩ | ⟨a1, a2, a3⟩
                  · rw [a2]; exact qT_nol hD9 h4a (by rw [← hqr_9]; exact a1)
                  · rw [a3]; exact qT_ful hD9 h4a (by rw [← hqr_9]; exact a1) (by omega)
                rw [htx] at hF9
                have hpo9 : ((i12 5).toInt = 0 → qRO (qTX p0 (r 9)) i12 r12) ∧ ((i12 5).toInt ≠ 0 → qRF (qTX p0 (r 9)) (i12 5).toInt) := (qRd_f hF9 rfl)
                exact W.iret (v := i12 5) hx hb hr (fun t ht hW => ⟨⟨_, (i12, r12), rfl, ⟨hRi, hRr, hEi, hEr, hpo9⟩, by rw [ht]; exact hP, va_K.moved hW.alike hK, hD⟩, hS.F ht⟩) hS.2.2 dX6_read_143
        have h60 : (upd (upd (upd i3 3 v_4) 4 0) 5 0) 6 = 0 := hcl9.1
        have h70 : (upd (upd (upd i3 3 v_4) 4 0) 5 0) 7 = 0 := hcl9.2
        exact loop_7 _ 0 (upd (upd (upd i3 3 v_4) 4 0) 5 0) r5 _ _ _ (Nat.lt_succ_self _) (by first | omega | decide) hRi hEi hRr hEr ⟨qRD_0 rfl (by rw [h70]; rfl) (by rw [h60]; rfl), ⟨he9.symm, ht9.symm, rfl⟩, ⟨Int.le_refl 0, show (0 : Int) ≤ e9.toInt by omega⟩, by rw [h60] <;> rfl⟩ hP hD hS hl
      · have c_6 : x5_3.toInt < v_4.toInt := b_nle c_6
        refine lv_aload_n hx hb dX6_read_28 rfl (lv_at hl 1 rfl) ?_
        refine va_get (D := D) (ci := 6) (v := .ref (a 11)) (C := RX6) (T := TX6) (N := 5) hx hb hT iX6 hown hK hP 10 rfl rfl 1 (by decide) (hT _ t_650) (fun _ h9 => h9) rfl dX6_read_29 ?_
        refine lv_iload_n hx hb dX6_read_32 rfl (lv_at hl 0 rfl) ?_
        refine lv_aload_n hx hb dX6_read_33 rfl (lv_at hl 2 rfl) ?_
        refine va_get (D := D) (ci := 9) (v := .ref (a 9)) (C := RX9) (T := TX9) (N := 2) hx hb hT iX9 hown hK hP 8 rfl rfl 0 (by decide) (hT _ t_728) (fun _ h9 => h9) rfl dX6_read_34 ?_
        refine lv_iload_n hx hb dX6_read_37 rfl (lv_at hl 0 rfl) ?_
        refine va_bald hx hb hK hP 9 1 rfl rfl (vp_inI (by omega) (by omega)) dX6_read_38 ?_
        refine lv_topi (fun v_67 ev_67 => ?_)
        refine va_bast hx hb hK hP hD hS 11 1 rfl rfl (vp_inI (by omega) (by omega)) dX6_read_39 (fun H locs hP hD hS => ?_)
        rw [zS11] at hP hD
        have hRr : yRr (va_up r5 11 (upd (r5 11) x5_3.toNatClampNeg (vp_nar .byte v_67))) := Yr_upd hRr 11 (x5_3.toNatClampNeg) (vp_nar .byte v_67) (b_rg _)
        have hEr : mEr [11, 13, 14, 15, 16, 17, 18] _ (va_up r5 11 (upd (r5 11) x5_3.toNatClampNeg (vp_nar .byte v_67))) := Er_up hEr 11 _ (by decide)
        obtain ⟨x_68, ex_68⟩ : ∃ y : Int32, y = x5_3 + 1 := ⟨_, rfl⟩
        refine lv_iinc (v := x_68) (lv' := [(3, .int x_68), (0, .ref (a 10)), (1, .ref (a 8)), (2, .int p0)]) hx hb dX6_read_40 hl (k := 0) rfl (by rw [ex_68]; rfl) (by decide) rfl (fun ls hl => ?_)
        have hx_68 : x_68.toInt = x5_3.toInt + 1 := by rw [ex_68]; have := b_rg x5_3; exact i_add (a := x5_3.toInt) (b := 1) rfl rfl (by omega) (by omega)
        refine lv_goto (tgt := 20) hx hb dX6_read_43 (by decide) ?_
        have hk : x_68.toNatClampNeg = x5_3.toNatClampNeg + 1 := by show x_68.toInt.toNat = x5_3.toInt.toNat + 1; omega
        have hb9 : v_67 = r 9 (x5_3.toNatClampNeg) := by rw [ev_67, h95]
        have hc9 : ∀ k, k < x_68.toNatClampNeg → upd (r5 11) (x5_3.toNatClampNeg) (vp_nar .byte v_67) k &&& 255 = r 9 k &&& 255 := fun k hk2 => by unfold upd; by_cases e9 : k = x5_3.toNatClampNeg; (· rw [if_pos e9, nar255, hb9, e9]); (· rw [if_neg e9]; exact hx5 k (by omega))
        exact ih5 x_68 (va_up r5 11 (upd (r5 11) x5_3.toNatClampNeg (vp_nar .byte v_67))) _ _ _ (by first | omega | (simp only [Int.toNat]; omega)) (by first | omega | decide) hRr hEr hc9 hP hD hS (lv_sub hl [0, 1, 2, 3] rfl)
  exact loop_5 _ 0 r3 _ _ _ (Nat.lt_succ_self _) (by first | omega | decide) hRr hEr (fun k hk => absurd (show k < 0 from hk) (Nat.not_lt_zero k)) hP hD hS hl
def cLn (i : Nat → Int32) (r : Nat → Nat → Int32) (I : Nat → Int32) (R : Nat → Nat → Int32) : Prop := I 8 = i 8 ∧ R 21 = r 21 ∧ R 22 = r 22 ∧ R 23 = r 23 ∧ R 24 = r 24 ∧ R 25 = r 25 ∧ R 26 = r 26
def cLd (T : qC) (I : Nat → Int32) (R : Nat → Nat → Int32) (z : Int32) : Prop := I 8 = z ∧ T.2.2.2.2.1 ≤ 200 ∧ qRel (R 25) (R 26) T.2.2.2.2.2.2.2.2.2 T.2.2.2.2.1 ∧ ∀ q, q < T.2.2.2.2.2.2.2.1.2.1 → R 21 q = T.2.2.2.2.2.2.2.1.2.2 0 q ∧ R 22 q = T.2.2.2.2.2.2.2.1.2.2 1 q ∧ R 23 q = T.2.2.2.2.2.2.2.1.2.2 2 q ∧ R 24 q = T.2.2.2.2.2.2.2.1.2.2 3 q
def cLw (tx : Nat → Int) (i : Nat → Int32) (r : Nat → Nat → Int32) (I : Nat → Int32) (R : Nat → Nat → Int32) (z : Int32) : Prop := ∀ S0 : qC, qI0 S0 → ∃ T : qC, qR tx S0 T ∧ ((T.1 = 13 ∧ z.toInt = (T.2.2.2.2.2.2.2.1.2.1 : Int) ∧ cLd T I R z) ∨ (T.1 = 20 ∧ z.toInt = -1000 * T.2.2.1.toInt - (T.2.1 : Int) ∧ cLn i r I R))
section CLW
variable {tx : Nat → Int} {S0 : qC} {x y z : Int32} {i I J im IM : Nat → Int32} {r R S rm RM : Nat → Nat → Int32}
theorem cLw_f (h : qRF tx z.toInt) (hn : cLn i r I R) : cLw tx i r I R z := by
  intro S0 hS
  obtain ⟨T, a, ⟨b, _⟩, c⟩ := h S0 hS
  exact ⟨T, a, Or.inr ⟨b, c, hn⟩⟩
theorem cLw_o (h : qRO tx J S) (e : z.toInt = (J 6).toInt) (h7 : (J 7).toInt ≤ 200) (e8 : I 8 = z) (e21 : R 21 = S 13) (e22 : R 22 = S 14) (e23 : R 23 = S 15) (e24 : R 24 = S 16) (e25 : R 25 = S 17) (e26 : R 26 = S 18) : cLw tx i r I R z := by
  intro S0 hS
  obtain ⟨p, o, m, n, b, rc, hf, w, c, a1, a2, a3, a4, a5⟩ := h S0 hS
  refine ⟨_, a1, Or.inl ⟨rfl, e.trans a4, e8, show n ≤ 200 by omega, ?_, fun q hq => ?_⟩⟩
  · rw [e25, e26]; exact a3
  · rw [e21, e22, e23, e24]; exact a5 q hq
theorem law_co (h1 : cLw tx i r I R x) (hS : qI0 S0) (h2 : qLe tx S0 im rm IM RM y) : x = y ∧ ((∃ T : qC, qR tx S0 T ∧ x.toInt = (T.2.2.2.2.2.2.2.1.2.1 : Int) ∧ cLd T I R x ∧ qLd T IM RM y) ∨ (cLn i r I R ∧ qLn im rm IM RM)) := by
  obtain ⟨T, a1, a2⟩ := h1 S0 hS
  have hT : qStep tx T = T := qS_end (by rcases a2 with ⟨h, _⟩ | ⟨h, _⟩; (· exact Or.inl h); (· exact Or.inr h))
  rcases h2 with ⟨U, b1, b2, b3, b4⟩ | ⟨⟨U, b1, b2, b3⟩, b4⟩
  · have e : T = U := qR_un a1 b1 hT (qS_end (Or.inl b2))
    subst e
    rcases a2 with ⟨_, h, h9⟩ | ⟨h, _⟩
    · exact ⟨Int32.toInt_inj.mp (h.trans b3.symm), Or.inl ⟨T, a1, h, h9, b4⟩⟩
    · omega
  · have e : T = U := qR_un a1 b1 hT (qS_end (Or.inr b2))
    subst e
    rcases a2 with ⟨h, _⟩ | ⟨_, h, h9⟩
    · omega
    · exact ⟨Int32.toInt_inj.mp (h.trans b3.symm), Or.inr ⟨h9, b4⟩⟩
theorem law_eq (h1 : cLw tx i r I R x) (hS : qI0 S0) (h2 : qLe tx S0 im rm IM RM y) : x = y ∧ (im 31 = i 8 → IM 31 = I 8) := by
  obtain ⟨e, h9⟩ := law_co h1 hS h2
  refine ⟨e, fun e9 => ?_⟩
  rcases h9 with ⟨T, _, _, c1, d1⟩ | ⟨c1, d1⟩
  · exact d1.1.trans (e.symm.trans c1.1.symm)
  · exact d1.1.trans (e9.trans c1.1.symm)
end CLW
set_option maxHeartbeats 4000000 in
set_option maxRecDepth 100000 in
theorem c_X11_law9 (l : Launch) (D : va_G) (cy : Nat → ClassId) (a : Nat → Nat) (i : Nat → Int32) (r : Nat → Nat → Int32) (q : Nat → Option Nat) (tl : va_W) (kq vq : Nat) (p0 : Int32) (sz : Nat) (hRi : yRi i) (hRr : yRr r) : Met l yX11_law (Cond.code yX11_law cX11_law 4 (some .int) :: gT) { frames := 27, cells := 0, slots := 0, locals := 664 } (va_Pc [.ref (a 0), .int p0] (rS D cy (xW cy a i r q (a 20) (a 12) ++ tl) sz kq vq)) (va_Qi (fun (z : Int32) (u : (Nat → Nat) × (Nat → Int32) × (Nat → Nat → Int32)) => yRi u.2.1 ∧ yRr u.2.2 ∧ mEi [2, 3, 4, 5, 6, 7, 8, 9] i u.2.1 ∧ mEr [11, 12, 13, 14, 15, 16, 17, 18, 19, 20, 21, 22, 23, 24, 25, 26, 27] r u.2.2 ∧ (∀ k, k < 12 ∨ 28 ≤ k → u.1 k = a k) ∧ (((1 ≤ p0.toInt ∧ p0.toInt ≤ 200) ∧ p0.toInt ≤ (i 2).toInt) → u.2.1 2 = 0) ∧ (¬ ((1 ≤ p0.toInt ∧ p0.toInt ≤ 200) ∧ p0.toInt ≤ (i 2).toInt) → u.2.1 2 = i 2) ∧ (((1 ≤ p0.toInt ∧ p0.toInt ≤ 200) ∧ p0.toInt ≤ (i 2).toInt) → cLw (qTX p0 (r 9)) i r u.2.1 u.2.2 z) ∧ (¬ ((1 ≤ p0.toInt ∧ p0.toInt ≤ 200) ∧ p0.toInt ≤ (i 2).toInt) → z = -1 ∧ cLn i r u.2.1 u.2.2)) (fun (u : (Nat → Nat) × (Nat → Int32) × (Nat → Nat → Int32)) t => va_P D vwCl (xW cy u.1 u.2.1 u.2.2 q (u.1 20) (u.1 12) ++ tl) t.heap ∧ va_K D vwCl (vT cy) t ∧ va_D (va_A (xW cy a i r q (a 20) (a 12) ++ tl) sz) (xW cy u.1 u.2.1 u.2.2 q (u.1 20) (u.1 12) ++ tl)) (va_A (xW cy a i r q (a 20) (a 12) ++ tl) sz)) 0 0 (va_A (xW cy a i r q (a 20) (a 12) ++ tl) sz) := by
  refine Met.ofQ (cc := cX11_law) (maxL := 4) (ret := (some .int)) (by decide) rfl ?_
  intro p e s m args below meth c s₁ B hml hv Q hQ
  obtain ⟨rfl, hsk, hsz, hP, hK, hD0⟩ := hv
  have hx := B.exec
  have hb := B.bytes
  have hr := B.returns
  have hlocks := B.notSynchronized
  have hT : ∀ w ∈ gT, w.before _ s = true := fun w h => atoms_spec (ws := (Cond.code yX11_law cX11_law 4 (some .int) :: gT)) B.pre w (List.mem_cons_of_mem _ h)
  have hown : s.vm.findClass RX11 = some m.cls := findClass_of_methodNamed B.named
  subst hsz
  have hD := hD0.self (sz := s.heap.size)
  generalize hAe : va_A (xW cy a i r q (a 20) (a 12) ++ tl) s.heap.size = A at hD hQ hsk
  have hA : ∀ q : Nat, s.heap.size ≤ q → A q := fun q h => by rw [← hAe]; exact Or.inr h
  have hS : va_S A s.heap s.heap [] := va_S.rf
  have hl := lv_entry ([.ref (a 0), .int p0]) (n := 4) (Nat.le_of_ble_eq_true rfl)
  rw [lg_entry_eq]
  generalize (lg_sl ([.ref (a 0), .int p0]) ++ List.replicate (4 - (lg_sl ([.ref (a 0), .int p0])).length) Slot.unset).toArray = ls at hl ⊢
  have hl : lv_has ls 4 [(0, .ref (a 0)), (1, .int p0)] := hl
  have hEi : mEi [2, 3, 4, 5, 6, 7, 8, 9] i i := Ei_rf
  have hEr : mEr [11, 12, 13, 14, 15, 16, 17, 18, 19, 20, 21, 22, 23, 24, 25, 26, 27] r r := Er_rf
  refine lv_iload_n hx hb dX11_law_0 rfl (lv_at hl 1 rfl) ?_
  refine lv_iconst (v := 1) hx hb dX11_law_1 (by decide) ?_
  refine lv_sipush (v := 200) hx hb dX11_law_2 (by decide) ?_
  refine vp_callSi (W.runS (As := [.int p0, .int 1, .int 200]) (rest := []) ⟨hx, hb, hml, hown, hT⟩ (c_X11_within l p0 1 200) (va_cwS 3 hT (gS t_1 t_3 t_4 t_2) rfl rfl rfl (by decide +kernel) ⟨Nat.le_of_ble_eq_true rfl, Nat.le_of_ble_eq_true rfl⟩) preT rfl rfl hl.1 rfl (lv_room (Nat.le_of_ble_eq_true rfl)) dX11_law_5 ⟨Nat.le_of_ble_eq_true rfl, Nat.le_of_ble_eq_true rfl⟩) (fun r_1 hr_1 => ?_)
  have hr_1 : BR r_1 (1 ≤ p0.toInt ∧ p0.toInt ≤ 200) 1 0 := hr_1
  rcases hr_1 with ⟨rfl, h_2⟩ | ⟨rfl, h_2⟩
  · skip
    refine lv_if_eq (tgt := 22) hx hb dX11_law_8 (by decide) (fun c_3 => absurd c_3 (by decide)) (fun c_3 => ?_)
    refine lv_iload_n hx hb dX11_law_11 rfl (lv_at hl 1 rfl) ?_
    refine lv_aload_n hx hb dX11_law_12 rfl (lv_at hl 0 rfl) ?_
    refine va_get (D := D) (ci := 11) (v := .ref (a 8)) (C := RX11) (T := TX11) (N := 14) hx hb hT iX11 hown hK hP 0 rfl rfl 4 (by decide) (hT _ t_335) (fun _ h9 => h9) rfl dX11_law_13 ?_
    refine va_get (D := D) (ci := 9) (v := .int (i 2)) (C := RX9) (T := TX9) (N := 2) hx hb hT iX9 hown hK hP 8 rfl rfl 1 (by decide) (hT _ t_336) (fun _ h9 => h9) rfl dX11_law_16 ?_
    have hg_4 : 0 ≤ (i 2).toInt ∧ (i 2).toInt ≤ 220 := hRi 2
    refine lv_icmp_le (tgt := 24) hx hb dX11_law_19 (by decide) (fun c_5 => ?_) (fun c_5 => ?_)
    · have c_5 : p0.toInt ≤ (i 2).toInt := b_le c_5
      refine lv_aload_n hx hb dX11_law_24 rfl (lv_at hl 0 rfl) ?_
      refine va_get (D := D) (ci := 11) (v := .ref (a 10)) (C := RX11) (T := TX11) (N := 14) hx hb hT iX11 hown hK hP 0 rfl rfl 5 (by decide) (hT _ t_767) (fun _ h9 => h9) rfl dX11_law_25 ?_
      refine lv_aload_n hx hb dX11_law_28 rfl (lv_at hl 0 rfl) ?_
      refine va_get (D := D) (ci := 11) (v := .ref (a 8)) (C := RX11) (T := TX11) (N := 14) hx hb hT iX11 hown hK hP 0 rfl rfl 4 (by decide) (hT _ t_335) (fun _ h9 => h9) rfl dX11_law_29 ?_
      refine lv_iload_n hx hb dX11_law_32 rfl (lv_at hl 1 rfl) ?_
      have hF_6 := rF hD hS hA
      refine va_calli (va_runV (As := [.ref (a 8), .int p0]) (rest := []) ⟨hx, hb, hml, hown, hT⟩ (c_X6_read9 l D cy a i r q tl kq vq p0 _ hRi hRr (by first | omega | decide)) (cwV 2 hT (gV t_812 t_813 t_814 t_815 t_653) rfl rfl rfl (by decide +kernel) ⟨Nat.le_of_ble_eq_true rfl, Nat.le_of_ble_eq_true rfl⟩) (rS_v hsk hS hF_6 hP hK hD (va_recv hK hP (ci := 6) (q0 := 10) rfl rfl)) rfl rfl hl.1 rfl (lv_room (Nat.le_of_ble_eq_true rfl)) dX11_law_33 ⟨Nat.le_of_ble_eq_true rfl, Nat.le_of_ble_eq_true rfl⟩) hS (fun q _ h => hF_6 q h) hF_6 (fun r_7 u_8 t H1 locs ht hvm hr_7 hB hz1 hk1 hS => ?_)
      obtain ⟨i8, r8⟩ := u_8
      obtain ⟨hP, hK1, hD1⟩ := hB
      rw [ht] at hP
      have hD := hD1.weaken (fun k q _ h => hF_6 q.1 h)
      obtain ⟨hRi, hRr, hE1, hE2, hr_7⟩ := hr_7
      have hRi : yRi i8 := hRi
      have hE1 : mEi [3, 4, 5, 6, 7] i i8 := hE1
      have hRr : yRr r8 := hRr
      have hE2 : mEr [11, 13, 14, 15, 16, 17, 18] r r8 := hE2
      have hP : va_P D vwCl (xW cy a i8 r8 q (a 20) (a 12) ++ tl) H1 := hP
      have hD : va_D A (xW cy a i8 r8 q (a 20) (a 12) ++ tl) := hD
      have hEi : mEi [2, 3, 4, 5, 6, 7, 8, 9] _ i8 := Ei_tr hEi hE1 (by decide)
      have hEr : mEr [11, 12, 13, 14, 15, 16, 17, 18, 19, 20, 21, 22, 23, 24, 25, 26, 27] _ r8 := Er_tr hEr hE2 (by decide)
      have hrd9 : (r_7.toInt = 0 → qRO (qTX p0 (r 9)) i8 r8) ∧ (r_7.toInt ≠ 0 → qRF (qTX p0 (r 9)) r_7.toInt) := hr_7
      have hr8 : i8 8 = i 8 := hE1 8 (by decide)
      have hr21 : r8 21 = r 21 := hE2 21 (by decide)
      have hr22 : r8 22 = r 22 := hE2 22 (by decide)
      have hr23 : r8 23 = r 23 := hE2 23 (by decide)
      have hr24 : r8 24 = r 24 := hE2 24 (by decide)
      have hr25 : r8 25 = r 25 := hE2 25 (by decide)
      have hr26 : r8 26 = r 26 := hE2 26 (by decide)
      refine lv_istore_n (lv' := [(2, .int r_7), (0, .ref (a 0)), (1, .int p0)]) hx hb dX11_law_36 rfl hl (by decide) rfl (fun ls hl => ?_)
      refine lv_aload_n hx hb dX11_law_37 rfl (lv_at hl 1 rfl) ?_
      refine va_get (D := D) (ci := 11) (v := .ref (a 8)) (C := RX11) (T := TX11) (N := 14) hx hb hT iX11 hown hK hP 0 rfl rfl 4 (by decide) (hT _ t_335) (fun _ h9 => h9) rfl dX11_law_38 ?_
      refine lv_iconst (v := 0) hx hb dX11_law_41 (by decide) ?_
      refine va_put (D := D) (ci := 9) (v := .int 0) (ty := .int) (C := RX9) (T := TX9) (N := 2) hx hb hT iX9 tyX9 tyX9_ok nmX9 hown hK hP hD hS 8 rfl rfl 1 (by decide) (hT _ t_336) (fun _ h9 => h9) rfl (by decide +kernel) rfl rfl (Nat.le_of_ble_eq_true rfl) dX11_law_42 (fun H locs hP hD hS => ?_)
      rw [zP2] at hP hD
      have hRi := Yi_upd hRi 2 0 ⟨by decide, by decide⟩
      have hEi := Ei_upd hEi 2 0 (by decide)
      refine lv_iload_n hx hb dX11_law_45 rfl (lv_at hl 0 rfl) ?_
      refine lv_if_eq (tgt := 51) hx hb dX11_law_46 (by decide) (fun c_9 => ?_) (fun c_9 => ?_)
      · have c_9 : r_7.toInt = 0 := b_eq c_9
        refine lv_aload_n hx hb dX11_law_51 rfl (lv_at hl 1 rfl) ?_
        refine va_get (D := D) (ci := 11) (v := .ref (a 20)) (C := RX11) (T := TX11) (N := 14) hx hb hT iX11 hown hK hP 0 rfl rfl 6 (by decide) (hT _ t_516) (fun _ h9 => h9) rfl dX11_law_52 ?_
        refine lv_astore_n (lv' := [(3, .ref (a 20)), (2, .int r_7), (0, .ref (a 0)), (1, .int p0)]) hx hb dX11_law_55 rfl hl (by decide) rfl (fun ls hl => ?_)
        refine lv_aload_n hx hb dX11_law_56 rfl (lv_at hl 2 rfl) ?_
        refine lv_aload_n hx hb dX11_law_57 rfl (lv_at hl 2 rfl) ?_
        refine va_get (D := D) (ci := 11) (v := .ref (a 10)) (C := RX11) (T := TX11) (N := 14) hx hb hT iX11 hown hK hP 0 rfl rfl 5 (by decide) (hT _ t_767) (fun _ h9 => h9) rfl dX11_law_58 ?_
        refine va_get (D := D) (ci := 6) (v := .ref (a 12)) (C := RX6) (T := TX6) (N := 5) hx hb hT iX6 hown hK hP 10 rfl rfl 0 (by decide) (hT _ t_816) (fun _ h9 => h9) rfl dX11_law_61 ?_
        refine va_put (D := D) (ci := 11) (v := .ref (a 12)) (ty := .object "DepositJudge$Law") (C := RX11) (T := TX11) (N := 14) hx hb hT iX11 tyX11 tyX11_ok nmX11 hown hK hP hD hS 0 rfl rfl 6 (by decide) (hT _ t_516) (fun _ h9 => h9) rfl (by decide +kernel) rfl rfl (Nat.le_of_ble_eq_true rfl) dX11_law_64 (fun H locs hP hD hS => ?_)
        rw [zLF] at hP hD
        refine lv_aload_n hx hb dX11_law_67 rfl (lv_at hl 2 rfl) ?_
        refine va_get (D := D) (ci := 11) (v := .ref (a 10)) (C := RX11) (T := TX11) (N := 14) hx hb hT iX11 hown hK hP 0 rfl rfl 5 (by decide) (hT _ t_767) (fun _ h9 => h9) rfl dX11_law_68 ?_
        refine lv_aload_n hx hb dX11_law_71 rfl (lv_at hl 0 rfl) ?_
        refine va_put (D := D) (ci := 6) (v := .ref (a 20)) (ty := .object "DepositJudge$Law") (C := RX6) (T := TX6) (N := 5) hx hb hT iX6 tyX6 tyX6_ok nmX6 hown hK hP hD hS 10 rfl rfl 0 (by decide) (hT _ t_816) (fun _ h9 => h9) rfl (by decide +kernel) rfl rfl (Nat.le_of_ble_eq_true rfl) dX11_law_72 (fun H locs hP hD hS => ?_)
        rw [zLD] at hP hD
        refine lv_aload_n hx hb dX11_law_75 rfl (lv_at hl 2 rfl) ?_
        refine va_get (D := D) (ci := 11) (v := .ref (a 12)) (C := RX11) (T := TX11) (N := 14) hx hb hT iX11 hown hK hP 0 rfl rfl 6 (by decide) (hT _ t_516) (fun _ h9 => h9) rfl dX11_law_76 ?_
        refine va_get (D := D) (ci := 5) (v := .int (i8 6)) (C := RX5) (T := TX5) (N := 9) hx hb hT iX5 hown hK hP 12 rfl rfl 0 (by decide) (hT _ t_609) (fun _ h9 => h9) rfl dX11_law_79 ?_
        have hg_10 : 0 ≤ (i8 6).toInt ∧ (i8 6).toInt ≤ 14 := hRi 6
        subst hQ
        have hcl : cLw (qTX p0 (r 9)) i r (fun k => (upd i8 2 0) (swi k)) (fun p => (r8) (swp p)) (i8 6) := cLw_o (hrd9.1 (by omega)) rfl (show (i8 7).toInt ≤ 200 from (hRi 7).2) rfl rfl rfl rfl rfl rfl rfl
        have hP9 := vaP_perm swap_perm hP
        have hD9 := vaD_perm swap_perm hD
        exact W.iret (v := i8 6) hx hb hr (fun t ht hW => ⟨⟨_, ((fun p => a (swp p)), (fun k => (upd i8 2 0) (swi k)), (fun p => (r8) (swp p))), rfl, ⟨swap_Ri hRi, swap_Rr hRr, sw_Ei hEi, sw_Er hEr, sw_a, fun _ => rfl, fun h9 => absurd (by omega) h9, fun _ => hcl, fun h9 => absurd (by omega) h9⟩, by rw [ht]; exact hP9, va_K.moved hW.alike hK, hD9⟩, hS.F ht⟩) hS.2.2 dX11_law_82
      · have c_9 : r_7.toInt ≠ 0 := b_ne c_9
        refine lv_iload_n hx hb dX11_law_49 rfl (lv_at hl 0 rfl) ?_
        subst hQ
        have hcl : cLw (qTX p0 (r 9)) i r (upd i8 2 0) r8 r_7 := cLw_f (hrd9.2 (by omega)) ⟨hr8, hr21, hr22, hr23, hr24, hr25, hr26⟩
        exact W.iret (v := r_7) hx hb hr (fun t ht hW => ⟨⟨_, (a, upd i8 2 0, r8), rfl, ⟨hRi, hRr, hEi, hEr, fun _ _ => rfl, fun _ => rfl, fun h9 => absurd (by omega) h9, fun _ => hcl, fun h9 => absurd (by omega) h9⟩, by rw [ht]; exact hP, va_K.moved hW.alike hK, hD⟩, hS.F ht⟩) hS.2.2 dX11_law_50
    · have c_5 : (i 2).toInt < p0.toInt := b_nle c_5
      refine lv_iconst (v := (-1)) hx hb dX11_law_22 (by decide) ?_
      subst hQ
      exact W.iret (v := (-1)) hx hb hr (fun t ht hW => ⟨⟨_, (a, i, r), rfl, ⟨hRi, hRr, hEi, hEr, fun _ _ => rfl, fun h9 => absurd h9 (by omega), fun _ => rfl, fun h9 => absurd h9 (by omega), fun _ => ⟨rfl, rfl, rfl, rfl, rfl, rfl, rfl, rfl⟩⟩, by rw [ht]; exact hP, va_K.moved hW.alike hK, hD⟩, hS.F ht⟩) hS.2.2 dX11_law_23
  · skip
    refine lv_if_eq (tgt := 22) hx hb dX11_law_8 (by decide) (fun c_11 => ?_) (fun c_11 => absurd (by decide) c_11)
    refine lv_iconst (v := (-1)) hx hb dX11_law_22 (by decide) ?_
    subst hQ
    exact W.iret (v := (-1)) hx hb hr (fun t ht hW => ⟨⟨_, (a, i, r), rfl, ⟨hRi, hRr, hEi, hEr, fun _ _ => rfl, fun h9 => absurd h9 (by omega), fun _ => rfl, fun h9 => absurd h9 (by omega), fun _ => ⟨rfl, rfl, rfl, rfl, rfl, rfl, rfl, rfl⟩⟩, by rw [ht]; exact hP, va_K.moved hW.alike hK, hD⟩, hS.F ht⟩) hS.2.2 dX11_law_23
