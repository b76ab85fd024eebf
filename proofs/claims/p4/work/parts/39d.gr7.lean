/-- the numbers of the draw, one after the other -/
def itN : Nat → Nat → Nat
  | 0, x => x
  | n + 1, x => lcg (itN n x)
theorem itN_in : ∀ n x, itN n (lcg x) = itN (n + 1) x := by
  intro n
  induction n with
  | zero => intro x; rfl
  | succ n ih => intro x; show lcg (itN n (lcg x)) = lcg (itN (n + 1) x); rw [ih]
theorem hits_it {j : Nat} : ∀ n x, hits j n x = true → ∃ m, m < n ∧ itN m x % 6 = j := by
  intro n
  induction n with
  | zero => intro x h; exact absurd (show false = true from h) (by decide)
  | succ n ih =>
    intro x h
    have h0 : (Nat.beq (x % 6) j || hits j n (lcg x)) = true := h
    rcases Bool.or_eq_true_iff.mp h0 with h1 | h1
    · exact ⟨0, by omega, Nat.eq_of_beq_eq_true h1⟩
    · obtain ⟨m, hm, e⟩ := ih _ h1
      exact ⟨m + 1, by omega, by rw [← itN_in]; exact e⟩
def DPR (kin : Nat → Prop) (x y : Nat) : Prop := ∃ n, y = itN (n + 1) x ∧ ∀ m, m < n → kin (itN (m + 1) x % 6)
def DRW (kin : Nat → Prop) (x y : Nat) : Prop := DPR kin x y ∧ ¬ kin (y % 6)
theorem DPR_0 {kin : Nat → Prop} {x y : Nat} (h : y = lcg x) : DPR kin x y := ⟨0, h, fun m hm => absurd hm (Nat.not_lt_zero m)⟩
theorem DPR_s {kin : Nat → Prop} {x y z : Nat} (h : DPR kin x y) (hk : kin (y % 6)) (e : z = lcg y) : DPR kin x z := by
  obtain ⟨n, e1, h1⟩ := h
  refine ⟨n + 1, by rw [e, e1]; rfl, fun m hm => ?_⟩
  by_cases em : m = n
  · rw [em, ← e1]; exact hk
  · exact h1 m (by omega)
theorem DRW_un {kin : Nat → Prop} {x y z : Nat} (h : DRW kin x y) (h2 : DRW kin x z) : y = z := by
  obtain ⟨⟨n, e1, k1⟩, n1⟩ := h
  obtain ⟨⟨m, e2, k2⟩, n2⟩ := h2
  rcases Nat.lt_trichotomy n m with hl | hl | hl
  · exact absurd (k2 n hl) (by rw [← e1]; exact n1)
  · rw [e1, e2, hl]
  · exact absurd (k1 m hl) (by rw [← e2]; exact n2)
theorem DRW_co {kin kin2 : Nat → Prop} {x y : Nat} (h : DRW kin x y) (hk : ∀ j, j < 6 → (kin j ↔ kin2 j)) : DRW kin2 x y := by
  refine ⟨?_, fun h9 => h.2 ((hk _ (Nat.mod_lt _ (by decide))).mpr h9)⟩
  obtain ⟨n, e, k⟩ := h.1
  exact ⟨n, e, fun m hm => (hk _ (Nat.mod_lt _ (by decide))).mp (k m hm)⟩
def CPR (kin : Nat → Prop) (x : Nat) (y n : Int32) : Prop := ∃ k : Nat, n.toInt = (k : Int) ∧ y.toInt.toNat = itN k x ∧ ∀ m, m < k → kin (itN (m + 1) x % 6)
theorem CPR_0 {kin : Nat → Prop} {x : Int32} : CPR kin x.toInt.toNat x 0 := ⟨0, rfl, rfl, fun m hm => absurd hm (Nat.not_lt_zero m)⟩
theorem CPR_s {kin : Nat → Prop} {x : Nat} {y z n n2 : Int32} (h : CPR kin x y n) (e : z.toInt.toNat = lcg y.toInt.toNat) (hk : kin (z.toInt.toNat % 6)) (en : n2.toInt = n.toInt + 1) : CPR kin x z n2 := by
  obtain ⟨k, e1, e2, h1⟩ := h
  have e3 : z.toInt.toNat = itN (k + 1) x := by rw [e, e2]; rfl
  refine ⟨k + 1, by omega, e3, fun m hm => ?_⟩
  by_cases em : m = k
  · rw [em, ← e3]; exact hk
  · exact h1 m (by omega)
theorem CPR_d {kin : Nat → Prop} {x : Nat} {y z n : Int32} (h : CPR kin x y n) (e : z.toInt.toNat = lcg y.toInt.toNat) (hk : ¬ kin (z.toInt.toNat % 6)) : DRW kin x z.toInt.toNat := by
  obtain ⟨k, e1, e2, h1⟩ := h
  exact ⟨⟨k, by rw [e, e2]; rfl, h1⟩, hk⟩
theorem CPR_no {kin : Nat → Prop} {x j : Nat} {y n : Int32} (h : CPR kin x y n) (hn : 400 ≤ n.toInt) (hj : j < 6) (hk : ¬ kin j) : False := by
  obtain ⟨k, e1, e2, h1⟩ := h
  obtain ⟨m, hm, e⟩ := hits_it 400 (lcg x) (hits4 hj (Nat.mod_lt _ (by decide)))
  rw [itN_in] at e
  exact hk (e ▸ h1 m (by omega))
def KX (r : Nat → Nat → Int32) : Nat → Prop := fun j => (r 64 j).toInt ≠ 0
def KM (r : Nat → Nat → Int32) (p : Int32) : Nat → Prop := fun j => (r 56 (6 * j + p.toNatClampNeg)).toInt ≠ 0
def AKX (r : Nat → Nat → Int32) : Prop := ∀ j, j < 6 → KX r j
def AKM (r : Nat → Nat → Int32) (p : Int32) : Prop := ∀ j, j < 6 → KM r p j
def AKP (r : Nat → Nat → Int32) (n : Int32) : Prop := ∀ j : Nat, (j : Int) < n.toInt → KX r j
theorem AKP_0 {r : Nat → Nat → Int32} : AKP r 0 := fun j hj => absurd hj (by have h9 : (0 : Int32).toInt = 0 := rfl; omega)
theorem AKP_s {r : Nat → Nat → Int32} {x y : Int32} (h : AKP r x) (hy : y.toInt = x.toInt + 1) (hx : 0 ≤ x.toInt) (hk : (r 64 x.toNatClampNeg).toInt ≠ 0) : AKP r y := by
  intro j hj
  by_cases e : (j : Int) < x.toInt
  · exact h j e
  · have e2 : j = x.toNatClampNeg := by show j = x.toInt.toNat; omega
    rw [e2]; exact hk
theorem AKX_no {r : Nat → Nat → Int32} (h : ¬ AKX r) : ∃ j, j < 6 ∧ ¬ KX r j := Classical.byContradiction (fun h9 => h (fun j hj => Classical.byContradiction (fun h8 => h9 ⟨j, hj, h8⟩)))
def dKA (r : Nat → Nat → Int32) (p x n : Int32) : Prop := x.toInt ≠ 0 → ∀ j : Nat, (j : Int) < n.toInt → KM r p j
theorem dKA_s {r : Nat → Nat → Int32} {p x n n2 : Int32} (h : dKA r p x n) (hx : x.toInt ≠ 0) (hy : n2.toInt = n.toInt + 1) (h0 : 0 ≤ n.toInt) (hk : KM r p n.toNatClampNeg) : dKA r p 1 n2 := by
  intro _ j hj
  by_cases e : (j : Int) < n.toInt
  · exact h hx j e
  · have e2 : j = n.toNatClampNeg := by show j = n.toInt.toNat; omega
    rw [e2]; exact hk
theorem b_and16 {x : Int32} (h : 0 ≤ x.toInt) : (x &&& 65535).toInt = x.toInt % 65536 := by
  have h1 : x.toInt = (x.toBitVec.toNat : Int) := by
    have e : x.toInt = x.toBitVec.toInt := rfl
    rw [e] at h ⊢
    rw [BitVec.toInt_eq_toNat_cond] at h ⊢
    by_cases c : 2 * x.toBitVec.toNat < 2 ^ 32
    · rw [if_pos c]
    · rw [if_neg c] at h
      have := x.toBitVec.isLt
      omega
  rw [pk_and x 16 (by decide), nI_toInt (by have := Nat.mod_lt x.toBitVec.toNat (show 0 < 2 ^ 16 by decide); omega), h1]
  rfl
set_option maxHeartbeats 4000000 in
set_option maxRecDepth 100000 in
theorem c_X12_seed9 (l : Launch) (D : va_G) (cy : Nat → ClassId) (a : Nat → Nat) (i : Nat → Int32) (r : Nat → Nat → Int32) (rl : Nat → Int64) (p0 : Int32) (sz : Nat) (hRi : mRi i) (hRr : mRr r) : Met l yX12_seed (Cond.code yX12_seed cX12_seed 2 (some .boolean) :: gT) { frames := 2, cells := 0, slots := 0, locals := 46 } (va_Pc [.ref (a 0), .int p0] (rQ D cy (mW cy a i r rl) sz)) (va_Qi (fun (z : Int32) (u : (Nat → Int32) × (Nat → Nat → Int32)) => mRi u.1 ∧ mRr u.2 ∧ mEi [1] i u.1 ∧ mEr [] r u.2 ∧ (BR z ((0 ≤ p0.toInt ∧ p0.toInt ≤ 65535)) 1 0 ∧ (((0 ≤ p0.toInt ∧ p0.toInt ≤ 65535)) → u.1 1 = p0) ∧ (¬ ((0 ≤ p0.toInt ∧ p0.toInt ≤ 65535)) → mEi [] i u.1))) (fun (u : (Nat → Int32) × (Nat → Nat → Int32)) t => va_P D vwCl (mW cy a u.1 u.2 rl) t.heap ∧ va_K D vwCl (vT cy) t ∧ va_D (va_A (mW cy a i r rl) sz) (mW cy a u.1 u.2 rl)) (va_A (mW cy a i r rl) sz)) 0 0 (va_A (mW cy a i r rl) sz) := by
  refine Met.ofQ (cc := cX12_seed) (maxL := 2) (ret := (some .boolean)) (by decide) rfl ?_
  intro p e s m args below meth c s₁ B hml hv Q hQ
  obtain ⟨rfl, hsz, hP, hK, hD0⟩ := hv
  have hx := B.exec
  have hb := B.bytes
  have hr := B.returns
  have hlocks := B.notSynchronized
  have hT : ∀ w ∈ gT, w.before _ s = true := fun w h => atoms_spec (ws := (Cond.code yX12_seed cX12_seed 2 (some .boolean) :: gT)) B.pre w (List.mem_cons_of_mem _ h)
  have hown : s.vm.findClass RX12 = some m.cls := findClass_of_methodNamed B.named
  subst hsz
  have hD := hD0.self (sz := s.heap.size)
  generalize hAe : va_A (mW cy a i r rl) s.heap.size = A at hD hQ
  have hA : ∀ q : Nat, s.heap.size ≤ q → A q := fun q h => by rw [← hAe]; exact Or.inr h
  have hS : va_S A s.heap s.heap [] := va_S.rf
  have hl := lv_entry ([.ref (a 0), .int p0]) (n := 2) (Nat.le_of_ble_eq_true rfl)
  rw [lg_entry_eq]
  generalize (lg_sl ([.ref (a 0), .int p0]) ++ List.replicate (2 - (lg_sl ([.ref (a 0), .int p0])).length) Slot.unset).toArray = ls at hl ⊢
  have hl : lv_has ls 2 [(0, .ref (a 0)), (1, .int p0)] := hl
  have hEi : mEi [1] i i := Ei_rf
  have hEr : mEr [] r r := Er_rf
  refine lv_iload_n hx hb dX12_seed_0 rfl (lv_at hl 1 rfl) ?_
  refine lv_iconst (v := 0) hx hb dX12_seed_1 (by decide) ?_
  refine lv_ldcw (v := 65535) hx hb hown (hT _ t_180) dX12_seed_2 ?_
  refine vp_callSi (W.runS (As := [.int p0, .int 0, .int 65535]) (rest := []) ⟨hx, hb, hml, hown, hT⟩ (c_X12_in l p0 0 65535) (va_cwS 3 hT (gS t_113 t_114 t_115 t_6) rfl rfl rfl (by decide +kernel) ⟨Nat.le_of_ble_eq_true rfl, Nat.le_of_ble_eq_true rfl⟩) preT rfl rfl hl.1 rfl (lv_room (Nat.le_of_ble_eq_true rfl)) dX12_seed_5 ⟨Nat.le_of_ble_eq_true rfl, Nat.le_of_ble_eq_true rfl⟩) (fun r_1 hr_1 => ?_)
  have hr_1 : BR r_1 (0 ≤ p0.toInt ∧ p0.toInt ≤ 65535) 1 0 := hr_1
  rcases hr_1 with ⟨rfl, h_2⟩ | ⟨rfl, h_2⟩
  · skip
    refine lv_if_ne (tgt := 13) hx hb dX12_seed_8 (by decide) (fun c_3 => ?_) (fun c_3 => absurd c_3 (by decide))
    refine lv_aload_n hx hb dX12_seed_13 rfl (lv_at hl 0 rfl) ?_
    refine lv_iload_n hx hb dX12_seed_14 rfl (lv_at hl 1 rfl) ?_
    refine va_put (D := D) (ci := 12) (v := .int p0) (ty := .int) (C := RX12) (T := TX12) (N := 91) hx hb hT iX12 tyX12 tyX12_ok nmX12 hown hK hP hD hS 0 rfl rfl 1 (by decide) (hT _ t_181) (fun _ h9 => h9) rfl (by decide +kernel) rfl rfl (Nat.le_of_ble_eq_true rfl) dX12_seed_15 (fun H locs hP hD hS => ?_)
    rw [mP1] at hP hD
    have hRi := Ri_upd hRi 1 p0 ⟨by show (0 : Int) ≤ p0.toInt; omega, by show p0.toInt ≤ (65535 : Int); omega⟩
    have hEi := Ei_upd hEi 1 p0 (by decide)
    refine lv_iconst (v := 1) hx hb dX12_seed_18 (by decide) ?_
    subst hQ
    exact W.zret hx hb hr rfl (fun t ht hW => ⟨⟨_, (upd i 1 p0, r), rfl, ⟨hRi, hRr, hEi, hEr, ⟨Or.inl ⟨rfl, by omega⟩, fun _ => rfl, fun h9 => absurd (by omega) h9⟩⟩, by rw [ht]; exact hP, va_K.moved hW.alike hK, hD⟩, hS.F ht⟩) hS.2.2 dX12_seed_19
  · skip
    refine lv_if_ne (tgt := 13) hx hb dX12_seed_8 (by decide) (fun c_4 => absurd (by decide) c_4) (fun c_4 => ?_)
    refine lv_iconst (v := 0) hx hb dX12_seed_11 (by decide) ?_
    subst hQ
    exact W.zret hx hb hr rfl (fun t ht hW => ⟨⟨_, (i, r), rfl, ⟨hRi, hRr, hEi, hEr, ⟨Or.inr ⟨rfl, by omega⟩, fun h9 => absurd h9 (by omega), fun _ => Ei_rf⟩⟩, by rw [ht]; exact hP, va_K.moved hW.alike hK, hD⟩, hS.F ht⟩) hS.2.2 dX12_seed_12
set_option maxHeartbeats 4000000 in
set_option maxRecDepth 100000 in
theorem c_X11_seed9 (l : Launch) (D : va_G) (cy : Nat → ClassId) (a : Nat → Nat) (i : Nat → Int32) (r : Nat → Nat → Int32) (q : Nat → Option Nat) (tl : va_W) (p0 : Int32) (sz : Nat) (hRi : yRi i) (hRr : yRr r) : Met l yX11_seed (Cond.code yX11_seed cX11_seed 2 (some .boolean) :: gT) { frames := 2, cells := 0, slots := 0, locals := 46 } (va_Pc [.ref (a 0), .int p0] (rQ D cy (xW cy a i r q (a 20) (a 12) ++ tl) sz)) (va_Qi (fun (z : Int32) (u : (Nat → Int32) × (Nat → Nat → Int32)) => yRi u.1 ∧ yRr u.2 ∧ mEi [11] i u.1 ∧ mEr [] r u.2 ∧ (BR z ((0 ≤ p0.toInt ∧ p0.toInt ≤ 65535)) 1 0 ∧ (((0 ≤ p0.toInt ∧ p0.toInt ≤ 65535)) → u.1 11 = p0) ∧ (¬ ((0 ≤ p0.toInt ∧ p0.toInt ≤ 65535)) → mEi [] i u.1))) (fun (u : (Nat → Int32) × (Nat → Nat → Int32)) t => va_P D vwCl (xW cy a u.1 u.2 q (a 20) (a 12) ++ tl) t.heap ∧ va_K D vwCl (vT cy) t ∧ va_D (va_A (xW cy a i r q (a 20) (a 12) ++ tl) sz) (xW cy a u.1 u.2 q (a 20) (a 12) ++ tl)) (va_A (xW cy a i r q (a 20) (a 12) ++ tl) sz)) 0 0 (va_A (xW cy a i r q (a 20) (a 12) ++ tl) sz) := by
  refine Met.ofQ (cc := cX11_seed) (maxL := 2) (ret := (some .boolean)) (by decide) rfl ?_
  intro p e s m args below meth c s₁ B hml hv Q hQ
  obtain ⟨rfl, hsz, hP, hK, hD0⟩ := hv
  have hx := B.exec
  have hb := B.bytes
  have hr := B.returns
  have hlocks := B.notSynchronized
  have hT : ∀ w ∈ gT, w.before _ s = true := fun w h => atoms_spec (ws := (Cond.code yX11_seed cX11_seed 2 (some .boolean) :: gT)) B.pre w (List.mem_cons_of_mem _ h)
  have hown : s.vm.findClass RX11 = some m.cls := findClass_of_methodNamed B.named
  subst hsz
  have hD := hD0.self (sz := s.heap.size)
  generalize hAe : va_A (xW cy a i r q (a 20) (a 12) ++ tl) s.heap.size = A at hD hQ
  have hA : ∀ q : Nat, s.heap.size ≤ q → A q := fun q h => by rw [← hAe]; exact Or.inr h
  have hS : va_S A s.heap s.heap [] := va_S.rf
  have hl := lv_entry ([.ref (a 0), .int p0]) (n := 2) (Nat.le_of_ble_eq_true rfl)
  rw [lg_entry_eq]
  generalize (lg_sl ([.ref (a 0), .int p0]) ++ List.replicate (2 - (lg_sl ([.ref (a 0), .int p0])).length) Slot.unset).toArray = ls at hl ⊢
  have hl : lv_has ls 2 [(0, .ref (a 0)), (1, .int p0)] := hl
  have hEi : mEi [11] i i := Ei_rf
  have hEr : mEr [] r r := Er_rf
  refine lv_iload_n hx hb dX11_seed_0 rfl (lv_at hl 1 rfl) ?_
  refine lv_iconst (v := 0) hx hb dX11_seed_1 (by decide) ?_
  refine lv_ldcw (v := 65535) hx hb hown (hT _ t_271) dX11_seed_2 ?_
  refine vp_callSi (W.runS (As := [.int p0, .int 0, .int 65535]) (rest := []) ⟨hx, hb, hml, hown, hT⟩ (c_X11_within l p0 0 65535) (va_cwS 3 hT (gS t_1 t_3 t_4 t_2) rfl rfl rfl (by decide +kernel) ⟨Nat.le_of_ble_eq_true rfl, Nat.le_of_ble_eq_true rfl⟩) preT rfl rfl hl.1 rfl (lv_room (Nat.le_of_ble_eq_true rfl)) dX11_seed_5 ⟨Nat.le_of_ble_eq_true rfl, Nat.le_of_ble_eq_true rfl⟩) (fun r_1 hr_1 => ?_)
  have hr_1 : BR r_1 (0 ≤ p0.toInt ∧ p0.toInt ≤ 65535) 1 0 := hr_1
  rcases hr_1 with ⟨rfl, h_2⟩ | ⟨rfl, h_2⟩
  · skip
    refine lv_if_ne (tgt := 13) hx hb dX11_seed_8 (by decide) (fun c_3 => ?_) (fun c_3 => absurd c_3 (by decide))
    refine lv_aload_n hx hb dX11_seed_13 rfl (lv_at hl 0 rfl) ?_
    refine va_get (D := D) (ci := 11) (v := .ref (a 29)) (C := RX11) (T := TX11) (N := 14) hx hb hT iX11 hown hK hP 0 rfl rfl 8 (by decide) (hT _ t_265) (fun _ h9 => h9) rfl dX11_seed_14 ?_
    refine lv_iload_n hx hb dX11_seed_17 rfl (lv_at hl 1 rfl) ?_
    refine va_put (D := D) (ci := 1) (v := .int p0) (ty := .int) (C := RX1) (T := TX1) (N := 12) hx hb hT iX1 tyX1 tyX1_ok nmX1 hown hK hP hD hS 29 rfl rfl 11 (by decide) (hT _ t_272) (fun _ h9 => h9) rfl (by decide +kernel) rfl rfl (Nat.le_of_ble_eq_true rfl) dX11_seed_18 (fun H locs hP hD hS => ?_)
    rw [zP11] at hP hD
    have hRi := Yi_upd hRi 11 p0 ⟨by show (0 : Int) ≤ p0.toInt; omega, by show p0.toInt ≤ (65535 : Int); omega⟩
    have hEi := Ei_upd hEi 11 p0 (by decide)
    refine lv_iconst (v := 1) hx hb dX11_seed_21 (by decide) ?_
    subst hQ
    exact W.zret hx hb hr rfl (fun t ht hW => ⟨⟨_, (upd i 11 p0, r), rfl, ⟨hRi, hRr, hEi, hEr, ⟨Or.inl ⟨rfl, by omega⟩, fun _ => rfl, fun h9 => absurd (by omega) h9⟩⟩, by rw [ht]; exact hP, va_K.moved hW.alike hK, hD⟩, hS.F ht⟩) hS.2.2 dX11_seed_22
  · skip
    refine lv_if_ne (tgt := 13) hx hb dX11_seed_8 (by decide) (fun c_4 => absurd (by decide) c_4) (fun c_4 => ?_)
    refine lv_iconst (v := 0) hx hb dX11_seed_11 (by decide) ?_
    subst hQ
    exact W.zret hx hb hr rfl (fun t ht hW => ⟨⟨_, (i, r), rfl, ⟨hRi, hRr, hEi, hEr, ⟨Or.inr ⟨rfl, by omega⟩, fun h9 => absurd h9 (by omega), fun _ => Ei_rf⟩⟩, by rw [ht]; exact hP, va_K.moved hW.alike hK, hD⟩, hS.F ht⟩) hS.2.2 dX11_seed_12
