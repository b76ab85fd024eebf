/-- the numbers of the draw, one after the other -/
def itN : Nat → Nat → Nat
  | 0, x => x
  | n + 1, x => lcg (itN n x)
theorem itN_in : ∀ n x, itN n (lcg x) = itN (n + 1) x := by
  intro n
  induction n with
  | zero => intro x; rfl
  | succ n ih => intro x; show lcg (itN n (lcg x)) = lcg (itN (n + 1) x); rw [ih]
theorem hits_it {j : Nat} : ∀ n x, hits j n x = true → ∃ m, m < n ∧ itN m x % 6 = j := by
  intro n
  induction n with
  | zero => intro x h; exact absurd (show false = true from h) (by decide)
  | succ n ih =>
    intro x h
    have h0 : (Nat.beq (x % 6) j || hits j n (lcg x)) = true := h
    rcases Bool.or_eq_true_iff.mp h0 with h1 | h1
    · exact ⟨0, by omega, Nat.eq_of_beq_eq_true h1⟩
    · obtain ⟨m, hm, e⟩ := ih _ h1
      exact ⟨m + 1, by omega, by rw [← itN_in]; exact e⟩
def DPR (kin : Nat → Prop) (x y : Nat) : Prop := ∃ n, y = itN (n + 1) x ∧ ∀ m, m < n → kin (itN (m + 1) x % 6)
def DRW (kin : Nat → Prop) (x y : Nat) : Prop := DPR kin x y ∧ ¬ kin (y % 6)
theorem DPR_0 {kin : Nat → Prop} {x y : Nat} (h : y = lcg x) : DPR kin x y := ⟨0, h, fun m hm => absurd hm (Nat.not_lt_zero m)⟩
theorem DPR_s {kin : Nat → Prop} {x y z : Nat} (h : DPR kin x y) (hk : kin (y % 6)) (e : z = lcg y) : DPR kin x z := by
  obtain ⟨n, e1, h1⟩ := h
  refine ⟨n + 1, by rw [e, e1]; rfl, fun m hm => ?_⟩
  by_cases em : m = n
  · rw [em, ← e1]; exact hk
  · exact h1 m (by omega)
theorem DRW_un {kin : Nat → Prop} {x y z : Nat} (h : DRW kin x y) (h2 : DRW kin x z) : y = z := by
  obtain ⟨⟨n, e1, k1⟩, n1⟩ := h
  obtain ⟨⟨m, e2, k2⟩, n2⟩ := h2
  rcases Nat.lt_trichotomy n m with hl | hl | hl
  · exact absurd (k2 n hl) (by rw [← e1]; exact n1)
  · rw [e1, e2, hl]
  · exact absurd (k1 m hl) (by rw [← e2]; exact n2)
theorem DRW_co {kin kin2 : Nat → Prop} {x y : Nat} (h : DRW kin x y) (hk : ∀ j, j < 6 → (kin j ↔ kin2 j)) : DRW kin2 x y := by
  refine ⟨?_, fun h9 => h.2 ((hk _ (Nat.mod_lt _ (by decide))).mpr h9)⟩
  obtain ⟨n, e, k⟩ := h.1
  exact ⟨n, e, fun m hm => (hk _ (Nat.mod_lt _ (by decide))).mp (k m hm)⟩
def CPR (kin : Nat → Prop) (x : Nat) (y n : Int32) : Prop := ∃ k : Nat, n.toInt = (k : Int) ∧ y.toInt.toNat = itN k x ∧ ∀ m, m < k → kin (itN (m + 1) x % 6)
theorem CPR_0 {kin : Nat → Prop} {x : Int32} : CPR kin x.toInt.toNat x 0 := ⟨0, rfl, rfl, fun m hm => absurd hm (Nat.not_lt_zero m)⟩
theorem CPR_s {kin : Nat → Prop} {x : Nat} {y z n n2 : Int32} (h : CPR kin x y n) (e : z.toInt.toNat = lcg y.toInt.toNat) (hk : kin (z.toInt.toNat % 6)) (en : n2.toInt = n.toInt + 1) : CPR kin x z n2 := by
  obtain ⟨k, e1, e2, h1⟩ := h
  have e3 : z.toInt.toNat = itN (k + 1) x := by rw [e, e2]; rfl
  refine ⟨k + 1, by omega, e3, fun m hm => ?_⟩
  by_cases em : m = k
  · rw [em, ← e3]; exact hk
  · exact h1 m (by omega)
theorem CPR_d {kin : Nat → Prop} {x : Nat} {y z n : Int32} (h : CPR kin x y n) (e : z.toInt.toNat = lcg y.toInt.toNat) (hk : ¬ kin (z.toInt.toNat % 6)) : DRW kin x z.toInt.toNat := by
  obtain ⟨k, e1, e2, h1⟩ := h
  exact ⟨⟨k, by rw [e, e2]; rfl, h1⟩, hk⟩
theorem CPR_no {kin : Nat → Prop} {x j : Nat} {y n : Int32} (h : CPR kin x y n) (hn : 65536 ≤ n.toInt) (hj : j < 6) (hk : ¬ kin j) : False := by
  obtain ⟨k, e1, e2, h1⟩ := h
  obtain ⟨m, hm, e⟩ := hits_it (hB + 1) (lcg x) (hits4 hj (Nat.mod_lt _ (by decide)))
  rw [itN_in] at e
  have hB9 : hB = 65535 := rfl
  exact hk (e ▸ h1 m (by omega))
def KX (r : Nat → Nat → Int32) : Nat → Prop := fun j => (r 64 j).toInt ≠ 0
def KM (r : Nat → Nat → Int32) (p : Int32) : Nat → Prop := fun j => (r 56 (6 * j + p.toNatClampNeg)).toInt ≠ 0
def AKX (r : Nat → Nat → Int32) : Prop := ∀ j, j < 6 → KX r j
def AKM (r : Nat → Nat → Int32) (p : Int32) : Prop := ∀ j, j < 6 → KM r p j
def AKP (r : Nat → Nat → Int32) (n : Int32) : Prop := ∀ j : Nat, (j : Int) < n.toInt → KX r j
theorem AKP_0 {r : Nat → Nat → Int32} : AKP r 0 := fun j hj => absurd hj (by have h9 : (0 : Int32).toInt = 0 := rfl; omega)
theorem AKP_s {r : Nat → Nat → Int32} {x y : Int32} (h : AKP r x) (hy : y.toInt = x.toInt + 1) (hx : 0 ≤ x.toInt) (hk : (r 64 x.toNatClampNeg).toInt ≠ 0) : AKP r y := by
  intro j hj
  by_cases e : (j : Int) < x.toInt
  · exact h j e
  · have e2 : j = x.toNatClampNeg := by show j = x.toInt.toNat; omega
    rw [e2]; exact hk
theorem AKX_no {r : Nat → Nat → Int32} (h : ¬ AKX r) : ∃ j, j < 6 ∧ ¬ KX r j := Classical.byContradiction (fun h9 => h (fun j hj => Classical.byContradiction (fun h8 => h9 ⟨j, hj, h8⟩)))
def dKA (r : Nat → Nat → Int32) (p x n : Int32) : Prop := x.toInt ≠ 0 → ∀ j : Nat, (j : Int) < n.toInt → KM r p j
theorem dKA_s {r : Nat → Nat → Int32} {p x n n2 : Int32} (h : dKA r p x n) (hx : x.toInt ≠ 0) (hy : n2.toInt = n.toInt + 1) (h0 : 0 ≤ n.toInt) (hk : KM r p n.toNatClampNeg) : dKA r p 1 n2 := by
  intro _ j hj
  by_cases e : (j : Int) < n.toInt
  · exact h hx j e
  · have e2 : j = n.toNatClampNeg := by show j = n.toInt.toNat; omega
    rw [e2]; exact hk
theorem b_and16 {x : Int32} (h : 0 ≤ x.toInt) : (x &&& 65535).toInt = x.toInt % 65536 := by
  have h1 : x.toInt = (x.toBitVec.toNat : Int) := by
    have e : x.toInt = x.toBitVec.toInt := rfl
    rw [e] at h ⊢
    rw [BitVec.toInt_eq_toNat_cond] at h ⊢
    by_cases c : 2 * x.toBitVec.toNat < 2 ^ 32
    · rw [if_pos c]
    · rw [if_neg c] at h
      have := x.toBitVec.isLt
      omega
  rw [pk_and x 16 (by decide), nI_toInt (by have := Nat.mod_lt x.toBitVec.toNat (show 0 < 2 ^ 16 by decide); omega), h1]
  rfl
theorem lcg_i {x m p v : Int32} (h0 : 0 ≤ x.toInt) (hm : m.toInt = 25173 * x.toInt) (hp : p.toInt = m.toInt + 13849) (hv : v.toInt = p.toInt % 65536) : v.toInt.toNat = lcg x.toInt.toNat := by
  unfold lcg; omega
theorem kin_ix {ix y x6 x p : Int32} (h6 : x6.toInt = x.toInt % 6) (hy : y.toInt = 6 * x6.toInt) (hi : ix.toInt = y.toInt + p.toInt) (h0 : 0 ≤ x.toInt) (hp : 0 ≤ p.toInt) : ix.toNatClampNeg = 6 * (x.toInt.toNat % 6) + p.toNatClampNeg := by
  show ix.toInt.toNat = 6 * (x.toInt.toNat % 6) + p.toInt.toNat; omega
theorem KM_y {r : Nat → Nat → Int32} {p v : Int32} {k j : Nat} (hi : k = 6 * j + p.toNatClampNeg) (hw : v.toInt = (r 56 k).toInt) (hv : v.toInt ≠ 0) : KM r p j := by
  unfold KM; rw [← hi, ← hw]; exact hv
theorem KM_n {r : Nat → Nat → Int32} {p v : Int32} {k j : Nat} (hi : k = 6 * j + p.toNatClampNeg) (hw : v.toInt = (r 56 k).toInt) (hv : v.toInt = 0) : ¬ KM r p j := by
  unfold KM; rw [← hi, ← hw]; exact fun h => h hv
theorem KX_y {r : Nat → Nat → Int32} {v : Int32} {k j : Nat} (hi : k = j) (hw : v.toInt = (r 64 k).toInt) (hv : v.toInt ≠ 0) : KX r j := by
  unfold KX; rw [← hi, ← hw]; exact hv
theorem KX_n {r : Nat → Nat → Int32} {v : Int32} {k j : Nat} (hi : k = j) (hw : v.toInt = (r 64 k).toInt) (hv : v.toInt = 0) : ¬ KX r j := by
  unfold KX; rw [← hi, ← hw]; exact fun h => h hv
theorem mod6_ix {v x : Int32} (h : v.toInt = x.toInt % 6) (h0 : 0 ≤ x.toInt) : v.toNatClampNeg = x.toInt.toNat % 6 := by show v.toInt.toNat = _; omega
set_option maxHeartbeats 4000000 in
set_option maxRecDepth 100000 in
theorem c_X12_seed9 (l : Launch) (D : va_G) (cy : Nat → ClassId) (a : Nat → Nat) (i : Nat → Int32) (r : Nat → Nat → Int32) (rl : Nat → Int64) (p0 : Int32) (sz : Nat) (hRi : mRi i) (hRr : mRr r) : Met l yX12_seed (Cond.code yX12_seed cX12_seed 2 (some .boolean) :: gT) { frames := 2, cells := 0, slots := 0, locals := 46 } (va_Pc [.ref (a 0), .int p0] (rQ D cy (mW cy a i r rl) sz)) (va_Qi (fun (z : Int32) (u : (Nat → Int32) × (Nat → Nat → Int32)) => mRi u.1 ∧ mRr u.2 ∧ mEi [1] i u.1 ∧ mEr [] r u.2 ∧ (BR z ((0 ≤ p0.toInt ∧ p0.toInt ≤ 65535)) 1 0 ∧ (((0 ≤ p0.toInt ∧ p0.toInt ≤ 65535)) → u.1 1 = p0) ∧ (¬ ((0 ≤ p0.toInt ∧ p0.toInt ≤ 65535)) → mEi [] i u.1))) (fun (u : (Nat → Int32) × (Nat → Nat → Int32)) t => va_P D vwCl (mW cy a u.1 u.2 rl) t.heap ∧ va_K D vwCl (vT cy) t ∧ va_D (va_A (mW cy a i r rl) sz) (mW cy a u.1 u.2 rl)) (va_A (mW cy a i r rl) sz)) 0 0 (va_A (mW cy a i r rl) sz) := by
  refine Met.ofQ (cc := cX12_seed) (maxL := 2) (ret := (some .boolean)) (by decide) rfl ?_
  intro p e s m args below meth c s₁ B hml hv Q hQ
  obtain ⟨rfl, hsz, hP, hK, hD0⟩ := hv
  have hx := B.exec
  have hb := B.bytes
  have hr := B.returns
  have hlocks := B.notSynchronized
  have hT : ∀ w ∈ gT, w.before _ s = true := fun w h => atoms_spec (ws := (Cond.code yX12_seed cX12_seed 2 (some .boolean) :: gT)) B.pre w (List.mem_cons_of_mem _ h)
  have hown : s.vm.findClass RX12 = some m.cls := findClass_of_methodNamed B.named
  subst hsz
  have hD := hD0.self (sz := s.heap.size)
  generalize hAe : va_A (mW cy a i r rl) s.heap.size = A at hD hQ
  have hA : ∀ q : Nat, s.heap.size ≤ q → A q := fun q h => by rw [← hAe]; exact Or.inr h
  have hS : va_S A s.heap s.heap [] := va_S.rf
  have hl := lv_entry ([.ref (a 0), .int p0]) (n := 2) (Nat.le_of_ble_eq_true rfl)
  rw [lg_entry_eq]
  generalize (lg_sl ([.ref (a 0), .int p0]) ++ List.replicate (2 - (lg_sl ([.ref (a 0), .int p0])).length) Slot.unset).toArray = ls at hl ⊢
  have hl : lv_has ls 2 [(0, .ref (a 0)), (1, .int p0)] := hl
  have hEi : mEi [1] i i := Ei_rf
  have hEr : mEr [] r r := Er_rf
  refine lv_iload_n hx hb dX12_seed_0 rfl (lv_at hl 1 rfl) ?_
  refine lv_iconst (v := 0) hx hb dX12_seed_1 (by decide) ?_
  refine lv_ldcw (v := 65535) hx hb hown (hT _ t_180) dX12_seed_2 ?_
  refine vp_callSi (W.runS (As := [.int p0, .int 0, .int 65535]) (rest := []) ⟨hx, hb, hml, hown, hT⟩ (c_X12_in l p0 0 65535) (va_cwS 3 hT (gS t_113 t_114 t_115 t_6) rfl rfl rfl (by decide +kernel) ⟨Nat.le_of_ble_eq_true rfl, Nat.le_of_ble_eq_true rfl⟩) preT rfl rfl hl.1 rfl (lv_room (Nat.le_of_ble_eq_true rfl)) dX12_seed_5 ⟨Nat.le_of_ble_eq_true rfl, Nat.le_of_ble_eq_true rfl⟩) (fun r_1 hr_1 => ?_)
  have hr_1 : BR r_1 (0 ≤ p0.toInt ∧ p0.toInt ≤ 65535) 1 0 := hr_1
  rcases hr_1 with ⟨rfl, h_2⟩ | ⟨rfl, h_2⟩
  · skip
    refine lv_if_ne (tgt := 13) hx hb dX12_seed_8 (by decide) (fun c_3 => ?_) (fun c_3 => absurd c_3 (by decide))
    refine lv_aload_n hx hb dX12_seed_13 rfl (lv_at hl 0 rfl) ?_
    refine lv_iload_n hx hb dX12_seed_14 rfl (lv_at hl 1 rfl) ?_
    refine va_put (D := D) (ci := 12) (v := .int p0) (ty := .int) (C := RX12) (T := TX12) (N := 91) hx hb hT iX12 tyX12 tyX12_ok nmX12 hown hK hP hD hS 0 rfl rfl 1 (by decide) (hT _ t_181) (fun _ h9 => h9) rfl (by decide +kernel) rfl rfl (Nat.le_of_ble_eq_true rfl) dX12_seed_15 (fun H locs hP hD hS => ?_)
    rw [mP1] at hP hD
    have hRi := Ri_upd hRi 1 p0 ⟨by show (0 : Int) ≤ p0.toInt; omega, by show p0.toInt ≤ (65535 : Int); omega⟩
    have hEi := Ei_upd hEi 1 p0 (by decide)
    refine lv_iconst (v := 1) hx hb dX12_seed_18 (by decide) ?_
    subst hQ
    exact W.zret hx hb hr rfl (fun t ht hW => ⟨⟨_, (upd i 1 p0, r), rfl, ⟨hRi, hRr, hEi, hEr, ⟨Or.inl ⟨rfl, by omega⟩, fun _ => rfl, fun h9 => absurd (by omega) h9⟩⟩, by rw [ht]; exact hP, va_K.moved hW.alike hK, hD⟩, hS.F ht⟩) hS.2.2 dX12_seed_19
  · skip
    refine lv_if_ne (tgt := 13) hx hb dX12_seed_8 (by decide) (fun c_4 => absurd (by decide) c_4) (fun c_4 => ?_)
    refine lv_iconst (v := 0) hx hb dX12_seed_11 (by decide) ?_
    subst hQ
    exact W.zret hx hb hr rfl (fun t ht hW => ⟨⟨_, (i, r), rfl, ⟨hRi, hRr, hEi, hEr, ⟨Or.inr ⟨rfl, by omega⟩, fun h9 => absurd h9 (by omega), fun _ => Ei_rf⟩⟩, by rw [ht]; exact hP, va_K.moved hW.alike hK, hD⟩, hS.F ht⟩) hS.2.2 dX12_seed_12
set_option maxHeartbeats 4000000 in
set_option maxRecDepth 100000 in
theorem c_X11_seed9 (l : Launch) (D : va_G) (cy : Nat → ClassId) (a : Nat → Nat) (i : Nat → Int32) (r : Nat → Nat → Int32) (q : Nat → Option Nat) (tl : va_W) (p0 : Int32) (sz : Nat) (hRi : yRi i) (hRr : yRr r) : Met l yX11_seed (Cond.code yX11_seed cX11_seed 2 (some .boolean) :: gT) { frames := 2, cells := 0, slots := 0, locals := 46 } (va_Pc [.ref (a 0), .int p0] (rQ D cy (xW cy a i r q (a 20) (a 12) ++ tl) sz)) (va_Qi (fun (z : Int32) (u : (Nat → Int32) × (Nat → Nat → Int32)) => yRi u.1 ∧ yRr u.2 ∧ mEi [11] i u.1 ∧ mEr [] r u.2 ∧ (BR z ((0 ≤ p0.toInt ∧ p0.toInt ≤ 65535)) 1 0 ∧ (((0 ≤ p0.toInt ∧ p0.toInt ≤ 65535)) → u.1 11 = p0) ∧ (¬ ((0 ≤ p0.toInt ∧ p0.toInt ≤ 65535)) → mEi [] i u.1))) (fun (u : (Nat → Int32) × (Nat → Nat → Int32)) t => va_P D vwCl (xW cy a u.1 u.2 q (a 20) (a 12) ++ tl) t.heap ∧ va_K D vwCl (vT cy) t ∧ va_D (va_A (xW cy a i r q (a 20) (a 12) ++ tl) sz) (xW cy a u.1 u.2 q (a 20) (a 12) ++ tl)) (va_A (xW cy a i r q (a 20) (a 12) ++ tl) sz)) 0 0 (va_A (xW cy a i r q (a 20) (a 12) ++ tl) sz) := by
  refine Met.ofQ (cc := cX11_seed) (maxL := 2) (ret := (some .boolean)) (by decide) rfl ?_
  intro p e s m args below meth c s₁ B hml hv Q hQ
  obtain ⟨rfl, hsz, hP, hK, hD0⟩ := hv
  have hx := B.exec
  have hb := B.bytes
  have hr := B.returns
  have hlocks := B.notSynchronized
  have hT : ∀ w ∈ gT, w.before _ s = true := fun w h => atoms_spec (ws := (Cond.code yX11_seed cX11_seed 2 (some .boolean) :: gT)) B.pre w (List.mem_cons_of_mem _ h)
  have hown : s.vm.findClass RX11 = some m.cls := findClass_of_methodNamed B.named
  subst hsz
  have hD := hD0.self (sz := s.heap.size)
  generalize hAe : va_A (xW cy a i r q (a 20) (a 12) ++ tl) s.heap.size = A at hD hQ
  have hA : ∀ q : Nat, s.heap.size ≤ q → A q := fun q h => by rw [← hAe]; exact Or.inr h
  have hS : va_S A s.heap s.heap [] := va_S.rf
  have hl := lv_entry ([.ref (a 0), .int p0]) (n := 2) (Nat.le_of_ble_eq_true rfl)
  rw [lg_entry_eq]
  generalize (lg_sl ([.ref (a 0), .int p0]) ++ List.replicate (2 - (lg_sl ([.ref (a 0), .int p0])).length) Slot.unset).toArray = ls at hl ⊢
  have hl : lv_has ls 2 [(0, .ref (a 0)), (1, .int p0)] := hl
  have hEi : mEi [11] i i := Ei_rf
  have hEr : mEr [] r r := Er_rf
  refine lv_iload_n hx hb dX11_seed_0 rfl (lv_at hl 1 rfl) ?_
  refine lv_iconst (v := 0) hx hb dX11_seed_1 (by decide) ?_
  refine lv_ldcw (v := 65535) hx hb hown (hT _ t_271) dX11_seed_2 ?_
  refine vp_callSi (W.runS (As := [.int p0, .int 0, .int 65535]) (rest := []) ⟨hx, hb, hml, hown, hT⟩ (c_X11_within l p0 0 65535) (va_cwS 3 hT (gS t_1 t_3 t_4 t_2) rfl rfl rfl (by decide +kernel) ⟨Nat.le_of_ble_eq_true rfl, Nat.le_of_ble_eq_true rfl⟩) preT rfl rfl hl.1 rfl (lv_room (Nat.le_of_ble_eq_true rfl)) dX11_seed_5 ⟨Nat.le_of_ble_eq_true rfl, Nat.le_of_ble_eq_true rfl⟩) (fun r_1 hr_1 => ?_)
  have hr_1 : BR r_1 (0 ≤ p0.toInt ∧ p0.toInt ≤ 65535) 1 0 := hr_1
  rcases hr_1 with ⟨rfl, h_2⟩ | ⟨rfl, h_2⟩
  · skip
    refine lv_if_ne (tgt := 13) hx hb dX11_seed_8 (by decide) (fun c_3 => ?_) (fun c_3 => absurd c_3 (by decide))
    refine lv_aload_n hx hb dX11_seed_13 rfl (lv_at hl 0 rfl) ?_
    refine va_get (D := D) (ci := 11) (v := .ref (a 29)) (C := RX11) (T := TX11) (N := 14) hx hb hT iX11 hown hK hP 0 rfl rfl 8 (by decide) (hT _ t_265) (fun _ h9 => h9) rfl dX11_seed_14 ?_
    refine lv_iload_n hx hb dX11_seed_17 rfl (lv_at hl 1 rfl) ?_
    refine va_put (D := D) (ci := 1) (v := .int p0) (ty := .int) (C := RX1) (T := TX1) (N := 12) hx hb hT iX1 tyX1 tyX1_ok nmX1 hown hK hP hD hS 29 rfl rfl 11 (by decide) (hT _ t_272) (fun _ h9 => h9) rfl (by decide +kernel) rfl rfl (Nat.le_of_ble_eq_true rfl) dX11_seed_18 (fun H locs hP hD hS => ?_)
    rw [zP11] at hP hD
    have hRi := Yi_upd hRi 11 p0 ⟨by show (0 : Int) ≤ p0.toInt; omega, by show p0.toInt ≤ (65535 : Int); omega⟩
    have hEi := Ei_upd hEi 11 p0 (by decide)
    refine lv_iconst (v := 1) hx hb dX11_seed_21 (by decide) ?_
    subst hQ
    exact W.zret hx hb hr rfl (fun t ht hW => ⟨⟨_, (upd i 11 p0, r), rfl, ⟨hRi, hRr, hEi, hEr, ⟨Or.inl ⟨rfl, by omega⟩, fun _ => rfl, fun h9 => absurd (by omega) h9⟩⟩, by rw [ht]; exact hP, va_K.moved hW.alike hK, hD⟩, hS.F ht⟩) hS.2.2 dX11_seed_22
  · skip
    refine lv_if_ne (tgt := 13) hx hb dX11_seed_8 (by decide) (fun c_4 => absurd (by decide) c_4) (fun c_4 => ?_)
    refine lv_iconst (v := 0) hx hb dX11_seed_11 (by decide) ?_
    subst hQ
    exact W.zret hx hb hr rfl (fun t ht hW => ⟨⟨_, (i, r), rfl, ⟨hRi, hRr, hEi, hEr, ⟨Or.inr ⟨rfl, by omega⟩, fun h9 => absurd h9 (by omega), fun _ => Ei_rf⟩⟩, by rw [ht]; exact hP, va_K.moved hW.alike hK, hD⟩, hS.F ht⟩) hS.2.2 dX11_seed_12
set_option maxHeartbeats 4000000 in
set_option maxRecDepth 100000 in
theorem c_X12_draw9 (l : Launch) (D : va_G) (cy : Nat → ClassId) (a : Nat → Nat) (i : Nat → Int32) (r : Nat → Nat → Int32) (rl : Nat → Int64) (p0 : Int32) (sz : Nat) (hRi : mRi i) (hRr : mRr r) : Met l yX12_draw (Cond.code yX12_draw cX12_draw 4 (some .int) :: gT) { frames := 2, cells := 0, slots := 0, locals := 45 } (va_Pc [.ref (a 0), .int p0] (rQ D cy (mW cy a i r rl) sz)) (va_Qi (fun (z : Int32) (u : (Nat → Int32) × (Nat → Nat → Int32)) => mRi u.1 ∧ mRr u.2 ∧ mEi [1] i u.1 ∧ mEr [] r u.2 ∧ ((¬ (0 ≤ p0.toInt ∧ p0.toInt < (i 0).toInt) → z = -1 ∧ mEi [] i u.1) ∧ ((0 ≤ p0.toInt ∧ p0.toInt < (i 0).toInt) → AKM r p0 → z = -2 ∧ mEi [] i u.1) ∧ ((0 ≤ p0.toInt ∧ p0.toInt < (i 0).toInt) → ¬ AKM r p0 → DRW (KM r p0) (i 1).toInt.toNat (u.1 1).toInt.toNat ∧ z.toInt = (u.1 1).toInt % 6))) (fun (u : (Nat → Int32) × (Nat → Nat → Int32)) t => va_P D vwCl (mW cy a u.1 u.2 rl) t.heap ∧ va_K D vwCl (vT cy) t ∧ va_D (va_A (mW cy a i r rl) sz) (mW cy a u.1 u.2 rl)) (va_A (mW cy a i r rl) sz)) 0 0 (va_A (mW cy a i r rl) sz) := by
  refine Met.ofQ (cc := cX12_draw) (maxL := 4) (ret := (some .int)) (by decide) rfl ?_
  intro p e s m args below meth c s₁ B hml hv Q hQ
  obtain ⟨rfl, hsz, hP, hK, hD0⟩ := hv
  have hx := B.exec
  have hb := B.bytes
  have hr := B.returns
  have hlocks := B.notSynchronized
  have hT : ∀ w ∈ gT, w.before _ s = true := fun w h => atoms_spec (ws := (Cond.code yX12_draw cX12_draw 4 (some .int) :: gT)) B.pre w (List.mem_cons_of_mem _ h)
  have hown : s.vm.findClass RX12 = some m.cls := findClass_of_methodNamed B.named
  subst hsz
  have hD := hD0.self (sz := s.heap.size)
  generalize hAe : va_A (mW cy a i r rl) s.heap.size = A at hD hQ
  have hA : ∀ q : Nat, s.heap.size ≤ q → A q := fun q h => by rw [← hAe]; exact Or.inr h
  have hS : va_S A s.heap s.heap [] := va_S.rf
  have hl := lv_entry ([.ref (a 0), .int p0]) (n := 4) (Nat.le_of_ble_eq_true rfl)
  rw [lg_entry_eq]
  generalize (lg_sl ([.ref (a 0), .int p0]) ++ List.replicate (4 - (lg_sl ([.ref (a 0), .int p0])).length) Slot.unset).toArray = ls at hl ⊢
  have hl : lv_has ls 4 [(0, .ref (a 0)), (1, .int p0)] := hl
  have hEi : mEi [1] i i := Ei_rf
  have hEr : mEr [] r r := Er_rf
  have hx0 : 0 ≤ (i 1).toInt := (hRi 1).1
  refine lv_aload_n hx hb dX12_draw_0 rfl (lv_at hl 0 rfl) ?_
  refine lv_iload_n hx hb dX12_draw_1 rfl (lv_at hl 1 rfl) ?_
  refine vp_callSi (W.runV (As := [.int p0]) (rest := []) ⟨hx, hb, hml, hown, hT⟩ (c_X12_isHome l D cy a i r rl p0 hRi hRr) (cwV 1 hT (gV t_12 t_13 t_14 t_15 t_6) rfl rfl rfl (by decide +kernel) ⟨Nat.le_of_ble_eq_true rfl, Nat.le_of_ble_eq_true rfl⟩) (rP_v hP hK (va_recv hK hP (ci := 12) (q0 := 0) rfl rfl)) rfl rfl hl.1 rfl (lv_room (Nat.le_of_ble_eq_true rfl)) dX12_draw_2 ⟨Nat.le_of_ble_eq_true rfl, Nat.le_of_ble_eq_true rfl⟩) (fun r_1 hr_1 => ?_)
  have hg_2 : 0 ≤ (i 0).toInt ∧ (i 0).toInt ≤ 6 := hRi 0
  have hr_1 : BR r_1 (0 ≤ p0.toInt ∧ p0.toInt < (i 0).toInt) 1 0 := hr_1
  rcases hr_1 with ⟨rfl, h_3⟩ | ⟨rfl, h_3⟩
  · skip
    refine lv_if_ne (tgt := 10) hx hb dX12_draw_5 (by decide) (fun c_4 => ?_) (fun c_4 => absurd c_4 (by decide))
    refine lv_iconst (v := 1) hx hb dX12_draw_10 (by decide) ?_
    refine lv_istore_n (lv' := [(2, .int 1), (0, .ref (a 0)), (1, .int p0)]) hx hb dX12_draw_11 rfl hl (by decide) rfl (fun ls hl => ?_)
    refine lv_iconst (v := 0) hx hb dX12_draw_12 (by decide) ?_
    refine lv_istore_n (lv' := [(3, .int 0), (2, .int 1), (0, .ref (a 0)), (1, .int p0)]) hx hb dX12_draw_13 rfl hl (by decide) rfl (fun ls hl => ?_)
    have loop_5 : ∀ (n : Nat) (x5_3 : Int32) (x5_2 : Int32) (H : Heap) (locs : List Loc) (ls : Array Slot), (6 - x5_3.toInt).toNat < n → (0 ≤ x5_3.toInt ∧ x5_3.toInt ≤ 6) → (0 ≤ x5_2.toInt ∧ x5_2.toInt ≤ 1) → (dKX r p0 x5_2 ∧ dKA r p0 x5_2 x5_3) → va_P D vwCl (mW cy a i r rl) H → va_D A (mW cy a i r rl) → va_S A s.heap H locs → lv_has ls 4 [(3, .int x5_3), (2, .int x5_2), (0, .ref (a 0)), (1, .int p0)] → W p l e ({ frames := 2, cells := 0, slots := 0, locals := 45 } : Room) s m ([.ref (a 0), .int p0] : List Value).toArray below meth c H locs 0 0 Q (F0 m 14 ls []) := by
      intro n
      induction n with
      | zero =>
        intro x5_3 x5_2 H locs ls hm5 hf5_0 hf5_1 hx5 hP hD hS hl
        exact absurd hm5 (by omega)
      | succ n ih5 =>
        intro x5_3 x5_2 H locs ls hm5 hf5_0 hf5_1 hx5 hP hD hS hl
        refine lv_iload_n hx hb dX12_draw_14 rfl (lv_at hl 0 rfl) ?_
        refine lv_bipush (v := 6) hx hb dX12_draw_15 (by decide) ?_
        refine lv_icmp_ge (tgt := 50) hx hb dX12_draw_17 (by decide) (fun c_6 => ?_) (fun c_6 => ?_)
        · have c_6 : 6 ≤ x5_3.toInt := b_le c_6
          refine lv_iload_n hx hb dX12_draw_50 rfl (lv_at hl 1 rfl) ?_
          refine lv_if_eq (tgt := 57) hx hb dX12_draw_51 (by decide) (fun c_7 => ?_) (fun c_7 => ?_)
          · have c_7 : x5_2.toInt = 0 := b_eq c_7
            obtain ⟨j0, hj0, hk0⟩ := hx5.1 c_7
            have hna : ¬ AKM r p0 := fun h9 => absurd hk0 (h9 j0 hj0)
            refine lv_aload_n hx hb dX12_draw_57 rfl (lv_at hl 2 rfl) ?_
            refine lv_sipush (v := 25173) hx hb dX12_draw_58 (by decide) ?_
            refine lv_aload_n hx hb dX12_draw_61 rfl (lv_at hl 2 rfl) ?_
            refine va_get (D := D) (ci := 12) (v := .int (i 1)) (C := RX12) (T := TX12) (N := 91) hx hb hT iX12 hown hK hP 0 rfl rfl 1 (by decide) (hT _ t_181) (fun _ h9 => h9) rfl dX12_draw_62 ?_
            have hg_8 : 0 ≤ (i 1).toInt ∧ (i 1).toInt ≤ 65535 := hRi 1
            refine lv_imul hx hb dX12_draw_65 ?_
            refine lv_topi (fun v_9 ev_9 => ?_)
            have hv_9 : v_9.toInt = 25173 * (i 1).toInt := by rw [ev_9]; have := b_rg (i 1); exact i_mul (a := 25173) (b := (i 1).toInt) rfl rfl (by omega) (by omega)
            refine lv_sipush (v := 13849) hx hb dX12_draw_66 (by decide) ?_
            refine lv_iadd hx hb dX12_draw_69 ?_
            refine lv_topi (fun v_10 ev_10 => ?_)
            have hv_10 : v_10.toInt = v_9.toInt + 13849 := by rw [ev_10]; have := b_rg v_9; exact i_add (a := v_9.toInt) (b := 13849) rfl rfl (by omega) (by omega)
            refine lv_ldcw (v := 65536) hx hb hown (hT _ t_824) dX12_draw_70 ?_
            refine lv_irem hx hb dX12_draw_73 (by decide) ?_
            refine lv_topi (fun v_11 ev_11 => ?_)
            have hmv_11 : v_11.toInt = v_10.toInt % 65536 := by rw [ev_11, rem_toInt]; exact Int.tmod_eq_emod_of_nonneg (by omega)
            refine va_put (D := D) (ci := 12) (v := .int v_11) (ty := .int) (C := RX12) (T := TX12) (N := 91) hx hb hT iX12 tyX12 tyX12_ok nmX12 hown hK hP hD hS 0 rfl rfl 1 (by decide) (hT _ t_181) (fun _ h9 => h9) rfl (by decide +kernel) rfl rfl (Nat.le_of_ble_eq_true rfl) dX12_draw_74 (fun H locs hP hD hS => ?_)
            rw [mP1] at hP hD
            have hRi := Ri_upd hRi 1 v_11 ⟨by show (0 : Int) ≤ v_11.toInt; omega, by show v_11.toInt ≤ (65535 : Int); omega⟩
            have hEi := Ei_upd hEi 1 v_11 (by decide)
            have loop_12 : ∀ (n : Nat) (i12 : Nat → Int32) (H : Heap) (locs : List Loc) (ls : Array Slot), ((fu j0 (hB + 1) (i12 1).toInt.toNat : Int)).toNat < n → mRi i12 → mEi [1] i i12 → (DPR (KM r p0) (i 1).toInt.toNat (i12 1).toInt.toNat) → va_P D vwCl (mW cy a i12 r rl) H → va_D A (mW cy a i12 r rl) → va_S A s.heap H locs → lv_has ls 4 [(3, .int x5_3), (2, .int x5_2), (0, .ref (a 0)), (1, .int p0)] → W p l e ({ frames := 2, cells := 0, slots := 0, locals := 45 } : Room) s m ([.ref (a 0), .int p0] : List Value).toArray below meth c H locs 0 0 Q (F0 m 77 ls []) := by
              intro n
              induction n with
              | zero =>
                intro i12 H locs ls hm12 hRi hEi hx12 hP hD hS hl
                exact absurd hm12 (by omega)
              | succ n ih12 =>
                intro i12 H locs ls hm12 hRi hEi hx12 hP hD hS hl
                refine lv_aload_n hx hb dX12_draw_77 rfl (lv_at hl 2 rfl) ?_
                refine va_get (D := D) (ci := 12) (v := .ref (a 56)) (C := RX12) (T := TX12) (N := 91) hx hb hT iX12 hown hK hP 0 rfl rfl 70 (by decide) (hT _ t_190) (fun _ h9 => h9) rfl dX12_draw_78 ?_
                refine lv_bipush (v := 6) hx hb dX12_draw_81 (by decide) ?_
                have hx1_12 : 0 ≤ (i12 1).toInt := (hRi 1).1
                have hx2_12 : (i12 1).toInt ≤ 65535 := (hRi 1).2
                refine lv_aload_n hx hb dX12_draw_83 rfl (lv_at hl 2 rfl) ?_
                refine va_get (D := D) (ci := 12) (v := .int (i12 1)) (C := RX12) (T := TX12) (N := 91) hx hb hT iX12 hown hK hP 0 rfl rfl 1 (by decide) (hT _ t_181) (fun _ h9 => h9) rfl dX12_draw_84 ?_
                have hg_13 : 0 ≤ (i12 1).toInt ∧ (i12 1).toInt ≤ 65535 := hRi 1
                refine lv_bipush (v := 6) hx hb dX12_draw_87 (by decide) ?_
                refine lv_irem hx hb dX12_draw_89 (by decide) ?_
                refine lv_topi (fun v_14 ev_14 => ?_)
                have hmv_14 : v_14.toInt = (i12 1).toInt % 6 := by rw [ev_14, rem_toInt]; exact Int.tmod_eq_emod_of_nonneg (by omega)
                refine lv_imul hx hb dX12_draw_90 ?_
                refine lv_topi (fun v_15 ev_15 => ?_)
                have hv_15 : v_15.toInt = 6 * v_14.toInt := by rw [ev_15]; have := b_rg v_14; exact i_mul (a := 6) (b := v_14.toInt) rfl rfl (by omega) (by omega)
                refine lv_iload_n hx hb dX12_draw_91 rfl (lv_at hl 3 rfl) ?_
                refine lv_iadd hx hb dX12_draw_92 ?_
                refine lv_topi (fun v_16 ev_16 => ?_)
                have hv_16 : v_16.toInt = v_15.toInt + p0.toInt := by rw [ev_16]; have := b_rg v_15; have := b_rg p0; exact i_add (a := v_15.toInt) (b := p0.toInt) rfl rfl (by omega) (by omega)
                refine va_zald hx hb hK hP 56 2 rfl rfl (vp_inI (by omega) (by omega)) dX12_draw_93 ?_
                refine lv_topi (fun v_17 ev_17 => ?_)
                have hwv_17 : v_17.toInt = (r 56 (v_16.toNatClampNeg)).toInt := congrArg Int32.toInt ev_17
                refine lv_if_eq (tgt := 120) hx hb dX12_draw_94 (by decide) (fun c_18 => ?_) (fun c_18 => ?_)
                · have c_18 : v_17.toInt = 0 := b_eq c_18
                  refine lv_aload_n hx hb dX12_draw_120 rfl (lv_at hl 2 rfl) ?_
                  refine va_get (D := D) (ci := 12) (v := .int (i12 1)) (C := RX12) (T := TX12) (N := 91) hx hb hT iX12 hown hK hP 0 rfl rfl 1 (by decide) (hT _ t_181) (fun _ h9 => h9) rfl dX12_draw_121 ?_
                  refine lv_bipush (v := 6) hx hb dX12_draw_124 (by decide) ?_
                  refine lv_irem hx hb dX12_draw_126 (by decide) ?_
                  refine lv_topi (fun v_19 ev_19 => ?_)
                  have hmv_19 : v_19.toInt = (i12 1).toInt % 6 := by rw [ev_19, rem_toInt]; exact Int.tmod_eq_emod_of_nonneg (by omega)
                  subst hQ
                  have hi7 := kin_ix hmv_14 hv_15 hv_16 (hRi 1).1 h_3.1
                  have hk7 := KM_n hi7 hwv_17 c_18
                  exact W.iret (v := v_19) hx hb hr (fun t ht hW => ⟨⟨_, (i12, r), rfl, ⟨hRi, hRr, hEi, hEr, ⟨fun h9 => absurd h_3 h9, fun _ h8 => absurd h8 hna, fun _ _ => ⟨⟨hx12, hk7⟩, hmv_19⟩⟩⟩, by rw [ht]; exact hP, va_K.moved hW.alike hK, hD⟩, hS.F ht⟩) hS.2.2 dX12_draw_127
                · have c_18 : v_17.toInt ≠ 0 := b_ne c_18
                  refine lv_aload_n hx hb dX12_draw_97 rfl (lv_at hl 2 rfl) ?_
                  refine lv_sipush (v := 25173) hx hb dX12_draw_98 (by decide) ?_
                  refine lv_aload_n hx hb dX12_draw_101 rfl (lv_at hl 2 rfl) ?_
                  refine va_get (D := D) (ci := 12) (v := .int (i12 1)) (C := RX12) (T := TX12) (N := 91) hx hb hT iX12 hown hK hP 0 rfl rfl 1 (by decide) (hT _ t_181) (fun _ h9 => h9) rfl dX12_draw_102 ?_
                  refine lv_imul hx hb dX12_draw_105 ?_
                  refine lv_topi (fun v_20 ev_20 => ?_)
                  have hv_20 : v_20.toInt = 25173 * (i12 1).toInt := by rw [ev_20]; have := b_rg (i12 1); exact i_mul (a := 25173) (b := (i12 1).toInt) rfl rfl (by omega) (by omega)
                  refine lv_sipush (v := 13849) hx hb dX12_draw_106 (by decide) ?_
                  refine lv_iadd hx hb dX12_draw_109 ?_
                  refine lv_topi (fun v_21 ev_21 => ?_)
                  have hv_21 : v_21.toInt = v_20.toInt + 13849 := by rw [ev_21]; have := b_rg v_20; exact i_add (a := v_20.toInt) (b := 13849) rfl rfl (by omega) (by omega)
                  refine lv_ldcw (v := 65536) hx hb hown (hT _ t_824) dX12_draw_110 ?_
                  refine lv_irem hx hb dX12_draw_113 (by decide) ?_
                  refine lv_topi (fun v_22 ev_22 => ?_)
                  have hmv_22 : v_22.toInt = v_21.toInt % 65536 := by rw [ev_22, rem_toInt]; exact Int.tmod_eq_emod_of_nonneg (by omega)
                  refine va_put (D := D) (ci := 12) (v := .int v_22) (ty := .int) (C := RX12) (T := TX12) (N := 91) hx hb hT iX12 tyX12 tyX12_ok nmX12 hown hK hP hD hS 0 rfl rfl 1 (by decide) (hT _ t_181) (fun _ h9 => h9) rfl (by decide +kernel) rfl rfl (Nat.le_of_ble_eq_true rfl) dX12_draw_114 (fun H locs hP hD hS => ?_)
                  rw [mP1] at hP hD
                  have hRi := Ri_upd hRi 1 v_22 ⟨by show (0 : Int) ≤ v_22.toInt; omega, by show v_22.toInt ≤ (65535 : Int); omega⟩
                  have hEi := Ei_upd hEi 1 v_22 (by decide)
                  refine lv_goto (tgt := 77) hx hb dX12_draw_117 (by decide) ?_
                  have hi7 := kin_ix hmv_14 hv_15 hv_16 hx1_12 h_3.1
                  have hk7 := KM_y hi7 hwv_17 c_18
                  have hne : ¬ (i12 1).toInt.toNat % 6 = j0 := by
                    intro h9
                    have hix : v_16.toNatClampNeg = 6 * j0 + p0.toNatClampNeg := by show v_16.toInt.toNat = 6 * j0 + p0.toInt.toNat; omega
                    rw [hix] at hwv_17
                    omega
                  have hfu : fu j0 (hB + 1) ((upd i12 1 v_22) 1).toInt.toNat + 1 = fu j0 (hB + 1) (i12 1).toInt.toNat := by
                    show fu j0 (hB + 1) v_22.toInt.toNat + 1 = _
                    exact fu_step hj0 (by have h9 : (i12 1).toInt ≤ 65535 := hx2_12; omega) hne (lcg_i hx1_12 hv_20 hv_21 hmv_22)
                  exact ih12 (upd i12 1 v_22) _ _ _ (by first | omega | (simp only [Int.toNat]; omega))  hRi hEi (DPR_s hx12 hk7 (show v_22.toInt.toNat = lcg (i12 1).toInt.toNat from (lcg_i hx1_12 hv_20 hv_21 hmv_22))) hP hD hS (lv_sub hl [0, 1, 2, 3] rfl)
            exact loop_12 _ (upd i 1 v_11) _ _ _ (Nat.lt_succ_self _)  hRi hEi (DPR_0 (show v_11.toInt.toNat = lcg (i 1).toInt.toNat from (lcg_i hx0 hv_9 hv_10 hmv_11))) hP hD hS hl
          · have c_7 : x5_2.toInt ≠ 0 := b_ne c_7
            refine lv_bipush (v := (-2)) hx hb dX12_draw_54 (by decide) ?_
            subst hQ
            have hal : AKM r p0 := fun j hj => hx5.2 c_7 j (by omega)
            exact W.iret (v := (-2)) hx hb hr (fun t ht hW => ⟨⟨_, (i, r), rfl, ⟨hRi, hRr, hEi, hEr, ⟨fun h9 => absurd h_3 h9, fun _ _ => ⟨rfl, Ei_rf⟩, fun _ h8 => absurd hal h8⟩⟩, by rw [ht]; exact hP, va_K.moved hW.alike hK, hD⟩, hS.F ht⟩) hS.2.2 dX12_draw_56
        · have c_6 : x5_3.toInt < 6 := b_nle c_6
          refine lv_iload_n hx hb dX12_draw_20 rfl (lv_at hl 1 rfl) ?_
          refine lv_if_eq (tgt := 42) hx hb dX12_draw_21 (by decide) (fun c_23 => ?_) (fun c_23 => ?_)
          · have c_23 : x5_2.toInt = 0 := b_eq c_23
            refine lv_iconst (v := 0) hx hb dX12_draw_42 (by decide) ?_
            refine lv_istore_n (lv' := [(2, .int 0), (3, .int x5_3), (0, .ref (a 0)), (1, .int p0)]) hx hb dX12_draw_43 rfl hl (by decide) rfl (fun ls hl => ?_)
            obtain ⟨x_24, ex_24⟩ : ∃ y : Int32, y = x5_3 + 1 := ⟨_, rfl⟩
            refine lv_iinc (v := x_24) (lv' := [(3, .int x_24), (2, .int 0), (0, .ref (a 0)), (1, .int p0)]) hx hb dX12_draw_44 hl (k := 1) rfl (by rw [ex_24]; rfl) (by decide) rfl (fun ls hl => ?_)
            have hx_24 : x_24.toInt = x5_3.toInt + 1 := by rw [ex_24]; have := b_rg x5_3; exact i_add (a := x5_3.toInt) (b := 1) rfl rfl (by omega) (by omega)
            refine lv_goto (tgt := 14) hx hb dX12_draw_47 (by decide) ?_
            exact ih5 x_24 0 _ _ _ (by first | omega | (simp only [Int.toNat]; omega)) (by first | omega | decide) (by first | omega | decide)  ⟨fun _ => hx5.1 c_23, (fun h9 => absurd rfl h9)⟩ hP hD hS (lv_sub hl [0, 1, 2, 3] rfl)
          · have c_23 : x5_2.toInt ≠ 0 := b_ne c_23
            refine lv_aload_n hx hb dX12_draw_24 rfl (lv_at hl 2 rfl) ?_
            refine va_get (D := D) (ci := 12) (v := .ref (a 56)) (C := RX12) (T := TX12) (N := 91) hx hb hT iX12 hown hK hP 0 rfl rfl 70 (by decide) (hT _ t_190) (fun _ h9 => h9) rfl dX12_draw_25 ?_
            refine lv_bipush (v := 6) hx hb dX12_draw_28 (by decide) ?_
            refine lv_iload_n hx hb dX12_draw_30 rfl (lv_at hl 0 rfl) ?_
            refine lv_imul hx hb dX12_draw_31 ?_
            refine lv_topi (fun v_25 ev_25 => ?_)
            have hv_25 : v_25.toInt = 6 * x5_3.toInt := by rw [ev_25]; have := b_rg x5_3; exact i_mul (a := 6) (b := x5_3.toInt) rfl rfl (by omega) (by omega)
            refine lv_iload_n hx hb dX12_draw_32 rfl (lv_at hl 3 rfl) ?_
            refine lv_iadd hx hb dX12_draw_33 ?_
            refine lv_topi (fun v_26 ev_26 => ?_)
            have hv_26 : v_26.toInt = v_25.toInt + p0.toInt := by rw [ev_26]; have := b_rg v_25; have := b_rg p0; exact i_add (a := v_25.toInt) (b := p0.toInt) rfl rfl (by omega) (by omega)
            refine va_zald hx hb hK hP 56 2 rfl rfl (vp_inI (by omega) (by omega)) dX12_draw_34 ?_
            refine lv_topi (fun v_27 ev_27 => ?_)
            have hwv_27 : v_27.toInt = (r 56 (v_26.toNatClampNeg)).toInt := congrArg Int32.toInt ev_27
            refine lv_if_eq (tgt := 42) hx hb dX12_draw_35 (by decide) (fun c_28 => ?_) (fun c_28 => ?_)
            · have c_28 : v_27.toInt = 0 := b_eq c_28
              refine lv_iconst (v := 0) hx hb dX12_draw_42 (by decide) ?_
              refine lv_istore_n (lv' := [(2, .int 0), (3, .int x5_3), (0, .ref (a 0)), (1, .int p0)]) hx hb dX12_draw_43 rfl hl (by decide) rfl (fun ls hl => ?_)
              obtain ⟨x_29, ex_29⟩ : ∃ y : Int32, y = x5_3 + 1 := ⟨_, rfl⟩
              refine lv_iinc (v := x_29) (lv' := [(3, .int x_29), (2, .int 0), (0, .ref (a 0)), (1, .int p0)]) hx hb dX12_draw_44 hl (k := 1) rfl (by rw [ex_29]; rfl) (by decide) rfl (fun ls hl => ?_)
              have hx_29 : x_29.toInt = x5_3.toInt + 1 := by rw [ex_29]; have := b_rg x5_3; exact i_add (a := x5_3.toInt) (b := 1) rfl rfl (by omega) (by omega)
              refine lv_goto (tgt := 14) hx hb dX12_draw_47 (by decide) ?_
              have hix : v_26.toNatClampNeg = 6 * x5_3.toNatClampNeg + p0.toNatClampNeg := by show v_26.toInt.toNat = 6 * x5_3.toInt.toNat + p0.toInt.toNat; omega
              exact ih5 x_29 0 _ _ _ (by first | omega | (simp only [Int.toNat]; omega)) (by first | omega | decide) (by first | omega | decide)  ⟨fun _ => ⟨x5_3.toNatClampNeg, by show x5_3.toInt.toNat < 6; omega, by rw [← hix]; omega⟩, (fun h9 => absurd rfl h9)⟩ hP hD hS (lv_sub hl [0, 1, 2, 3] rfl)
            · have c_28 : v_27.toInt ≠ 0 := b_ne c_28
              refine lv_iconst (v := 1) hx hb dX12_draw_38 (by decide) ?_
              refine lv_goto (tgt := 43) hx hb dX12_draw_39 (by decide) ?_
              refine lv_istore_n (lv' := [(2, .int 1), (3, .int x5_3), (0, .ref (a 0)), (1, .int p0)]) hx hb dX12_draw_43 rfl hl (by decide) rfl (fun ls hl => ?_)
              obtain ⟨x_30, ex_30⟩ : ∃ y : Int32, y = x5_3 + 1 := ⟨_, rfl⟩
              refine lv_iinc (v := x_30) (lv' := [(3, .int x_30), (2, .int 1), (0, .ref (a 0)), (1, .int p0)]) hx hb dX12_draw_44 hl (k := 1) rfl (by rw [ex_30]; rfl) (by decide) rfl (fun ls hl => ?_)
              have hx_30 : x_30.toInt = x5_3.toInt + 1 := by rw [ex_30]; have := b_rg x5_3; exact i_add (a := x5_3.toInt) (b := 1) rfl rfl (by omega) (by omega)
              refine lv_goto (tgt := 14) hx hb dX12_draw_47 (by decide) ?_
              have hix : v_26.toNatClampNeg = 6 * x5_3.toNatClampNeg + p0.toNatClampNeg := by show v_26.toInt.toNat = 6 * x5_3.toInt.toNat + p0.toInt.toNat; omega
              have hkm : KM r p0 x5_3.toNatClampNeg := by unfold KM; rw [← hix]; omega
              exact ih5 x_30 1 _ _ _ (by first | omega | (simp only [Int.toNat]; omega)) (by first | omega | decide) (by first | omega | decide)  ⟨fun h9 => absurd h9 (by decide), dKA_s hx5.2 c_23 hx_30 (by omega) hkm⟩ hP hD hS (lv_sub hl [0, 1, 2, 3] rfl)
    exact loop_5 _ 0 1 _ _ _ (Nat.lt_succ_self _) (by first | omega | decide) (by first | omega | decide)  ⟨fun h9 => absurd h9 (by decide), fun _ j hj => absurd hj (by have h8 : (0 : Int32).toInt = 0 := rfl; omega)⟩ hP hD hS hl
  · skip
    refine lv_if_ne (tgt := 10) hx hb dX12_draw_5 (by decide) (fun c_31 => absurd (by decide) c_31) (fun c_31 => ?_)
    refine lv_iconst (v := (-1)) hx hb dX12_draw_8 (by decide) ?_
    subst hQ
    exact W.iret (v := (-1)) hx hb hr (fun t ht hW => ⟨⟨_, (i, r), rfl, ⟨hRi, hRr, hEi, hEr, ⟨fun _ => ⟨rfl, Ei_rf⟩, fun h9 => absurd h9 h_3, fun h9 => absurd h9 h_3⟩⟩, by rw [ht]; exact hP, va_K.moved hW.alike hK, hD⟩, hS.F ht⟩) hS.2.2 dX12_draw_9
set_option maxHeartbeats 4000000 in
set_option maxRecDepth 100000 in
theorem c_X3_allAreKin9 (l : Launch) (D : va_G) (cy : Nat → ClassId) (a : Nat → Nat) (i : Nat → Int32) (r : Nat → Nat → Int32) (q : Nat → Option Nat) (tl : va_W) (hRi : yRi i) (hRr : yRr r) : Met l yX3_allAreKin (Cond.code yX3_allAreKin cX3_allAreKin 2 (some .boolean) :: gT) { frames := 1, cells := 0, slots := 0, locals := 24 } (va_Pc [.ref (a 61)] (rP D cy (xW cy a i r q (a 20) (a 12) ++ (hW cy a i r ++ tl)))) (vp_Si (fun z => BR z (AKX r) 1 0)) 0 0 (fun _ => False) := by
  refine Met.ofQ (cc := cX3_allAreKin) (maxL := 2) (ret := (some .boolean)) (by decide) rfl ?_
  intro p e s m args below meth c s₁ B hml hv Q hQ
  obtain ⟨rfl, hP, hK⟩ := hv
  have hx := B.exec
  have hb := B.bytes
  have hr := B.returns
  have hlocks := B.notSynchronized
  have hT : ∀ w ∈ gT, w.before _ s = true := fun w h => atoms_spec (ws := (Cond.code yX3_allAreKin cX3_allAreKin 2 (some .boolean) :: gT)) B.pre w (List.mem_cons_of_mem _ h)
  have hown : s.vm.findClass RX3 = some m.cls := findClass_of_methodNamed B.named
  have hl := lv_entry ([.ref (a 61)]) (n := 2) (Nat.le_of_ble_eq_true rfl)
  rw [lg_entry_eq]
  generalize (lg_sl ([.ref (a 61)]) ++ List.replicate (2 - (lg_sl ([.ref (a 61)])).length) Slot.unset).toArray = ls at hl ⊢
  have hl : lv_has ls 2 [(0, .ref (a 61))] := hl
  have hEi : mEi [] i i := Ei_rf
  have hEr : mEr [] r r := Er_rf
  refine lv_iconst (v := 0) hx hb dX3_allAreKin_0 (by decide) ?_
  refine lv_istore_n (lv' := [(1, .int 0), (0, .ref (a 61))]) hx hb dX3_allAreKin_1 rfl hl (by decide) rfl (fun ls hl => ?_)
  have loop_1 : ∀ (n : Nat) (x1_1 : Int32) (ls : Array Slot), (6 - x1_1.toInt).toNat < n → (0 ≤ x1_1.toInt ∧ x1_1.toInt ≤ 6) → (AKP r x1_1) → lv_has ls 2 [(1, .int x1_1), (0, .ref (a 61))] → W p l e ({ frames := 1, cells := 0, slots := 0, locals := 24 } : Room) s m ([.ref (a 61)] : List Value).toArray below meth c s.heap [] 0 0 Q (F0 m 2 ls []) := by
    intro n
    induction n with
    | zero =>
      intro x1_1 ls hm1 hf1_0 hx1 hl
      exact absurd hm1 (by omega)
    | succ n ih1 =>
      intro x1_1 ls hm1 hf1_0 hx1 hl
      refine lv_iload_n hx hb dX3_allAreKin_2 rfl (lv_at hl 0 rfl) ?_
      refine lv_bipush (v := 6) hx hb dX3_allAreKin_3 (by decide) ?_
      refine lv_icmp_ge (tgt := 25) hx hb dX3_allAreKin_5 (by decide) (fun c_2 => ?_) (fun c_2 => ?_)
      · have c_2 : 6 ≤ x1_1.toInt := b_le c_2
        refine lv_iconst (v := 1) hx hb dX3_allAreKin_25 (by decide) ?_
        subst hQ
        exact W.zret hx hb hr rfl (fun t ht hW => ⟨_, rfl, Or.inl ⟨rfl, fun j hj => hx1 j (by omega)⟩, ht⟩) (fun q hq => absurd hq List.not_mem_nil) dX3_allAreKin_26
      · have c_2 : x1_1.toInt < 6 := b_nle c_2
        refine lv_aload_n hx hb dX3_allAreKin_8 rfl (lv_at hl 1 rfl) ?_
        refine va_get (D := D) (ci := 3) (v := .ref (a 64)) (C := RX3) (T := TX3) (N := 12) hx hb hT iX3 hown hK hP 61 rfl rfl 8 (by decide) (hT _ t_386) (fun _ h9 => h9) rfl dX3_allAreKin_9 ?_
        refine lv_iload_n hx hb dX3_allAreKin_12 rfl (lv_at hl 0 rfl) ?_
        refine va_zald hx hb hK hP 64 2 rfl rfl (vp_inI (by omega) (by omega)) dX3_allAreKin_13 ?_
        refine lv_topi (fun v_3 ev_3 => ?_)
        have hwv_3 : v_3.toInt = (r 64 (x1_1.toNatClampNeg)).toInt := congrArg Int32.toInt ev_3
        refine lv_if_ne (tgt := 19) hx hb dX3_allAreKin_14 (by decide) (fun c_4 => ?_) (fun c_4 => ?_)
        · have c_4 : v_3.toInt ≠ 0 := b_ne c_4
          obtain ⟨x_5, ex_5⟩ : ∃ y : Int32, y = x1_1 + 1 := ⟨_, rfl⟩
          refine lv_iinc (v := x_5) (lv' := [(1, .int x_5), (0, .ref (a 61))]) hx hb dX3_allAreKin_19 hl (k := 0) rfl (by rw [ex_5]; rfl) (by decide) rfl (fun ls hl => ?_)
          have hx_5 : x_5.toInt = x1_1.toInt + 1 := by rw [ex_5]; have := b_rg x1_1; exact i_add (a := x1_1.toInt) (b := 1) rfl rfl (by omega) (by omega)
          refine lv_goto (tgt := 2) hx hb dX3_allAreKin_22 (by decide) ?_
          exact ih1 x_5 _ (by first | omega | (simp only [Int.toNat]; omega)) (by first | omega | decide)  (AKP_s hx1 hx_5 (by omega) (by omega))  (lv_sub hl [0, 1] rfl)
        · have c_4 : v_3.toInt = 0 := b_nne c_4
          refine lv_iconst (v := 0) hx hb dX3_allAreKin_17 (by decide) ?_
          subst hQ
          exact W.zret hx hb hr rfl (fun t ht hW => ⟨_, rfl, Or.inr ⟨rfl, fun h9 => absurd (show (r 64 x1_1.toNatClampNeg).toInt = 0 by omega) (h9 _ (show x1_1.toInt.toNat < 6 by omega))⟩, ht⟩) (fun q hq => absurd hq List.not_mem_nil) dX3_allAreKin_18
  exact loop_1 _ 0 _ (Nat.lt_succ_self _) (by first | omega | decide)  AKP_0  hl
set_option maxHeartbeats 4000000 in
set_option maxRecDepth 100000 in
theorem c_X11_draw.y9 (l : Launch) (D : va_G) (cy : Nat → ClassId) (a : Nat → Nat) (i : Nat → Int32) (r : Nat → Nat → Int32) (q : Nat → Option Nat) (tl : va_W) (p0 : Int32) (sz : Nat) (hRi : yRi i) (hRr : yRr r) (hh : 0 ≤ p0.toInt ∧ p0.toInt < (i 0).toInt) (hq : q p0.toNatClampNeg = some (a 61)) : Met l yX11_draw (Cond.code yX11_draw cX11_draw 5 (some .int) :: gT) { frames := 3, cells := 0, slots := 0, locals := 67 } (va_Pc [.ref (a 0), .int p0] (rQ D cy (xW cy a i r q (a 20) (a 12) ++ (hW cy a i r ++ tl)) sz)) (va_Qi (fun (z : Int32) (u : (Nat → Int32) × (Nat → Nat → Int32)) => yRi u.1 ∧ yRr u.2 ∧ mEi [11] i u.1 ∧ mEr [] r u.2 ∧ ((AKX r → z = -2 ∧ mEi [] i u.1) ∧ (¬ AKX r → DRW (KX r) (i 11).toInt.toNat (u.1 11).toInt.toNat ∧ z.toInt = (u.1 11).toInt % 6))) (fun (u : (Nat → Int32) × (Nat → Nat → Int32)) t => va_P D vwCl (xW cy a u.1 u.2 q (a 20) (a 12) ++ (hW cy a u.1 u.2 ++ tl)) t.heap ∧ va_K D vwCl (vT cy) t ∧ va_D (va_A (xW cy a i r q (a 20) (a 12) ++ (hW cy a i r ++ tl)) sz) (xW cy a u.1 u.2 q (a 20) (a 12) ++ (hW cy a u.1 u.2 ++ tl))) (va_A (xW cy a i r q (a 20) (a 12) ++ (hW cy a i r ++ tl)) sz)) 0 0 (va_A (xW cy a i r q (a 20) (a 12) ++ (hW cy a i r ++ tl)) sz) := by
  refine Met.ofQ (cc := cX11_draw) (maxL := 5) (ret := (some .int)) (by decide) rfl ?_
  intro p e s m args below meth c s₁ B hml hv Q hQ
  obtain ⟨rfl, hsz, hP, hK, hD0⟩ := hv
  have hx := B.exec
  have hb := B.bytes
  have hr := B.returns
  have hlocks := B.notSynchronized
  have hT : ∀ w ∈ gT, w.before _ s = true := fun w h => atoms_spec (ws := (Cond.code yX11_draw cX11_draw 5 (some .int) :: gT)) B.pre w (List.mem_cons_of_mem _ h)
  have hown : s.vm.findClass RX11 = some m.cls := findClass_of_methodNamed B.named
  subst hsz
  have hD := hD0.self (sz := s.heap.size)
  generalize hAe : va_A (xW cy a i r q (a 20) (a 12) ++ (hW cy a i r ++ tl)) s.heap.size = A at hD hQ
  have hA : ∀ q : Nat, s.heap.size ≤ q → A q := fun q h => by rw [← hAe]; exact Or.inr h
  have hS : va_S A s.heap s.heap [] := va_S.rf
  have hl := lv_entry ([.ref (a 0), .int p0]) (n := 5) (Nat.le_of_ble_eq_true rfl)
  rw [lg_entry_eq]
  generalize (lg_sl ([.ref (a 0), .int p0]) ++ List.replicate (5 - (lg_sl ([.ref (a 0), .int p0])).length) Slot.unset).toArray = ls at hl ⊢
  have hl : lv_has ls 5 [(0, .ref (a 0)), (1, .int p0)] := hl
  have hEi : mEi [11] i i := Ei_rf
  have hEr : mEr [] r r := Er_rf
  have hg0 : 0 ≤ (i 0).toInt ∧ (i 0).toInt ≤ 6 := hRi 0
  refine lv_aload_n hx hb dX11_draw_0 rfl (lv_at hl 0 rfl) ?_
  refine lv_iload_n hx hb dX11_draw_1 rfl (lv_at hl 1 rfl) ?_
  refine va_csq (W.runV (As := [.int p0]) (rest := []) ⟨hx, hb, hml, hown, hT⟩ (c_X11_homeAt l D cy a i r q (hW cy a i r ++ tl) p0 hRi hRr) (cwV 1 hT (gV t_443 t_444 t_445 t_446 t_2) rfl rfl rfl (by decide +kernel) ⟨Nat.le_of_ble_eq_true rfl, Nat.le_of_ble_eq_true rfl⟩) (rP_v hP hK (va_recv hK hP (ci := 11) (q0 := 0) rfl rfl)) rfl rfl hl.1 rfl (lv_room (Nat.le_of_ble_eq_true rfl)) dX11_draw_2 ⟨Nat.le_of_ble_eq_true rfl, Nat.le_of_ble_eq_true rfl⟩) (fun r_1 hr_1 => ?_)
  obtain rfl : r_1 = some (a 61) := (hr_1.1 hh).trans hq
  refine W.eq (g2 := F0 m 5 ls [.ref (a 61)]) rfl ?_
  refine lv_astore_n (lv' := [(2, .ref (a 61)), (0, .ref (a 0)), (1, .int p0)]) hx hb dX11_draw_5 rfl hl (by decide) rfl (fun ls hl => ?_)
  refine lv_aload_n hx hb dX11_draw_6 rfl (lv_at hl 0 rfl) ?_
  refine lv_ifnonnull (tgt := 12) hx hb dX11_draw_7 (by decide) ?_
  refine lv_aload_n hx hb dX11_draw_12 rfl (lv_at hl 0 rfl) ?_
  refine vp_callSi (W.runV (As := []) (rest := []) ⟨hx, hb, hml, hown, hT⟩ (c_X3_allAreKin9 l D cy a i r q tl hRi hRr) (cwV 0 hT (gV t_487 t_488 t_489 t_490 t_391) rfl rfl rfl (by decide +kernel) ⟨Nat.le_of_ble_eq_true rfl, Nat.le_of_ble_eq_true rfl⟩) (rP_v hP hK (va_recv hK hP (ci := 3) (q0 := 61) rfl rfl)) rfl rfl hl.1 rfl (lv_room (Nat.le_of_ble_eq_true rfl)) dX11_draw_13 ⟨Nat.le_of_ble_eq_true rfl, Nat.le_of_ble_eq_true rfl⟩) (fun r_2 hr_2 => ?_)
  have hr_2 : BR r_2 (AKX r) 1 0 := hr_2
  rcases hr_2 with ⟨rfl, h_3⟩ | ⟨rfl, h_3⟩
  · skip
    refine lv_if_eq (tgt := 22) hx hb dX11_draw_16 (by decide) (fun c_4 => absurd c_4 (by decide)) (fun c_4 => ?_)
    refine lv_bipush (v := (-2)) hx hb dX11_draw_19 (by decide) ?_
    subst hQ
    exact W.iret (v := (-2)) hx hb hr (fun t ht hW => ⟨⟨_, (i, r), rfl, ⟨hRi, hRr, hEi, hEr, ⟨fun _ => ⟨rfl, Ei_rf⟩, fun h9 => absurd h_3 h9⟩⟩, by rw [ht]; exact hP, va_K.moved hW.alike hK, hD⟩, hS.F ht⟩) hS.2.2 dX11_draw_21
  · skip
    refine lv_if_eq (tgt := 22) hx hb dX11_draw_16 (by decide) (fun c_5 => ?_) (fun c_5 => absurd (by decide) c_5)
    refine lv_aload_n hx hb dX11_draw_22 rfl (lv_at hl 1 rfl) ?_
    refine va_get (D := D) (ci := 11) (v := .ref (a 29)) (C := RX11) (T := TX11) (N := 14) hx hb hT iX11 hown hK hP 0 rfl rfl 8 (by decide) (hT _ t_265) (fun _ h9 => h9) rfl dX11_draw_23 ?_
    refine va_get (D := D) (ci := 1) (v := .int (i 11)) (C := RX1) (T := TX1) (N := 12) hx hb hT iX1 hown hK hP 29 rfl rfl 11 (by decide) (hT _ t_272) (fun _ h9 => h9) rfl dX11_draw_26 ?_
    have hg_6 : 0 ≤ (i 11).toInt ∧ (i 11).toInt ≤ 65535 := hRi 11
    refine lv_istore_n (lv' := [(3, .int (i 11)), (2, .ref (a 61)), (0, .ref (a 0)), (1, .int p0)]) hx hb dX11_draw_29 rfl hl (by decide) rfl (fun ls hl => ?_)
    refine lv_iconst (v := 0) hx hb dX11_draw_30 (by decide) ?_
    refine lv_istore (lv' := [(4, .int 0), (3, .int (i 11)), (2, .ref (a 61)), (0, .ref (a 0)), (1, .int p0)]) hx hb dX11_draw_31 hl (by decide) rfl (fun ls hl => ?_)
    have loop_7 : ∀ (n : Nat) (x7_4 : Int32) (x7_3 : Int32) (H : Heap) (locs : List Loc) (ls : Array Slot), (65536 - x7_4.toInt).toNat < n → (0 ≤ x7_4.toInt ∧ x7_4.toInt ≤ 65536) → (0 ≤ x7_3.toInt ∧ x7_3.toInt ≤ 65535) → (CPR (KX r) (i 11).toInt.toNat x7_3 x7_4) → va_P D vwCl (xW cy a i r q (a 20) (a 12) ++ (hW cy a i r ++ tl)) H → va_D A (xW cy a i r q (a 20) (a 12) ++ (hW cy a i r ++ tl)) → va_S A s.heap H locs → lv_has ls 5 [(4, .int x7_4), (3, .int x7_3), (2, .ref (a 61)), (0, .ref (a 0)), (1, .int p0)] → W p l e ({ frames := 3, cells := 0, slots := 0, locals := 67 } : Room) s m ([.ref (a 0), .int p0] : List Value).toArray below meth c H locs 0 0 Q (F0 m 33 ls []) := by
      intro n
      induction n with
      | zero =>
        intro x7_4 x7_3 H locs ls hm7 hf7_0 hf7_1 hx7 hP hD hS hl
        exact absurd hm7 (by omega)
      | succ n ih7 =>
        intro x7_4 x7_3 H locs ls hm7 hf7_0 hf7_1 hx7 hP hD hS hl
        refine lv_iload hx hb dX11_draw_33 (lv_at hl 0 rfl) ?_
        refine lv_ldcw (v := 65536) hx hb hown (hT _ t_491) dX11_draw_35 ?_
        refine lv_icmp_ge (tgt := 86) hx hb dX11_draw_38 (by decide) (fun c_8 => ?_) (fun c_8 => ?_)
        · have c_8 : 65536 ≤ x7_4.toInt := b_le c_8
          refine lv_bipush (v := (-2)) hx hb dX11_draw_86 (by decide) ?_
          subst hQ
          obtain ⟨j0, hj0, hk0⟩ := AKX_no h_3
          exact W.iret (v := (-2)) hx hb hr (fun t ht hW => ⟨⟨_, (i, r), rfl, ⟨hRi, hRr, hEi, hEr, (CPR_no hx7 (by omega) hj0 hk0).elim⟩, by rw [ht]; exact hP, va_K.moved hW.alike hK, hD⟩, hS.F ht⟩) hS.2.2 dX11_draw_88
        · have c_8 : x7_4.toInt < 65536 := b_nle c_8
          refine lv_sipush (v := 25173) hx hb dX11_draw_41 (by decide) ?_
          refine lv_iload_n hx hb dX11_draw_44 rfl (lv_at hl 1 rfl) ?_
          refine lv_imul hx hb dX11_draw_45 ?_
          refine lv_topi (fun v_9 ev_9 => ?_)
          have hv_9 : v_9.toInt = 25173 * x7_3.toInt := by rw [ev_9]; have := b_rg x7_3; exact i_mul (a := 25173) (b := x7_3.toInt) rfl rfl (by omega) (by omega)
          refine lv_sipush (v := 13849) hx hb dX11_draw_46 (by decide) ?_
          refine lv_iadd hx hb dX11_draw_49 ?_
          refine lv_topi (fun v_10 ev_10 => ?_)
          have hv_10 : v_10.toInt = v_9.toInt + 13849 := by rw [ev_10]; have := b_rg v_9; exact i_add (a := v_9.toInt) (b := 13849) rfl rfl (by omega) (by omega)
          refine lv_ldcw (v := 65535) hx hb hown (hT _ t_271) dX11_draw_50 ?_
          refine lv_iand hx hb dX11_draw_53 ?_
          refine lv_topi (fun v_11 ev_11 => ?_)
          have hmv_11 : 0 ≤ v_11.toInt ∧ v_11.toInt ≤ 65535 := by rw [ev_11]; exact b_andm v_10 16 (by decide) (by decide)
          have hsv_11 : v_11.toInt = v_10.toInt % 65536 := by rw [ev_11]; exact b_and16 (by omega)
          refine lv_istore_n (lv' := [(3, .int v_11), (4, .int x7_4), (2, .ref (a 61)), (0, .ref (a 0)), (1, .int p0)]) hx hb dX11_draw_54 rfl hl (by decide) rfl (fun ls hl => ?_)
          refine lv_aload_n hx hb dX11_draw_55 rfl (lv_at hl 2 rfl) ?_
          refine va_get (D := D) (ci := 3) (v := .ref (a 64)) (C := RX3) (T := TX3) (N := 12) hx hb hT iX3 hown hK hP 61 rfl rfl 8 (by decide) (hT _ t_478) (fun _ h9 => h9) rfl dX11_draw_56 ?_
          refine lv_iload_n hx hb dX11_draw_59 rfl (lv_at hl 0 rfl) ?_
          refine lv_bipush (v := 6) hx hb dX11_draw_60 (by decide) ?_
          refine lv_irem hx hb dX11_draw_62 (by decide) ?_
          refine lv_topi (fun v_12 ev_12 => ?_)
          have hmv_12 : v_12.toInt = v_11.toInt % 6 := by rw [ev_12, rem_toInt]; exact Int.tmod_eq_emod_of_nonneg (by omega)
          refine va_zald hx hb hK hP 64 2 rfl rfl (vp_inI (by omega) (by omega)) dX11_draw_63 ?_
          refine lv_topi (fun v_13 ev_13 => ?_)
          have hwv_13 : v_13.toInt = (r 64 (v_12.toNatClampNeg)).toInt := congrArg Int32.toInt ev_13
          refine lv_if_ne (tgt := 80) hx hb dX11_draw_64 (by decide) (fun c_14 => ?_) (fun c_14 => ?_)
          · have c_14 : v_13.toInt ≠ 0 := b_ne c_14
            obtain ⟨x_15, ex_15⟩ : ∃ y : Int32, y = x7_4 + 1 := ⟨_, rfl⟩
            refine lv_iinc (v := x_15) (lv' := [(4, .int x_15), (3, .int v_11), (2, .ref (a 61)), (0, .ref (a 0)), (1, .int p0)]) hx hb dX11_draw_80 hl (k := 1) rfl (by rw [ex_15]; rfl) (by decide) rfl (fun ls hl => ?_)
            have hx_15 : x_15.toInt = x7_4.toInt + 1 := by rw [ex_15]; have := b_rg x7_4; exact i_add (a := x7_4.toInt) (b := 1) rfl rfl (by omega) (by omega)
            refine lv_goto (tgt := 33) hx hb dX11_draw_83 (by decide) ?_
            have hi7 := mod6_ix hmv_12 hmv_11.1
            have hk7 := KX_y hi7 hwv_13 c_14
            exact ih7 x_15 v_11 _ _ _ (by first | omega | (simp only [Int.toNat]; omega)) (by first | omega | decide) (by first | omega | decide)  (CPR_s hx7 (lcg_i hf7_1.1 hv_9 hv_10 hsv_11) hk7 hx_15) hP hD hS (lv_sub hl [0, 1, 2, 3, 4] rfl)
          · have c_14 : v_13.toInt = 0 := b_nne c_14
            refine lv_aload_n hx hb dX11_draw_67 rfl (lv_at hl 3 rfl) ?_
            refine va_get (D := D) (ci := 11) (v := .ref (a 29)) (C := RX11) (T := TX11) (N := 14) hx hb hT iX11 hown hK hP 0 rfl rfl 8 (by decide) (hT _ t_265) (fun _ h9 => h9) rfl dX11_draw_68 ?_
            refine lv_iload_n hx hb dX11_draw_71 rfl (lv_at hl 0 rfl) ?_
            refine va_put (D := D) (ci := 1) (v := .int v_11) (ty := .int) (C := RX1) (T := TX1) (N := 12) hx hb hT iX1 tyX1 tyX1_ok nmX1 hown hK hP hD hS 29 rfl rfl 11 (by decide) (hT _ t_272) (fun _ h9 => h9) rfl (by decide +kernel) rfl rfl (Nat.le_of_ble_eq_true rfl) dX11_draw_72 (fun H locs hP hD hS => ?_)
            rw [yP11] at hP hD
            have hRi := Yi_upd hRi 11 v_11 ⟨by show (0 : Int) ≤ v_11.toInt; omega, by show v_11.toInt ≤ (65535 : Int); omega⟩
            have hEi := Ei_upd hEi 11 v_11 (by decide)
            refine lv_iload_n hx hb dX11_draw_75 rfl (lv_at hl 0 rfl) ?_
            refine lv_bipush (v := 6) hx hb dX11_draw_76 (by decide) ?_
            refine lv_irem hx hb dX11_draw_78 (by decide) ?_
            refine lv_topi (fun v_16 ev_16 => ?_)
            have hmv_16 : v_16.toInt = v_11.toInt % 6 := by rw [ev_16, rem_toInt]; exact Int.tmod_eq_emod_of_nonneg (by omega)
            subst hQ
            have hi7 := mod6_ix hmv_12 hmv_11.1
            have hk7 := KX_n hi7 hwv_13 c_14
            exact W.iret (v := v_16) hx hb hr (fun t ht hW => ⟨⟨_, (upd i 11 v_11, r), rfl, ⟨hRi, hRr, hEi, hEr, ⟨fun h9 => absurd h9 h_3, fun _ => ⟨CPR_d hx7 (lcg_i hf7_1.1 hv_9 hv_10 hsv_11) hk7, (hmv_16 : v_16.toInt = v_11.toInt % 6)⟩⟩⟩, by rw [ht]; exact hP, va_K.moved hW.alike hK, hD⟩, hS.F ht⟩) hS.2.2 dX11_draw_79
    exact loop_7 _ 0 (i 11) _ _ _ (Nat.lt_succ_self _) (by first | omega | decide) (by first | omega | decide)  CPR_0 hP hD hS hl
