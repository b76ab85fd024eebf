/-- the numbers of the draw, one after the other -/
def itN : Nat → Nat → Nat
  | 0, x => x
  | n + 1, x => lcg (itN n x)
theorem itN_in : ∀ n x, itN n (lcg x) = itN (n + 1) x := by
  intro n
  induction n with
  | zero => intro x; rfl
  | succ n ih => intro x; show lcg (itN n (lcg x)) = lcg (itN (n + 1) x); rw [ih]
theorem hits_it {j : Nat} : ∀ n x, hits j n x = true → ∃ m, m < n ∧ itN m x % 6 = j := by
  intro n
  induction n with
  | zero => intro x h; exact absurd (show false = true from h) (by decide)
  | succ n ih =>
    intro x h
    have h0 : (Nat.beq (x % 6) j || hits j n (lcg x)) = true := h
    rcases Bool.or_eq_true_iff.mp h0 with h1 | h1
    · exact ⟨0, by omega, Nat.eq_of_beq_eq_true h1⟩
    · obtain ⟨m, hm, e⟩ := ih _ h1
      exact ⟨m + 1, by omega, by rw [← itN_in]; exact e⟩
def DPR (kin : Nat → Prop) (x y : Nat) : Prop := ∃ n, y = itN (n + 1) x ∧ ∀ m, m < n → kin (itN (m + 1) x % 6)
def DRW (kin : Nat → Prop) (x y : Nat) : Prop := DPR kin x y ∧ ¬ kin (y % 6)
def CPR (kin : Nat → Prop) (x : Nat) (y n : Int32) : Prop := ∃ k : Nat, n.toInt = (k : Int) ∧ y.toInt.toNat = itN k x ∧ ∀ m, m < k → kin (itN (m + 1) x % 6)
theorem CPR_0 {kin : Nat → Prop} {x : Int32} : CPR kin x.toInt.toNat x 0 := ⟨0, rfl, rfl, fun m hm => absurd hm (Nat.not_lt_zero m)⟩
theorem CPR_s {kin : Nat → Prop} {x : Nat} {y z n n2 : Int32} (h : CPR kin x y n) (e : z.toInt.toNat = lcg y.toInt.toNat) (hk : kin (z.toInt.toNat % 6)) (en : n2.toInt = n.toInt + 1) : CPR kin x z n2 := by
  obtain ⟨k, e1, e2, h1⟩ := h
  have e3 : z.toInt.toNat = itN (k + 1) x := by rw [e, e2]; rfl
  refine ⟨k + 1, by omega, e3, fun m hm => ?_⟩
  by_cases em : m = k
  · rw [em, ← e3]; exact hk
  · exact h1 m (by omega)
theorem CPR_d {kin : Nat → Prop} {x : Nat} {y z n : Int32} (h : CPR kin x y n) (e : z.toInt.toNat = lcg y.toInt.toNat) (hk : ¬ kin (z.toInt.toNat % 6)) : DRW kin x z.toInt.toNat := by
  obtain ⟨k, e1, e2, h1⟩ := h
  exact ⟨⟨k, by rw [e, e2]; rfl, h1⟩, hk⟩
theorem CPR_no {kin : Nat → Prop} {x j : Nat} {y n : Int32} (h : CPR kin x y n) (hn : 65536 ≤ n.toInt) (hj : j < 6) (hk : ¬ kin j) : False := by
  obtain ⟨k, e1, e2, h1⟩ := h
  obtain ⟨m, hm, e⟩ := hits_it (hB + 1) (lcg x) (hits4 hj (Nat.mod_lt _ (by decide)))
  rw [itN_in] at e
  have hB9 : hB = 65535 := rfl
  exact hk (e ▸ h1 m (by omega))
def KX (r : Nat → Nat → Int32) : Nat → Prop := fun j => (r 64 j).toInt ≠ 0
def AKX (r : Nat → Nat → Int32) : Prop := ∀ j, j < 6 → KX r j
def AKP (r : Nat → Nat → Int32) (n : Int32) : Prop := ∀ j : Nat, (j : Int) < n.toInt → KX r j
theorem AKP_0 {r : Nat → Nat → Int32} : AKP r 0 := fun j hj => absurd hj (by have h9 : (0 : Int32).toInt = 0 := rfl; omega)
theorem AKP_s {r : Nat → Nat → Int32} {x y : Int32} (h : AKP r x) (hy : y.toInt = x.toInt + 1) (hx : 0 ≤ x.toInt) (hk : (r 64 x.toNatClampNeg).toInt ≠ 0) : AKP r y := by
  intro j hj
  by_cases e : (j : Int) < x.toInt
  · exact h j e
  · have e2 : j = x.toNatClampNeg := by show j = x.toInt.toNat; omega
    rw [e2]; exact hk
theorem AKX_no {r : Nat → Nat → Int32} (h : ¬ AKX r) : ∃ j, j < 6 ∧ ¬ KX r j := Classical.byContradiction (fun h9 => h (fun j hj => Classical.byContradiction (fun h8 => h9 ⟨j, hj, h8⟩)))
theorem b_and16 {x : Int32} (h : 0 ≤ x.toInt) : (x &&& 65535).toInt = x.toInt % 65536 := by
  have h1 : x.toInt = (x.toBitVec.toNat : Int) := by
    have e : x.toInt = x.toBitVec.toInt := rfl
    rw [e] at h ⊢
    rw [BitVec.toInt_eq_toNat_cond] at h ⊢
    by_cases c : 2 * x.toBitVec.toNat < 2 ^ 32
    · rw [if_pos c]
    · rw [if_neg c] at h
      have := x.toBitVec.isLt
      omega
  rw [pk_and x 16 (by decide), nI_toInt (by have := Nat.mod_lt x.toBitVec.toNat (show 0 < 2 ^ 16 by decide); omega), h1]
  rfl
theorem lcg_i {x m p v : Int32} (h0 : 0 ≤ x.toInt) (hm : m.toInt = 25173 * x.toInt) (hp : p.toInt = m.toInt + 13849) (hv : v.toInt = p.toInt % 65536) : v.toInt.toNat = lcg x.toInt.toNat := by
  unfold lcg; omega
theorem KX_y {r : Nat → Nat → Int32} {v : Int32} {k j : Nat} (hi : k = j) (hw : v.toInt = (r 64 k).toInt) (hv : v.toInt ≠ 0) : KX r j := by
  unfold KX; rw [← hi, ← hw]; exact hv
theorem KX_n {r : Nat → Nat → Int32} {v : Int32} {k j : Nat} (hi : k = j) (hw : v.toInt = (r 64 k).toInt) (hv : v.toInt = 0) : ¬ KX r j := by
  unfold KX; rw [← hi, ← hw]; exact fun h => h hv
theorem mod6_ix {v x : Int32} (h : v.toInt = x.toInt % 6) (h0 : 0 ≤ x.toInt) : v.toNatClampNeg = x.toInt.toNat % 6 := by show v.toInt.toNat = _; omega
set_option maxHeartbeats 4000000 in
set_option maxRecDepth 100000 in
theorem c_X3_allAreKin9 (l : Launch) (D : va_G) (cy : Nat → ClassId) (a : Nat → Nat) (i : Nat → Int32) (r : Nat → Nat → Int32) (q : Nat → Option Nat) (tl : va_W) (hRi : yRi i) (hRr : yRr r) : Met l yX3_allAreKin (Cond.code yX3_allAreKin cX3_allAreKin 2 (some .boolean) :: gT) { frames := 1, cells := 0, slots := 0, locals := 24 } (va_Pc [.ref (a 61)] (rP D cy (xW cy a i r q (a 20) (a 12) ++ (hW cy a i r ++ tl)))) (vp_Si (fun z => BR z (AKX r) 1 0)) 0 0 (fun _ => False) := by
  refine Met.ofQ (cc := cX3_allAreKin) (maxL := 2) (ret := (some .boolean)) (by decide) rfl ?_
  intro p e s m args below meth c s₁ B hml hv Q hQ
  obtain ⟨rfl, hP, hK⟩ := hv
  have hx := B.exec
  have hb := B.bytes
  have hr := B.returns
  have hlocks := B.notSynchronized
  have hT : ∀ w ∈ gT, w.before _ s = true := fun w h => atoms_spec (ws := (Cond.code yX3_allAreKin cX3_allAreKin 2 (some .boolean) :: gT)) B.pre w (List.mem_cons_of_mem _ h)
  have hown : s.vm.findClass RX3 = some m.cls := findClass_of_methodNamed B.named
  have hl := lv_entry ([.ref (a 61)]) (n := 2) (Nat.le_of_ble_eq_true rfl)
  rw [lg_entry_eq]
  generalize (lg_sl ([.ref (a 61)]) ++ List.replicate (2 - (lg_sl ([.ref (a 61)])).length) Slot.unset).toArray = ls at hl ⊢
  have hl : lv_has ls 2 [(0, .ref (a 61))] := hl
  have hEi : mEi [] i i := Ei_rf
  have hEr : mEr [] r r := Er_rf
  refine lv_iconst (v := 0) hx hb dX3_allAreKin_0 (by decide) ?_
  refine lv_istore_n (lv' := [(1, .int 0), (0, .ref (a 61))]) hx hb dX3_allAreKin_1 rfl hl (by decide) rfl (fun ls hl => ?_)
  have loop_1 : ∀ (n : Nat) (x1_1 : Int32) (ls : Array Slot), (6 - x1_1.toInt).toNat < n → (0 ≤ x1_1.toInt ∧ x1_1.toInt ≤ 6) → (AKP r x1_1) → lv_has ls 2 [(1, .int x1_1), (0, .ref (a 61))] → W p l e ({ frames := 1, cells := 0, slots := 0, locals := 24 } : Room) s m ([.ref (a 61)] : List Value).toArray below meth c s.heap [] 0 0 Q (F0 m 2 ls []) := by
    intro n
    induction n with
    | zero =>
      intro x1_1 ls hm1 hf1_0 hx1 hl
      exact absurd hm1 (by omega)
    | succ n ih1 =>
      intro x1_1 ls hm1 hf1_0 hx1 hl
      refine lv_iload_n hx hb dX3_allAreKin_2 rfl (lv_at hl 0 rfl) ?_
      refine lv_bipush (v := 6) hx hb dX3_allAreKin_3 (by decide) ?_
      refine lv_icmp_ge (tgt := 25) hx hb dX3_allAreKin_5 (by decide) (fun c_2 => ?_) (fun c_2 => ?_)
      · have c_2 : 6 ≤ x1_1.toInt := b_le c_2
        refine lv_iconst (v := 1) hx hb dX3_allAreKin_25 (by decide) ?_
        subst hQ
        exact W.zret hx hb hr rfl (fun t ht hW => ⟨_, rfl, Or.inl ⟨rfl, fun j hj => hx1 j (by omega)⟩, ht⟩) (fun q hq => absurd hq List.not_mem_nil) dX3_allAreKin_26
      · have c_2 : x1_1.toInt < 6 := b_nle c_2
        refine lv_aload_n hx hb dX3_allAreKin_8 rfl (lv_at hl 1 rfl) ?_
        refine va_get (D := D) (ci := 3) (v := .ref (a 64)) (C := RX3) (T := TX3) (N := 12) hx hb hT iX3 hown hK hP 61 rfl rfl 8 (by decide) (hT _ t_386) (fun _ h9 => h9) rfl dX3_allAreKin_9 ?_
        refine lv_iload_n hx hb dX3_allAreKin_12 rfl (lv_at hl 0 rfl) ?_
        refine va_zald hx hb hK hP 64 2 rfl rfl (vp_inI (by omega) (by omega)) dX3_allAreKin_13 ?_
        refine lv_topi (fun v_3 ev_3 => ?_)
        have hwv_3 : v_3.toInt = (r 64 (x1_1.toNatClampNeg)).toInt := congrArg Int32.toInt ev_3
        refine lv_if_ne (tgt := 19) hx hb dX3_allAreKin_14 (by decide) (fun c_4 => ?_) (fun c_4 => ?_)
        · have c_4 : v_3.toInt ≠ 0 := b_ne c_4
          obtain ⟨x_5, ex_5⟩ : ∃ y : Int32, y = x1_1 + 1 := ⟨_, rfl⟩
          refine lv_iinc (v := x_5) (lv' := [(1, .int x_5), (0, .ref (a 61))]) hx hb dX3_allAreKin_19 hl (k := 0) rfl (by rw [ex_5]; rfl) (by decide) rfl (fun ls hl => ?_)
          have hx_5 : x_5.toInt = x1_1.toInt + 1 := by rw [ex_5]; have := b_rg x1_1; exact i_add (a := x1_1.toInt) (b := 1) rfl rfl (by omega) (by omega)
          refine lv_goto (tgt := 2) hx hb dX3_allAreKin_22 (by decide) ?_
          exact ih1 x_5 _ (by first | omega | (simp only [Int.toNat]; omega)) (by first | omega | decide)  (AKP_s hx1 hx_5 (by omega) (by omega))  (lv_sub hl [0, 1] rfl)
        · have c_4 : v_3.toInt = 0 := b_nne c_4
          refine lv_iconst (v := 0) hx hb dX3_allAreKin_17 (by decide) ?_
          subst hQ
          exact W.zret hx hb hr rfl (fun t ht hW => ⟨_, rfl, Or.inr ⟨rfl, fun h9 => absurd (show (r 64 x1_1.toNatClampNeg).toInt = 0 by omega) (h9 _ (show x1_1.toInt.toNat < 6 by omega))⟩, ht⟩) (fun q hq => absurd hq List.not_mem_nil) dX3_allAreKin_18
  exact loop_1 _ 0 _ (Nat.lt_succ_self _) (by first | omega | decide)  AKP_0  hl
set_option maxHeartbeats 4000000 in
set_option maxRecDepth 100000 in
theorem c_X11_draw.y9 (l : Launch) (D : va_G) (cy : Nat → ClassId) (a : Nat → Nat) (i : Nat → Int32) (r : Nat → Nat → Int32) (q : Nat → Option Nat) (tl : va_W) (p0 : Int32) (sz : Nat) (hRi : yRi i) (hRr : yRr r) (hh : 0 ≤ p0.toInt ∧ p0.toInt < (i 0).toInt) (hq : q p0.toNatClampNeg = some (a 61)) : Met l yX11_draw (Cond.code yX11_draw cX11_draw 5 (some .int) :: gT) { frames := 3, cells := 0, slots := 0, locals := 67 } (va_Pc [.ref (a 0), .int p0] (rQ D cy (xW cy a i r q (a 20) (a 12) ++ (hW cy a i r ++ tl)) sz)) (va_Qi (fun (z : Int32) (u : (Nat → Int32) × (Nat → Nat → Int32)) => yRi u.1 ∧ yRr u.2 ∧ mEi [11] i u.1 ∧ mEr [] r u.2 ∧ ((AKX r → z = -2 ∧ mEi [] i u.1) ∧ (¬ AKX r → DRW (KX r) (i 11).toInt.toNat (u.1 11).toInt.toNat ∧ z.toInt = (u.1 11).toInt % 6))) (fun (u : (Nat → Int32) × (Nat → Nat → Int32)) t => va_P D vwCl (xW cy a u.1 u.2 q (a 20) (a 12) ++ (hW cy a u.1 u.2 ++ tl)) t.heap ∧ va_K D vwCl (vT cy) t ∧ va_D (va_A (xW cy a i r q (a 20) (a 12) ++ (hW cy a i r ++ tl)) sz) (xW cy a u.1 u.2 q (a 20) (a 12) ++ (hW cy a u.1 u.2 ++ tl))) (va_A (xW cy a i r q (a 20) (a 12) ++ (hW cy a i r ++ tl)) sz)) 0 0 (va_A (xW cy a i r q (a 20) (a 12) ++ (hW cy a i r ++ tl)) sz) := by
  refine Met.ofQ (cc := cX11_draw) (maxL := 5) (ret := (some .int)) (by decide) rfl ?_
  intro p e s m args below meth c s₁ B hml hv Q hQ
  obtain ⟨rfl, hsz, hP, hK, hD0⟩ := hv
  have hx := B.exec
  have hb := B.bytes
  have hr := B.returns
  have hlocks := B.notSynchronized
  have hT : ∀ w ∈ gT, w.before _ s = true := fun w h => atoms_spec (ws := (Cond.code yX11_draw cX11_draw 5 (some .int) :: gT)) B.pre w (List.mem_cons_of_mem _ h)
  have hown : s.vm.findClass RX11 = some m.cls := findClass_of_methodNamed B.named
  subst hsz
  have hD := hD0.self (sz := s.heap.size)
  generalize hAe : va_A (xW cy a i r q (a 20) (a 12) ++ (hW cy a i r ++ tl)) s.heap.size = A at hD hQ
  have hA : ∀ q : Nat, s.heap.size ≤ q → A q := fun q h => by rw [← hAe]; exact Or.inr h
  have hS : va_S A s.heap s.heap [] := va_S.rf
  have hl := lv_entry ([.ref (a 0), .int p0]) (n := 5) (Nat.le_of_ble_eq_true rfl)
  rw [lg_entry_eq]
  generalize (lg_sl ([.ref (a 0), .int p0]) ++ List.replicate (5 - (lg_sl ([.ref (a 0), .int p0])).length) Slot.unset).toArray = ls at hl ⊢
  have hl : lv_has ls 5 [(0, .ref (a 0)), (1, .int p0)] := hl
  have hEi : mEi [11] i i := Ei_rf
  have hEr : mEr [] r r := Er_rf
  have hg0 : 0 ≤ (i 0).toInt ∧ (i 0).toInt ≤ 6 := hRi 0
  refine lv_aload_n hx hb dX11_draw_0 rfl (lv_at hl 0 rfl) ?_
  refine lv_iload_n hx hb dX11_draw_1 rfl (lv_at hl 1 rfl) ?_
  refine va_csq (W.runV (As := [.int p0]) (rest := []) ⟨hx, hb, hml, hown, hT⟩ (c_X11_homeAt l D cy a i r q (hW cy a i r ++ tl) p0 hRi hRr) (cwV 1 hT (gV t_443 t_444 t_445 t_446 t_2) rfl rfl rfl (by decide +kernel) ⟨Nat.le_of_ble_eq_true rfl, Nat.le_of_ble_eq_true rfl⟩) (rP_v hP hK (va_recv hK hP (ci := 11) (q0 := 0) rfl rfl)) rfl rfl hl.1 rfl (lv_room (Nat.le_of_ble_eq_true rfl)) dX11_draw_2 ⟨Nat.le_of_ble_eq_true rfl, Nat.le_of_ble_eq_true rfl⟩) (fun r_1 hr_1 => ?_)
  obtain rfl : r_1 = some (a 61) := (hr_1.1 hh).trans hq
  refine W.eq (g2 := F0 m 5 ls [.ref (a 61)]) rfl ?_
  refine lv_astore_n (lv' := [(2, .ref (a 61)), (0, .ref (a 0)), (1, .int p0)]) hx hb dX11_draw_5 rfl hl (by decide) rfl (fun ls hl => ?_)
  refine lv_aload_n hx hb dX11_draw_6 rfl (lv_at hl 0 rfl) ?_
  refine lv_ifnonnull (tgt := 12) hx hb dX11_draw_7 (by decide) ?_
  refine lv_aload_n hx hb dX11_draw_12 rfl (lv_at hl 0 rfl) ?_
  refine vp_callSi (W.runV (As := []) (rest := []) ⟨hx, hb, hml, hown, hT⟩ (c_X3_allAreKin9 l D cy a i r q tl hRi hRr) (cwV 0 hT (gV t_487 t_488 t_489 t_490 t_391) rfl rfl rfl (by decide +kernel) ⟨Nat.le_of_ble_eq_true rfl, Nat.le_of_ble_eq_true rfl⟩) (rP_v hP hK (va_recv hK hP (ci := 3) (q0 := 61) rfl rfl)) rfl rfl hl.1 rfl (lv_room (Nat.le_of_ble_eq_true rfl)) dX11_draw_13 ⟨Nat.le_of_ble_eq_true rfl, Nat.le_of_ble_eq_true rfl⟩) (fun r_2 hr_2 => ?_)
  have hr_2 : BR r_2 (AKX r) 1 0 := hr_2
  rcases hr_2 with ⟨rfl, h_3⟩ | ⟨rfl, h_3⟩
  · skip
    refine lv_if_eq (tgt := 22) hx hb dX11_draw_16 (by decide) (fun c_4 => absurd c_4 (by decide)) (fun c_4 => ?_)
    refine lv_bipush (v := (-2)) hx hb dX11_draw_19 (by decide) ?_
    subst hQ
    exact W.iret (v := (-2)) hx hb hr (fun t ht hW => ⟨⟨_, (i, r), rfl, ⟨hRi, hRr, hEi, hEr, ⟨fun _ => ⟨rfl, Ei_rf⟩, fun h9 => absurd h_3 h9⟩⟩, by rw [ht]; exact hP, va_K.moved hW.alike hK, hD⟩, hS.F ht⟩) hS.2.2 dX11_draw_21
  · skip
    refine lv_if_eq (tgt := 22) hx hb dX11_draw_16 (by decide) (fun c_5 => ?_) (fun c_5 => absurd (by decide) c_5)
    refine lv_aload_n hx hb dX11_draw_22 rfl (lv_at hl 1 rfl) ?_
    refine va_get (D := D) (ci := 11) (v := .ref (a 29)) (C := RX11) (T := TX11) (N := 14) hx hb hT iX11 hown hK hP 0 rfl rfl 8 (by decide) (hT _ t_265) (fun _ h9 => h9) rfl dX11_draw_23 ?_
    refine va_get (D := D) (ci := 1) (v := .int (i 11)) (C := RX1) (T := TX1) (N := 12) hx hb hT iX1 hown hK hP 29 rfl rfl 11 (by decide) (hT _ t_272) (fun _ h9 => h9) rfl dX11_draw_26 ?_
    have hg_6 : 0 ≤ (i 11).toInt ∧ (i 11).toInt ≤ 65535 := hRi 11
    refine lv_istore_n (lv' := [(3, .int (i 11)), (2, .ref (a 61)), (0, .ref (a 0)), (1, .int p0)]) hx hb dX11_draw_29 rfl hl (by decide) rfl (fun ls hl => ?_)
    refine lv_iconst (v := 0) hx hb dX11_draw_30 (by decide) ?_
    refine lv_istore (lv' := [(4, .int 0), (3, .int (i 11)), (2, .ref (a 61)), (0, .ref (a 0)), (1, .int p0)]) hx hb dX11_draw_31 hl (by decide) rfl (fun ls hl => ?_)
    have loop_7 : ∀ (n : Nat) (x7_4 : Int32) (x7_3 : Int32) (H : Heap) (locs : List Loc) (ls : Array Slot), (65536 - x7_4.toInt).toNat < n → (0 ≤ x7_4.toInt ∧ x7_4.toInt ≤ 65536) → (0 ≤ x7_3.toInt ∧ x7_3.toInt ≤ 65535) → (CPR (KX r) (i 11).toInt.toNat x7_3 x7_4) → va_P D vwCl (xW cy a i r q (a 20) (a 12) ++ (hW cy a i r ++ tl)) H → va_D A (xW cy a i r q (a 20) (a 12) ++ (hW cy a i r ++ tl)) → va_S A s.heap H locs → lv_has ls 5 [(4, .int x7_4), (3, .int x7_3), (2, .ref (a 61)), (0, .ref (a 0)), (1, .int p0)] → W p l e ({ frames := 3, cells := 0, slots := 0, locals := 67 } : Room) s m ([.ref (a 0), .int p0] : List Value).toArray below meth c H locs 0 0 Q (F0 m 33 ls []) := by
      intro n
      induction n with
      | zero =>
        intro x7_4 x7_3 H locs ls hm7 hf7_0 hf7_1 hx7 hP hD hS hl
        exact absurd hm7 (by omega)
      | succ n ih7 =>
        intro x7_4 x7_3 H locs ls hm7 hf7_0 hf7_1 hx7 hP hD hS hl
        refine lv_iload hx hb dX11_draw_33 (lv_at hl 0 rfl) ?_
        refine lv_ldcw (v := 65536) hx hb hown (hT _ t_491) dX11_draw_35 ?_
        refine lv_icmp_ge (tgt := 86) hx hb dX11_draw_38 (by decide) (fun c_8 => ?_) (fun c_8 => ?_)
        · have c_8 : 65536 ≤ x7_4.toInt := b_le c_8
          refine lv_bipush (v := (-2)) hx hb dX11_draw_86 (by decide) ?_
          subst hQ
          obtain ⟨j0, hj0, hk0⟩ := AKX_no h_3
          exact W.iret (v := (-2)) hx hb hr (fun t ht hW => ⟨⟨_, (i, r), rfl, ⟨hRi, hRr, hEi, hEr, (CPR_no hx7 (by omega) hj0 hk0).elim⟩, by rw [ht]; exact hP, va_K.moved hW.alike hK, hD⟩, hS.F ht⟩) hS.2.2 dX11_draw_88
        · have c_8 : x7_4.toInt < 65536 := b_nle c_8
          refine lv_sipush (v := 25173) hx hb dX11_draw_41 (by decide) ?_
          refine lv_iload_n hx hb dX11_draw_44 rfl (lv_at hl 1 rfl) ?_
          refine lv_imul hx hb dX11_draw_45 ?_
          refine lv_topi (fun v_9 ev_9 => ?_)
          have hv_9 : v_9.toInt = 25173 * x7_3.toInt := by rw [ev_9]; have := b_rg x7_3; exact i_mul (a := 25173) (b := x7_3.toInt) rfl rfl (by omega) (by omega)
          refine lv_sipush (v := 13849) hx hb dX11_draw_46 (by decide) ?_
          refine lv_iadd hx hb dX11_draw_49 ?_
          refine lv_topi (fun v_10 ev_10 => ?_)
          have hv_10 : v_10.toInt = v_9.toInt + 13849 := by rw [ev_10]; have := b_rg v_9; exact i_add (a := v_9.toInt) (b := 13849) rfl rfl (by omega) (by omega)
          refine lv_ldcw (v := 65535) hx hb hown (hT _ t_271) dX11_draw_50 ?_
          refine lv_iand hx hb dX11_draw_53 ?_
          refine lv_topi (fun v_11 ev_11 => ?_)
          have hmv_11 : 0 ≤ v_11.toInt ∧ v_11.toInt ≤ 65535 := by rw [ev_11]; exact b_andm v_10 16 (by decide) (by decide)
          have hsv_11 : v_11.toInt = v_10.toInt % 65536 := by rw [ev_11]; exact b_and16 (by omega)
          refine lv_istore_n (lv' := [(3, .int v_11), (4, .int x7_4), (2, .ref (a 61)), (0, .ref (a 0)), (1, .int p0)]) hx hb dX11_draw_54 rfl hl (by decide) rfl (fun ls hl => ?_)
          refine lv_aload_n hx hb dX11_draw_55 rfl (lv_at hl 2 rfl) ?_
          refine va_get (D := D) (ci := 3) (v := .ref (a 64)) (C := RX3) (T := TX3) (N := 12) hx hb hT iX3 hown hK hP 61 rfl rfl 8 (by decide) (hT _ t_478) (fun _ h9 => h9) rfl dX11_draw_56 ?_
          refine lv_iload_n hx hb dX11_draw_59 rfl (lv_at hl 0 rfl) ?_
          refine lv_bipush (v := 6) hx hb dX11_draw_60 (by decide) ?_
          refine lv_irem hx hb dX11_draw_62 (by decide) ?_
          refine lv_topi (fun v_12 ev_12 => ?_)
          have hmv_12 : v_12.toInt = v_11.toInt % 6 := by rw [ev_12, rem_toInt]; exact Int.tmod_eq_emod_of_nonneg (by omega)
          refine va_zald hx hb hK hP 64 2 rfl rfl (vp_inI (by omega) (by omega)) dX11_draw_63 ?_
          refine lv_topi (fun v_13 ev_13 => ?_)
          have hwv_13 : v_13.toInt = (r 64 (v_12.toNatClampNeg)).toInt := congrArg Int32.toInt ev_13
          refine lv_if_ne (tgt := 80) hx hb dX11_draw_64 (by decide) (fun c_14 => ?_) (fun c_14 => ?_)
          · have c_14 : v_13.toInt ≠ 0 := b_ne c_14
            obtain ⟨x_15, ex_15⟩ : ∃ y : Int32, y = x7_4 + 1 := ⟨_, rfl⟩
            refine lv_iinc (v := x_15) (lv' := [(4, .int x_15), (3, .int v_11), (2, .ref (a 61)), (0, .ref (a 0)), (1, .int p0)]) hx hb dX11_draw_80 hl (k := 1) rfl (by rw [ex_15]; rfl) (by decide) rfl (fun ls hl => ?_)
            have hx_15 : x_15.toInt = x7_4.toInt + 1 := by rw [ex_15]; have := b_rg x7_4; exact i_add (a := x7_4.toInt) (b := 1) rfl rfl (by omega) (by omega)
            refine lv_goto (tgt := 33) hx hb dX11_draw_83 (by decide) ?_
            have hi7 := mod6_ix hmv_12 hmv_11.1
            have hk7 := KX_y hi7 hwv_13 c_14
            exact ih7 x_15 v_11 _ _ _ (by first | omega | (simp only [Int.toNat]; omega)) (by first | omega | decide) (by first | omega | decide)  (CPR_s hx7 (lcg_i hf7_1.1 hv_9 hv_10 hsv_11) hk7 hx_15) hP hD hS (lv_sub hl [0, 1, 2, 3, 4] rfl)
          · have c_14 : v_13.toInt = 0 := b_nne c_14
            refine lv_aload_n hx hb dX11_draw_67 rfl (lv_at hl 3 rfl) ?_
            refine va_get (D := D) (ci := 11) (v := .ref (a 29)) (C := RX11) (T := TX11) (N := 14) hx hb hT iX11 hown hK hP 0 rfl rfl 8 (by decide) (hT _ t_265) (fun _ h9 => h9) rfl dX11_draw_68 ?_
            refine lv_iload_n hx hb dX11_draw_71 rfl (lv_at hl 0 rfl) ?_
            refine va_put (D := D) (ci := 1) (v := .int v_11) (ty := .int) (C := RX1) (T := TX1) (N := 12) hx hb hT iX1 tyX1 tyX1_ok nmX1 hown hK hP hD hS 29 rfl rfl 11 (by decide) (hT _ t_272) (fun _ h9 => h9) rfl (by decide +kernel) rfl rfl (Nat.le_of_ble_eq_true rfl) dX11_draw_72 (fun H locs hP hD hS => ?_)
            rw [yP11] at hP hD
            have hRi := Yi_upd hRi 11 v_11 ⟨by show (0 : Int) ≤ v_11.toInt; omega, by show v_11.toInt ≤ (65535 : Int); omega⟩
            have hEi := Ei_upd hEi 11 v_11 (by decide)
            refine lv_iload_n hx hb dX11_draw_75 rfl (lv_at hl 0 rfl) ?_
            refine lv_bipush (v := 6) hx hb dX11_draw_76 (by decide) ?_
            refine lv_irem hx hb dX11_draw_78 (by decide) ?_
            refine lv_topi (fun v_16 ev_16 => ?_)
            have hmv_16 : v_16.toInt = v_11.toInt % 6 := by rw [ev_16, rem_toInt]; exact Int.tmod_eq_emod_of_nonneg (by omega)
            subst hQ
            have hi7 := mod6_ix hmv_12 hmv_11.1
            have hk7 := KX_n hi7 hwv_13 c_14
            exact W.iret (v := v_16) hx hb hr (fun t ht hW => ⟨⟨_, (upd i 11 v_11, r), rfl, ⟨hRi, hRr, hEi, hEr, ⟨fun h9 => absurd h9 h_3, fun _ => ⟨CPR_d hx7 (lcg_i hf7_1.1 hv_9 hv_10 hsv_11) hk7, (hmv_16 : v_16.toInt = v_11.toInt % 6)⟩⟩⟩, by rw [ht]; exact hP, va_K.moved hW.alike hK, hD⟩, hS.F ht⟩) hS.2.2 dX11_draw_79
    exact loop_7 _ 0 (i 11) _ _ _ (Nat.lt_succ_self _) (by first | omega | decide) (by first | omega | decide)  CPR_0 hP hD hS hl
