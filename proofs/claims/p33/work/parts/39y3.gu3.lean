-- what the tape says, four bytes to a number
def tnR (f : Nat → Int32) (s : Nat) : Nat → Int32
  | 0 => 0
  | k + 1 => (tnR f s k <<< ((8 : Int32) &&& 31)) ||| (f (s + k) &&& 255)
def tnF (f : Nat → Int32) (t : Nat) : Int32 := tnR f (4 * t) 4
theorem tnR_s {f : Nat → Int32} {s k k2 j : Nat} {x a b m y : Int32} (hx : x = tnR f s k) (ea : a = x <<< ((8 : Int32) &&& 31)) (eb : b = f j) (ej : j = s + k) (em : m = b &&& 255) (ey : y = a ||| m) (ek : k2 = k + 1) : y = tnR f s k2 := by
  subst ek
  rw [ey, ea, em, eb, ej, hx]
  rfl
theorem tnR_co {f g : Nat → Int32} {s : Nat} : ∀ k, (∀ j, j < k → f (s + j) = g (s + j)) → tnR f s k = tnR g s k := by
  intro k
  induction k with
  | zero => intro _; rfl
  | succ k ih => intro h; rw [tnR, tnR, ih (fun j hj => h j (by omega)), h k (by omega)]
theorem tnF_co {f g : Nat → Int32} {t : Nat} (h : ∀ k, k < 220 → f k = g k) (ht : t < 4) : tnF f t = tnF g t := tnR_co 4 (fun j hj => h _ (by omega))
-- what a check answers: the first number that is not so
def chk (G : Nat → Int) (tn : Nat → Int32) (T n z : Int32) : Prop := (∃ t : Nat, (t : Int) < T.toInt ∧ (t : Int) < n.toInt ∧ (∀ u : Nat, u < t → (tn u).toInt = G u) ∧ (tn t).toInt ≠ G t ∧ z.toInt = (t : Int)) ∨ ((∀ u : Nat, (u : Int) < T.toInt → (u : Int) < n.toInt → (tn u).toInt = G u) ∧ (n.toInt = T.toInt → z.toInt = -1) ∧ (n.toInt < T.toInt → z.toInt = n.toInt) ∧ (T.toInt < n.toInt → z.toInt = T.toInt))
theorem chk_un {G H : Nat → Int} {tn tm : Nat → Int32} {T n z y : Int32} (hT : T.toInt ≤ 4) (e : ∀ u, u < 4 → tn u = tm u) (eG : ∀ u : Nat, (u : Int) < T.toInt → G u = H u) (h : chk G tn T n z) (h2 : chk H tm T n y) : z = y := by
  apply Int32.toInt_inj.mp
  rcases h with ⟨t, a1, a2, a3, a4, a5⟩ | ⟨a1, a2, a3, a4⟩
  · rcases h2 with ⟨s, b1, b2, b3, b4, b5⟩ | ⟨b1, _, _, _⟩
    · rcases Nat.lt_or_ge t s with c | c
      · have h9 := b3 t c
        rw [← e t (by omega), ← eG t a1] at h9
        exact absurd h9 a4
      · rcases Nat.lt_or_ge s t with d | d
        · have h9 := a3 s d
          rw [e s (by omega), eG s b1] at h9
          exact absurd h9 b4
        · omega
    · have h9 := b1 t a1 a2
      rw [← e t (by omega), ← eG t a1] at h9
      exact absurd h9 a4
  · rcases h2 with ⟨s, b1, b2, b3, b4, b5⟩ | ⟨_, b2, b3, b4⟩
    · have h9 := a1 s b1 b2
      rw [e s (by omega), eG s b1] at h9
      exact absurd h9 b4
    · rcases (show n.toInt = T.toInt ∨ n.toInt < T.toInt ∨ T.toInt < n.toInt by omega) with c | c | c
      · rw [a2 c, b2 c]
      · rw [a3 c, b3 c]
      · rw [a4 c, b4 c]
-- the class: the first of some, as it is told
def ukX (g tn : Nat → Int32) (m z : Int32) : Prop := (∃ t : Nat, (t : Int) < m.toInt ∧ (∀ u : Nat, u < t → (tn u).toInt = (g u).toInt) ∧ (tn t).toInt ≠ (g t).toInt ∧ z.toInt = (t : Int)) ∨ ((∀ u : Nat, (u : Int) < m.toInt → (tn u).toInt = (g u).toInt) ∧ z = m)
theorem ukX_chk {g tn : Nat → Int32} {G : Nat → Int} {m T n z y : Int32} (h : ukX g tn m z) (hm : m.toInt = if T.toInt < n.toInt then T.toInt else n.toInt) (hG : ∀ u : Nat, (u : Int) < T.toInt → (g u).toInt = G u) (h1 : z.toInt = n.toInt ∧ n.toInt = T.toInt → y.toInt = -1) (h2 : ¬ (z.toInt = n.toInt ∧ n.toInt = T.toInt) → y.toInt = z.toInt) : chk G tn T n y := by
  have hmT : m.toInt ≤ T.toInt ∧ m.toInt ≤ n.toInt ∧ (m.toInt = T.toInt ∨ m.toInt = n.toInt) := by
    rw [hm]
    by_cases e : T.toInt < n.toInt
    · rw [if_pos e]; omega
    · rw [if_neg e]; omega
  rcases h with ⟨t, a1, a2, a3, a4⟩ | ⟨a1, a2⟩
  · refine Or.inl ⟨t, by omega, by omega, fun u hu => ?_, ?_, ?_⟩
    · rw [a2 u hu]; exact hG u (by omega)
    · rw [← hG t (by omega)]; exact a3
    · rw [h2 (by omega)]; exact a4
  · refine Or.inr ⟨fun u u1 u2 => ?_, fun e => ?_, fun e => ?_, fun e => ?_⟩
    · rw [a1 u (by omega)]; exact hG u u1
    · exact h1 ⟨by rw [a2]; omega, e⟩
    · rw [h2 (by omega), a2]; omega
    · rw [h2 (by rw [a2]; omega), a2]; omega
-- what a home's tenants get, in all
theorem shF_e {f g : Nat → Int32} {m n : Int32} {p q : Int} (e : m = n) (ef : ∀ t, t < n.toInt.toNat → f t = g t) (ep : p = q) (t : Nat) : shF (shP f m.toInt.toNat) m.toInt.toNat p t = shF (shP g n.toInt.toNat) n.toInt.toNat q t := by
  subst e ep
  rw [shP_co ef]
def RMO (gi : Nat → Nat → Int32) (nh : Nat) : Prop := ∀ h, h < nh → (gi h 20).toInt ≤ (gi h 21).toInt
theorem mn_i {a b m : Int32} (e : m = if b < a then b else a) : m.toInt = if b.toInt < a.toInt then b.toInt else a.toInt := by
  rw [e]
  by_cases h : b < a
  · rw [if_pos h, if_pos (b_lt h)]
  · have h9 := b_nlt h
    rw [if_neg h, if_neg (by omega)]
theorem mBX_E {Pc Pd : Nat → Prop} {TI T : List Nat} {i I : Nat → Int32} {r R : Nat → Nat → Int32} {p1 t : Int32} {n : Nat} (hi : mEi TI i I) (hr : mEr T r R) (h31 : 31 ∉ TI) (hT : ∀ p ∈ ([1, 2, 3, 4, 6, 7, 10, 11, 12, 13, 14, 15, 16, 17, 18, 27, 28, 29, 30, 31, 40, 41, 42, 43, 44, 45, 46, 47] : List Nat), p ∉ T) (hP : Pc = Pd) (h : mBX Pc I R p1 n t) : mBX Pd i r p1 n t := by
  subst hP
  obtain ⟨V, h1, h2⟩ := h
  refine ⟨V, fun c hc => ?_, h2⟩
  obtain ⟨a, b⟩ := h1 c hc
  rw [hr 44 (hT _ (by decide))] at a b
  refine ⟨a, fun h9 => ?_⟩
  obtain ⟨J9, b1, b2⟩ := b h9
  rw [mAV_E hr (fun p hp => hT p (by revert p; decide)), mD_E (hi 31 h31) hr (fun p hp => hT p (by revert p; decide))] at b2
  rw [hr 40 (hT _ (by decide)), hr 10 (hT _ (by decide)), hr 11 (hT _ (by decide)), hr 12 (hT _ (by decide)), hr 13 (hT _ (by decide)), hr 14 (hT _ (by decide)), hr 16 (hT _ (by decide)), hr 17 (hT _ (by decide)), hr 18 (hT _ (by decide))] at b1
  exact ⟨J9, b1, b2⟩
set_option maxHeartbeats 4000000 in
set_option maxRecDepth 100000 in
theorem c_X12_tapeNumber9 (l : Launch) (D : va_G) (cy : Nat → ClassId) (a : Nat → Nat) (i : Nat → Int32) (r : Nat → Nat → Int32) (rl : Nat → Int64) (p0 : Int32) (hRi : mRi i) (hRr : mRr r) (q0 : 0 ≤ p0.toInt ∧ p0.toInt ≤ 3) : Met l yX12_tapeNumber (Cond.code yX12_tapeNumber cX12_tapeNumber 4 (some .int) :: gT) { frames := 1, cells := 0, slots := 0, locals := 24 } (va_Pc [.ref (a 0), .int p0] (rP D cy (mW cy a i r rl))) (vp_Si (fun z => z = tnF (r 20) p0.toInt.toNat)) 0 0 (fun _ => False) := by
  refine Met.ofQ (cc := cX12_tapeNumber) (maxL := 4) (ret := (some .int)) (by decide) rfl ?_
  intro p e s m args below meth c s₁ B hml hv Q hQ
  obtain ⟨rfl, hP, hK⟩ := hv
  have hx := B.exec
  have hb := B.bytes
  have hr := B.returns
  have hlocks := B.notSynchronized
  have hT : ∀ w ∈ gT, w.before _ s = true := fun w h => atoms_spec (ws := (Cond.code yX12_tapeNumber cX12_tapeNumber 4 (some .int) :: gT)) B.pre w (List.mem_cons_of_mem _ h)
  have hown : s.vm.findClass RX12 = some m.cls := findClass_of_methodNamed B.named
  have hl := lv_entry ([.ref (a 0), .int p0]) (n := 4) (Nat.le_of_ble_eq_true rfl)
  rw [lg_entry_eq]
  generalize (lg_sl ([.ref (a 0), .int p0]) ++ List.replicate (4 - (lg_sl ([.ref (a 0), .int p0])).length) Slot.unset).toArray = ls at hl ⊢
  have hl : lv_has ls 4 [(0, .ref (a 0)), (1, .int p0)] := hl
  have hEi : mEi [23, 24, 25, 26, 27, 28, 29, 30, 60] i i := Ei_rf
  have hEr : mEr [21, 22, 23, 24, 25, 26, 32, 33, 34, 35, 36, 37, 38, 39, 48, 49, 57, 61, 62] r r := Er_rf
  refine lv_iconst (v := 0) hx hb dX12_tapeNumber_0 (by decide) ?_
  refine lv_istore_n (lv' := [(2, .int 0), (0, .ref (a 0)), (1, .int p0)]) hx hb dX12_tapeNumber_1 rfl hl (by decide) rfl (fun ls hl => ?_)
  refine lv_iconst (v := 4) hx hb dX12_tapeNumber_2 (by decide) ?_
  refine lv_iload_n hx hb dX12_tapeNumber_3 rfl (lv_at hl 2 rfl) ?_
  refine lv_imul hx hb dX12_tapeNumber_4 ?_
  refine lv_topi (fun v_1 ev_1 => ?_)
  have hv_1 : v_1.toInt = 4 * p0.toInt := by rw [ev_1]; have := b_rg p0; exact i_mul (a := 4) (b := p0.toInt) rfl rfl (by omega) (by omega)
  refine lv_istore_n (lv' := [(3, .int v_1), (2, .int 0), (0, .ref (a 0)), (1, .int p0)]) hx hb dX12_tapeNumber_5 rfl hl (by decide) rfl (fun ls hl => ?_)
  have loop_2 : ∀ (n : Nat) (x2_3 : Int32) (x2_2 : Int32) (ls : Array Slot), (16 - x2_3.toInt).toNat < n → (0 ≤ x2_3.toInt ∧ x2_3.toInt ≤ 16) → ((4 * p0.toInt ≤ x2_3.toInt ∧ x2_3.toInt ≤ 4 * p0.toInt + 4) ∧ x2_2 = tnR (r 20) (4 * p0.toInt.toNat) (x2_3.toInt - 4 * p0.toInt).toNat) → lv_has ls 4 [(3, .int x2_3), (2, .int x2_2), (0, .ref (a 0)), (1, .int p0)] → W p l e ({ frames := 1, cells := 0, slots := 0, locals := 24 } : Room) s m ([.ref (a 0), .int p0] : List Value).toArray below meth c s.heap [] 0 0 Q (F0 m 6 ls []) := by
    intro n
    induction n with
    | zero =>
      intro x2_3 x2_2 ls hm2 hf2_0 hx2 hl
      exact absurd hm2 (by omega)
    | succ n ih2 =>
      intro x2_3 x2_2 ls hm2 hf2_0 hx2 hl
      refine lv_iload_n hx hb dX12_tapeNumber_6 rfl (lv_at hl 0 rfl) ?_
      refine lv_iconst (v := 4) hx hb dX12_tapeNumber_7 (by decide) ?_
      refine lv_iload_n hx hb dX12_tapeNumber_8 rfl (lv_at hl 3 rfl) ?_
      refine lv_imul hx hb dX12_tapeNumber_9 ?_
      refine lv_topi (fun v_3 ev_3 => ?_)
      have hv_3 : v_3.toInt = 4 * p0.toInt := by rw [ev_3]; have := b_rg p0; exact i_mul (a := 4) (b := p0.toInt) rfl rfl (by omega) (by omega)
      refine lv_iconst (v := 4) hx hb dX12_tapeNumber_10 (by decide) ?_
      refine lv_iadd hx hb dX12_tapeNumber_11 ?_
      refine lv_topi (fun v_4 ev_4 => ?_)
      have hv_4 : v_4.toInt = v_3.toInt + 4 := by rw [ev_4]; have := b_rg v_3; exact i_add (a := v_3.toInt) (b := 4) rfl rfl (by omega) (by omega)
      refine lv_icmp_ge (tgt := 37) hx hb dX12_tapeNumber_12 (by decide) (fun c_5 => ?_) (fun c_5 => ?_)
      · have c_5 : v_4.toInt ≤ x2_3.toInt := b_le c_5
        refine lv_iload_n hx hb dX12_tapeNumber_37 rfl (lv_at hl 1 rfl) ?_
        subst hQ
        exact W.iret (v := x2_2) hx hb hr (fun t ht hW => ⟨_, rfl, (hx2.2.trans (by rw [show (x2_3.toInt - 4 * p0.toInt).toNat = 4 by omega]; rfl)), ht⟩) (fun q hq => absurd hq List.not_mem_nil) dX12_tapeNumber_38
      · have c_5 : x2_3.toInt < v_4.toInt := b_nle c_5
        refine lv_iload_n hx hb dX12_tapeNumber_15 rfl (lv_at hl 1 rfl) ?_
        refine lv_bipush (v := 8) hx hb dX12_tapeNumber_16 (by decide) ?_
        refine lv_ishl hx hb dX12_tapeNumber_18 ?_
        refine lv_topi (fun v_6 ev_6 => ?_)
        refine lv_aload_n hx hb dX12_tapeNumber_19 rfl (lv_at hl 2 rfl) ?_
        refine va_get (D := D) (ci := 12) (v := .ref (a 20)) (C := RX12) (T := TX12) (N := 91) hx hb hT iX12 hown hK hP 0 rfl rfl 21 (by decide) (hT _ t_200) (fun _ h9 => h9) rfl dX12_tapeNumber_20 ?_
        refine lv_iload_n hx hb dX12_tapeNumber_23 rfl (lv_at hl 0 rfl) ?_
        refine va_bald hx hb hK hP 20 1 rfl rfl (vp_inI (by omega) (by omega)) dX12_tapeNumber_24 ?_
        refine lv_topi (fun v_7 ev_7 => ?_)
        refine lv_sipush (v := 255) hx hb dX12_tapeNumber_25 (by decide) ?_
        refine lv_iand hx hb dX12_tapeNumber_28 ?_
        refine lv_topi (fun v_8 ev_8 => ?_)
        refine lv_ior hx hb dX12_tapeNumber_29 ?_
        refine lv_topi (fun v_9 ev_9 => ?_)
        refine lv_istore_n (lv' := [(2, .int v_9), (3, .int x2_3), (0, .ref (a 0)), (1, .int p0)]) hx hb dX12_tapeNumber_30 rfl hl (by decide) rfl (fun ls hl => ?_)
        obtain ⟨x_10, ex_10⟩ : ∃ y : Int32, y = x2_3 + 1 := ⟨_, rfl⟩
        refine lv_iinc (v := x_10) (lv' := [(3, .int x_10), (2, .int v_9), (0, .ref (a 0)), (1, .int p0)]) hx hb dX12_tapeNumber_31 hl (k := 1) rfl (by rw [ex_10]; rfl) (by decide) rfl (fun ls hl => ?_)
        have hx_10 : x_10.toInt = x2_3.toInt + 1 := by rw [ex_10]; have := b_rg x2_3; exact i_add (a := x2_3.toInt) (b := 1) rfl rfl (by omega) (by omega)
        refine lv_goto (tgt := 6) hx hb dX12_tapeNumber_34 (by decide) ?_
        exact ih2 x_10 v_9 _ (by first | omega | (simp only [Int.toNat]; omega)) (by first | omega | decide)  ⟨by omega, tnR_s hx2.2 ev_6 ev_7 (show x2_3.toInt.toNat = 4 * p0.toInt.toNat + (x2_3.toInt - 4 * p0.toInt).toNat by omega) ev_8 ev_9 (show (x_10.toInt - 4 * p0.toInt).toNat = (x2_3.toInt - 4 * p0.toInt).toNat + 1 by omega)⟩  (lv_sub hl [0, 1, 2, 3] rfl)
  exact loop_2 _ v_1 0 _ (Nat.lt_succ_self _) (by first | omega | decide)  ⟨by omega, by rw [show (v_1.toInt - 4 * p0.toInt).toNat = 0 by omega]; rfl⟩  hl
set_option maxHeartbeats 4000000 in
set_option maxRecDepth 100000 in
theorem c_X9_numberAt9 (l : Launch) (D : va_G) (cy : Nat → ClassId) (a : Nat → Nat) (i : Nat → Int32) (r : Nat → Nat → Int32) (q : Nat → Option Nat) (tl : va_W) (p0 : Int32) (hRi : yRi i) (hRr : yRr r) (q0 : 0 ≤ p0.toInt ∧ p0.toInt ≤ 3) : Met l yX9_numberAt (Cond.code yX9_numberAt cX9_numberAt 4 (some .int) :: gT) { frames := 1, cells := 0, slots := 0, locals := 24 } (va_Pc [.ref (a 8), .int p0] (rP D cy (xW cy a i r q (a 20) (a 12) ++ tl))) (vp_Si (fun z => z = tnF (r 9) p0.toInt.toNat)) 0 0 (fun _ => False) := by
  refine Met.ofQ (cc := cX9_numberAt) (maxL := 4) (ret := (some .int)) (by decide) rfl ?_
  intro p e s m args below meth c s₁ B hml hv Q hQ
  obtain ⟨rfl, hP, hK⟩ := hv
  have hx := B.exec
  have hb := B.bytes
  have hr := B.returns
  have hlocks := B.notSynchronized
  have hT : ∀ w ∈ gT, w.before _ s = true := fun w h => atoms_spec (ws := (Cond.code yX9_numberAt cX9_numberAt 4 (some .int) :: gT)) B.pre w (List.mem_cons_of_mem _ h)
  have hown : s.vm.findClass RX9 = some m.cls := findClass_of_methodNamed B.named
  have hl := lv_entry ([.ref (a 8), .int p0]) (n := 4) (Nat.le_of_ble_eq_true rfl)
  rw [lg_entry_eq]
  generalize (lg_sl ([.ref (a 8), .int p0]) ++ List.replicate (4 - (lg_sl ([.ref (a 8), .int p0])).length) Slot.unset).toArray = ls at hl ⊢
  have hl : lv_has ls 4 [(0, .ref (a 8)), (1, .int p0)] := hl
  have hEi : mEi [] i i := Ei_rf
  have hEr : mEr [] r r := Er_rf
  refine lv_iconst (v := 0) hx hb dX9_numberAt_0 (by decide) ?_
  refine lv_istore_n (lv' := [(2, .int 0), (0, .ref (a 8)), (1, .int p0)]) hx hb dX9_numberAt_1 rfl hl (by decide) rfl (fun ls hl => ?_)
  refine lv_iconst (v := 4) hx hb dX9_numberAt_2 (by decide) ?_
  refine lv_iload_n hx hb dX9_numberAt_3 rfl (lv_at hl 2 rfl) ?_
  refine lv_imul hx hb dX9_numberAt_4 ?_
  refine lv_topi (fun v_1 ev_1 => ?_)
  have hv_1 : v_1.toInt = 4 * p0.toInt := by rw [ev_1]; have := b_rg p0; exact i_mul (a := 4) (b := p0.toInt) rfl rfl (by omega) (by omega)
  refine lv_istore_n (lv' := [(3, .int v_1), (2, .int 0), (0, .ref (a 8)), (1, .int p0)]) hx hb dX9_numberAt_5 rfl hl (by decide) rfl (fun ls hl => ?_)
  have loop_2 : ∀ (n : Nat) (x2_3 : Int32) (x2_2 : Int32) (ls : Array Slot), (220 - x2_3.toInt).toNat < n → (0 ≤ x2_3.toInt ∧ x2_3.toInt ≤ 220) → ((4 * p0.toInt ≤ x2_3.toInt ∧ x2_3.toInt ≤ 4 * p0.toInt + 4) ∧ x2_2 = tnR (r 9) (4 * p0.toInt.toNat) (x2_3.toInt - 4 * p0.toInt).toNat) → lv_has ls 4 [(3, .int x2_3), (2, .int x2_2), (0, .ref (a 8)), (1, .int p0)] → W p l e ({ frames := 1, cells := 0, slots := 0, locals := 24 } : Room) s m ([.ref (a 8), .int p0] : List Value).toArray below meth c s.heap [] 0 0 Q (F0 m 6 ls []) := by
    intro n
    induction n with
    | zero =>
      intro x2_3 x2_2 ls hm2 hf2_0 hx2 hl
      exact absurd hm2 (by omega)
    | succ n ih2 =>
      intro x2_3 x2_2 ls hm2 hf2_0 hx2 hl
      refine lv_iload_n hx hb dX9_numberAt_6 rfl (lv_at hl 0 rfl) ?_
      refine lv_if_lt (tgt := 48) hx hb dX9_numberAt_7 (by decide) (fun c_3 => by have c_3 : x2_3.toInt < 0 := b_lt c_3; omega) (fun c_3 => ?_)
      have c_3 : 0 ≤ x2_3.toInt := b_nlt c_3
      refine lv_iload_n hx hb dX9_numberAt_10 rfl (lv_at hl 0 rfl) ?_
      refine lv_iconst (v := 4) hx hb dX9_numberAt_11 (by decide) ?_
      refine lv_iload_n hx hb dX9_numberAt_12 rfl (lv_at hl 3 rfl) ?_
      refine lv_imul hx hb dX9_numberAt_13 ?_
      refine lv_topi (fun v_4 ev_4 => ?_)
      have hv_4 : v_4.toInt = 4 * p0.toInt := by rw [ev_4]; have := b_rg p0; exact i_mul (a := 4) (b := p0.toInt) rfl rfl (by omega) (by omega)
      refine lv_iconst (v := 4) hx hb dX9_numberAt_14 (by decide) ?_
      refine lv_iadd hx hb dX9_numberAt_15 ?_
      refine lv_topi (fun v_5 ev_5 => ?_)
      have hv_5 : v_5.toInt = v_4.toInt + 4 := by rw [ev_5]; have := b_rg v_4; exact i_add (a := v_4.toInt) (b := 4) rfl rfl (by omega) (by omega)
      refine lv_icmp_ge (tgt := 48) hx hb dX9_numberAt_16 (by decide) (fun c_6 => ?_) (fun c_6 => ?_)
      · have c_6 : v_5.toInt ≤ x2_3.toInt := b_le c_6
        refine lv_iload_n hx hb dX9_numberAt_48 rfl (lv_at hl 1 rfl) ?_
        subst hQ
        exact W.iret (v := x2_2) hx hb hr (fun t ht hW => ⟨_, rfl, (hx2.2.trans (by rw [show (x2_3.toInt - 4 * p0.toInt).toNat = 4 by omega]; rfl)), ht⟩) (fun q hq => absurd hq List.not_mem_nil) dX9_numberAt_49
      · have c_6 : x2_3.toInt < v_5.toInt := b_nle c_6
        refine lv_iload_n hx hb dX9_numberAt_19 rfl (lv_at hl 0 rfl) ?_
        refine lv_sipush (v := 220) hx hb dX9_numberAt_20 (by decide) ?_
        refine lv_icmp_ge (tgt := 48) hx hb dX9_numberAt_23 (by decide) (fun c_7 => by have c_7 : 220 ≤ x2_3.toInt := b_le c_7; omega) (fun c_7 => ?_)
        have c_7 : x2_3.toInt < 220 := b_nle c_7
        refine lv_iload_n hx hb dX9_numberAt_26 rfl (lv_at hl 1 rfl) ?_
        refine lv_bipush (v := 8) hx hb dX9_numberAt_27 (by decide) ?_
        refine lv_ishl hx hb dX9_numberAt_29 ?_
        refine lv_topi (fun v_8 ev_8 => ?_)
        refine lv_aload_n hx hb dX9_numberAt_30 rfl (lv_at hl 2 rfl) ?_
        refine va_get (D := D) (ci := 9) (v := .ref (a 9)) (C := RX9) (T := TX9) (N := 2) hx hb hT iX9 hown hK hP 8 rfl rfl 0 (by decide) (hT _ t_334) (fun _ h9 => h9) rfl dX9_numberAt_31 ?_
        refine lv_iload_n hx hb dX9_numberAt_34 rfl (lv_at hl 0 rfl) ?_
        refine va_bald hx hb hK hP 9 1 rfl rfl (vp_inI (by omega) (by omega)) dX9_numberAt_35 ?_
        refine lv_topi (fun v_9 ev_9 => ?_)
        refine lv_sipush (v := 255) hx hb dX9_numberAt_36 (by decide) ?_
        refine lv_iand hx hb dX9_numberAt_39 ?_
        refine lv_topi (fun v_10 ev_10 => ?_)
        have hmv_10 : 0 ≤ v_10.toInt ∧ v_10.toInt ≤ 255 := by rw [ev_10]; exact b_andm v_9 8 (by decide) (by decide)
        refine lv_ior hx hb dX9_numberAt_40 ?_
        refine lv_topi (fun v_11 ev_11 => ?_)
        refine lv_istore_n (lv' := [(2, .int v_11), (3, .int x2_3), (0, .ref (a 8)), (1, .int p0)]) hx hb dX9_numberAt_41 rfl hl (by decide) rfl (fun ls hl => ?_)
        obtain ⟨x_12, ex_12⟩ : ∃ y : Int32, y = x2_3 + 1 := ⟨_, rfl⟩
        refine lv_iinc (v := x_12) (lv' := [(3, .int x_12), (2, .int v_11), (0, .ref (a 8)), (1, .int p0)]) hx hb dX9_numberAt_42 hl (k := 1) rfl (by rw [ex_12]; rfl) (by decide) rfl (fun ls hl => ?_)
        have hx_12 : x_12.toInt = x2_3.toInt + 1 := by rw [ex_12]; have := b_rg x2_3; exact i_add (a := x2_3.toInt) (b := 1) rfl rfl (by omega) (by omega)
        refine lv_goto (tgt := 6) hx hb dX9_numberAt_45 (by decide) ?_
        exact ih2 x_12 v_11 _ (by first | omega | (simp only [Int.toNat]; omega)) (by first | omega | decide)  ⟨by omega, tnR_s hx2.2 ev_8 ev_9 (show x2_3.toInt.toNat = 4 * p0.toInt.toNat + (x2_3.toInt - 4 * p0.toInt).toNat by omega) ev_10 ev_11 (show (x_12.toInt - 4 * p0.toInt).toNat = (x2_3.toInt - 4 * p0.toInt).toNat + 1 by omega)⟩  (lv_sub hl [0, 1, 2, 3] rfl)
  exact loop_2 _ v_1 0 _ (Nat.lt_succ_self _) (by first | omega | decide)  ⟨by omega, by rw [show (v_1.toInt - 4 * p0.toInt).toNat = 0 by omega]; rfl⟩  hl
set_option maxHeartbeats 4000000 in
set_option maxRecDepth 100000 in
theorem c_X0_firstUnlike9 (l : Launch) (D : va_G) (cy : Nat → ClassId) (a : Nat → Nat) (i : Nat → Int32) (r : Nat → Nat → Int32) (q : Nat → Option Nat) (tl : va_W) (p0 : Int32) (hRi : yRi i) (hRr : yRr r) (q0 : 0 ≤ p0.toInt ∧ p0.toInt ≤ 4) : Met l yX0_firstUnlike (Cond.code yX0_firstUnlike cX0_firstUnlike 4 (some .int) :: gT) { frames := 2, cells := 0, slots := 0, locals := 47 } (va_Pc [.ref (a 51), .ref (a 8), .int p0] (rP D cy (xW cy a i r q (a 20) (a 12) ++ tl))) (vp_Si (fun z => (0 ≤ z.toInt ∧ z.toInt ≤ 4) ∧ ukX (r 52) (tnF (r 9)) p0 z)) 0 0 (fun _ => False) := by
  refine Met.ofQ (cc := cX0_firstUnlike) (maxL := 4) (ret := (some .int)) (by decide) rfl ?_
  intro p e s m args below meth c s₁ B hml hv Q hQ
  obtain ⟨rfl, hP, hK⟩ := hv
  have hx := B.exec
  have hb := B.bytes
  have hr := B.returns
  have hlocks := B.notSynchronized
  have hT : ∀ w ∈ gT, w.before _ s = true := fun w h => atoms_spec (ws := (Cond.code yX0_firstUnlike cX0_firstUnlike 4 (some .int) :: gT)) B.pre w (List.mem_cons_of_mem _ h)
  have hown : s.vm.findClass RX0 = some m.cls := findClass_of_methodNamed B.named
  have hl := lv_entry ([.ref (a 51), .ref (a 8), .int p0]) (n := 4) (Nat.le_of_ble_eq_true rfl)
  rw [lg_entry_eq]
  generalize (lg_sl ([.ref (a 51), .ref (a 8), .int p0]) ++ List.replicate (4 - (lg_sl ([.ref (a 51), .ref (a 8), .int p0])).length) Slot.unset).toArray = ls at hl ⊢
  have hl : lv_has ls 4 [(0, .ref (a 51)), (1, .ref (a 8)), (2, .int p0)] := hl
  have hEi : mEi [] i i := Ei_rf
  have hEr : mEr [] r r := Er_rf
  refine lv_iconst (v := 0) hx hb dX0_firstUnlike_0 (by decide) ?_
  refine lv_istore_n (lv' := [(3, .int 0), (0, .ref (a 51)), (1, .ref (a 8)), (2, .int p0)]) hx hb dX0_firstUnlike_1 rfl hl (by decide) rfl (fun ls hl => ?_)
  have loop_1 : ∀ (n : Nat) (x1_3 : Int32) (ls : Array Slot), (4 - x1_3.toInt).toNat < n → (0 ≤ x1_3.toInt ∧ x1_3.toInt ≤ 4) → (x1_3.toInt ≤ p0.toInt ∧ ∀ u : Nat, u < x1_3.toInt.toNat → (tnF (r 9) u).toInt = (r 52 u).toInt) → lv_has ls 4 [(3, .int x1_3), (0, .ref (a 51)), (1, .ref (a 8)), (2, .int p0)] → W p l e ({ frames := 2, cells := 0, slots := 0, locals := 47 } : Room) s m ([.ref (a 51), .ref (a 8), .int p0] : List Value).toArray below meth c s.heap [] 0 0 Q (F0 m 2 ls []) := by
    intro n
    induction n with
    | zero =>
      intro x1_3 ls hm1 hf1_0 hx1 hl
      exact absurd hm1 (by omega)
    | succ n ih1 =>
      intro x1_3 ls hm1 hf1_0 hx1 hl
      refine lv_iload_n hx hb dX0_firstUnlike_2 rfl (lv_at hl 0 rfl) ?_
      refine lv_iload_n hx hb dX0_firstUnlike_3 rfl (lv_at hl 3 rfl) ?_
      refine lv_icmp_ge (tgt := 34) hx hb dX0_firstUnlike_4 (by decide) (fun c_2 => ?_) (fun c_2 => ?_)
      · have c_2 : p0.toInt ≤ x1_3.toInt := b_le c_2
        refine lv_iload_n hx hb dX0_firstUnlike_34 rfl (lv_at hl 3 rfl) ?_
        subst hQ
        exact W.iret (v := p0) hx hb hr (fun t ht hW => ⟨_, rfl, ⟨by omega, Or.inr ⟨fun u hu => hx1.2 u (by omega), rfl⟩⟩, ht⟩) (fun q hq => absurd hq List.not_mem_nil) dX0_firstUnlike_35
      · have c_2 : x1_3.toInt < p0.toInt := b_nle c_2
        refine lv_iload_n hx hb dX0_firstUnlike_7 rfl (lv_at hl 0 rfl) ?_
        refine lv_iconst (v := 4) hx hb dX0_firstUnlike_8 (by decide) ?_
        refine lv_icmp_ge (tgt := 34) hx hb dX0_firstUnlike_9 (by decide) (fun c_3 => by have c_3 : 4 ≤ x1_3.toInt := b_le c_3; omega) (fun c_3 => ?_)
        have c_3 : x1_3.toInt < 4 := b_nle c_3
        refine lv_aload_n hx hb dX0_firstUnlike_12 rfl (lv_at hl 2 rfl) ?_
        refine lv_iload_n hx hb dX0_firstUnlike_13 rfl (lv_at hl 0 rfl) ?_
        refine vp_callSi (W.runV (As := [.int x1_3]) (rest := []) ⟨hx, hb, hml, hown, hT⟩ (c_X9_numberAt9 l D cy a i r q tl x1_3 hRi hRr (by first | omega | decide)) (cwV 1 hT (gV t_579 t_580 t_581 t_582 t_338) rfl rfl rfl (by decide +kernel) ⟨Nat.le_of_ble_eq_true rfl, Nat.le_of_ble_eq_true rfl⟩) (rP_v hP hK (va_recv hK hP (ci := 9) (q0 := 8) rfl rfl)) rfl rfl hl.1 rfl (lv_room (Nat.le_of_ble_eq_true rfl)) dX0_firstUnlike_14 ⟨Nat.le_of_ble_eq_true rfl, Nat.le_of_ble_eq_true rfl⟩) (fun r_4 hr_4 => ?_)
        have hqr_4 : r_4 = tnF (r 9) x1_3.toInt.toNat := hr_4
        refine lv_aload_n hx hb dX0_firstUnlike_17 rfl (lv_at hl 1 rfl) ?_
        refine va_get (D := D) (ci := 0) (v := .ref (a 52)) (C := RX0) (T := TX0) (N := 2) hx hb hT iX0 hown hK hP 51 rfl rfl 0 (by decide) (hT _ t_583) (fun _ h9 => h9) rfl dX0_firstUnlike_18 ?_
        refine lv_iload_n hx hb dX0_firstUnlike_21 rfl (lv_at hl 0 rfl) ?_
        refine va_iald hx hb hK hP 52 0 rfl rfl (vp_inI (by omega) (by omega)) dX0_firstUnlike_22 ?_
        refine lv_topi (fun v_5 ev_5 => ?_)
        refine lv_icmp_eq (tgt := 28) hx hb dX0_firstUnlike_23 (by decide) (fun c_6 => ?_) (fun c_6 => ?_)
        · have c_6 : r_4.toInt = v_5.toInt := b_eq c_6
          obtain ⟨x_7, ex_7⟩ : ∃ y : Int32, y = x1_3 + 1 := ⟨_, rfl⟩
          refine lv_iinc (v := x_7) (lv' := [(3, .int x_7), (0, .ref (a 51)), (1, .ref (a 8)), (2, .int p0)]) hx hb dX0_firstUnlike_28 hl (k := 0) rfl (by rw [ex_7]; rfl) (by decide) rfl (fun ls hl => ?_)
          have hx_7 : x_7.toInt = x1_3.toInt + 1 := by rw [ex_7]; have := b_rg x1_3; exact i_add (a := x1_3.toInt) (b := 1) rfl rfl (by omega) (by omega)
          refine lv_goto (tgt := 2) hx hb dX0_firstUnlike_31 (by decide) ?_
          have htn : r_4.toInt = (tnF (r 9) x1_3.toInt.toNat).toInt := congrArg Int32.toInt hqr_4
          have hsh : v_5.toInt = (r 52 x1_3.toInt.toNat).toInt := congrArg Int32.toInt ev_5
          exact ih1 x_7 _ (by first | omega | (simp only [Int.toNat]; omega)) (by first | omega | decide)  ⟨by omega, fun u hu => by by_cases e9 : u = x1_3.toInt.toNat; (· rw [e9, ← htn, ← hsh]; omega); (· exact hx1.2 u (by omega))⟩  (lv_sub hl [0, 1, 2, 3] rfl)
        · have c_6 : r_4.toInt ≠ v_5.toInt := b_ne c_6
          refine lv_iload_n hx hb dX0_firstUnlike_26 rfl (lv_at hl 0 rfl) ?_
          subst hQ
          have htn : r_4.toInt = (tnF (r 9) x1_3.toInt.toNat).toInt := congrArg Int32.toInt hqr_4
          have hsh : v_5.toInt = (r 52 x1_3.toInt.toNat).toInt := congrArg Int32.toInt ev_5
          exact W.iret (v := x1_3) hx hb hr (fun t ht hW => ⟨_, rfl, ⟨by omega, Or.inl ⟨x1_3.toInt.toNat, by omega, hx1.2, by rw [← htn, ← hsh]; omega, by omega⟩⟩, ht⟩) (fun q hq => absurd hq List.not_mem_nil) dX0_firstUnlike_27
  exact loop_1 _ 0 _ (Nat.lt_succ_self _) (by first | omega | decide)  ⟨by have h3 : (0 : Int32).toInt = 0 := rfl; omega, fun u hu => absurd (show u < 0 from hu) (Nat.not_lt_zero u)⟩  hl
set_option maxHeartbeats 4000000 in
set_option maxRecDepth 100000 in
theorem c_X12_check8 (l : Launch) (D : va_G) (cy : Nat → ClassId) (a : Nat → Nat) (i : Nat → Int32) (r : Nat → Nat → Int32) (rl : Nat → Int64) (p0 p1 p2 : Int32) (sz : Nat) (hRi : mRi i) (hRr : mRr r) (hE : mE i r) (hs9 : ∀ c : Nat, (c : Int) < (i 51).toInt → gjSt (gjH (r 14) ((r 40 c).toNatClampNeg)) (r 10 ((r 40 c).toNatClampNeg)).toNatClampNeg ∧ gjSt (gjH (r 18) ((r 40 c).toNatClampNeg)) (r 11 ((r 40 c).toNatClampNeg)).toNatClampNeg) (hmo : ∀ c : Nat, (c : Int) < (i 51).toInt → (r 6 (r 40 c).toNatClampNeg).toInt ≤ (r 7 (r 40 c).toNatClampNeg).toInt) : Met l yX12_check (Cond.code yX12_check cX12_check 5 (some .int) :: gT) { frames := 10, cells := 0, slots := 0, locals := 238 } (va_Pc [.ref (a 0), .int p0, .int p1, .int p2] (rQ D cy (mW cy a i r rl) sz)) (va_Qi (fun (z : Int32) (u : (Nat → Int32) × (Nat → Nat → Int32) × (Nat → Int64)) => mRi u.1 ∧ mRr u.2.1 ∧ mEi [22, 23, 24, 25, 26, 27, 28, 29, 30, 60] i u.1 ∧ mEr [32, 33, 34, 35, 36, 37, 38, 39, 49] r u.2.1 ∧ ((((0 ≤ p0.toInt ∧ p0.toInt < (i 0).toInt) ∧ (0 ≤ p1.toInt ∧ p1.toInt ≤ 9999) ∧ (0 ≤ p2.toInt ∧ p2.toInt ≤ 4) ∧ 4 * p2.toInt ≤ (i 22).toInt) → u.1 22 = 0 ∧ ∃ t9 : Int32, mBX (mPh r p0) i r p1 (i 51).toNatClampNeg t9 ∧ chk (shF (shP (fun t => r 8 (4 * p0.toNatClampNeg + t)) (r 4 p0.toNatClampNeg).toInt.toNat) (r 4 p0.toNatClampNeg).toInt.toNat (bckI (t9 + sumB (mOw r p0.toNatClampNeg) 3) (r 5 p0.toNatClampNeg) (mDn r (mD i r) p0.toNatClampNeg)).toInt) (tnF (r 20)) (r 4 p0.toNatClampNeg) p2 z) ∧ (¬ ((0 ≤ p0.toInt ∧ p0.toInt < (i 0).toInt) ∧ (0 ≤ p1.toInt ∧ p1.toInt ≤ 9999) ∧ (0 ≤ p2.toInt ∧ p2.toInt ≤ 4) ∧ 4 * p2.toInt ≤ (i 22).toInt) → u.1 22 = i 22 ∧ z = -2))) (fun (u : (Nat → Int32) × (Nat → Nat → Int32) × (Nat → Int64)) t => va_P D vwCl (mW cy a u.1 u.2.1 u.2.2) t.heap ∧ va_K D vwCl (vT cy) t ∧ va_D (va_A (mW cy a i r rl) sz) (mW cy a u.1 u.2.1 u.2.2)) (va_A (mW cy a i r rl) sz)) 0 0 (va_A (mW cy a i r rl) sz) := by
  refine Met.ofQ (cc := cX12_check) (maxL := 5) (ret := (some .int)) (by decide) rfl ?_
  intro p e s m args below meth c s₁ B hml hv Q hQ
  obtain ⟨rfl, hsz, hP, hK, hD0⟩ := hv
  have hx := B.exec
  have hb := B.bytes
  have hr := B.returns
  have hlocks := B.notSynchronized
  have hT : ∀ w ∈ gT, w.before _ s = true := fun w h => atoms_spec (ws := (Cond.code yX12_check cX12_check 5 (some .int) :: gT)) B.pre w (List.mem_cons_of_mem _ h)
  have hown : s.vm.findClass RX12 = some m.cls := findClass_of_methodNamed B.named
  subst hsz
  have hD := hD0.self (sz := s.heap.size)
  generalize hAe : va_A (mW cy a i r rl) s.heap.size = A at hD hQ
  have hA : ∀ q : Nat, s.heap.size ≤ q → A q := fun q h => by rw [← hAe]; exact Or.inr h
  have hS : va_S A s.heap s.heap [] := va_S.rf
  have hl := lv_entry ([.ref (a 0), .int p0, .int p1, .int p2]) (n := 5) (Nat.le_of_ble_eq_true rfl)
  rw [lg_entry_eq]
  generalize (lg_sl ([.ref (a 0), .int p0, .int p1, .int p2]) ++ List.replicate (5 - (lg_sl ([.ref (a 0), .int p0, .int p1, .int p2])).length) Slot.unset).toArray = ls at hl ⊢
  have hl : lv_has ls 5 [(0, .ref (a 0)), (1, .int p0), (2, .int p1), (3, .int p2)] := hl
  have hEi : mEi [22, 23, 24, 25, 26, 27, 28, 29, 30, 60] i i := Ei_rf
  have hEr : mEr [32, 33, 34, 35, 36, 37, 38, 39, 49] r r := Er_rf
  have hRi0 : mRi i := hRi
  have hRr0 : mRr r := hRr
  refine lv_aload_n hx hb dX12_check_0 rfl (lv_at hl 0 rfl) ?_
  refine lv_iload_n hx hb dX12_check_1 rfl (lv_at hl 1 rfl) ?_
  refine vp_callSi (W.runV (As := [.int p0]) (rest := []) ⟨hx, hb, hml, hown, hT⟩ (c_X12_isHome l D cy a i r rl p0 hRi hRr) (cwV 1 hT (gV t_12 t_13 t_14 t_15 t_6) rfl rfl rfl (by decide +kernel) ⟨Nat.le_of_ble_eq_true rfl, Nat.le_of_ble_eq_true rfl⟩) (rP_v hP hK (va_recv hK hP (ci := 12) (q0 := 0) rfl rfl)) rfl rfl hl.1 rfl (lv_room (Nat.le_of_ble_eq_true rfl)) dX12_check_2 ⟨Nat.le_of_ble_eq_true rfl, Nat.le_of_ble_eq_true rfl⟩) (fun r_1 hr_1 => ?_)
  have hg_2 : 0 ≤ (i 0).toInt ∧ (i 0).toInt ≤ 6 := hRi 0
  have hr_1 : BR r_1 (0 ≤ p0.toInt ∧ p0.toInt < (i 0).toInt) 1 0 := hr_1
  rcases hr_1 with ⟨rfl, h_3⟩ | ⟨rfl, h_3⟩
  · skip
    refine lv_if_eq (tgt := 34) hx hb dX12_check_5 (by decide) (fun c_4 => absurd c_4 (by decide)) (fun c_4 => ?_)
    refine lv_iload_n hx hb dX12_check_8 rfl (lv_at hl 2 rfl) ?_
    refine vp_callSi (W.runS (As := [.int p1]) (rest := []) ⟨hx, hb, hml, hown, hT⟩ (c_X12_isDay l p1) (va_cwS 1 hT (gS t_157 t_158 t_159 t_6) rfl rfl rfl (by decide +kernel) ⟨Nat.le_of_ble_eq_true rfl, Nat.le_of_ble_eq_true rfl⟩) preT rfl rfl hl.1 rfl (lv_room (Nat.le_of_ble_eq_true rfl)) dX12_check_9 ⟨Nat.le_of_ble_eq_true rfl, Nat.le_of_ble_eq_true rfl⟩) (fun r_5 hr_5 => ?_)
    have hr_5 : BR r_5 (0 ≤ p1.toInt ∧ p1.toInt ≤ 9999) 1 0 := hr_5
    rcases hr_5 with ⟨rfl, h_6⟩ | ⟨rfl, h_6⟩
    · skip
      refine lv_if_eq (tgt := 34) hx hb dX12_check_12 (by decide) (fun c_7 => absurd c_7 (by decide)) (fun c_7 => ?_)
      refine lv_iload_n hx hb dX12_check_15 rfl (lv_at hl 3 rfl) ?_
      refine lv_iconst (v := 0) hx hb dX12_check_16 (by decide) ?_
      refine lv_iconst (v := 4) hx hb dX12_check_17 (by decide) ?_
      refine vp_callSi (W.runS (As := [.int p2, .int 0, .int 4]) (rest := []) ⟨hx, hb, hml, hown, hT⟩ (c_X12_in l p2 0 4) (va_cwS 3 hT (gS t_113 t_114 t_115 t_6) rfl rfl rfl (by decide +kernel) ⟨Nat.le_of_ble_eq_true rfl, Nat.le_of_ble_eq_true rfl⟩) preT rfl rfl hl.1 rfl (lv_room (Nat.le_of_ble_eq_true rfl)) dX12_check_18 ⟨Nat.le_of_ble_eq_true rfl, Nat.le_of_ble_eq_true rfl⟩) (fun r_8 hr_8 => ?_)
      have hr_8 : BR r_8 (0 ≤ p2.toInt ∧ p2.toInt ≤ 4) 1 0 := hr_8
      rcases hr_8 with ⟨rfl, h_9⟩ | ⟨rfl, h_9⟩
      · skip
        refine lv_if_eq (tgt := 34) hx hb dX12_check_21 (by decide) (fun c_10 => absurd c_10 (by decide)) (fun c_10 => ?_)
        refine lv_iload_n hx hb dX12_check_24 rfl (lv_at hl 3 rfl) ?_
        refine lv_aload_n hx hb dX12_check_25 rfl (lv_at hl 0 rfl) ?_
        refine va_get (D := D) (ci := 12) (v := .int (i 22)) (C := RX12) (T := TX12) (N := 91) hx hb hT iX12 hown hK hP 0 rfl rfl 22 (by decide) (hT _ t_201) (fun _ h9 => h9) rfl dX12_check_26 ?_
        have hg_11 : 0 ≤ (i 22).toInt ∧ (i 22).toInt ≤ 220 := hRi 22
        refine lv_iconst (v := 4) hx hb dX12_check_29 (by decide) ?_
        refine lv_idiv hx hb dX12_check_30 (by decide) ?_
        refine lv_topi (fun v_12 ev_12 => ?_)
        have hd9 : v_12.toInt = (i 22).toInt / 4 := by rw [ev_12]; exact div4 (by omega)
        refine lv_icmp_le (tgt := 37) hx hb dX12_check_31 (by decide) (fun c_13 => ?_) (fun c_13 => ?_)
        · have c_13 : p2.toInt ≤ v_12.toInt := b_le c_13
          refine lv_aload_n hx hb dX12_check_37 rfl (lv_at hl 0 rfl) ?_
          refine lv_iconst (v := 0) hx hb dX12_check_38 (by decide) ?_
          refine va_put (D := D) (ci := 12) (v := .int 0) (ty := .int) (C := RX12) (T := TX12) (N := 91) hx hb hT iX12 tyX12 tyX12_ok nmX12 hown hK hP hD hS 0 rfl rfl 22 (by decide) (hT _ t_201) (fun _ h9 => h9) rfl (by decide +kernel) rfl rfl (Nat.le_of_ble_eq_true rfl) dX12_check_39 (fun H locs hP hD hS => ?_)
          rw [mP22] at hP hD
          have hRi := Ri_upd hRi 22 0 ⟨by decide, by decide⟩
          have hEi := Ei_upd hEi 22 0 (by decide)
          have hEi9 := hEi
          have hEr9 := hEr
          have hz22 : (upd i 22 0) 22 = 0 := rfl
          refine lv_aload_n hx hb dX12_check_42 rfl (lv_at hl 0 rfl) ?_
          refine lv_iload_n hx hb dX12_check_43 rfl (lv_at hl 1 rfl) ?_
          refine lv_aload_n hx hb dX12_check_44 rfl (lv_at hl 0 rfl) ?_
          refine lv_iload_n hx hb dX12_check_45 rfl (lv_at hl 1 rfl) ?_
          refine lv_iload_n hx hb dX12_check_46 rfl (lv_at hl 2 rfl) ?_
          have hF_14 := rF hD hS hA
          refine va_calli (va_runV (As := [.int p0, .int p1]) (rest := [.int p0, .ref (a 0)]) ⟨hx, hb, hml, hown, hT⟩ (c_X12_backOf9 l D cy a (upd i 22 0) r rl p0 p1 _ hRi hRr (mE_same hEi hEr (by decide) (by decide) hE) (by omega) (by rw [hEi 51 (by decide), hEr 14 (by decide), hEr 10 (by decide), hEr 18 (by decide), hEr 11 (by decide), hEr 40 (by decide)]; exact hs9)) (cwV 2 hT (gV t_826 t_827 t_828 t_829 t_6) rfl rfl rfl (by decide +kernel) ⟨Nat.le_of_ble_eq_true rfl, Nat.le_of_ble_eq_true rfl⟩) (rQ_v hP hK hD (va_recv hK hP (ci := 12) (q0 := 0) rfl rfl)) rfl rfl hl.1 rfl (lv_room (Nat.le_of_ble_eq_true rfl)) dX12_check_47 ⟨Nat.le_of_ble_eq_true rfl, Nat.le_of_ble_eq_true rfl⟩) hS (fun q _ h => hF_14 q h) hF_14 (fun r_15 u_16 t H1 locs ht hvm hr_15 hB hz1 hk1 hS => ?_)
          obtain ⟨i16, r16⟩ := u_16
          obtain ⟨hP, hK1, hD1⟩ := hB
          rw [ht] at hP
          have hD := hD1.weaken (fun k q _ h => hF_14 q.1 h)
          have hP : va_P D vwCl (mW cy a i16 r16 rl) H1 := hP
          have hD : va_D A (mW cy a i16 r16 rl) := hD
          obtain ⟨hRi, hRr, hE1, hE2, hr_15⟩ := hr_15
          have hRi : mRi i16 := hRi
          have hRr : mRr r16 := hRr
          have hEi : mEi [22, 23, 24, 25, 26, 27, 28, 29, 30, 60] _ i16 := Ei_tr hEi hE1 (by decide)
          have hEr : mEr [32, 33, 34, 35, 36, 37, 38, 39, 49] _ r16 := Er_tr hEr hE2 (by decide)
          have hqr_15 : (∃ t9 : Int32, mBX (mPh r p0) (upd i 22 0) r p1 ((upd i 22 0) 51).toNatClampNeg t9 ∧ r_15 = r 5 p0.toNatClampNeg - ownG (t9 + sumB (mOw r p0.toNatClampNeg) 3) (r 5 p0.toNatClampNeg)) := hr_15
          have hz47 : i16 22 = 0 := (hE1 22 (by decide)).trans hz22
          have hbk9 := hqr_15
          rw [hEi9 51 (by decide), mOw_E hEr9 (by decide), hEr9 5 (by decide)] at hbk9
          obtain ⟨t9, hbx, hbo⟩ := hbk9
          have hbx : mBX (mPh r p0) i r p1 (i 51).toNatClampNeg t9 := mBX_E hEi9 hEr9 (by decide) (by decide) rfl hbx
          obtain ⟨v_17, ev_17⟩ : ∃ y : Int64, r_15.toInt64 = y := ⟨_, rfl⟩
          refine lv_i2l (v := v_17) hx hb dX12_check_50 ev_17 ?_
          have hlv_17 : v_17.toInt = r_15.toInt := by rw [← ev_17]; exact Int32.toInt_toInt64 _
          have hErQ := hEr
          have hEiQ := hEi
          refine lv_aload_n hx hb dX12_check_51 rfl (lv_at hl 0 rfl) ?_
          refine lv_iload_n hx hb dX12_check_52 rfl (lv_at hl 1 rfl) ?_
          have hF_18 := rF hD hS hA
          refine va_calli (va_runV (As := [.int p0]) (rest := [.long v_17, .int p0, .ref (a 0)]) ⟨hx, hb, hml, hown, hT⟩ (c_X12_penaltyOf9 l D cy a i16 r16 rl p0 _ hRi hRr (mE_same hEi hEr (by decide) (by decide) hE) (by omega)) (cwV 1 hT (gV t_830 t_831 t_832 t_833 t_6) rfl rfl rfl (by decide +kernel) ⟨Nat.le_of_ble_eq_true rfl, Nat.le_of_ble_eq_true rfl⟩) (rQ_v hP hK hD (va_recv hK hP (ci := 12) (q0 := 0) rfl rfl)) rfl rfl hl.1 rfl (lv_room (Nat.le_of_ble_eq_true rfl)) dX12_check_53 ⟨Nat.le_of_ble_eq_true rfl, Nat.le_of_ble_eq_true rfl⟩) hS (fun q _ h => hF_18 q h) hF_18 (fun r_19 u_20 t H1 locs ht hvm hr_19 hB hz1 hk1 hS => ?_)
          obtain ⟨r20, rfl⟩ : ∃ z, z = u_20 := ⟨_, rfl⟩
          obtain ⟨hP, hK1, hD1⟩ := hB
          rw [ht] at hP
          have hD := hD1.weaken (fun k q _ h => hF_18 q.1 h)
          have hP : va_P D vwCl (mW cy a i16 r20 rl) H1 := hP
          have hD : va_D A (mW cy a i16 r20 rl) := hD
          obtain ⟨hRr, hE2, hr_19⟩ := hr_19
          have hRr : mRr r20 := hRr
          have hEr : mEr [32, 33, 34, 35, 36, 37, 38, 39, 49] _ r20 := Er_tr hEr hE2 (by decide)
          have hqr_19 : r_19 = mDn r16 (mD i16 r16) p0.toNatClampNeg := hr_19
          have hpe9 : r_19 = mDn r (mD i r) p0.toNatClampNeg := by have h9 := hqr_19; rw [show mD i16 r16 = mD i r from mD_E (hEiQ 31 (by decide)) hErQ (by decide), mDn_E hErQ (by decide)] at h9; exact h9
          obtain ⟨v_21, ev_21⟩ : ∃ y : Int64, r_19.toInt64 = y := ⟨_, rfl⟩
          refine lv_i2l (v := v_21) hx hb dX12_check_56 ev_21 ?_
          have hlv_21 : v_21.toInt = r_19.toInt := by rw [← ev_21]; exact Int32.toInt_toInt64 _
          refine lv_ladd hx hb dX12_check_57 ?_
          refine lv_topl (fun v_22 ev_22 => ?_)
          have hc51 : (i 51).toNatClampNeg = (i 51).toInt.toNat := rfl
          have hg51 : 0 ≤ (i 51).toInt ∧ (i 51).toInt ≤ 30 := hRi0 51
          have ht9 := mBX_b hbx (by omega) hRr0 (fun c9 hc9 => by have hm9 := hE.2.2.1 c9 (by omega); have h40 : 0 ≤ (r 40 c9).toInt := (hRr0 40 _).1; have h41 : 0 ≤ (r 41 c9).toInt := (hRr0 41 _).1; exact hE.2.1 _ _ (by have h8 := hm9.1; have h7 : (i 0).toInt ≤ 6 := (hRi0 0).2; show (r 40 c9).toInt.toNat < 6; omega) (by have h8 := hm9.2; show (((r 41 c9).toInt.toNat : Nat) : Int) < _; omega)) (fun c9 hc9 => hmo c9 (by omega))
          have hbr := bckI_r (n := t9 + sumB (mOw r p0.toNatClampNeg) 3) (dep := r 5 p0.toNatClampNeg) (pen := mDn r (mD i r) p0.toNatClampNeg) (hRr0 5 _) (all_n ht9 (mOw_r hRr0)) (mDn_r hRr0)
          have hqi : v_22.toInt = (bckI (t9 + sumB (mOw r p0.toNatClampNeg) 3) (r 5 p0.toNatClampNeg) (mDn r (mD i r) p0.toNatClampNeg)).toInt := by rw [hbr.2.2, ← hbo, ← hpe9, ev_22]; exact l_add hlv_17 hlv_21 (by have h9 := b_rg r_15; have h8 := b_rg r_19; omega) (by have h9 := b_rg r_15; have h8 := b_rg r_19; omega)
          have hqr : 0 ≤ v_22.toInt ∧ v_22.toInt ≤ 9999990 := by omega
          have hErS := hEr
          have hF_23 := rF hD hS hA
          refine va_callv (va_runV (As := [.int p0, .long v_22]) (rest := []) ⟨hx, hb, hml, hown, hT⟩ (c_X12_sharesOut9 l D cy a i16 r20 rl p0 v_22 _ hRi hRr (mE_same hEi hEr (by decide) (by decide) hE) (by rw [hEi 0 (by decide)]; omega) hqr) (cwV 2 hT (gV t_834 t_835 t_836 t_837 t_6) rfl rfl rfl (by decide +kernel) ⟨Nat.le_of_ble_eq_true rfl, Nat.le_of_ble_eq_true rfl⟩) (rQ_v hP hK hD (va_recv hK hP (ci := 12) (q0 := 0) rfl rfl)) rfl rfl hl.1 rfl (lv_room (Nat.le_of_ble_eq_true rfl)) dX12_check_58 ⟨Nat.le_of_ble_eq_true rfl, Nat.le_of_ble_eq_true rfl⟩) hS (fun q _ h => hF_23 q h) hF_23 (fun u_25 t H1 locs ht hvm hr_24 hB hz1 hk1 hS => ?_)
          obtain ⟨i25, r25, l25⟩ := u_25
          obtain ⟨hP, hK1, hD1⟩ := hB
          rw [ht] at hP
          have hD := hD1.weaken (fun k q _ h => hF_23 q.1 h)
          have hP : va_P D vwCl (mW cy a i25 r25 l25) H1 := hP
          have hD : va_D A (mW cy a i25 r25 l25) := hD
          obtain ⟨hRi, hRr, hE1, hE2, hr_24⟩ := hr_24
          have hRi : mRi i25 := hRi
          have hRr : mRr r25 := hRr
          have hEi : mEi [22, 23, 24, 25, 26, 27, 28, 29, 30, 60] _ i25 := Ei_tr hEi hE1 (by decide)
          have hEr : mEr [32, 33, 34, 35, 36, 37, 38, 39, 49] _ r25 := Er_tr hEr hE2 (by decide)
          have hqr_24 : shZ (fun t => r20 8 (4 * p0.toNatClampNeg + t)) (r20 4 p0.toNatClampNeg) v_22.toInt (r25 49) := hr_24
          have h22z : i25 22 = 0 := (hE1 22 (by decide)).trans hz47
          have hsz : ∀ u9, u9 < (r 4 p0.toNatClampNeg).toInt.toNat → (r25 49 u9).toInt = shF (shP (fun t => r 8 (4 * p0.toNatClampNeg + t)) (r 4 p0.toNatClampNeg).toInt.toNat) (r 4 p0.toNatClampNeg).toInt.toNat (bckI (t9 + sumB (mOw r p0.toNatClampNeg) 3) (r 5 p0.toNatClampNeg) (mDn r (mD i r) p0.toNatClampNeg)).toInt u9 := by
            have h9 := hqr_24
            unfold shZ at h9
            rw [hErS 4 (by decide), hErS 8 (by decide), hqi] at h9
            exact h9
          have hg4 : 1 ≤ (r 4 p0.toNatClampNeg).toInt ∧ (r 4 p0.toNatClampNeg).toInt ≤ 4 := ⟨hE.1 _ (by have h9 : p0.toNatClampNeg = p0.toInt.toNat := rfl; omega), (hRr0 4 _).2⟩
          refine lv_iconst (v := 0) hx hb dX12_check_61 (by decide) ?_
          refine lv_istore (lv' := [(4, .int 0), (0, .ref (a 0)), (1, .int p0), (2, .int p1), (3, .int p2)]) hx hb dX12_check_62 hl (by decide) rfl (fun ls hl => ?_)
          have loop_26 : ∀ (n : Nat) (x26_4 : Int32) (H : Heap) (locs : List Loc) (ls : Array Slot), (4 - x26_4.toInt).toNat < n → (0 ≤ x26_4.toInt ∧ x26_4.toInt ≤ 4) → (x26_4.toInt ≤ (r 4 p0.toNatClampNeg).toInt ∧ x26_4.toInt ≤ p2.toInt ∧ ∀ u : Nat, u < x26_4.toInt.toNat → (tnF (r 20) u).toInt = (shF (shP (fun t => r 8 (4 * p0.toNatClampNeg + t)) (r 4 p0.toNatClampNeg).toInt.toNat) (r 4 p0.toNatClampNeg).toInt.toNat (bckI (t9 + sumB (mOw r p0.toNatClampNeg) 3) (r 5 p0.toNatClampNeg) (mDn r (mD i r) p0.toNatClampNeg)).toInt) u) → va_P D vwCl (mW cy a i25 r25 l25) H → va_D A (mW cy a i25 r25 l25) → va_S A s.heap H locs → lv_has ls 5 [(4, .int x26_4), (0, .ref (a 0)), (1, .int p0), (2, .int p1), (3, .int p2)] → W p l e ({ frames := 10, cells := 0, slots := 0, locals := 238 } : Room) s m ([.ref (a 0), .int p0, .int p1, .int p2] : List Value).toArray below meth c H locs 0 0 Q (F0 m 64 ls []) := by
            intro n
            induction n with
            | zero =>
              intro x26_4 H locs ls hm26 hf26_0 hx26 hP hD hS hl
              exact absurd hm26 (by omega)
            | succ n ih26 =>
              intro x26_4 H locs ls hm26 hf26_0 hx26 hP hD hS hl
              refine lv_iload hx hb dX12_check_64 (lv_at hl 0 rfl) ?_
              refine lv_aload_n hx hb dX12_check_66 rfl (lv_at hl 1 rfl) ?_
              refine va_get (D := D) (ci := 12) (v := .ref (a 4)) (C := RX12) (T := TX12) (N := 91) hx hb hT iX12 hown hK hP 0 rfl rfl 5 (by decide) (hT _ t_66) (fun _ h9 => h9) rfl dX12_check_67 ?_
              refine lv_iload_n hx hb dX12_check_70 rfl (lv_at hl 2 rfl) ?_
              refine va_iald hx hb hK hP 4 0 rfl rfl (vp_inI (by omega) (by omega)) dX12_check_71 ?_
              refine lv_topi (fun v_27 ev_27 => ?_)
              have hgv_27 : 0 ≤ v_27.toInt ∧ v_27.toInt ≤ 4 := by rw [ev_27]; exact hRr 4 _
              have htv_27 : v_27.toInt = (r 4 p0.toNatClampNeg).toInt := by rw [ev_27, hEr 4 (by decide)]
              refine lv_icmp_ge (tgt := 106) hx hb dX12_check_72 (by decide) (fun c_28 => ?_) (fun c_28 => ?_)
              · have c_28 : v_27.toInt ≤ x26_4.toInt := b_le c_28
                refine lv_aload_n hx hb dX12_check_106 rfl (lv_at hl 1 rfl) ?_
                refine va_get (D := D) (ci := 12) (v := .ref (a 4)) (C := RX12) (T := TX12) (N := 91) hx hb hT iX12 hown hK hP 0 rfl rfl 5 (by decide) (hT _ t_66) (fun _ h9 => h9) rfl dX12_check_107 ?_
                refine lv_iload_n hx hb dX12_check_110 rfl (lv_at hl 2 rfl) ?_
                refine va_iald hx hb hK hP 4 0 rfl rfl (vp_inI (by omega) (by omega)) dX12_check_111 ?_
                refine lv_topi (fun v_29 ev_29 => ?_)
                have hgv_29 : 0 ≤ v_29.toInt ∧ v_29.toInt ≤ 4 := by rw [ev_29]; exact hRr 4 _
                have htv_29 : v_29.toInt = (r 4 p0.toNatClampNeg).toInt := by rw [ev_29, hEr 4 (by decide)]
                refine lv_iload_n hx hb dX12_check_112 rfl (lv_at hl 4 rfl) ?_
                refine lv_icmp_ge (tgt := 125) hx hb dX12_check_113 (by decide) (fun c_30 => ?_) (fun c_30 => ?_)
                · have c_30 : p2.toInt ≤ v_29.toInt := b_le c_30
                  refine lv_iconst (v := (-1)) hx hb dX12_check_125 (by decide) ?_
                  subst hQ
                  exact W.iret (v := (-1)) hx hb hr (fun t ht hW => ⟨⟨_, (i25, r25, l25), rfl, ⟨hRi, hRr, hEi, hEr, ⟨fun _ => ⟨h22z, t9, hbx, Or.inr ⟨fun u u1 u2 => hx26.2.2 u (by omega), fun _ => rfl, fun h9 => absurd h9 (by omega), fun h9 => absurd h9 (by omega)⟩⟩, fun h9 => absurd (by omega) h9⟩⟩, by rw [ht]; exact hP, va_K.moved hW.alike hK, hD⟩, hS.F ht⟩) hS.2.2 dX12_check_126
                · have c_30 : v_29.toInt < p2.toInt := b_nle c_30
                  refine lv_aload_n hx hb dX12_check_116 rfl (lv_at hl 1 rfl) ?_
                  refine va_get (D := D) (ci := 12) (v := .ref (a 4)) (C := RX12) (T := TX12) (N := 91) hx hb hT iX12 hown hK hP 0 rfl rfl 5 (by decide) (hT _ t_66) (fun _ h9 => h9) rfl dX12_check_117 ?_
                  refine lv_iload_n hx hb dX12_check_120 rfl (lv_at hl 2 rfl) ?_
                  refine va_iald hx hb hK hP 4 0 rfl rfl (vp_inI (by omega) (by omega)) dX12_check_121 ?_
                  refine lv_topi (fun v_31 ev_31 => ?_)
                  have hgv_31 : 0 ≤ v_31.toInt ∧ v_31.toInt ≤ 4 := by rw [ev_31]; exact hRr 4 _
                  have htv_31 : v_31.toInt = (r 4 p0.toNatClampNeg).toInt := by rw [ev_31, hEr 4 (by decide)]
                  refine lv_goto (tgt := 126) hx hb dX12_check_122 (by decide) ?_
                  subst hQ
                  exact W.iret (v := v_31) hx hb hr (fun t ht hW => ⟨⟨_, (i25, r25, l25), rfl, ⟨hRi, hRr, hEi, hEr, ⟨fun _ => ⟨h22z, t9, hbx, Or.inr ⟨fun u u1 u2 => hx26.2.2 u (by omega), fun h9 => absurd h9 (by omega), fun h9 => absurd h9 (by omega), fun _ => by omega⟩⟩, fun h9 => absurd (by omega) h9⟩⟩, by rw [ht]; exact hP, va_K.moved hW.alike hK, hD⟩, hS.F ht⟩) hS.2.2 dX12_check_126
              · have c_28 : x26_4.toInt < v_27.toInt := b_nle c_28
                refine lv_iload hx hb dX12_check_75 (lv_at hl 0 rfl) ?_
                refine lv_iload_n hx hb dX12_check_77 rfl (lv_at hl 4 rfl) ?_
                refine lv_icmp_eq (tgt := 97) hx hb dX12_check_78 (by decide) (fun c_32 => ?_) (fun c_32 => ?_)
                · have c_32 : x26_4.toInt = p2.toInt := b_eq c_32
                  refine lv_iload hx hb dX12_check_97 (lv_at hl 0 rfl) ?_
                  subst hQ
                  exact W.iret (v := x26_4) hx hb hr (fun t ht hW => ⟨⟨_, (i25, r25, l25), rfl, ⟨hRi, hRr, hEi, hEr, ⟨fun _ => ⟨h22z, t9, hbx, Or.inr ⟨fun u u1 u2 => hx26.2.2 u (by omega), fun h9 => absurd h9 (by omega), fun _ => by omega, fun h9 => absurd h9 (by omega)⟩⟩, fun h9 => absurd (by omega) h9⟩⟩, by rw [ht]; exact hP, va_K.moved hW.alike hK, hD⟩, hS.F ht⟩) hS.2.2 dX12_check_99
                · have c_32 : x26_4.toInt ≠ p2.toInt := b_ne c_32
                  refine lv_aload_n hx hb dX12_check_81 rfl (lv_at hl 1 rfl) ?_
                  refine lv_iload hx hb dX12_check_82 (lv_at hl 0 rfl) ?_
                  refine vp_callSi (W.runV (As := [.int x26_4]) (rest := []) ⟨hx, hb, hml, hown, hT⟩ (c_X12_tapeNumber9 l D cy a i25 r25 l25 x26_4 hRi hRr (by omega)) (cwV 1 hT (gV t_838 t_839 t_840 t_841 t_6) rfl rfl rfl (by decide +kernel) ⟨Nat.le_of_ble_eq_true rfl, Nat.le_of_ble_eq_true rfl⟩) (rP_v hP hK (va_recv hK hP (ci := 12) (q0 := 0) rfl rfl)) rfl rfl hl.1 rfl (lv_room (Nat.le_of_ble_eq_true rfl)) dX12_check_84 ⟨Nat.le_of_ble_eq_true rfl, Nat.le_of_ble_eq_true rfl⟩) (fun r_33 hr_33 => ?_)
                  have hqr_33 : r_33 = tnF (r25 20) x26_4.toInt.toNat := hr_33
                  have htn : r_33.toInt = (tnF (r 20) x26_4.toInt.toNat).toInt := by have h9 := hqr_33; rw [hEr 20 (by decide)] at h9; exact congrArg Int32.toInt h9
                  refine lv_aload_n hx hb dX12_check_87 rfl (lv_at hl 1 rfl) ?_
                  refine va_get (D := D) (ci := 12) (v := .ref (a 49)) (C := RX12) (T := TX12) (N := 91) hx hb hT iX12 hown hK hP 0 rfl rfl 62 (by decide) (hT _ t_796) (fun _ h9 => h9) rfl dX12_check_88 ?_
                  refine lv_iload hx hb dX12_check_91 (lv_at hl 0 rfl) ?_
                  refine va_iald hx hb hK hP 49 0 rfl rfl (vp_inI (by omega) (by omega)) dX12_check_93 ?_
                  refine lv_topi (fun v_34 ev_34 => ?_)
                  have hsv : v_34.toInt = (shF (shP (fun t => r 8 (4 * p0.toNatClampNeg + t)) (r 4 p0.toNatClampNeg).toInt.toNat) (r 4 p0.toNatClampNeg).toInt.toNat (bckI (t9 + sumB (mOw r p0.toNatClampNeg) 3) (r 5 p0.toNatClampNeg) (mDn r (mD i r) p0.toNatClampNeg)).toInt) x26_4.toInt.toNat := (congrArg Int32.toInt ev_34).trans (hsz x26_4.toInt.toNat (by omega))
                  refine lv_icmp_eq (tgt := 100) hx hb dX12_check_94 (by decide) (fun c_35 => ?_) (fun c_35 => ?_)
                  · have c_35 : r_33.toInt = v_34.toInt := b_eq c_35
                    obtain ⟨x_36, ex_36⟩ : ∃ y : Int32, y = x26_4 + 1 := ⟨_, rfl⟩
                    refine lv_iinc (v := x_36) (lv' := [(4, .int x_36), (0, .ref (a 0)), (1, .int p0), (2, .int p1), (3, .int p2)]) hx hb dX12_check_100 hl (k := 0) rfl (by rw [ex_36]; rfl) (by decide) rfl (fun ls hl => ?_)
                    have hx_36 : x_36.toInt = x26_4.toInt + 1 := by rw [ex_36]; have := b_rg x26_4; exact i_add (a := x26_4.toInt) (b := 1) rfl rfl (by omega) (by omega)
                    refine lv_goto (tgt := 64) hx hb dX12_check_103 (by decide) ?_
                    exact ih26 x_36 _ _ _ (by first | omega | (simp only [Int.toNat]; omega)) (by first | omega | decide)  ⟨by omega, by omega, fun u hu => by by_cases e9 : u = x26_4.toInt.toNat; (· rw [e9, ← htn, ← hsv]; omega); (· exact hx26.2.2 u (by omega))⟩ hP hD hS (lv_sub hl [0, 1, 2, 3, 4] rfl)
                  · have c_35 : r_33.toInt ≠ v_34.toInt := b_ne c_35
                    refine lv_iload hx hb dX12_check_97 (lv_at hl 0 rfl) ?_
                    subst hQ
                    exact W.iret (v := x26_4) hx hb hr (fun t ht hW => ⟨⟨_, (i25, r25, l25), rfl, ⟨hRi, hRr, hEi, hEr, ⟨fun _ => ⟨h22z, t9, hbx, Or.inl ⟨x26_4.toInt.toNat, by omega, by omega, hx26.2.2, by rw [← htn, ← hsv]; omega, by omega⟩⟩, fun h9 => absurd (by omega) h9⟩⟩, by rw [ht]; exact hP, va_K.moved hW.alike hK, hD⟩, hS.F ht⟩) hS.2.2 dX12_check_99
          exact loop_26 _ 0 _ _ _ (Nat.lt_succ_self _) (by first | omega | decide)  ⟨by have h3 : (0 : Int32).toInt = 0 := rfl; omega, by have h3 : (0 : Int32).toInt = 0 := rfl; omega, fun u hu => absurd (show u < 0 from hu) (Nat.not_lt_zero u)⟩ hP hD hS hl
        · have c_13 : v_12.toInt < p2.toInt := b_nle c_13
          refine lv_bipush (v := (-2)) hx hb dX12_check_34 (by decide) ?_
          subst hQ
          exact W.iret (v := (-2)) hx hb hr (fun t ht hW => ⟨⟨_, (i, r, rl), rfl, ⟨hRi, hRr, hEi, hEr, ⟨fun h9 => absurd h9 (by omega), fun _ => ⟨rfl, rfl⟩⟩⟩, by rw [ht]; exact hP, va_K.moved hW.alike hK, hD⟩, hS.F ht⟩) hS.2.2 dX12_check_36
      · skip
        refine lv_if_eq (tgt := 34) hx hb dX12_check_21 (by decide) (fun c_37 => ?_) (fun c_37 => absurd (by decide) c_37)
        refine lv_bipush (v := (-2)) hx hb dX12_check_34 (by decide) ?_
        subst hQ
        exact W.iret (v := (-2)) hx hb hr (fun t ht hW => ⟨⟨_, (i, r, rl), rfl, ⟨hRi, hRr, hEi, hEr, ⟨fun h9 => absurd h9 (by omega), fun _ => ⟨rfl, rfl⟩⟩⟩, by rw [ht]; exact hP, va_K.moved hW.alike hK, hD⟩, hS.F ht⟩) hS.2.2 dX12_check_36
    · skip
      refine lv_if_eq (tgt := 34) hx hb dX12_check_12 (by decide) (fun c_38 => ?_) (fun c_38 => absurd (by decide) c_38)
      refine lv_bipush (v := (-2)) hx hb dX12_check_34 (by decide) ?_
      subst hQ
      exact W.iret (v := (-2)) hx hb hr (fun t ht hW => ⟨⟨_, (i, r, rl), rfl, ⟨hRi, hRr, hEi, hEr, ⟨fun h9 => absurd h9 (by omega), fun _ => ⟨rfl, rfl⟩⟩⟩, by rw [ht]; exact hP, va_K.moved hW.alike hK, hD⟩, hS.F ht⟩) hS.2.2 dX12_check_36
  · skip
    refine lv_if_eq (tgt := 34) hx hb dX12_check_5 (by decide) (fun c_39 => ?_) (fun c_39 => absurd (by decide) c_39)
    refine lv_bipush (v := (-2)) hx hb dX12_check_34 (by decide) ?_
    subst hQ
    exact W.iret (v := (-2)) hx hb hr (fun t ht hW => ⟨⟨_, (i, r, rl), rfl, ⟨hRi, hRr, hEi, hEr, ⟨fun h9 => absurd h9 (by omega), fun _ => ⟨rfl, rfl⟩⟩⟩, by rw [ht]; exact hP, va_K.moved hW.alike hK, hD⟩, hS.F ht⟩) hS.2.2 dX12_check_36
set_option maxHeartbeats 4000000 in
set_option maxRecDepth 100000 in
theorem c_X11_check_y8 (l : Launch) (D : va_G) (cy : Nat → ClassId) (a : Nat → Nat) (i : Nat → Int32) (r : Nat → Nat → Int32) (q : Nat → Option Nat) (tl : va_W) (p0 p1 p2 : Int32) (sz : Nat) (hRi : yRi i) (hRr : yRr r) (hh : 0 ≤ p0.toInt ∧ p0.toInt < (i 0).toInt) (hq : q p0.toNatClampNeg = some (a 61)) (d9 : lwT) (hL9 : xLw d9 i r) (hG9 : gLw d9) (hgd : ∀ c : Nat, (c : Int) < (i 10).toInt → (r 30 c).toInt = p0.toInt → 1 ≤ (r 68 (r 31 c).toNatClampNeg).toInt ∧ 0 < (r 2 (r 67 (r 31 c).toNatClampNeg).toNatClampNeg).toInt) (hsb : 0 ≤ (sumB (xJV d9 i r p0 p1) (i 10).toNatClampNeg).toInt ∧ (sumB (xJV d9 i r p0 p1) (i 10).toNatClampNeg).toInt ≤ 30000000) : Met l yX11_check (Cond.code yX11_check cX11_check 6 (some .int) :: gT) { frames := 7, cells := 0, slots := 0, locals := 175 } (va_Pc [.ref (a 0), .int p0, .int p1, .int p2] (rM D cy (xW cy a i r q (a 20) (a 12) ++ (hW cy a i r ++ tl)) sz)) (va_Qi (fun (z : Int32) (u : (Nat → Int32) × (Nat → Nat → Int32)) => yRi u.1 ∧ yRr u.2 ∧ mEi [2] i u.1 ∧ mEr [27, 28, 52, 53] r u.2 ∧ ((((0 ≤ p1.toInt ∧ p1.toInt ≤ 9999) ∧ (0 ≤ p2.toInt ∧ p2.toInt ≤ 4) ∧ 4 * p2.toInt ≤ (i 2).toInt) → u.1 2 = 0 ∧ chk (shF (shP (r 62) (i 18).toInt.toNat) (i 18).toInt.toNat (bckI (sumB (xJV d9 i r p0 p1) (i 10).toNatClampNeg + sumB (r 63) 3) (i 19) (xDn i d9)).toInt) (tnF (r 9)) (i 18) p2 z) ∧ (¬ ((0 ≤ p1.toInt ∧ p1.toInt ≤ 9999) ∧ (0 ≤ p2.toInt ∧ p2.toInt ≤ 4) ∧ 4 * p2.toInt ≤ (i 2).toInt) → u.1 2 = i 2 ∧ z = -2))) (fun (u : (Nat → Int32) × (Nat → Nat → Int32)) t => va_P D vwCl (xW cy a u.1 u.2 q (a 20) (a 12) ++ (hW cy a u.1 u.2 ++ tl)) t.heap ∧ va_K D vwCl (vT cy) t ∧ va_D (va_A (xW cy a i r q (a 20) (a 12) ++ (hW cy a i r ++ tl)) sz) (xW cy a u.1 u.2 q (a 20) (a 12) ++ (hW cy a u.1 u.2 ++ tl))) (va_A (xW cy a i r q (a 20) (a 12) ++ (hW cy a i r ++ tl)) sz)) 0 0 (va_A (xW cy a i r q (a 20) (a 12) ++ (hW cy a i r ++ tl)) sz) := by
  refine Met.ofQ (cc := cX11_check) (maxL := 6) (ret := (some .int)) (by decide) rfl ?_
  intro p e s m args below meth c s₁ B hml hv Q hQ
  obtain ⟨rfl, hnw, hsz, hP, hK, hD0⟩ := hv
  have hx := B.exec
  have hb := B.bytes
  have hr := B.returns
  have hlocks := B.notSynchronized
  have hT : ∀ w ∈ gT, w.before _ s = true := fun w h => atoms_spec (ws := (Cond.code yX11_check cX11_check 6 (some .int) :: gT)) B.pre w (List.mem_cons_of_mem _ h)
  have hown : s.vm.findClass RX11 = some m.cls := findClass_of_methodNamed B.named
  subst hsz
  have hD := hD0.self (sz := s.heap.size)
  generalize hAe : va_A (xW cy a i r q (a 20) (a 12) ++ (hW cy a i r ++ tl)) s.heap.size = A at hD hQ
  have hA : ∀ q : Nat, s.heap.size ≤ q → A q := fun q h => by rw [← hAe]; exact Or.inr h
  have hS : va_S A s.heap s.heap [] := va_S.rf
  have hl := lv_entry ([.ref (a 0), .int p0, .int p1, .int p2]) (n := 6) (Nat.le_of_ble_eq_true rfl)
  rw [lg_entry_eq]
  generalize (lg_sl ([.ref (a 0), .int p0, .int p1, .int p2]) ++ List.replicate (6 - (lg_sl ([.ref (a 0), .int p0, .int p1, .int p2])).length) Slot.unset).toArray = ls at hl ⊢
  have hl : lv_has ls 6 [(0, .ref (a 0)), (1, .int p0), (2, .int p1), (3, .int p2)] := hl
  have hEi : mEi [2] i i := Ei_rf
  have hEr : mEr [27, 28, 52, 53] r r := Er_rf
  have hg0 : 0 ≤ (i 0).toInt ∧ (i 0).toInt ≤ 6 := hRi 0
  have hRi0 : yRi i := hRi
  have hRr0 : yRr r := hRr
  have hg18 : 1 ≤ (i 18).toInt ∧ (i 18).toInt ≤ 4 := hRi 18
  refine lv_aload_n hx hb dX11_check_0 rfl (lv_at hl 0 rfl) ?_
  refine lv_iload_n hx hb dX11_check_1 rfl (lv_at hl 1 rfl) ?_
  refine va_csq (W.runV (As := [.int p0]) (rest := []) ⟨hx, hb, hml, hown, hT⟩ (c_X11_homeAt l D cy a i r q (hW cy a i r ++ tl) p0 hRi hRr) (cwV 1 hT (gV t_443 t_444 t_445 t_446 t_2) rfl rfl rfl (by decide +kernel) ⟨Nat.le_of_ble_eq_true rfl, Nat.le_of_ble_eq_true rfl⟩) (rP_v hP hK (va_recv hK hP (ci := 11) (q0 := 0) rfl rfl)) rfl rfl hl.1 rfl (lv_room (Nat.le_of_ble_eq_true rfl)) dX11_check_2 ⟨Nat.le_of_ble_eq_true rfl, Nat.le_of_ble_eq_true rfl⟩) (fun r_1 hr_1 => ?_)
  obtain rfl : r_1 = some (a 61) := (hr_1.1 hh).trans hq
  refine W.eq (g2 := F0 m 5 ls [.ref (a 61)]) rfl ?_
  refine lv_astore (lv' := [(4, .ref (a 61)), (0, .ref (a 0)), (1, .int p0), (2, .int p1), (3, .int p2)]) hx hb dX11_check_5 hl (by decide) rfl (fun ls hl => ?_)
  refine lv_aload hx hb dX11_check_7 (lv_at hl 0 rfl) ?_
  refine lv_ifnull hx hb dX11_check_9 ?_
  refine lv_iload_n hx hb dX11_check_12 rfl (lv_at hl 3 rfl) ?_
  refine vp_callSi (W.runS (As := [.int p1]) (rest := []) ⟨hx, hb, hml, hown, hT⟩ (c_X11_isDay l p1) (va_cwS 1 hT (gS t_279 t_280 t_281 t_2) rfl rfl rfl (by decide +kernel) ⟨Nat.le_of_ble_eq_true rfl, Nat.le_of_ble_eq_true rfl⟩) preT rfl rfl hl.1 rfl (lv_room (Nat.le_of_ble_eq_true rfl)) dX11_check_13 ⟨Nat.le_of_ble_eq_true rfl, Nat.le_of_ble_eq_true rfl⟩) (fun r_2 hr_2 => ?_)
  have hr_2 : BR r_2 (0 ≤ p1.toInt ∧ p1.toInt ≤ 9999) 1 0 := hr_2
  rcases hr_2 with ⟨rfl, h_3⟩ | ⟨rfl, h_3⟩
  · skip
    refine lv_if_eq (tgt := 41) hx hb dX11_check_16 (by decide) (fun c_4 => absurd c_4 (by decide)) (fun c_4 => ?_)
    refine lv_iload_n hx hb dX11_check_19 rfl (lv_at hl 4 rfl) ?_
    refine lv_iconst (v := 0) hx hb dX11_check_20 (by decide) ?_
    refine lv_iconst (v := 4) hx hb dX11_check_21 (by decide) ?_
    refine vp_callSi (W.runS (As := [.int p2, .int 0, .int 4]) (rest := []) ⟨hx, hb, hml, hown, hT⟩ (c_X11_within l p2 0 4) (va_cwS 3 hT (gS t_1 t_3 t_4 t_2) rfl rfl rfl (by decide +kernel) ⟨Nat.le_of_ble_eq_true rfl, Nat.le_of_ble_eq_true rfl⟩) preT rfl rfl hl.1 rfl (lv_room (Nat.le_of_ble_eq_true rfl)) dX11_check_22 ⟨Nat.le_of_ble_eq_true rfl, Nat.le_of_ble_eq_true rfl⟩) (fun r_5 hr_5 => ?_)
    have hr_5 : BR r_5 (0 ≤ p2.toInt ∧ p2.toInt ≤ 4) 1 0 := hr_5
    rcases hr_5 with ⟨rfl, h_6⟩ | ⟨rfl, h_6⟩
    · skip
      refine lv_if_eq (tgt := 41) hx hb dX11_check_25 (by decide) (fun c_7 => absurd c_7 (by decide)) (fun c_7 => ?_)
      refine lv_iconst (v := 4) hx hb dX11_check_28 (by decide) ?_
      refine lv_iload_n hx hb dX11_check_29 rfl (lv_at hl 4 rfl) ?_
      refine lv_imul hx hb dX11_check_30 ?_
      refine lv_topi (fun v_8 ev_8 => ?_)
      have hv_8 : v_8.toInt = 4 * p2.toInt := by rw [ev_8]; have := b_rg p2; exact i_mul (a := 4) (b := p2.toInt) rfl rfl (by omega) (by omega)
      refine lv_aload_n hx hb dX11_check_31 rfl (lv_at hl 1 rfl) ?_
      refine va_get (D := D) (ci := 11) (v := .ref (a 8)) (C := RX11) (T := TX11) (N := 14) hx hb hT iX11 hown hK hP 0 rfl rfl 4 (by decide) (hT _ t_335) (fun _ h9 => h9) rfl dX11_check_32 ?_
      refine va_get (D := D) (ci := 9) (v := .int (i 2)) (C := RX9) (T := TX9) (N := 2) hx hb hT iX9 hown hK hP 8 rfl rfl 1 (by decide) (hT _ t_336) (fun _ h9 => h9) rfl dX11_check_35 ?_
      have hg_9 : 0 ≤ (i 2).toInt ∧ (i 2).toInt ≤ 220 := hRi 2
      refine lv_icmp_le (tgt := 44) hx hb dX11_check_38 (by decide) (fun c_10 => ?_) (fun c_10 => ?_)
      · have c_10 : v_8.toInt ≤ (i 2).toInt := b_le c_10
        refine lv_aload_n hx hb dX11_check_44 rfl (lv_at hl 1 rfl) ?_
        refine va_get (D := D) (ci := 11) (v := .ref (a 51)) (C := RX11) (T := TX11) (N := 14) hx hb hT iX11 hown hK hP 0 rfl rfl 11 (by decide) (hT _ t_595) (fun _ h9 => h9) rfl dX11_check_45 ?_
        refine lv_aload_n hx hb dX11_check_48 rfl (lv_at hl 1 rfl) ?_
        refine lv_aload hx hb dX11_check_49 (lv_at hl 0 rfl) ?_
        refine lv_aload_n hx hb dX11_check_51 rfl (lv_at hl 1 rfl) ?_
        refine lv_iload_n hx hb dX11_check_52 rfl (lv_at hl 2 rfl) ?_
        refine lv_iload_n hx hb dX11_check_53 rfl (lv_at hl 3 rfl) ?_
        have hF_11 := rF hD hS hA
        refine va_calli (va_runV (As := [.int p0, .int p1]) (rest := [.ref (a 61), .ref (a 0), .ref (a 51)]) ⟨hx, hb, hml, hown, hT⟩ (c_X11_awards9 l D cy a i r q tl p0 p1 _ hRi hRr hh hq (by omega) d9 (xLw_co hL9 rfl rfl rfl rfl rfl rfl rfl) hG9 hgd) (cwV 2 hT (gV t_591 t_592 t_593 t_594 t_2) rfl rfl rfl (by decide +kernel) ⟨Nat.le_of_ble_eq_true rfl, Nat.le_of_ble_eq_true rfl⟩) (rM_v hnw hP hK hD (va_recv hK hP (ci := 11) (q0 := 0) rfl rfl)) rfl rfl hl.1 rfl (lv_room (Nat.le_of_ble_eq_true rfl)) dX11_check_54 ⟨Nat.le_of_ble_eq_true rfl, Nat.le_of_ble_eq_true rfl⟩) hS (fun q _ h => hF_11 q h) hF_11 (fun r_12 u_13 t H1 locs ht hvm hr_12 hB hz1 hk1 hS => ?_)
        obtain ⟨r13, rfl⟩ : ∃ z, z = u_13 := ⟨_, rfl⟩
        obtain ⟨hP, hK1, hD1⟩ := hB
        rw [ht] at hP
        have hD := hD1.weaken (fun k q _ h => hF_11 q.1 h)
        obtain ⟨hRr, hE2, hr_12⟩ := hr_12
        have hRr : yRr r13 := hRr
        have hE2 : mEr [27, 28] r r13 := hE2
        have hP : va_P D vwCl (xW cy a i r13 q (a 20) (a 12) ++ (hW cy a i r13 ++ tl)) H1 := hP
        have hD : va_D A (xW cy a i r13 q (a 20) (a 12) ++ (hW cy a i r13 ++ tl)) := hD
        have hEr : mEr [27, 28, 52, 53] _ r13 := Er_tr hEr hE2 (by decide)
        have hqr_12 : r_12 = sumB (xJV d9 i r p0 p1) (i 10).toNatClampNeg := hr_12
        have hsa : r_12 = sumB (xJV d9 i r p0 p1) (i 10).toNatClampNeg := hqr_12
        have hErA := hEr
        have hF_14 := rF hD hS hA
        refine va_calli (va_runV (As := [.ref (a 61), .int r_12]) (rest := [.ref (a 51)]) ⟨hx, hb, hml, hown, hT⟩ (c_X11_paidBack9 l D cy a i r13 q tl r_12 _ hRi hRr d9 (xLw_co hL9 rfl (hEr 21 (by decide)) (hEr 22 (by decide)) (hEr 23 (by decide)) (hEr 24 (by decide)) (hEr 25 (by decide)) (hEr 26 (by decide))) hG9) (cwV 2 hT (gV t_596 t_597 t_598 t_599 t_2) rfl rfl rfl (by decide +kernel) ⟨Nat.le_of_ble_eq_true rfl, Nat.le_of_ble_eq_true rfl⟩) (rM_v hnw hP hK hD (va_recv hK hP (ci := 11) (q0 := 0) rfl rfl)) rfl rfl hl.1 rfl (lv_room (Nat.le_of_ble_eq_true rfl)) dX11_check_57 ⟨Nat.le_of_ble_eq_true rfl, Nat.le_of_ble_eq_true rfl⟩) hS (fun q _ h => hF_14 q h) hF_14 (fun r_15 u_16 t H1 locs ht hvm hr_15 hB hz1 hk1 hS => ?_)
        obtain ⟨r16, rfl⟩ : ∃ z, z = u_16 := ⟨_, rfl⟩
        obtain ⟨hP, hK1, hD1⟩ := hB
        rw [ht] at hP
        have hD := hD1.weaken (fun k q _ h => hF_14 q.1 h)
        obtain ⟨hRr, hE2, hr_15⟩ := hr_15
        have hRr : yRr r16 := hRr
        have hE2 : mEr [27, 28] r13 r16 := hE2
        have hP : va_P D vwCl (xW cy a i r16 q (a 20) (a 12) ++ (hW cy a i r16 ++ tl)) H1 := hP
        have hD : va_D A (xW cy a i r16 q (a 20) (a 12) ++ (hW cy a i r16 ++ tl)) := hD
        have hEr : mEr [27, 28, 52, 53] _ r16 := Er_tr hEr hE2 (by decide)
        have hqr_15 : r_15 = bckI (r_12 + sumB (r13 63) 3) (i 19) (xDn i d9) := hr_15
        have hpb : r_15 = bckI (sumB (xJV d9 i r p0 p1) (i 10).toNatClampNeg + sumB (r 63) 3) (i 19) (xDn i d9) := by have h9 := hqr_15; rw [hsa, show r13 63 = r 63 from hErA 63 (by decide)] at h9; exact h9
        have hbr := bckI_r (n := sumB (xJV d9 i r p0 p1) (i 10).toNatClampNeg + sumB (r 63) 3) (dep := i 19) (pen := xDn i d9) (hRi0 19) (all_n hsb (xOw_r hRr0)) (xDn_r hRi0)
        have hpr : 0 ≤ r_15.toInt ∧ r_15.toInt ≤ 9999990 := by rw [hpb]; exact ⟨hbr.1, hbr.2.1⟩
        have hErS := hEr
        refine lv_aload hx hb dX11_check_60 (lv_at hl 0 rfl) ?_
        have hF_17 := rF hD hS hA
        refine va_callv (va_runV (As := [.int r_15, .ref (a 61)]) (rest := []) ⟨hx, hb, hml, hown, hT⟩ (c_X0_divide9 l D cy a i r16 q tl r_15 _ hRi hRr hpr) (cwV 2 hT (gV t_600 t_601 t_602 t_603 t_586) rfl rfl rfl (by decide +kernel) ⟨Nat.le_of_ble_eq_true rfl, Nat.le_of_ble_eq_true rfl⟩) (rQ_v hP hK hD (va_recv hK hP (ci := 0) (q0 := 51) rfl rfl)) rfl rfl hl.1 rfl (lv_room (Nat.le_of_ble_eq_true rfl)) dX11_check_62 ⟨Nat.le_of_ble_eq_true rfl, Nat.le_of_ble_eq_true rfl⟩) hS (fun q _ h => hF_17 q h) hF_17 (fun u_19 t H1 locs ht hvm hr_18 hB hz1 hk1 hS => ?_)
        obtain ⟨r19, rfl⟩ : ∃ z, z = u_19 := ⟨_, rfl⟩
        obtain ⟨hP, hK1, hD1⟩ := hB
        rw [ht] at hP
        have hD := hD1.weaken (fun k q _ h => hF_17 q.1 h)
        obtain ⟨hRr, hE2, hr_18⟩ := hr_18
        have hRr : yRr r19 := hRr
        have hE2 : mEr [52, 53] r16 r19 := hE2
        have hP : va_P D vwCl (xW cy a i r19 q (a 20) (a 12) ++ (hW cy a i r19 ++ tl)) H1 := hP
        have hD : va_D A (xW cy a i r19 q (a 20) (a 12) ++ (hW cy a i r19 ++ tl)) := hD
        have hEr : mEr [27, 28, 52, 53] _ r19 := Er_tr hEr hE2 (by decide)
        have hqr_18 : shZ (r16 62) (i 18) r_15.toInt (r19 52) := hr_18
        have hsz : ∀ t9, t9 < (i 18).toInt.toNat → (r19 52 t9).toInt = shF (shP (r 62) (i 18).toInt.toNat) (i 18).toInt.toNat (bckI (sumB (xJV d9 i r p0 p1) (i 10).toNatClampNeg + sumB (r 63) 3) (i 19) (xDn i d9)).toInt t9 := by
          have h9 := hqr_18
          unfold shZ at h9
          rw [hErS 62 (by decide), hpb] at h9
          exact h9
        refine lv_aload_n hx hb dX11_check_65 rfl (lv_at hl 1 rfl) ?_
        refine va_get (D := D) (ci := 11) (v := .ref (a 51)) (C := RX11) (T := TX11) (N := 14) hx hb hT iX11 hown hK hP 0 rfl rfl 11 (by decide) (hT _ t_595) (fun _ h9 => h9) rfl dX11_check_66 ?_
        refine lv_aload_n hx hb dX11_check_69 rfl (lv_at hl 1 rfl) ?_
        refine va_get (D := D) (ci := 11) (v := .ref (a 8)) (C := RX11) (T := TX11) (N := 14) hx hb hT iX11 hown hK hP 0 rfl rfl 4 (by decide) (hT _ t_335) (fun _ h9 => h9) rfl dX11_check_70 ?_
        refine lv_iload_n hx hb dX11_check_73 rfl (lv_at hl 4 rfl) ?_
        refine lv_aload hx hb dX11_check_74 (lv_at hl 0 rfl) ?_
        refine va_get (D := D) (ci := 3) (v := .int (i 18)) (C := RX3) (T := TX3) (N := 12) hx hb hT iX3 hown hK hP 61 rfl rfl 1 (by decide) (hT _ t_447) (fun _ h9 => h9) rfl dX11_check_76 ?_
        have hg_20 : 1 ≤ (i 18).toInt ∧ (i 18).toInt ≤ 4 := hRi 18
        refine va_mmin hx hb (by rw [hml]; exact hl.1.symm) hown (hT _ t_568) (hT _ t_380) (hT _ t_289) (hT _ t_381) (Nat.le_of_ble_eq_true rfl) (Nat.le_of_ble_eq_true rfl) (Nat.le_of_ble_eq_true rfl) (Nat.le_of_ble_eq_true rfl) dX11_check_79 ?_
        refine lv_topi (fun v_21 ev_21 => ?_)
        have hmn : v_21.toInt = if (i 18).toInt < p2.toInt then (i 18).toInt else p2.toInt := mn_i ev_21
        have hmr : 0 ≤ v_21.toInt ∧ v_21.toInt ≤ 4 := by rw [hmn]; by_cases h9 : (i 18).toInt < p2.toInt; (· rw [if_pos h9]; omega); (· rw [if_neg h9]; omega)
        refine vp_callSi (W.runV (As := [.ref (a 8), .int v_21]) (rest := []) ⟨hx, hb, hml, hown, hT⟩ (c_X0_firstUnlike9 l D cy a i r19 q (hW cy a i r19 ++ tl) v_21 hRi hRr (by omega)) (cwV 2 hT (gV t_605 t_606 t_607 t_608 t_586) rfl rfl rfl (by decide +kernel) ⟨Nat.le_of_ble_eq_true rfl, Nat.le_of_ble_eq_true rfl⟩) (rP_v hP hK (va_recv hK hP (ci := 0) (q0 := 51) rfl rfl)) rfl rfl hl.1 rfl (lv_room (Nat.le_of_ble_eq_true rfl)) dX11_check_82 ⟨Nat.le_of_ble_eq_true rfl, Nat.le_of_ble_eq_true rfl⟩) (fun r_22 hr_22 => ?_)
        have hqr_22 : (0 ≤ r_22.toInt ∧ r_22.toInt ≤ 4) ∧ ukX (r19 52) (tnF (r19 9)) v_21 r_22 := hr_22
        have hrr_22 : 0 ≤ r_22.toInt ∧ r_22.toInt ≤ 4 := hqr_22.1
        have huk : ukX (r19 52) (tnF (r 9)) v_21 r_22 := by have h9 := hqr_22.2; rw [show r19 9 = r 9 from hEr 9 (by decide)] at h9; exact h9
        refine lv_istore (lv' := [(5, .int r_22), (4, .ref (a 61)), (0, .ref (a 0)), (1, .int p0), (2, .int p1), (3, .int p2)]) hx hb dX11_check_85 hl (by decide) rfl (fun ls hl => ?_)
        refine lv_aload_n hx hb dX11_check_87 rfl (lv_at hl 2 rfl) ?_
        refine va_get (D := D) (ci := 11) (v := .ref (a 8)) (C := RX11) (T := TX11) (N := 14) hx hb hT iX11 hown hK hP 0 rfl rfl 4 (by decide) (hT _ t_335) (fun _ h9 => h9) rfl dX11_check_88 ?_
        refine lv_iconst (v := 0) hx hb dX11_check_91 (by decide) ?_
        refine va_put (D := D) (ci := 9) (v := .int 0) (ty := .int) (C := RX9) (T := TX9) (N := 2) hx hb hT iX9 tyX9 tyX9_ok nmX9 hown hK hP hD hS 8 rfl rfl 1 (by decide) (hT _ t_336) (fun _ h9 => h9) rfl (by decide +kernel) rfl rfl (Nat.le_of_ble_eq_true rfl) dX11_check_92 (fun H locs hP hD hS => ?_)
        rw [yP2] at hP hD
        have hRi := Yi_upd hRi 2 0 ⟨by decide, by decide⟩
        have hEi := Ei_upd hEi 2 0 (by decide)
        refine lv_iload hx hb dX11_check_95 (lv_at hl 0 rfl) ?_
        refine lv_iload_n hx hb dX11_check_97 rfl (lv_at hl 5 rfl) ?_
        refine lv_icmp_ne (tgt := 114) hx hb dX11_check_98 (by decide) (fun c_23 => ?_) (fun c_23 => ?_)
        · have c_23 : r_22.toInt ≠ p2.toInt := b_ne c_23
          refine lv_iload hx hb dX11_check_114 (lv_at hl 0 rfl) ?_
          subst hQ
          have hck : chk (shF (shP (r 62) (i 18).toInt.toNat) (i 18).toInt.toNat (bckI (sumB (xJV d9 i r p0 p1) (i 10).toNatClampNeg + sumB (r 63) 3) (i 19) (xDn i d9)).toInt) (tnF (r 9)) (i 18) p2 r_22 := ukX_chk huk hmn (fun u9 hu => hsz u9 (by omega)) (fun h9 => by exfalso; omega) (fun h9 => by rfl)
          exact W.iret (v := r_22) hx hb hr (fun t ht hW => ⟨⟨_, (upd i 2 0, r19), rfl, ⟨hRi, hRr, hEi, hEr, ⟨fun _ => ⟨rfl, hck⟩, fun h9 => absurd (by omega) h9⟩⟩, by rw [ht]; exact hP, va_K.moved hW.alike hK, hD⟩, hS.F ht⟩) hS.2.2 dX11_check_116
        · have c_23 : r_22.toInt = p2.toInt := b_nne c_23
          refine lv_iload_n hx hb dX11_check_101 rfl (lv_at hl 5 rfl) ?_
          refine lv_aload hx hb dX11_check_102 (lv_at hl 1 rfl) ?_
          refine va_get (D := D) (ci := 3) (v := .int (i 18)) (C := RX3) (T := TX3) (N := 12) hx hb hT iX3 hown hK hP 61 rfl rfl 1 (by decide) (hT _ t_447) (fun _ h9 => h9) rfl dX11_check_104 ?_
          refine lv_icmp_ne (tgt := 114) hx hb dX11_check_107 (by decide) (fun c_24 => ?_) (fun c_24 => ?_)
          · have c_24 : p2.toInt ≠ (i 18).toInt := b_ne c_24
            refine lv_iload hx hb dX11_check_114 (lv_at hl 0 rfl) ?_
            subst hQ
            have hck : chk (shF (shP (r 62) (i 18).toInt.toNat) (i 18).toInt.toNat (bckI (sumB (xJV d9 i r p0 p1) (i 10).toNatClampNeg + sumB (r 63) 3) (i 19) (xDn i d9)).toInt) (tnF (r 9)) (i 18) p2 r_22 := ukX_chk huk hmn (fun u9 hu => hsz u9 (by omega)) (fun h9 => by exfalso; omega) (fun h9 => by rfl)
            exact W.iret (v := r_22) hx hb hr (fun t ht hW => ⟨⟨_, (upd i 2 0, r19), rfl, ⟨hRi, hRr, hEi, hEr, ⟨fun _ => ⟨rfl, hck⟩, fun h9 => absurd (by omega) h9⟩⟩, by rw [ht]; exact hP, va_K.moved hW.alike hK, hD⟩, hS.F ht⟩) hS.2.2 dX11_check_116
          · have c_24 : p2.toInt = (i 18).toInt := b_nne c_24
            refine lv_iconst (v := (-1)) hx hb dX11_check_110 (by decide) ?_
            refine lv_goto (tgt := 116) hx hb dX11_check_111 (by decide) ?_
            subst hQ
            have hck : chk (shF (shP (r 62) (i 18).toInt.toNat) (i 18).toInt.toNat (bckI (sumB (xJV d9 i r p0 p1) (i 10).toNatClampNeg + sumB (r 63) 3) (i 19) (xDn i d9)).toInt) (tnF (r 9)) (i 18) p2 ((-1) : Int32) := ukX_chk huk hmn (fun u9 hu => hsz u9 (by omega)) (fun h9 => by rfl) (fun h9 => by exfalso; omega)
            exact W.iret (v := (-1)) hx hb hr (fun t ht hW => ⟨⟨_, (upd i 2 0, r19), rfl, ⟨hRi, hRr, hEi, hEr, ⟨fun _ => ⟨rfl, hck⟩, fun h9 => absurd (by omega) h9⟩⟩, by rw [ht]; exact hP, va_K.moved hW.alike hK, hD⟩, hS.F ht⟩) hS.2.2 dX11_check_116
      · have c_10 : (i 2).toInt < v_8.toInt := b_nle c_10
        refine lv_bipush (v := (-2)) hx hb dX11_check_41 (by decide) ?_
        subst hQ
        exact W.iret (v := (-2)) hx hb hr (fun t ht hW => ⟨⟨_, (i, r), rfl, ⟨hRi, hRr, hEi, hEr, ⟨fun h9 => absurd h9 (by omega), fun _ => ⟨rfl, rfl⟩⟩⟩, by rw [ht]; exact hP, va_K.moved hW.alike hK, hD⟩, hS.F ht⟩) hS.2.2 dX11_check_43
    · skip
      refine lv_if_eq (tgt := 41) hx hb dX11_check_25 (by decide) (fun c_25 => ?_) (fun c_25 => absurd (by decide) c_25)
      refine lv_bipush (v := (-2)) hx hb dX11_check_41 (by decide) ?_
      subst hQ
      exact W.iret (v := (-2)) hx hb hr (fun t ht hW => ⟨⟨_, (i, r), rfl, ⟨hRi, hRr, hEi, hEr, ⟨fun h9 => absurd h9 (by omega), fun _ => ⟨rfl, rfl⟩⟩⟩, by rw [ht]; exact hP, va_K.moved hW.alike hK, hD⟩, hS.F ht⟩) hS.2.2 dX11_check_43
  · skip
    refine lv_if_eq (tgt := 41) hx hb dX11_check_16 (by decide) (fun c_26 => ?_) (fun c_26 => absurd (by decide) c_26)
    refine lv_bipush (v := (-2)) hx hb dX11_check_41 (by decide) ?_
    subst hQ
    exact W.iret (v := (-2)) hx hb hr (fun t ht hW => ⟨⟨_, (i, r), rfl, ⟨hRi, hRr, hEi, hEr, ⟨fun h9 => absurd h9 (by omega), fun _ => ⟨rfl, rfl⟩⟩⟩, by rw [ht]; exact hP, va_K.moved hW.alike hK, hD⟩, hS.F ht⟩) hS.2.2 dX11_check_43
