/-- one of the first n has both -/
def DUP (n : Int) (f g : Nat → Int32) (x y : Int32) : Prop := ∃ c : Nat, (c : Int) < n ∧ (f c).toInt = x.toInt ∧ (g c).toInt = y.toInt
def ND (n : Int) (f g : Nat → Int32) (x y : Int32) : Prop := ∀ c : Nat, (c : Int) < n → ¬ ((f c).toInt = x.toInt ∧ (g c).toInt = y.toInt)
theorem ND_0 {f g : Nat → Int32} {x y : Int32} : ND (0 : Int32).toInt f g x y := fun c hc _ => absurd hc (by have h9 : (0 : Int32).toInt = 0 := rfl; omega)
theorem ND_s {f g : Nat → Int32} {x y a b : Int32} (h : ND x.toInt f g a b) (hy : y.toInt = x.toInt + 1) (hx : 0 ≤ x.toInt) (hn : ¬ ((f x.toNatClampNeg).toInt = a.toInt ∧ (g x.toNatClampNeg).toInt = b.toInt)) : ND y.toInt f g a b := by
  intro c hc h9
  by_cases e : (c : Int) < x.toInt
  · exact h c e h9
  · have e2 : c = x.toNatClampNeg := by show c = x.toInt.toNat; omega
    rw [e2] at h9; exact hn h9
theorem ND_no {n : Int} {f g : Nat → Int32} {x y a : Int32} (h : ND a.toInt f g x y) (hn : n ≤ a.toInt) : ¬ DUP n f g x y := fun h9 => by
  obtain ⟨c, c1, c2, c3⟩ := h9
  exact h c (by omega) ⟨c2, c3⟩
theorem DUP_at {n : Int} {f g : Nat → Int32} {x y a : Int32} (h0 : 0 ≤ a.toInt) (h : a.toInt < n) (h1 : (f a.toNatClampNeg).toInt = x.toInt) (h2 : (g a.toNatClampNeg).toInt = y.toInt) : DUP n f g x y := ⟨a.toNatClampNeg, by have h9 : a.toNatClampNeg = a.toInt.toNat := rfl; omega, h1, h2⟩
/-- the first n of two rows are the same -/
def CP (n : Int) (f g : Nat → Int32) : Prop := ∀ c : Nat, (c : Int) < n → f c = g c
set_option maxHeartbeats 4000000 in
set_option maxRecDepth 100000 in
theorem c_X1_isClaimed9 (l : Launch) (D : va_G) (cy : Nat → ClassId) (a : Nat → Nat) (i : Nat → Int32) (r : Nat → Nat → Int32) (q : Nat → Option Nat) (tl : va_W) (p0 p1 : Int32) (hRi : yRi i) (hRr : yRr r) : Met l yX1_isClaimed (Cond.code yX1_isClaimed cX1_isClaimed 4 (some .boolean) :: gT) { frames := 1, cells := 0, slots := 0, locals := 24 } (va_Pc [.ref (a 29), .int p0, .int p1] (rP D cy (xW cy a i r q (a 20) (a 12) ++ tl))) (vp_Si (fun z => BR z (DUP (i 10).toInt (r 30) (r 31) p0 p1) 1 0)) 0 0 (fun _ => False) := by
  refine Met.ofQ (cc := cX1_isClaimed) (maxL := 4) (ret := (some .boolean)) (by decide) rfl ?_
  intro p e s m args below meth c s₁ B hml hv Q hQ
  obtain ⟨rfl, hP, hK⟩ := hv
  have hx := B.exec
  have hb := B.bytes
  have hr := B.returns
  have hlocks := B.notSynchronized
  have hT : ∀ w ∈ gT, w.before _ s = true := fun w h => atoms_spec (ws := (Cond.code yX1_isClaimed cX1_isClaimed 4 (some .boolean) :: gT)) B.pre w (List.mem_cons_of_mem _ h)
  have hown : s.vm.findClass RX1 = some m.cls := findClass_of_methodNamed B.named
  have hl := lv_entry ([.ref (a 29), .int p0, .int p1]) (n := 4) (Nat.le_of_ble_eq_true rfl)
  rw [lg_entry_eq]
  generalize (lg_sl ([.ref (a 29), .int p0, .int p1]) ++ List.replicate (4 - (lg_sl ([.ref (a 29), .int p0, .int p1])).length) Slot.unset).toArray = ls at hl ⊢
  have hl : lv_has ls 4 [(0, .ref (a 29)), (1, .int p0), (2, .int p1)] := hl
  have hEi : mEi [] i i := Ei_rf
  have hEr : mEr [] r r := Er_rf
  refine lv_iconst (v := 0) hx hb dX1_isClaimed_0 (by decide) ?_
  refine lv_istore_n (lv' := [(3, .int 0), (0, .ref (a 29)), (1, .int p0), (2, .int p1)]) hx hb dX1_isClaimed_1 rfl hl (by decide) rfl (fun ls hl => ?_)
  have loop_1 : ∀ (n : Nat) (x1_3 : Int32) (ls : Array Slot), (30 - x1_3.toInt).toNat < n → (0 ≤ x1_3.toInt ∧ x1_3.toInt ≤ 30) → (ND x1_3.toInt (r 30) (r 31) p0 p1) → lv_has ls 4 [(3, .int x1_3), (0, .ref (a 29)), (1, .int p0), (2, .int p1)] → W p l e ({ frames := 1, cells := 0, slots := 0, locals := 24 } : Room) s m ([.ref (a 29), .int p0, .int p1] : List Value).toArray below meth c s.heap [] 0 0 Q (F0 m 2 ls []) := by
    intro n
    induction n with
    | zero =>
      intro x1_3 ls hm1 hf1_0 hx1 hl
      exact absurd hm1 (by omega)
    | succ n ih1 =>
      intro x1_3 ls hm1 hf1_0 hx1 hl
      refine lv_iload_n hx hb dX1_isClaimed_2 rfl (lv_at hl 0 rfl) ?_
      refine lv_aload_n hx hb dX1_isClaimed_3 rfl (lv_at hl 1 rfl) ?_
      refine va_get (D := D) (ci := 1) (v := .int (i 10)) (C := RX1) (T := TX1) (N := 12) hx hb hT iX1 hown hK hP 29 rfl rfl 0 (by decide) (hT _ t_342) (fun _ h9 => h9) rfl dX1_isClaimed_4 ?_
      have hg_2 : 0 ≤ (i 10).toInt ∧ (i 10).toInt ≤ 30 := hRi 10
      refine lv_icmp_ge (tgt := 38) hx hb dX1_isClaimed_7 (by decide) (fun c_3 => ?_) (fun c_3 => ?_)
      · have c_3 : (i 10).toInt ≤ x1_3.toInt := b_le c_3
        refine lv_iconst (v := 0) hx hb dX1_isClaimed_38 (by decide) ?_
        subst hQ
        exact W.zret hx hb hr rfl (fun t ht hW => ⟨_, rfl, Or.inr ⟨rfl, ND_no hx1 (by omega)⟩, ht⟩) (fun q hq => absurd hq List.not_mem_nil) dX1_isClaimed_39
      · have c_3 : x1_3.toInt < (i 10).toInt := b_nle c_3
        refine lv_aload_n hx hb dX1_isClaimed_10 rfl (lv_at hl 1 rfl) ?_
        refine va_get (D := D) (ci := 1) (v := .ref (a 30)) (C := RX1) (T := TX1) (N := 12) hx hb hT iX1 hown hK hP 29 rfl rfl 1 (by decide) (hT _ t_343) (fun _ h9 => h9) rfl dX1_isClaimed_11 ?_
        refine lv_iload_n hx hb dX1_isClaimed_14 rfl (lv_at hl 0 rfl) ?_
        refine va_iald hx hb hK hP 30 0 rfl rfl (vp_inI (by omega) (by omega)) dX1_isClaimed_15 ?_
        refine lv_topi (fun v_4 ev_4 => ?_)
        have hgv_4 : 0 ≤ v_4.toInt ∧ v_4.toInt ≤ 5 := by rw [ev_4]; exact hRr 30 _
        have hwv_4 : v_4.toInt = (r 30 (x1_3.toNatClampNeg)).toInt := congrArg Int32.toInt ev_4
        refine lv_iload_n hx hb dX1_isClaimed_16 rfl (lv_at hl 2 rfl) ?_
        refine lv_icmp_ne (tgt := 32) hx hb dX1_isClaimed_17 (by decide) (fun c_5 => ?_) (fun c_5 => ?_)
        · have c_5 : v_4.toInt ≠ p0.toInt := b_ne c_5
          obtain ⟨x_6, ex_6⟩ : ∃ y : Int32, y = x1_3 + 1 := ⟨_, rfl⟩
          refine lv_iinc (v := x_6) (lv' := [(3, .int x_6), (0, .ref (a 29)), (1, .int p0), (2, .int p1)]) hx hb dX1_isClaimed_32 hl (k := 0) rfl (by rw [ex_6]; rfl) (by decide) rfl (fun ls hl => ?_)
          have hx_6 : x_6.toInt = x1_3.toInt + 1 := by rw [ex_6]; have := b_rg x1_3; exact i_add (a := x1_3.toInt) (b := 1) rfl rfl (by omega) (by omega)
          refine lv_goto (tgt := 2) hx hb dX1_isClaimed_35 (by decide) ?_
          exact ih1 x_6 _ (by first | omega | (simp only [Int.toNat]; omega)) (by first | omega | decide)  (ND_s hx1 hx_6 (by omega) (by omega))  (lv_sub hl [0, 1, 2, 3] rfl)
        · have c_5 : v_4.toInt = p0.toInt := b_nne c_5
          refine lv_aload_n hx hb dX1_isClaimed_20 rfl (lv_at hl 1 rfl) ?_
          refine va_get (D := D) (ci := 1) (v := .ref (a 31)) (C := RX1) (T := TX1) (N := 12) hx hb hT iX1 hown hK hP 29 rfl rfl 2 (by decide) (hT _ t_344) (fun _ h9 => h9) rfl dX1_isClaimed_21 ?_
          refine lv_iload_n hx hb dX1_isClaimed_24 rfl (lv_at hl 0 rfl) ?_
          refine va_iald hx hb hK hP 31 0 rfl rfl (vp_inI (by omega) (by omega)) dX1_isClaimed_25 ?_
          refine lv_topi (fun v_7 ev_7 => ?_)
          have hgv_7 : 0 ≤ v_7.toInt ∧ v_7.toInt ≤ 19 := by rw [ev_7]; exact hRr 31 _
          have hwv_7 : v_7.toInt = (r 31 (x1_3.toNatClampNeg)).toInt := congrArg Int32.toInt ev_7
          refine lv_iload_n hx hb dX1_isClaimed_26 rfl (lv_at hl 3 rfl) ?_
          refine lv_icmp_ne (tgt := 32) hx hb dX1_isClaimed_27 (by decide) (fun c_8 => ?_) (fun c_8 => ?_)
          · have c_8 : v_7.toInt ≠ p1.toInt := b_ne c_8
            obtain ⟨x_9, ex_9⟩ : ∃ y : Int32, y = x1_3 + 1 := ⟨_, rfl⟩
            refine lv_iinc (v := x_9) (lv' := [(3, .int x_9), (0, .ref (a 29)), (1, .int p0), (2, .int p1)]) hx hb dX1_isClaimed_32 hl (k := 0) rfl (by rw [ex_9]; rfl) (by decide) rfl (fun ls hl => ?_)
            have hx_9 : x_9.toInt = x1_3.toInt + 1 := by rw [ex_9]; have := b_rg x1_3; exact i_add (a := x1_3.toInt) (b := 1) rfl rfl (by omega) (by omega)
            refine lv_goto (tgt := 2) hx hb dX1_isClaimed_35 (by decide) ?_
            exact ih1 x_9 _ (by first | omega | (simp only [Int.toNat]; omega)) (by first | omega | decide)  (ND_s hx1 hx_9 (by omega) (by omega))  (lv_sub hl [0, 1, 2, 3] rfl)
          · have c_8 : v_7.toInt = p1.toInt := b_nne c_8
            refine lv_iconst (v := 1) hx hb dX1_isClaimed_30 (by decide) ?_
            subst hQ
            exact W.zret hx hb hr rfl (fun t ht hW => ⟨_, rfl, Or.inl ⟨rfl, DUP_at (a := x1_3) (by omega) (by omega) (by omega) (by omega)⟩, ht⟩) (fun q hq => absurd hq List.not_mem_nil) dX1_isClaimed_31
  exact loop_1 _ 0 _ (Nat.lt_succ_self _) (by first | omega | decide)  ND_0  hl
set_option maxHeartbeats 4000000 in
set_option maxRecDepth 100000 in
theorem c_X1_add9 (l : Launch) (D : va_G) (cy : Nat → ClassId) (a : Nat → Nat) (i : Nat → Int32) (r : Nat → Nat → Int32) (q : Nat → Option Nat) (tl : va_W) (p0 p1 p2 p3 p4 : Int32) (sz : Nat) (hRi : yRi i) (hRr : yRr r) (q0 : 0 ≤ p0.toInt ∧ p0.toInt ≤ 5) (q1 : 0 ≤ p1.toInt ∧ p1.toInt ≤ 19) (q2 : 0 ≤ p2.toInt ∧ p2.toInt ≤ 9) (q3 : 0 ≤ p3.toInt ∧ p3.toInt ≤ 7) (q4 : 0 ≤ p4.toInt ∧ p4.toInt ≤ 9999) : Met l yX1_add (Cond.code yX1_add cX1_add 6 (some .int) :: gT) { frames := 1, cells := 0, slots := 0, locals := 24 } (va_Pc [.ref (a 29), .int p0, .int p1, .int p2, .int p3, .int p4] (rQ D cy (xW cy a i r q (a 20) (a 12) ++ tl) sz)) (va_Qi (fun (z : Int32) (u : (Nat → Int32) × (Nat → Nat → Int32)) => yRi u.1 ∧ yRr u.2 ∧ mEi [10] i u.1 ∧ mEr [30, 31, 32, 33, 34, 35, 36, 37] r u.2 ∧ ((((i 10).toInt ≤ 29) → z.toInt = (i 10).toInt ∧ (u.1 10).toInt = (i 10).toInt + 1 ∧ u.2 30 = upd (r 30) (i 10).toNatClampNeg p0 ∧ u.2 31 = upd (r 31) (i 10).toNatClampNeg p1 ∧ u.2 32 = upd (r 32) (i 10).toNatClampNeg p2 ∧ u.2 33 = upd (r 33) (i 10).toNatClampNeg p3 ∧ u.2 34 = upd (r 34) (i 10).toNatClampNeg p4 ∧ u.2 35 = upd (r 35) (i 10).toNatClampNeg 0 ∧ u.2 36 = upd (r 36) (i 10).toNatClampNeg (-1)) ∧ (¬ ((i 10).toInt ≤ 29) → z = -1 ∧ mEi [] i u.1 ∧ mEr [] r u.2))) (fun (u : (Nat → Int32) × (Nat → Nat → Int32)) t => va_P D vwCl (xW cy a u.1 u.2 q (a 20) (a 12) ++ tl) t.heap ∧ va_K D vwCl (vT cy) t ∧ va_D (va_A (xW cy a i r q (a 20) (a 12) ++ tl) sz) (xW cy a u.1 u.2 q (a 20) (a 12) ++ tl)) (va_A (xW cy a i r q (a 20) (a 12) ++ tl) sz)) 0 0 (va_A (xW cy a i r q (a 20) (a 12) ++ tl) sz) := by
  refine Met.ofQ (cc := cX1_add) (maxL := 6) (ret := (some .int)) (by decide) rfl ?_
  intro p e s m args below meth c s₁ B hml hv Q hQ
  obtain ⟨rfl, hsz, hP, hK, hD0⟩ := hv
  have hx := B.exec
  have hb := B.bytes
  have hr := B.returns
  have hlocks := B.notSynchronized
  have hT : ∀ w ∈ gT, w.before _ s = true := fun w h => atoms_spec (ws := (Cond.code yX1_add cX1_add 6 (some .int) :: gT)) B.pre w (List.mem_cons_of_mem _ h)
  have hown : s.vm.findClass RX1 = some m.cls := findClass_of_methodNamed B.named
  subst hsz
  have hD := hD0.self (sz := s.heap.size)
  generalize hAe : va_A (xW cy a i r q (a 20) (a 12) ++ tl) s.heap.size = A at hD hQ
  have hA : ∀ q : Nat, s.heap.size ≤ q → A q := fun q h => by rw [← hAe]; exact Or.inr h
  have hS : va_S A s.heap s.heap [] := va_S.rf
  have hl := lv_entry ([.ref (a 29), .int p0, .int p1, .int p2, .int p3, .int p4]) (n := 6) (Nat.le_of_ble_eq_true rfl)
  rw [lg_entry_eq]
  generalize (lg_sl ([.ref (a 29), .int p0, .int p1, .int p2, .int p3, .int p4]) ++ List.replicate (6 - (lg_sl ([.ref (a 29), .int p0, .int p1, .int p2, .int p3, .int p4])).length) Slot.unset).toArray = ls at hl ⊢
  have hl : lv_has ls 6 [(0, .ref (a 29)), (1, .int p0), (2, .int p1), (3, .int p2), (4, .int p3), (5, .int p4)] := hl
  have hEi : mEi [10] i i := Ei_rf
  have hEr : mEr [30, 31, 32, 33, 34, 35, 36, 37] r r := Er_rf
  refine lv_aload_n hx hb dX1_add_0 rfl (lv_at hl 0 rfl) ?_
  refine va_get (D := D) (ci := 1) (v := .int (i 10)) (C := RX1) (T := TX1) (N := 12) hx hb hT iX1 hown hK hP 29 rfl rfl 0 (by decide) (hT _ t_342) (fun _ h9 => h9) rfl dX1_add_1 ?_
  have hg_1 : 0 ≤ (i 10).toInt ∧ (i 10).toInt ≤ 30 := hRi 10
  refine lv_bipush (v := 30) hx hb dX1_add_4 (by decide) ?_
  refine lv_icmp_lt (tgt := 11) hx hb dX1_add_6 (by decide) (fun c_2 => ?_) (fun c_2 => ?_)
  · have c_2 : (i 10).toInt < 30 := b_lt c_2
    refine lv_aload_n hx hb dX1_add_11 rfl (lv_at hl 0 rfl) ?_
    refine va_get (D := D) (ci := 1) (v := .ref (a 30)) (C := RX1) (T := TX1) (N := 12) hx hb hT iX1 hown hK hP 29 rfl rfl 1 (by decide) (hT _ t_343) (fun _ h9 => h9) rfl dX1_add_12 ?_
    refine lv_aload_n hx hb dX1_add_15 rfl (lv_at hl 0 rfl) ?_
    refine va_get (D := D) (ci := 1) (v := .int (i 10)) (C := RX1) (T := TX1) (N := 12) hx hb hT iX1 hown hK hP 29 rfl rfl 0 (by decide) (hT _ t_342) (fun _ h9 => h9) rfl dX1_add_16 ?_
    refine lv_iload_n hx hb dX1_add_19 rfl (lv_at hl 1 rfl) ?_
    refine va_iast hx hb hK hP hD hS 30 0 rfl rfl (vp_inI (by omega) (by omega)) dX1_add_20 (fun H locs hP hD hS => ?_)
    rw [zS30] at hP hD
    have hRr : yRr (va_up r 30 (upd (r 30) ((i 10).toNatClampNeg) p0)) := Yr_upd hRr 30 ((i 10).toNatClampNeg) p0 ⟨by show (0 : Int) ≤ p0.toInt; omega, by show p0.toInt ≤ (5 : Int); omega⟩
    have hEr : mEr [30, 31, 32, 33, 34, 35, 36, 37] _ (va_up r 30 (upd (r 30) ((i 10).toNatClampNeg) p0)) := Er_up hEr 30 _ (by decide)
    refine lv_aload_n hx hb dX1_add_21 rfl (lv_at hl 0 rfl) ?_
    refine va_get (D := D) (ci := 1) (v := .ref (a 31)) (C := RX1) (T := TX1) (N := 12) hx hb hT iX1 hown hK hP 29 rfl rfl 2 (by decide) (hT _ t_344) (fun _ h9 => h9) rfl dX1_add_22 ?_
    refine lv_aload_n hx hb dX1_add_25 rfl (lv_at hl 0 rfl) ?_
    refine va_get (D := D) (ci := 1) (v := .int (i 10)) (C := RX1) (T := TX1) (N := 12) hx hb hT iX1 hown hK hP 29 rfl rfl 0 (by decide) (hT _ t_342) (fun _ h9 => h9) rfl dX1_add_26 ?_
    refine lv_iload_n hx hb dX1_add_29 rfl (lv_at hl 2 rfl) ?_
    refine va_iast hx hb hK hP hD hS 31 0 rfl rfl (vp_inI (by omega) (by omega)) dX1_add_30 (fun H locs hP hD hS => ?_)
    rw [zS31] at hP hD
    have hRr : yRr (va_up (va_up r 30 (upd (r 30) ((i 10).toNatClampNeg) p0)) 31 (upd (r 31) ((i 10).toNatClampNeg) p1)) := Yr_upd hRr 31 ((i 10).toNatClampNeg) p1 ⟨by show (0 : Int) ≤ p1.toInt; omega, by show p1.toInt ≤ (19 : Int); omega⟩
    have hEr : mEr [30, 31, 32, 33, 34, 35, 36, 37] _ (va_up (va_up r 30 (upd (r 30) ((i 10).toNatClampNeg) p0)) 31 (upd (r 31) ((i 10).toNatClampNeg) p1)) := Er_up hEr 31 _ (by decide)
    refine lv_aload_n hx hb dX1_add_31 rfl (lv_at hl 0 rfl) ?_
    refine va_get (D := D) (ci := 1) (v := .ref (a 32)) (C := RX1) (T := TX1) (N := 12) hx hb hT iX1 hown hK hP 29 rfl rfl 3 (by decide) (hT _ t_348) (fun _ h9 => h9) rfl dX1_add_32 ?_
    refine lv_aload_n hx hb dX1_add_35 rfl (lv_at hl 0 rfl) ?_
    refine va_get (D := D) (ci := 1) (v := .int (i 10)) (C := RX1) (T := TX1) (N := 12) hx hb hT iX1 hown hK hP 29 rfl rfl 0 (by decide) (hT _ t_342) (fun _ h9 => h9) rfl dX1_add_36 ?_
    refine lv_iload_n hx hb dX1_add_39 rfl (lv_at hl 3 rfl) ?_
    refine va_iast hx hb hK hP hD hS 32 0 rfl rfl (vp_inI (by omega) (by omega)) dX1_add_40 (fun H locs hP hD hS => ?_)
    rw [zS32] at hP hD
    have hRr : yRr (va_up (va_up (va_up r 30 (upd (r 30) ((i 10).toNatClampNeg) p0)) 31 (upd (r 31) ((i 10).toNatClampNeg) p1)) 32 (upd (r 32) ((i 10).toNatClampNeg) p2)) := Yr_upd hRr 32 ((i 10).toNatClampNeg) p2 ⟨by show (0 : Int) ≤ p2.toInt; omega, by show p2.toInt ≤ (9 : Int); omega⟩
    have hEr : mEr [30, 31, 32, 33, 34, 35, 36, 37] _ (va_up (va_up (va_up r 30 (upd (r 30) ((i 10).toNatClampNeg) p0)) 31 (upd (r 31) ((i 10).toNatClampNeg) p1)) 32 (upd (r 32) ((i 10).toNatClampNeg) p2)) := Er_up hEr 32 _ (by decide)
    refine lv_aload_n hx hb dX1_add_41 rfl (lv_at hl 0 rfl) ?_
    refine va_get (D := D) (ci := 1) (v := .ref (a 33)) (C := RX1) (T := TX1) (N := 12) hx hb hT iX1 hown hK hP 29 rfl rfl 4 (by decide) (hT _ t_349) (fun _ h9 => h9) rfl dX1_add_42 ?_
    refine lv_aload_n hx hb dX1_add_45 rfl (lv_at hl 0 rfl) ?_
    refine va_get (D := D) (ci := 1) (v := .int (i 10)) (C := RX1) (T := TX1) (N := 12) hx hb hT iX1 hown hK hP 29 rfl rfl 0 (by decide) (hT _ t_342) (fun _ h9 => h9) rfl dX1_add_46 ?_
    refine lv_iload hx hb dX1_add_49 (lv_at hl 4 rfl) ?_
    refine va_iast hx hb hK hP hD hS 33 0 rfl rfl (vp_inI (by omega) (by omega)) dX1_add_51 (fun H locs hP hD hS => ?_)
    rw [zS33] at hP hD
    have hRr : yRr (va_up (va_up (va_up (va_up r 30 (upd (r 30) ((i 10).toNatClampNeg) p0)) 31 (upd (r 31) ((i 10).toNatClampNeg) p1)) 32 (upd (r 32) ((i 10).toNatClampNeg) p2)) 33 (upd (r 33) ((i 10).toNatClampNeg) p3)) := Yr_upd hRr 33 ((i 10).toNatClampNeg) p3 ⟨by show (0 : Int) ≤ p3.toInt; omega, by show p3.toInt ≤ (7 : Int); omega⟩
    have hEr : mEr [30, 31, 32, 33, 34, 35, 36, 37] _ (va_up (va_up (va_up (va_up r 30 (upd (r 30) ((i 10).toNatClampNeg) p0)) 31 (upd (r 31) ((i 10).toNatClampNeg) p1)) 32 (upd (r 32) ((i 10).toNatClampNeg) p2)) 33 (upd (r 33) ((i 10).toNatClampNeg) p3)) := Er_up hEr 33 _ (by decide)
    refine lv_aload_n hx hb dX1_add_52 rfl (lv_at hl 0 rfl) ?_
    refine va_get (D := D) (ci := 1) (v := .ref (a 34)) (C := RX1) (T := TX1) (N := 12) hx hb hT iX1 hown hK hP 29 rfl rfl 5 (by decide) (hT _ t_350) (fun _ h9 => h9) rfl dX1_add_53 ?_
    refine lv_aload_n hx hb dX1_add_56 rfl (lv_at hl 0 rfl) ?_
    refine va_get (D := D) (ci := 1) (v := .int (i 10)) (C := RX1) (T := TX1) (N := 12) hx hb hT iX1 hown hK hP 29 rfl rfl 0 (by decide) (hT _ t_342) (fun _ h9 => h9) rfl dX1_add_57 ?_
    refine lv_iload hx hb dX1_add_60 (lv_at hl 5 rfl) ?_
    refine va_iast hx hb hK hP hD hS 34 0 rfl rfl (vp_inI (by omega) (by omega)) dX1_add_62 (fun H locs hP hD hS => ?_)
    rw [zS34] at hP hD
    have hRr : yRr (va_up (va_up (va_up (va_up (va_up r 30 (upd (r 30) ((i 10).toNatClampNeg) p0)) 31 (upd (r 31) ((i 10).toNatClampNeg) p1)) 32 (upd (r 32) ((i 10).toNatClampNeg) p2)) 33 (upd (r 33) ((i 10).toNatClampNeg) p3)) 34 (upd (r 34) ((i 10).toNatClampNeg) p4)) := Yr_upd hRr 34 ((i 10).toNatClampNeg) p4 ⟨by show (0 : Int) ≤ p4.toInt; omega, by show p4.toInt ≤ (9999 : Int); omega⟩
    have hEr : mEr [30, 31, 32, 33, 34, 35, 36, 37] _ (va_up (va_up (va_up (va_up (va_up r 30 (upd (r 30) ((i 10).toNatClampNeg) p0)) 31 (upd (r 31) ((i 10).toNatClampNeg) p1)) 32 (upd (r 32) ((i 10).toNatClampNeg) p2)) 33 (upd (r 33) ((i 10).toNatClampNeg) p3)) 34 (upd (r 34) ((i 10).toNatClampNeg) p4)) := Er_up hEr 34 _ (by decide)
    refine lv_aload_n hx hb dX1_add_63 rfl (lv_at hl 0 rfl) ?_
    refine va_get (D := D) (ci := 1) (v := .ref (a 35)) (C := RX1) (T := TX1) (N := 12) hx hb hT iX1 hown hK hP 29 rfl rfl 6 (by decide) (hT _ t_351) (fun _ h9 => h9) rfl dX1_add_64 ?_
    refine lv_aload_n hx hb dX1_add_67 rfl (lv_at hl 0 rfl) ?_
    refine va_get (D := D) (ci := 1) (v := .int (i 10)) (C := RX1) (T := TX1) (N := 12) hx hb hT iX1 hown hK hP 29 rfl rfl 0 (by decide) (hT _ t_342) (fun _ h9 => h9) rfl dX1_add_68 ?_
    refine lv_iconst (v := 0) hx hb dX1_add_71 (by decide) ?_
    refine va_iast hx hb hK hP hD hS 35 0 rfl rfl (vp_inI (by omega) (by omega)) dX1_add_72 (fun H locs hP hD hS => ?_)
    rw [zS35] at hP hD
    have hRr : yRr (va_up (va_up (va_up (va_up (va_up (va_up r 30 (upd (r 30) ((i 10).toNatClampNeg) p0)) 31 (upd (r 31) ((i 10).toNatClampNeg) p1)) 32 (upd (r 32) ((i 10).toNatClampNeg) p2)) 33 (upd (r 33) ((i 10).toNatClampNeg) p3)) 34 (upd (r 34) ((i 10).toNatClampNeg) p4)) 35 (upd (r 35) ((i 10).toNatClampNeg) 0)) := Yr_upd hRr 35 ((i 10).toNatClampNeg) 0 ⟨by decide, by decide⟩
    have hEr : mEr [30, 31, 32, 33, 34, 35, 36, 37] _ (va_up (va_up (va_up (va_up (va_up (va_up r 30 (upd (r 30) ((i 10).toNatClampNeg) p0)) 31 (upd (r 31) ((i 10).toNatClampNeg) p1)) 32 (upd (r 32) ((i 10).toNatClampNeg) p2)) 33 (upd (r 33) ((i 10).toNatClampNeg) p3)) 34 (upd (r 34) ((i 10).toNatClampNeg) p4)) 35 (upd (r 35) ((i 10).toNatClampNeg) 0)) := Er_up hEr 35 _ (by decide)
    refine lv_aload_n hx hb dX1_add_73 rfl (lv_at hl 0 rfl) ?_
    refine va_get (D := D) (ci := 1) (v := .ref (a 36)) (C := RX1) (T := TX1) (N := 12) hx hb hT iX1 hown hK hP 29 rfl rfl 7 (by decide) (hT _ t_345) (fun _ h9 => h9) rfl dX1_add_74 ?_
    refine lv_aload_n hx hb dX1_add_77 rfl (lv_at hl 0 rfl) ?_
    refine va_get (D := D) (ci := 1) (v := .int (i 10)) (C := RX1) (T := TX1) (N := 12) hx hb hT iX1 hown hK hP 29 rfl rfl 0 (by decide) (hT _ t_342) (fun _ h9 => h9) rfl dX1_add_78 ?_
    refine lv_iconst (v := (-1)) hx hb dX1_add_81 (by decide) ?_
    refine va_iast hx hb hK hP hD hS 36 0 rfl rfl (vp_inI (by omega) (by omega)) dX1_add_82 (fun H locs hP hD hS => ?_)
    rw [zS36] at hP hD
    have hRr : yRr (va_up (va_up (va_up (va_up (va_up (va_up (va_up r 30 (upd (r 30) ((i 10).toNatClampNeg) p0)) 31 (upd (r 31) ((i 10).toNatClampNeg) p1)) 32 (upd (r 32) ((i 10).toNatClampNeg) p2)) 33 (upd (r 33) ((i 10).toNatClampNeg) p3)) 34 (upd (r 34) ((i 10).toNatClampNeg) p4)) 35 (upd (r 35) ((i 10).toNatClampNeg) 0)) 36 (upd (r 36) ((i 10).toNatClampNeg) (-1))) := Yr_upd hRr 36 ((i 10).toNatClampNeg) (-1) ⟨by decide, by decide⟩
    have hEr : mEr [30, 31, 32, 33, 34, 35, 36, 37] _ (va_up (va_up (va_up (va_up (va_up (va_up (va_up r 30 (upd (r 30) ((i 10).toNatClampNeg) p0)) 31 (upd (r 31) ((i 10).toNatClampNeg) p1)) 32 (upd (r 32) ((i 10).toNatClampNeg) p2)) 33 (upd (r 33) ((i 10).toNatClampNeg) p3)) 34 (upd (r 34) ((i 10).toNatClampNeg) p4)) 35 (upd (r 35) ((i 10).toNatClampNeg) 0)) 36 (upd (r 36) ((i 10).toNatClampNeg) (-1))) := Er_up hEr 36 _ (by decide)
    refine lv_aload_n hx hb dX1_add_83 rfl (lv_at hl 0 rfl) ?_
    refine va_get (D := D) (ci := 1) (v := .ref (a 37)) (C := RX1) (T := TX1) (N := 12) hx hb hT iX1 hown hK hP 29 rfl rfl 8 (by decide) (hT _ t_352) (fun _ h9 => h9) rfl dX1_add_84 ?_
    refine lv_aload_n hx hb dX1_add_87 rfl (lv_at hl 0 rfl) ?_
    refine va_get (D := D) (ci := 1) (v := .int (i 10)) (C := RX1) (T := TX1) (N := 12) hx hb hT iX1 hown hK hP 29 rfl rfl 0 (by decide) (hT _ t_342) (fun _ h9 => h9) rfl dX1_add_88 ?_
    refine lv_iconst (v := 0) hx hb dX1_add_91 (by decide) ?_
    refine va_zast hx hb hK hP hD hS 37 2 rfl rfl (vp_inI (by omega) (by omega)) dX1_add_92 (fun H locs hP hD hS => ?_)
    rw [zS37] at hP hD
    have hRr : yRr (va_up (va_up (va_up (va_up (va_up (va_up (va_up (va_up r 30 (upd (r 30) ((i 10).toNatClampNeg) p0)) 31 (upd (r 31) ((i 10).toNatClampNeg) p1)) 32 (upd (r 32) ((i 10).toNatClampNeg) p2)) 33 (upd (r 33) ((i 10).toNatClampNeg) p3)) 34 (upd (r 34) ((i 10).toNatClampNeg) p4)) 35 (upd (r 35) ((i 10).toNatClampNeg) 0)) 36 (upd (r 36) ((i 10).toNatClampNeg) (-1))) 37 (upd (r 37) ((i 10).toNatClampNeg) (vp_nar .boolean 0))) := Yr_upd hRr 37 ((i 10).toNatClampNeg) (vp_nar .boolean 0) (b_rg _)
    have hEr : mEr [30, 31, 32, 33, 34, 35, 36, 37] _ (va_up (va_up (va_up (va_up (va_up (va_up (va_up (va_up r 30 (upd (r 30) ((i 10).toNatClampNeg) p0)) 31 (upd (r 31) ((i 10).toNatClampNeg) p1)) 32 (upd (r 32) ((i 10).toNatClampNeg) p2)) 33 (upd (r 33) ((i 10).toNatClampNeg) p3)) 34 (upd (r 34) ((i 10).toNatClampNeg) p4)) 35 (upd (r 35) ((i 10).toNatClampNeg) 0)) 36 (upd (r 36) ((i 10).toNatClampNeg) (-1))) 37 (upd (r 37) ((i 10).toNatClampNeg) (vp_nar .boolean 0))) := Er_up hEr 37 _ (by decide)
    refine lv_aload_n hx hb dX1_add_93 rfl (lv_at hl 0 rfl) ?_
    refine lv_dup hx hb dX1_add_94 rfl ?_
    refine va_get (D := D) (ci := 1) (v := .int (i 10)) (C := RX1) (T := TX1) (N := 12) hx hb hT iX1 hown hK hP 29 rfl rfl 0 (by decide) (hT _ t_342) (fun _ h9 => h9) rfl dX1_add_95 ?_
    refine lv_iconst (v := 1) hx hb dX1_add_98 (by decide) ?_
    refine lv_iadd hx hb dX1_add_99 ?_
    refine lv_topi (fun v_3 ev_3 => ?_)
    have hv_3 : v_3.toInt = (i 10).toInt + 1 := by rw [ev_3]; have := b_rg (i 10); exact i_add (a := (i 10).toInt) (b := 1) rfl rfl (by omega) (by omega)
    refine va_put (D := D) (ci := 1) (v := .int v_3) (ty := .int) (C := RX1) (T := TX1) (N := 12) hx hb hT iX1 tyX1 tyX1_ok nmX1 hown hK hP hD hS 29 rfl rfl 0 (by decide) (hT _ t_342) (fun _ h9 => h9) rfl (by decide +kernel) rfl rfl (Nat.le_of_ble_eq_true rfl) dX1_add_100 (fun H locs hP hD hS => ?_)
    rw [zP10] at hP hD
    have hRi := Yi_upd hRi 10 v_3 ⟨by show (0 : Int) ≤ v_3.toInt; omega, by show v_3.toInt ≤ (30 : Int); omega⟩
    have hEi := Ei_upd hEi 10 v_3 (by decide)
    refine lv_aload_n hx hb dX1_add_103 rfl (lv_at hl 0 rfl) ?_
    refine va_get (D := D) (ci := 1) (v := .int v_3) (C := RX1) (T := TX1) (N := 12) hx hb hT iX1 hown hK hP 29 rfl rfl 0 (by decide) (hT _ t_342) (fun _ h9 => h9) rfl dX1_add_104 ?_
    refine lv_iconst (v := 1) hx hb dX1_add_107 (by decide) ?_
    refine lv_isub hx hb dX1_add_108 ?_
    refine lv_topi (fun v_4 ev_4 => ?_)
    have hv_4 : v_4.toInt = v_3.toInt - 1 := by rw [ev_4]; have := b_rg v_3; exact i_sub (a := v_3.toInt) (b := 1) rfl rfl (by omega) (by omega)
    subst hQ
    exact W.iret (v := v_4) hx hb hr (fun t ht hW => ⟨⟨_, (upd i 10 v_3, va_up (va_up (va_up (va_up (va_up (va_up (va_up (va_up r 30 (upd (r 30) ((i 10).toNatClampNeg) p0)) 31 (upd (r 31) ((i 10).toNatClampNeg) p1)) 32 (upd (r 32) ((i 10).toNatClampNeg) p2)) 33 (upd (r 33) ((i 10).toNatClampNeg) p3)) 34 (upd (r 34) ((i 10).toNatClampNeg) p4)) 35 (upd (r 35) ((i 10).toNatClampNeg) 0)) 36 (upd (r 36) ((i 10).toNatClampNeg) (-1))) 37 (upd (r 37) ((i 10).toNatClampNeg) (vp_nar .boolean 0))), rfl, ⟨hRi, hRr, hEi, hEr, ⟨fun _ => ⟨by omega, by show v_3.toInt = _; omega, rfl, rfl, rfl, rfl, rfl, rfl, rfl⟩, fun h9 => absurd (by omega) h9⟩⟩, by rw [ht]; exact hP, va_K.moved hW.alike hK, hD⟩, hS.F ht⟩) hS.2.2 dX1_add_109
  · have c_2 : 30 ≤ (i 10).toInt := b_nlt c_2
    refine lv_iconst (v := (-1)) hx hb dX1_add_9 (by decide) ?_
    subst hQ
    exact W.iret (v := (-1)) hx hb hr (fun t ht hW => ⟨⟨_, (i, r), rfl, ⟨hRi, hRr, hEi, hEr, ⟨fun h9 => absurd h9 (by omega), fun _ => ⟨rfl, Ei_rf, Er_rf⟩⟩⟩, by rw [ht]; exact hP, va_K.moved hW.alike hK, hD⟩, hS.F ht⟩) hS.2.2 dX1_add_10
set_option maxHeartbeats 4000000 in
set_option maxRecDepth 100000 in
theorem c_X11_claim.y9 (l : Launch) (D : va_G) (cy : Nat → ClassId) (a : Nat → Nat) (i : Nat → Int32) (r : Nat → Nat → Int32) (q : Nat → Option Nat) (tl : va_W) (p0 p1 p2 p3 p4 : Int32) (sz : Nat) (hRi : yRi i) (hRr : yRr r) (hh : 0 ≤ p0.toInt ∧ p0.toInt < (i 0).toInt) (hq : q p0.toNatClampNeg = some (a 61)) : Met l yX11_claim (Cond.code yX11_claim cX11_claim 7 (some .int) :: gT) { frames := 3, cells := 0, slots := 0, locals := 67 } (va_Pc [.ref (a 0), .int p0, .int p1, .int p2, .int p3, .int p4] (rQ D cy (xW cy a i r q (a 20) (a 12) ++ (hW cy a i r ++ tl)) sz)) (va_Qi (fun (z : Int32) (u : (Nat → Int32) × (Nat → Nat → Int32)) => yRi u.1 ∧ yRr u.2 ∧ mEi [10] i u.1 ∧ mEr [30, 31, 32, 33, 34, 35, 36, 37] r u.2 ∧ ((((0 ≤ p1.toInt ∧ p1.toInt < (i 23).toInt) ∧ (0 ≤ p2.toInt ∧ p2.toInt ≤ 9) ∧ (0 ≤ p3.toInt ∧ p3.toInt ≤ 7) ∧ (0 ≤ p4.toInt ∧ p4.toInt ≤ 9999) ∧ (i 10).toInt ≤ 29 ∧ ¬ DUP (i 10).toInt (r 30) (r 31) p0 p1) → z.toInt = (i 10).toInt ∧ (u.1 10).toInt = (i 10).toInt + 1 ∧ u.2 30 = upd (r 30) (i 10).toNatClampNeg p0 ∧ u.2 31 = upd (r 31) (i 10).toNatClampNeg p1 ∧ u.2 32 = upd (r 32) (i 10).toNatClampNeg p2 ∧ u.2 33 = upd (r 33) (i 10).toNatClampNeg p3 ∧ u.2 34 = upd (r 34) (i 10).toNatClampNeg p4 ∧ u.2 35 = upd (r 35) (i 10).toNatClampNeg 0 ∧ u.2 36 = upd (r 36) (i 10).toNatClampNeg (-1)) ∧ (¬ ((0 ≤ p1.toInt ∧ p1.toInt < (i 23).toInt) ∧ (0 ≤ p2.toInt ∧ p2.toInt ≤ 9) ∧ (0 ≤ p3.toInt ∧ p3.toInt ≤ 7) ∧ (0 ≤ p4.toInt ∧ p4.toInt ≤ 9999) ∧ (i 10).toInt ≤ 29 ∧ ¬ DUP (i 10).toInt (r 30) (r 31) p0 p1) → mEi [] i u.1 ∧ mEr [] r u.2))) (fun (u : (Nat → Int32) × (Nat → Nat → Int32)) t => va_P D vwCl (xW cy a u.1 u.2 q (a 20) (a 12) ++ (hW cy a u.1 u.2 ++ tl)) t.heap ∧ va_K D vwCl (vT cy) t ∧ va_D (va_A (xW cy a i r q (a 20) (a 12) ++ (hW cy a i r ++ tl)) sz) (xW cy a u.1 u.2 q (a 20) (a 12) ++ (hW cy a u.1 u.2 ++ tl))) (va_A (xW cy a i r q (a 20) (a 12) ++ (hW cy a i r ++ tl)) sz)) 0 0 (va_A (xW cy a i r q (a 20) (a 12) ++ (hW cy a i r ++ tl)) sz) := by
  refine Met.ofQ (cc := cX11_claim) (maxL := 7) (ret := (some .int)) (by decide) rfl ?_
  intro p e s m args below meth c s₁ B hml hv Q hQ
  obtain ⟨rfl, hsz, hP, hK, hD0⟩ := hv
  have hx := B.exec
  have hb := B.bytes
  have hr := B.returns
  have hlocks := B.notSynchronized
  have hT : ∀ w ∈ gT, w.before _ s = true := fun w h => atoms_spec (ws := (Cond.code yX11_claim cX11_claim 7 (some .int) :: gT)) B.pre w (List.mem_cons_of_mem _ h)
  have hown : s.vm.findClass RX11 = some m.cls := findClass_of_methodNamed B.named
  subst hsz
  have hD := hD0.self (sz := s.heap.size)
  generalize hAe : va_A (xW cy a i r q (a 20) (a 12) ++ (hW cy a i r ++ tl)) s.heap.size = A at hD hQ
  have hA : ∀ q : Nat, s.heap.size ≤ q → A q := fun q h => by rw [← hAe]; exact Or.inr h
  have hS : va_S A s.heap s.heap [] := va_S.rf
  have hl := lv_entry ([.ref (a 0), .int p0, .int p1, .int p2, .int p3, .int p4]) (n := 7) (Nat.le_of_ble_eq_true rfl)
  rw [lg_entry_eq]
  generalize (lg_sl ([.ref (a 0), .int p0, .int p1, .int p2, .int p3, .int p4]) ++ List.replicate (7 - (lg_sl ([.ref (a 0), .int p0, .int p1, .int p2, .int p3, .int p4])).length) Slot.unset).toArray = ls at hl ⊢
  have hl : lv_has ls 7 [(0, .ref (a 0)), (1, .int p0), (2, .int p1), (3, .int p2), (4, .int p3), (5, .int p4)] := hl
  have hEi : mEi [10] i i := Ei_rf
  have hEr : mEr [30, 31, 32, 33, 34, 35, 36, 37] r r := Er_rf
  have hg0 : 0 ≤ (i 0).toInt ∧ (i 0).toInt ≤ 6 := hRi 0
  refine lv_aload_n hx hb dX11_claim_0 rfl (lv_at hl 0 rfl) ?_
  refine lv_iload_n hx hb dX11_claim_1 rfl (lv_at hl 1 rfl) ?_
  refine va_csq (W.runV (As := [.int p0]) (rest := []) ⟨hx, hb, hml, hown, hT⟩ (c_X11_homeAt l D cy a i r q (hW cy a i r ++ tl) p0 hRi hRr) (cwV 1 hT (gV t_443 t_444 t_445 t_446 t_2) rfl rfl rfl (by decide +kernel) ⟨Nat.le_of_ble_eq_true rfl, Nat.le_of_ble_eq_true rfl⟩) (rP_v hP hK (va_recv hK hP (ci := 11) (q0 := 0) rfl rfl)) rfl rfl hl.1 rfl (lv_room (Nat.le_of_ble_eq_true rfl)) dX11_claim_2 ⟨Nat.le_of_ble_eq_true rfl, Nat.le_of_ble_eq_true rfl⟩) (fun r_1 hr_1 => ?_)
  obtain rfl : r_1 = some (a 61) := (hr_1.1 hh).trans hq
  refine W.eq (g2 := F0 m 5 ls [.ref (a 61)]) rfl ?_
  refine lv_astore (lv' := [(6, .ref (a 61)), (0, .ref (a 0)), (1, .int p0), (2, .int p1), (3, .int p2), (4, .int p3), (5, .int p4)]) hx hb dX11_claim_5 hl (by decide) rfl (fun ls hl => ?_)
  refine lv_aload hx hb dX11_claim_7 (lv_at hl 0 rfl) ?_
  refine lv_ifnull hx hb dX11_claim_9 ?_
  refine lv_iload_n hx hb dX11_claim_12 rfl (lv_at hl 3 rfl) ?_
  refine lv_iconst (v := 0) hx hb dX11_claim_13 (by decide) ?_
  refine lv_aload hx hb dX11_claim_14 (lv_at hl 0 rfl) ?_
  refine va_get (D := D) (ci := 3) (v := .ref (a 65)) (C := RX3) (T := TX3) (N := 12) hx hb hT iX3 hown hK hP 61 rfl rfl 9 (by decide) (hT _ t_453) (fun _ h9 => h9) rfl dX11_claim_16 ?_
  refine va_get (D := D) (ci := 10) (v := .int (i 23)) (C := RX10) (T := TX10) (N := 5) hx hb hT iX10 hown hK hP 65 rfl rfl 0 (by decide) (hT _ t_463) (fun _ h9 => h9) rfl dX11_claim_19 ?_
  have hg_2 : 0 ≤ (i 23).toInt ∧ (i 23).toInt ≤ 20 := hRi 23
  refine lv_iconst (v := 1) hx hb dX11_claim_22 (by decide) ?_
  refine lv_isub hx hb dX11_claim_23 ?_
  refine lv_topi (fun v_3 ev_3 => ?_)
  have hv_3 : v_3.toInt = (i 23).toInt - 1 := by rw [ev_3]; have := b_rg (i 23); exact i_sub (a := (i 23).toInt) (b := 1) rfl rfl (by omega) (by omega)
  refine vp_callSi (W.runS (As := [.int p1, .int 0, .int v_3]) (rest := []) ⟨hx, hb, hml, hown, hT⟩ (c_X11_within l p1 0 v_3) (va_cwS 3 hT (gS t_1 t_3 t_4 t_2) rfl rfl rfl (by decide +kernel) ⟨Nat.le_of_ble_eq_true rfl, Nat.le_of_ble_eq_true rfl⟩) preT rfl rfl hl.1 rfl (lv_room (Nat.le_of_ble_eq_true rfl)) dX11_claim_24 ⟨Nat.le_of_ble_eq_true rfl, Nat.le_of_ble_eq_true rfl⟩) (fun r_4 hr_4 => ?_)
  have hr_4 : BR r_4 (0 ≤ p1.toInt ∧ p1.toInt ≤ v_3.toInt) 1 0 := hr_4
  rcases hr_4 with ⟨rfl, h_5⟩ | ⟨rfl, h_5⟩
  · skip
    refine lv_if_eq (tgt := 59) hx hb dX11_claim_27 (by decide) (fun c_6 => absurd c_6 (by decide)) (fun c_6 => ?_)
    refine lv_iload_n hx hb dX11_claim_30 rfl (lv_at hl 4 rfl) ?_
    refine lv_iconst (v := 0) hx hb dX11_claim_31 (by decide) ?_
    refine lv_bipush (v := 9) hx hb dX11_claim_32 (by decide) ?_
    refine vp_callSi (W.runS (As := [.int p2, .int 0, .int 9]) (rest := []) ⟨hx, hb, hml, hown, hT⟩ (c_X11_within l p2 0 9) (va_cwS 3 hT (gS t_1 t_3 t_4 t_2) rfl rfl rfl (by decide +kernel) ⟨Nat.le_of_ble_eq_true rfl, Nat.le_of_ble_eq_true rfl⟩) preT rfl rfl hl.1 rfl (lv_room (Nat.le_of_ble_eq_true rfl)) dX11_claim_34 ⟨Nat.le_of_ble_eq_true rfl, Nat.le_of_ble_eq_true rfl⟩) (fun r_7 hr_7 => ?_)
    have hr_7 : BR r_7 (0 ≤ p2.toInt ∧ p2.toInt ≤ 9) 1 0 := hr_7
    rcases hr_7 with ⟨rfl, h_8⟩ | ⟨rfl, h_8⟩
    · skip
      refine lv_if_eq (tgt := 59) hx hb dX11_claim_37 (by decide) (fun c_9 => absurd c_9 (by decide)) (fun c_9 => ?_)
      refine lv_iload hx hb dX11_claim_40 (lv_at hl 5 rfl) ?_
      refine lv_iconst (v := 0) hx hb dX11_claim_42 (by decide) ?_
      refine lv_bipush (v := 7) hx hb dX11_claim_43 (by decide) ?_
      refine vp_callSi (W.runS (As := [.int p3, .int 0, .int 7]) (rest := []) ⟨hx, hb, hml, hown, hT⟩ (c_X11_within l p3 0 7) (va_cwS 3 hT (gS t_1 t_3 t_4 t_2) rfl rfl rfl (by decide +kernel) ⟨Nat.le_of_ble_eq_true rfl, Nat.le_of_ble_eq_true rfl⟩) preT rfl rfl hl.1 rfl (lv_room (Nat.le_of_ble_eq_true rfl)) dX11_claim_45 ⟨Nat.le_of_ble_eq_true rfl, Nat.le_of_ble_eq_true rfl⟩) (fun r_10 hr_10 => ?_)
      have hr_10 : BR r_10 (0 ≤ p3.toInt ∧ p3.toInt ≤ 7) 1 0 := hr_10
      rcases hr_10 with ⟨rfl, h_11⟩ | ⟨rfl, h_11⟩
      · skip
        refine lv_if_eq (tgt := 59) hx hb dX11_claim_48 (by decide) (fun c_12 => absurd c_12 (by decide)) (fun c_12 => ?_)
        refine lv_iload hx hb dX11_claim_51 (lv_at hl 6 rfl) ?_
        refine vp_callSi (W.runS (As := [.int p4]) (rest := []) ⟨hx, hb, hml, hown, hT⟩ (c_X11_isDay l p4) (va_cwS 1 hT (gS t_279 t_280 t_281 t_2) rfl rfl rfl (by decide +kernel) ⟨Nat.le_of_ble_eq_true rfl, Nat.le_of_ble_eq_true rfl⟩) preT rfl rfl hl.1 rfl (lv_room (Nat.le_of_ble_eq_true rfl)) dX11_claim_53 ⟨Nat.le_of_ble_eq_true rfl, Nat.le_of_ble_eq_true rfl⟩) (fun r_13 hr_13 => ?_)
        have hr_13 : BR r_13 (0 ≤ p4.toInt ∧ p4.toInt ≤ 9999) 1 0 := hr_13
        rcases hr_13 with ⟨rfl, h_14⟩ | ⟨rfl, h_14⟩
        · skip
          refine lv_if_ne (tgt := 61) hx hb dX11_claim_56 (by decide) (fun c_15 => ?_) (fun c_15 => absurd c_15 (by decide))
          refine lv_aload_n hx hb dX11_claim_61 rfl (lv_at hl 1 rfl) ?_
          refine va_get (D := D) (ci := 11) (v := .ref (a 29)) (C := RX11) (T := TX11) (N := 14) hx hb hT iX11 hown hK hP 0 rfl rfl 8 (by decide) (hT _ t_265) (fun _ h9 => h9) rfl dX11_claim_62 ?_
          refine lv_iload_n hx hb dX11_claim_65 rfl (lv_at hl 2 rfl) ?_
          refine lv_iload_n hx hb dX11_claim_66 rfl (lv_at hl 3 rfl) ?_
          refine vp_callSi (W.runV (As := [.int p0, .int p1]) (rest := []) ⟨hx, hb, hml, hown, hT⟩ (c_X1_isClaimed9 l D cy a i r q (hW cy a i r ++ tl) p0 p1 hRi hRr) (cwV 2 hT (gV t_479 t_480 t_481 t_482 t_356) rfl rfl rfl (by decide +kernel) ⟨Nat.le_of_ble_eq_true rfl, Nat.le_of_ble_eq_true rfl⟩) (rP_v hP hK (va_recv hK hP (ci := 1) (q0 := 29) rfl rfl)) rfl rfl hl.1 rfl (lv_room (Nat.le_of_ble_eq_true rfl)) dX11_claim_67 ⟨Nat.le_of_ble_eq_true rfl, Nat.le_of_ble_eq_true rfl⟩) (fun r_16 hr_16 => ?_)
          have hr_16 : BR r_16 (DUP (i 10).toInt (r 30) (r 31) p0 p1) 1 0 := hr_16
          rcases hr_16 with ⟨rfl, h_17⟩ | ⟨rfl, h_17⟩
          · skip
            refine lv_if_eq (tgt := 76) hx hb dX11_claim_70 (by decide) (fun c_18 => absurd c_18 (by decide)) (fun c_18 => ?_)
            refine lv_bipush (v := (-2)) hx hb dX11_claim_73 (by decide) ?_
            subst hQ
            exact W.iret (v := (-2)) hx hb hr (fun t ht hW => ⟨⟨_, (i, r), rfl, ⟨hRi, hRr, hEi, hEr, ⟨fun h9 => absurd h_17 h9.2.2.2.2.2, fun _ => ⟨Ei_rf, Er_rf⟩⟩⟩, by rw [ht]; exact hP, va_K.moved hW.alike hK, hD⟩, hS.F ht⟩) hS.2.2 dX11_claim_75
          · skip
            refine lv_if_eq (tgt := 76) hx hb dX11_claim_70 (by decide) (fun c_19 => ?_) (fun c_19 => absurd (by decide) c_19)
            refine lv_aload_n hx hb dX11_claim_76 rfl (lv_at hl 1 rfl) ?_
            refine va_get (D := D) (ci := 11) (v := .ref (a 29)) (C := RX11) (T := TX11) (N := 14) hx hb hT iX11 hown hK hP 0 rfl rfl 8 (by decide) (hT _ t_265) (fun _ h9 => h9) rfl dX11_claim_77 ?_
            refine lv_iload_n hx hb dX11_claim_80 rfl (lv_at hl 2 rfl) ?_
            refine lv_iload_n hx hb dX11_claim_81 rfl (lv_at hl 3 rfl) ?_
            refine lv_iload_n hx hb dX11_claim_82 rfl (lv_at hl 4 rfl) ?_
            refine lv_iload hx hb dX11_claim_83 (lv_at hl 5 rfl) ?_
            refine lv_iload hx hb dX11_claim_85 (lv_at hl 6 rfl) ?_
            have hF_20 := rF hD hS hA
            refine va_calli (va_runV (As := [.int p0, .int p1, .int p2, .int p3, .int p4]) (rest := []) ⟨hx, hb, hml, hown, hT⟩ (c_X1_add9 l D cy a i r q (hW cy a i r ++ tl) p0 p1 p2 p3 p4 _ hRi hRr (by first | omega | decide) (by first | omega | decide) (by first | omega | decide) (by first | omega | decide) (by first | omega | decide)) (cwV 5 hT (gV t_483 t_484 t_485 t_486 t_356) rfl rfl rfl (by decide +kernel) ⟨Nat.le_of_ble_eq_true rfl, Nat.le_of_ble_eq_true rfl⟩) (rQ_v hP hK hD (va_recv hK hP (ci := 1) (q0 := 29) rfl rfl)) rfl rfl hl.1 rfl (lv_room (Nat.le_of_ble_eq_true rfl)) dX11_claim_87 ⟨Nat.le_of_ble_eq_true rfl, Nat.le_of_ble_eq_true rfl⟩) hS (fun q _ h => hF_20 q h) hF_20 (fun r_21 u_22 t H1 locs ht hvm hr_21 hB hz1 hk1 hS => ?_)
            obtain ⟨i22, r22⟩ := u_22
            obtain ⟨hP, hK1, hD1⟩ := hB
            rw [ht] at hP
            have hD := hD1.weaken (fun k q _ h => hF_20 q.1 h)
            obtain ⟨hRi, hRr, hE1, hE2, hr_21⟩ := hr_21
            have hRi : yRi i22 := hRi
            have hE1 : mEi [10] i i22 := hE1
            have hRr : yRr r22 := hRr
            have hE2 : mEr [30, 31, 32, 33, 34, 35, 36, 37] r r22 := hE2
            have hwe : hW cy a i22 r22 = hW cy a i r := hW_eqE hE1 hE2 rfl rfl
            have hP : va_P D vwCl (xW cy a i22 r22 q (a 20) (a 12) ++ (hW cy a i22 r22 ++ tl)) H1 := by rw [hwe]; exact hP
            have hD : va_D A (xW cy a i22 r22 q (a 20) (a 12) ++ (hW cy a i22 r22 ++ tl)) := by rw [hwe]; exact hD
            have hEi : mEi [10] _ i22 := Ei_tr hEi hE1 (by decide)
            have hEr : mEr [30, 31, 32, 33, 34, 35, 36, 37] _ r22 := Er_tr hEr hE2 (by decide)
            have hr_21 : (((i 10).toInt ≤ 29) → r_21.toInt = (i 10).toInt ∧ (i22 10).toInt = (i 10).toInt + 1 ∧ r22 30 = upd (r 30) (i 10).toNatClampNeg p0 ∧ r22 31 = upd (r 31) (i 10).toNatClampNeg p1 ∧ r22 32 = upd (r 32) (i 10).toNatClampNeg p2 ∧ r22 33 = upd (r 33) (i 10).toNatClampNeg p3 ∧ r22 34 = upd (r 34) (i 10).toNatClampNeg p4 ∧ r22 35 = upd (r 35) (i 10).toNatClampNeg 0 ∧ r22 36 = upd (r 36) (i 10).toNatClampNeg (-1)) ∧ (¬ ((i 10).toInt ≤ 29) → r_21 = -1 ∧ mEi [] i i22 ∧ mEr [] r r22) := hr_21
            subst hQ
            exact W.iret (v := r_21) hx hb hr (fun t ht hW => ⟨⟨_, (i22, r22), rfl, ⟨hRi, hRr, hEi, hEr, ⟨fun h9 => hr_21.1 (by omega), fun h9 => (hr_21.2 (fun h8 => h9 ⟨by omega, by omega, by omega, by omega, h8, h_17⟩)).2⟩⟩, by rw [ht]; exact hP, va_K.moved hW.alike hK, hD⟩, hS.F ht⟩) hS.2.2 dX11_claim_90
        · skip
          refine lv_if_ne (tgt := 61) hx hb dX11_claim_56 (by decide) (fun c_23 => absurd (by decide) c_23) (fun c_23 => ?_)
          refine lv_iconst (v := (-1)) hx hb dX11_claim_59 (by decide) ?_
          subst hQ
          exact W.iret (v := (-1)) hx hb hr (fun t ht hW => ⟨⟨_, (i, r), rfl, ⟨hRi, hRr, hEi, hEr, ⟨fun h9 => absurd h9 (by omega), fun _ => ⟨Ei_rf, Er_rf⟩⟩⟩, by rw [ht]; exact hP, va_K.moved hW.alike hK, hD⟩, hS.F ht⟩) hS.2.2 dX11_claim_60
      · skip
        refine lv_if_eq (tgt := 59) hx hb dX11_claim_48 (by decide) (fun c_24 => ?_) (fun c_24 => absurd (by decide) c_24)
        refine lv_iconst (v := (-1)) hx hb dX11_claim_59 (by decide) ?_
        subst hQ
        exact W.iret (v := (-1)) hx hb hr (fun t ht hW => ⟨⟨_, (i, r), rfl, ⟨hRi, hRr, hEi, hEr, ⟨fun h9 => absurd h9 (by omega), fun _ => ⟨Ei_rf, Er_rf⟩⟩⟩, by rw [ht]; exact hP, va_K.moved hW.alike hK, hD⟩, hS.F ht⟩) hS.2.2 dX11_claim_60
    · skip
      refine lv_if_eq (tgt := 59) hx hb dX11_claim_37 (by decide) (fun c_25 => ?_) (fun c_25 => absurd (by decide) c_25)
      refine lv_iconst (v := (-1)) hx hb dX11_claim_59 (by decide) ?_
      subst hQ
      exact W.iret (v := (-1)) hx hb hr (fun t ht hW => ⟨⟨_, (i, r), rfl, ⟨hRi, hRr, hEi, hEr, ⟨fun h9 => absurd h9 (by omega), fun _ => ⟨Ei_rf, Er_rf⟩⟩⟩, by rw [ht]; exact hP, va_K.moved hW.alike hK, hD⟩, hS.F ht⟩) hS.2.2 dX11_claim_60
  · skip
    refine lv_if_eq (tgt := 59) hx hb dX11_claim_27 (by decide) (fun c_26 => ?_) (fun c_26 => absurd (by decide) c_26)
    refine lv_iconst (v := (-1)) hx hb dX11_claim_59 (by decide) ?_
    subst hQ
    exact W.iret (v := (-1)) hx hb hr (fun t ht hW => ⟨⟨_, (i, r), rfl, ⟨hRi, hRr, hEi, hEr, ⟨fun h9 => absurd h9 (by omega), fun _ => ⟨Ei_rf, Er_rf⟩⟩⟩, by rw [ht]; exact hP, va_K.moved hW.alike hK, hD⟩, hS.F ht⟩) hS.2.2 dX11_claim_60
