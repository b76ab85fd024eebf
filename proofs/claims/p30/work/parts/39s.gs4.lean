-- a thing, in the words of the class, of the reference
def xTh (i : Nat → Int32) (r : Nat → Nat → Int32) (k : Nat) (c e : Int32) : List Int32 := [r 67 k, r 66 k, r 68 k, nI (lkX (r 75) (r 73) (i 24).toInt k).toNat, r 69 k + (i 21 - i 20), i 21 - i 20, i 18, i 17, c, e]
def mTh (r : Nat → Nat → Int32) (J : Nat → Int32) (h k : Nat) (c e : Int32) : List Int32 := [r 13 (20 * h + k), r 12 (20 * h + k), r 14 (20 * h + k), nI (lkM J (gjH (r 18) h) k).toNat, r 15 (20 * h + k) + (r 7 h - r 6 h), r 7 h - r 6 h, r 4 h, r 3 h, c, e]
def xWo (i : Nat → Int32) (r : Nat → Nat → Int32) (k : Nat) : Int32 := WOR (r 2 (r 67 k).toNatClampNeg) (r 3 (4 * (r 67 k).toInt + (i 17).toInt).toNat) (r 69 k + (i 21 - i 20))
def mWo (r : Nat → Nat → Int32) (h k : Nat) : Int32 := WOR (r 1 (r 13 (20 * h + k)).toNatClampNeg) (r 2 (4 * (r 13 (20 * h + k)).toInt + (r 3 h).toInt).toNat) (r 15 (20 * h + k) + (r 7 h - r 6 h))
-- what is lost: state, fair wear, state at last, worth
def lsT (s w o wo : Int32) : Int32 := if ((if (s - w).toInt < 0 then 0 else s - w) - o).toInt ≤ 0 then 0 else wo * ((if (s - w).toInt < 0 then 0 else s - w) - o) / s
def xWe (d : lwT) (i : Nat → Int32) (r : Nat → Nat → Int32) (k : Nat) : Int32 := byL d (faL (xTh i r k 0 0)) 102 9 0
def mWe (d : lwT) (r : Nat → Nat → Int32) (J : Nat → Int32) (h k : Nat) : Int32 := byL d (faL (mTh r J h k 0 0)) 102 9 0
def xLs (d : lwT) (i : Nat → Int32) (r : Nat → Nat → Int32) (k : Nat) : Int32 := lsT (r 68 k) (xWe d i r k) (nI (lkX (r 75) (r 73) (i 24).toInt k).toNat) (xWo i r k)
def mLs (d : lwT) (r : Nat → Nat → Int32) (J : Nat → Int32) (h k : Nat) : Int32 := lsT (r 14 (20 * h + k)) (mWe d r J h k) (nI (lkM J (gjH (r 18) h) k).toNat) (mWo r h k)
-- how a thing changed, in the words of the class
theorem ds3 {f : Nat → Int32} {a b c : Int32} : upd (upd (upd f 5 a) 6 b) 7 c 5 = a ∧ upd (upd (upd f 5 a) 6 b) 7 c 6 = b ∧ upd (upd (upd f 5 a) 6 b) 7 c 7 = c ∧ ∀ k, k < 5 → upd (upd (upd f 5 a) 6 b) 7 c k = f k := by
  refine ⟨rfl, rfl, rfl, fun k hk => ?_⟩
  rw [pk_un (by omega), pk_un (by omega), pk_un (by omega)]
theorem ds5 {f : Nat → Int32} {a b c d e : Int32} : upd (upd (upd (upd (upd f 0 a) 1 b) 2 c) 3 d) 4 e 0 = a ∧ upd (upd (upd (upd (upd f 0 a) 1 b) 2 c) 3 d) 4 e 1 = b ∧ upd (upd (upd (upd (upd f 0 a) 1 b) 2 c) 3 d) 4 e 2 = c ∧ upd (upd (upd (upd (upd f 0 a) 1 b) 2 c) 3 d) 4 e 3 = d ∧ upd (upd (upd (upd (upd f 0 a) 1 b) 2 c) 3 d) 4 e 4 = e := ⟨rfl, rfl, rfl, rfl, rfl⟩
theorem ds2 {f : Nat → Int32} {a b : Int32} : upd (upd f 8 a) 9 b 8 = a ∧ upd (upd f 8 a) 9 b 9 = b ∧ ∀ k, k < 8 → upd (upd f 8 a) 9 b k = f k := by
  refine ⟨rfl, rfl, fun k hk => ?_⟩
  rw [pk_un (by omega), pk_un (by omega)]
theorem mx0 {l m : Int32} (e : m = if (0 : Int32) < l then l else 0) : m = if l.toInt < 0 then 0 else l := by
  have h0 : (0 : Int32).toInt = 0 := rfl
  rw [e]
  by_cases a : (0 : Int32) < l
  · have h := b_lt a
    rw [if_pos a, if_neg (by omega)]
  · have h := b_nlt a
    rw [if_neg a]
    by_cases b : l.toInt < 0
    · rw [if_pos b]
    · rw [if_neg b]; exact Int32.toInt_inj.mp (by omega)
theorem mx_a {ag n m : Int32} (e : m = if ag < n then n else ag) : m = if n.toInt < ag.toInt then ag else n := by
  rw [e]
  by_cases a : ag < n
  · have h := b_lt a
    rw [if_pos a, if_neg (by omega)]
  · have h := b_nlt a
    rw [if_neg a]
    by_cases b : n.toInt < ag.toInt
    · rw [if_pos b]
    · rw [if_neg b]; exact Int32.toInt_inj.mp (by omega)
theorem ls_0 {s w o wo l m b : Int32} (e1 : l = s - w) (e2 : m = if l.toInt < 0 then 0 else l) (e3 : b = m - o) (h : b.toInt ≤ 0) : (0 : Int32) = lsT s w o wo := by
  subst e1 e2 e3
  exact (if_pos h).symm
theorem ls_1 {s w o wo l m b x z : Int32} (e1 : l = s - w) (e2 : m = if l.toInt < 0 then 0 else l) (e3 : b = m - o) (h : ¬ b.toInt ≤ 0) (e4 : x = wo * b) (e5 : z = x / s) : z = lsT s w o wo := by
  subst e1 e2 e3 e4 e5
  exact (if_neg h).symm
set_option maxHeartbeats 4000000 in
set_option maxRecDepth 100000 in
theorem c_X5_amount9 (l : Launch) (D : va_G) (cy : Nat → ClassId) (a : Nat → Nat) (i : Nat → Int32) (r : Nat → Nat → Int32) (q : Nat → Option Nat) (tl : va_W) (p0 p1 p2 : Int32) (sz : Nat) (hRi : yRi i) (hRr : yRr r) (d9 : lwT) (fa9 : Nat → Int32) (hL9 : xLw d9 i r) (hG9 : gLw d9) (hf9 : ∀ k, k < 10 → r 28 k = fa9 k) (q0 : p0.toInt ≠ 98) (q2 : 0 ≤ p2.toInt) : Met l yX5_amount (Cond.code yX5_amount cX5_amount 6 (some .int) :: gT) { frames := 3, cells := 0, slots := 0, locals := 75 } (va_Pc [.ref (a 20), .int p0, .ref (a 28), .int p1, .int p2] (rM D cy (xW cy a i r q (a 20) (a 12) ++ tl) sz)) (va_Qi (fun (z : Int32) (u : Nat → Nat → Int32) => yRr u ∧ mEr [27] r u ∧ (z = byL d9 fa9 p0 p2 p1)) (fun (u : Nat → Nat → Int32) t => va_P D vwCl (xW cy a i u q (a 20) (a 12) ++ tl) t.heap ∧ va_K D vwCl (vT cy) t ∧ va_D (va_A (xW cy a i r q (a 20) (a 12) ++ tl) sz) (xW cy a i u q (a 20) (a 12) ++ tl)) (va_A (xW cy a i r q (a 20) (a 12) ++ tl) sz)) 0 0 (va_A (xW cy a i r q (a 20) (a 12) ++ tl) sz) := by
  refine Met.ofQ (cc := cX5_amount) (maxL := 6) (ret := (some .int)) (by decide) rfl ?_
  intro p e s m args below meth c s₁ B hml hv Q hQ
  obtain ⟨rfl, hnw, hsz, hP, hK, hD0⟩ := hv
  have hx := B.exec
  have hb := B.bytes
  have hr := B.returns
  have hlocks := B.notSynchronized
  have hT : ∀ w ∈ gT, w.before _ s = true := fun w h => atoms_spec (ws := (Cond.code yX5_amount cX5_amount 6 (some .int) :: gT)) B.pre w (List.mem_cons_of_mem _ h)
  have hown : s.vm.findClass RX5 = some m.cls := findClass_of_methodNamed B.named
  subst hsz
  have hD := hD0.self (sz := s.heap.size)
  generalize hAe : va_A (xW cy a i r q (a 20) (a 12) ++ tl) s.heap.size = A at hD hQ
  have hA : ∀ q : Nat, s.heap.size ≤ q → A q := fun q h => by rw [← hAe]; exact Or.inr h
  have hS : va_S A s.heap s.heap [] := va_S.rf
  have hl := lv_entry ([.ref (a 20), .int p0, .ref (a 28), .int p1, .int p2]) (n := 6) (Nat.le_of_ble_eq_true rfl)
  rw [lg_entry_eq]
  generalize (lg_sl ([.ref (a 20), .int p0, .ref (a 28), .int p1, .int p2]) ++ List.replicate (6 - (lg_sl ([.ref (a 20), .int p0, .ref (a 28), .int p1, .int p2])).length) Slot.unset).toArray = ls at hl ⊢
  have hl : lv_has ls 6 [(0, .ref (a 20)), (1, .int p0), (2, .ref (a 28)), (3, .int p1), (4, .int p2)] := hl
  have hEi : mEi [] i i := Ei_rf
  have hEr : mEr [27] r r := Er_rf
  obtain ⟨hN9, hR9, n9, hQ9, hT9⟩ := hL9
  refine lv_iconst (v := 0) hx hb dX5_amount_0 (by decide) ?_
  refine lv_istore (lv' := [(5, .int 0), (0, .ref (a 20)), (1, .int p0), (2, .ref (a 28)), (3, .int p1), (4, .int p2)]) hx hb dX5_amount_1 hl (by decide) rfl (fun ls hl => ?_)
  have loop_1 : ∀ (n : Nat) (x1_5 : Int32) (r1 : Nat → Nat → Int32) (H : Heap) (locs : List Loc) (ls : Array Slot), (14 - x1_5.toInt).toNat < n → (0 ≤ x1_5.toInt ∧ x1_5.toInt ≤ 14) → yRr r1 → mEr [27] r r1 → (∀ k, k < x1_5.toInt.toNat → lwM d9 fa9 p0 k = false) → va_P D vwCl (xW cy a i r1 q (a 20) (a 12) ++ tl) H → va_D A (xW cy a i r1 q (a 20) (a 12) ++ tl) → va_S A s.heap H locs → lv_has ls 6 [(5, .int x1_5), (0, .ref (a 20)), (1, .int p0), (2, .ref (a 28)), (3, .int p1), (4, .int p2)] → W p l e ({ frames := 3, cells := 0, slots := 0, locals := 75 } : Room) s m ([.ref (a 20), .int p0, .ref (a 28), .int p1, .int p2] : List Value).toArray below meth c H locs 0 0 Q (F0 m 3 ls []) := by
    intro n
    induction n with
    | zero =>
      intro x1_5 r1 H locs ls hm1 hf1_0 hRr hEr hx1 hP hD hS hl
      exact absurd hm1 (by omega)
    | succ n ih1 =>
      intro x1_5 r1 H locs ls hm1 hf1_0 hRr hEr hx1 hP hD hS hl
      refine lv_iload hx hb dX5_amount_3 (lv_at hl 0 rfl) ?_
      refine lv_aload_n hx hb dX5_amount_5 rfl (lv_at hl 1 rfl) ?_
      refine va_get (D := D) (ci := 5) (v := .int (i 8)) (C := RX5) (T := TX5) (N := 9) hx hb hT iX5 hown hK hP 20 rfl rfl 0 (by decide) (hT _ t_370) (fun _ h9 => h9) rfl dX5_amount_6 ?_
      have hg_2 : 0 ≤ (i 8).toInt ∧ (i 8).toInt ≤ 14 := hRi 8
      refine lv_icmp_ge (tgt := 80) hx hb dX5_amount_9 (by decide) (fun c_3 => ?_) (fun c_3 => ?_)
      · have c_3 : (i 8).toInt ≤ x1_5.toInt := b_le c_3
        refine lv_iload_n hx hb dX5_amount_80 rfl (lv_at hl 4 rfl) ?_
        subst hQ
        exact W.iret (v := p1) hx hb hr (fun t ht hW => ⟨⟨_, r1, rfl, ⟨hRr, hEr, (lwF_no hx1 (show d9.2 ≤ x1_5.toInt.toNat by omega)).symm⟩, by rw [ht]; exact hP, va_K.moved hW.alike hK, hD⟩, hS.F ht⟩) hS.2.2 dX5_amount_81
      · have c_3 : x1_5.toInt < (i 8).toInt := b_nle c_3
        have hKd : x1_5.toInt.toNat < d9.2 := by omega
        obtain ⟨e21, e22, e23, e24⟩ := hR9 _ hKd
        obtain ⟨s1, s2, s3, s4, s5⟩ := hG9 _ hKd
        have ht4 := hT9 _ hKd
        have hlt34 := s1.1
        refine lv_aload_n hx hb dX5_amount_12 rfl (lv_at hl 1 rfl) ?_
        refine va_get (D := D) (ci := 5) (v := .ref (a 21)) (C := RX5) (T := TX5) (N := 9) hx hb hT iX5 hown hK hP 20 rfl rfl 2 (by decide) (hT _ t_371) (fun _ h9 => h9) rfl dX5_amount_13 ?_
        refine lv_iload hx hb dX5_amount_16 (lv_at hl 0 rfl) ?_
        refine va_iald hx hb hK hP 21 0 rfl rfl (vp_inI (by omega) (by omega)) dX5_amount_18 ?_
        refine lv_topi (fun v_4 ev_4 => ?_)
        have hcl : v_4.toInt = (d9.1 1 x1_5.toInt.toNat).toInt := by rw [ev_4, hEr 21 (by decide)]; exact congrArg Int32.toInt e21
        refine lv_iload_n hx hb dX5_amount_19 rfl (lv_at hl 2 rfl) ?_
        refine lv_icmp_ne (tgt := 74) hx hb dX5_amount_20 (by decide) (fun c_5 => ?_) (fun c_5 => ?_)
        · have c_5 : v_4.toInt ≠ p0.toInt := b_ne c_5
          obtain ⟨x_6, ex_6⟩ : ∃ y : Int32, y = x1_5 + 1 := ⟨_, rfl⟩
          refine lv_iinc (v := x_6) (lv' := [(5, .int x_6), (0, .ref (a 20)), (1, .int p0), (2, .ref (a 28)), (3, .int p1), (4, .int p2)]) hx hb dX5_amount_74 hl (k := 0) rfl (by rw [ex_6]; rfl) (by decide) rfl (fun ls hl => ?_)
          have hx_6 : x_6.toInt = x1_5.toInt + 1 := by rw [ex_6]; have := b_rg x1_5; exact i_add (a := x1_5.toInt) (b := 1) rfl rfl (by omega) (by omega)
          refine lv_goto (tgt := 3) hx hb dX5_amount_77 (by decide) ?_
          exact ih1 x_6 r1 _ _ _ (by first | omega | (simp only [Int.toNat]; omega)) (by first | omega | decide) hRr hEr (lwN_s hx1 (show x_6.toInt.toNat = x1_5.toInt.toNat + 1 by omega) (lwM_f1 (by rw [← hcl]; omega))) hP hD hS (lv_sub hl [0, 1, 2, 3, 4, 5] rfl)
        · have c_5 : v_4.toInt = p0.toInt := b_nne c_5
          refine lv_aload_n hx hb dX5_amount_23 rfl (lv_at hl 1 rfl) ?_
          refine lv_aload_n hx hb dX5_amount_24 rfl (lv_at hl 1 rfl) ?_
          refine va_get (D := D) (ci := 5) (v := .ref (a 23)) (C := RX5) (T := TX5) (N := 9) hx hb hT iX5 hown hK hP 20 rfl rfl 4 (by decide) (hT _ t_372) (fun _ h9 => h9) rfl dX5_amount_25 ?_
          refine lv_iload hx hb dX5_amount_28 (lv_at hl 0 rfl) ?_
          refine va_iald hx hb hK hP 23 0 rfl rfl (vp_inI (by omega) (by omega)) dX5_amount_30 ?_
          refine lv_topi (fun v_7 ev_7 => ?_)
          have hgv_7 : 0 ≤ v_7.toInt ∧ v_7.toInt ≤ 200 := by rw [ev_7]; exact hRr 23 _
          have eA9 : v_7 = d9.1 3 x1_5.toInt.toNat := by rw [ev_7, hEr 23 (by decide)]; exact e23
          refine lv_aload_n hx hb dX5_amount_31 rfl (lv_at hl 1 rfl) ?_
          refine va_get (D := D) (ci := 5) (v := .ref (a 24)) (C := RX5) (T := TX5) (N := 9) hx hb hT iX5 hown hK hP 20 rfl rfl 5 (by decide) (hT _ t_373) (fun _ h9 => h9) rfl dX5_amount_32 ?_
          refine lv_iload hx hb dX5_amount_35 (lv_at hl 0 rfl) ?_
          refine va_iald hx hb hK hP 24 0 rfl rfl (vp_inI (by omega) (by omega)) dX5_amount_37 ?_
          refine lv_topi (fun v_8 ev_8 => ?_)
          have hgv_8 : 0 ≤ v_8.toInt ∧ v_8.toInt ≤ 200 := by rw [ev_8]; exact hRr 24 _
          have eB9 : v_8 = d9.1 4 x1_5.toInt.toNat := by rw [ev_8, hEr 24 (by decide)]; exact e24
          refine lv_aload_n hx hb dX5_amount_38 rfl (lv_at hl 3 rfl) ?_
          have hF_9 := rF hD hS hA
          refine va_calli (va_runV (As := [.int v_7, .int v_8, .ref (a 28)]) (rest := []) ⟨hx, hb, hml, hown, hT⟩ (c_X5_run9 l D cy a i r1 q tl v_7 v_8 _ hRi hRr (by omega) (by omega) (d9.1 0) fa9 n9 (by rw [hEr 25 (by decide), hEr 26 (by decide)]; exact hQ9) (by rw [eB9]; omega) (by rw [eA9, eB9]; exact s1) (by rw [eA9, eB9]; exact s4) (by rw [hEr 28 (by decide)]; exact hf9)) (cwV 3 hT (gV t_374 t_375 t_376 t_377 t_367) rfl rfl rfl (by decide +kernel) ⟨Nat.le_of_ble_eq_true rfl, Nat.le_of_ble_eq_true rfl⟩) (rM_v hnw hP hK hD (va_recv hK hP (ci := 5) (q0 := 20) rfl rfl)) rfl rfl hl.1 rfl (lv_room (Nat.le_of_ble_eq_true rfl)) dX5_amount_39 ⟨Nat.le_of_ble_eq_true rfl, Nat.le_of_ble_eq_true rfl⟩) hS (fun q _ h => hF_9 q h) hF_9 (fun r_10 u_11 t H1 locs ht hvm hr_10 hB hz1 hk1 hS => ?_)
          obtain ⟨r11, rfl⟩ : ∃ z, z = u_11 := ⟨_, rfl⟩
          obtain ⟨hP, hK1, hD1⟩ := hB
          rw [ht] at hP
          have hD := hD1.weaken (fun k q _ h => hF_9 q.1 h)
          obtain ⟨hRr, hE2, hr_10⟩ := hr_10
          have hRr : yRr r11 := hRr
          have hE2 : mEr [27] r1 r11 := hE2
          have hP : va_P D vwCl (xW cy a i r11 q (a 20) (a 12) ++ tl) H1 := hP
          have hD : va_D A (xW cy a i r11 q (a 20) (a 12) ++ tl) := hD
          have hEr : mEr [27] _ r11 := Er_tr hEr hE2 (by decide)
          have hrv : r_10 = rv (d9.1 0) fa9 (d9.1 3 x1_5.toInt.toNat).toInt.toNat (d9.1 4 x1_5.toInt.toNat).toInt.toNat := by rw [hr_10, eA9, eB9]
          refine lv_if_eq (tgt := 74) hx hb dX5_amount_42 (by decide) (fun c_12 => ?_) (fun c_12 => ?_)
          · have c_12 : r_10.toInt = 0 := b_eq c_12
            obtain ⟨x_13, ex_13⟩ : ∃ y : Int32, y = x1_5 + 1 := ⟨_, rfl⟩
            refine lv_iinc (v := x_13) (lv' := [(5, .int x_13), (0, .ref (a 20)), (1, .int p0), (2, .ref (a 28)), (3, .int p1), (4, .int p2)]) hx hb dX5_amount_74 hl (k := 0) rfl (by rw [ex_13]; rfl) (by decide) rfl (fun ls hl => ?_)
            have hx_13 : x_13.toInt = x1_5.toInt + 1 := by rw [ex_13]; have := b_rg x1_5; exact i_add (a := x1_5.toInt) (b := 1) rfl rfl (by omega) (by omega)
            refine lv_goto (tgt := 3) hx hb dX5_amount_77 (by decide) ?_
            exact ih1 x_13 r11 _ _ _ (by first | omega | (simp only [Int.toNat]; omega)) (by first | omega | decide) hRr hEr (lwN_s hx1 (show x_13.toInt.toNat = x1_5.toInt.toNat + 1 by omega) (lwM_f2 (by rw [← hrv]; exact fun h9 => absurd (congrArg Int32.toInt h9) (show r_10.toInt ≠ 1 by omega)))) hP hD hS (lv_sub hl [0, 1, 2, 3, 4, 5] rfl)
          · have c_12 : r_10.toInt ≠ 0 := b_ne c_12
            refine lv_iconst (v := 0) hx hb dX5_amount_45 (by decide) ?_
            refine lv_iload hx hb dX5_amount_46 (lv_at hl 5 rfl) ?_
            refine lv_aload_n hx hb dX5_amount_48 rfl (lv_at hl 1 rfl) ?_
            refine lv_aload_n hx hb dX5_amount_49 rfl (lv_at hl 1 rfl) ?_
            refine va_get (D := D) (ci := 5) (v := .ref (a 22)) (C := RX5) (T := TX5) (N := 9) hx hb hT iX5 hown hK hP 20 rfl rfl 3 (by decide) (hT _ t_378) (fun _ h9 => h9) rfl dX5_amount_50 ?_
            refine lv_iload hx hb dX5_amount_53 (lv_at hl 0 rfl) ?_
            refine va_iald hx hb hK hP 22 0 rfl rfl (vp_inI (by omega) (by omega)) dX5_amount_55 ?_
            refine lv_topi (fun v_14 ev_14 => ?_)
            have hgv_14 : 0 ≤ v_14.toInt ∧ v_14.toInt ≤ 200 := by rw [ev_14]; exact hRr 22 _
            have eF9 : v_14 = d9.1 2 x1_5.toInt.toNat := by rw [ev_14, hEr 22 (by decide)]; exact e22
            refine lv_aload_n hx hb dX5_amount_56 rfl (lv_at hl 1 rfl) ?_
            refine va_get (D := D) (ci := 5) (v := .ref (a 23)) (C := RX5) (T := TX5) (N := 9) hx hb hT iX5 hown hK hP 20 rfl rfl 4 (by decide) (hT _ t_372) (fun _ h9 => h9) rfl dX5_amount_57 ?_
            refine lv_iload hx hb dX5_amount_60 (lv_at hl 0 rfl) ?_
            refine va_iald hx hb hK hP 23 0 rfl rfl (vp_inI (by omega) (by omega)) dX5_amount_62 ?_
            refine lv_topi (fun v_15 ev_15 => ?_)
            have hgv_15 : 0 ≤ v_15.toInt ∧ v_15.toInt ≤ 200 := by rw [ev_15]; exact hRr 23 _
            have eH9 : v_15 = d9.1 3 x1_5.toInt.toNat := by rw [ev_15, hEr 23 (by decide)]; exact e23
            refine lv_aload_n hx hb dX5_amount_63 rfl (lv_at hl 3 rfl) ?_
            have hF_16 := rF hD hS hA
            refine va_calli (va_runV (As := [.int v_14, .int v_15, .ref (a 28)]) (rest := [.int p2, .int 0]) ⟨hx, hb, hml, hown, hT⟩ (c_X5_run9 l D cy a i r11 q tl v_14 v_15 _ hRi hRr (by omega) (by omega) (d9.1 0) fa9 n9 (by rw [hEr 25 (by decide), hEr 26 (by decide)]; exact hQ9) (by rw [eH9]; omega) (by rw [eF9, eH9]; exact (s2 (by rw [← hcl]; omega))) (by rw [eF9, eH9]; exact s3) (by rw [hEr 28 (by decide)]; exact hf9)) (cwV 3 hT (gV t_374 t_375 t_376 t_377 t_367) rfl rfl rfl (by decide +kernel) ⟨Nat.le_of_ble_eq_true rfl, Nat.le_of_ble_eq_true rfl⟩) (rM_v hnw hP hK hD (va_recv hK hP (ci := 5) (q0 := 20) rfl rfl)) rfl rfl hl.1 rfl (lv_room (Nat.le_of_ble_eq_true rfl)) dX5_amount_64 ⟨Nat.le_of_ble_eq_true rfl, Nat.le_of_ble_eq_true rfl⟩) hS (fun q _ h => hF_16 q h) hF_16 (fun r_17 u_18 t H1 locs ht hvm hr_17 hB hz1 hk1 hS => ?_)
            obtain ⟨r18, rfl⟩ : ∃ z, z = u_18 := ⟨_, rfl⟩
            obtain ⟨hP, hK1, hD1⟩ := hB
            rw [ht] at hP
            have hD := hD1.weaken (fun k q _ h => hF_16 q.1 h)
            obtain ⟨hRr, hE2, hr_17⟩ := hr_17
            have hRr : yRr r18 := hRr
            have hE2 : mEr [27] r11 r18 := hE2
            have hP : va_P D vwCl (xW cy a i r18 q (a 20) (a 12) ++ tl) H1 := hP
            have hD : va_D A (xW cy a i r18 q (a 20) (a 12) ++ tl) := hD
            have hEr : mEr [27] _ r18 := Er_tr hEr hE2 (by decide)
            have hrw : r_17 = rv (d9.1 0) fa9 (d9.1 2 x1_5.toInt.toNat).toInt.toNat (d9.1 3 x1_5.toInt.toNat).toInt.toNat := by rw [hr_17, eF9, eH9]
            refine va_mmin hx hb (by rw [hml]; exact hl.1.symm) hown (hT _ t_379) (hT _ t_380) (hT _ t_289) (hT _ t_381) (Nat.le_of_ble_eq_true rfl) (Nat.le_of_ble_eq_true rfl) (Nat.le_of_ble_eq_true rfl) (Nat.le_of_ble_eq_true rfl) dX5_amount_67 ?_
            refine lv_topi (fun v_19 ev_19 => ?_)
            refine va_mmax hx hb (by rw [hml]; exact hl.1.symm) hown (hT _ t_382) (hT _ t_307) (hT _ t_289) (hT _ t_308) (Nat.le_of_ble_eq_true rfl) (Nat.le_of_ble_eq_true rfl) (Nat.le_of_ble_eq_true rfl) (Nat.le_of_ble_eq_true rfl) dX5_amount_70 ?_
            refine lv_topi (fun v_20 ev_20 => ?_)
            subst hQ
            have h19 : rv (d9.1 0) fa9 (d9.1 3 x1_5.toInt.toNat).toInt.toNat (d9.1 4 x1_5.toInt.toNat).toInt.toNat = 1 := (gLw_01 hG9 hKd).resolve_left (fun h9 => by have h8 : r_10.toInt = 0 := (by rw [hrv, h9]; rfl); omega)
            have hb9 : byL d9 fa9 p0 p2 p1 = clp p2 r_17 := (lwF_hit hx1 hKd (lwM_t (by rw [← hcl]; omega) h19)).trans (congrArg (clp p2) hrw.symm)
            exact W.iret (v := v_20) hx hb hr (fun t ht hW => ⟨⟨_, r18, rfl, ⟨hRr, hEr, ((clp_x q2 ev_19 ev_20).trans hb9.symm)⟩, by rw [ht]; exact hP, va_K.moved hW.alike hK, hD⟩, hS.F ht⟩) hS.2.2 dX5_amount_73
  exact loop_1 _ 0 r _ _ _ (Nat.lt_succ_self _) (by first | omega | decide) hRr hEr lwN_0 hP hD hS hl
set_option maxHeartbeats 4000000 in
set_option maxRecDepth 100000 in
theorem c_X5_someHolds9 (l : Launch) (D : va_G) (cy : Nat → ClassId) (a : Nat → Nat) (i : Nat → Int32) (r : Nat → Nat → Int32) (q : Nat → Option Nat) (tl : va_W) (p0 : Int32) (sz : Nat) (hRi : yRi i) (hRr : yRr r) (d9 : lwT) (fa9 : Nat → Int32) (hL9 : xLw d9 i r) (hG9 : gLw d9) (hf9 : ∀ k, k < 10 → r 28 k = fa9 k) (q0 : p0.toInt = 98) : Met l yX5_someHolds (Cond.code yX5_someHolds cX5_someHolds 4 (some .boolean) :: gT) { frames := 3, cells := 0, slots := 0, locals := 75 } (va_Pc [.ref (a 20), .int p0, .ref (a 28)] (rM D cy (xW cy a i r q (a 20) (a 12) ++ tl) sz)) (va_Qi (fun (z : Int32) (u : Nat → Nat → Int32) => yRr u ∧ mEr [27] r u ∧ (z = anB d9 fa9)) (fun (u : Nat → Nat → Int32) t => va_P D vwCl (xW cy a i u q (a 20) (a 12) ++ tl) t.heap ∧ va_K D vwCl (vT cy) t ∧ va_D (va_A (xW cy a i r q (a 20) (a 12) ++ tl) sz) (xW cy a i u q (a 20) (a 12) ++ tl)) (va_A (xW cy a i r q (a 20) (a 12) ++ tl) sz)) 0 0 (va_A (xW cy a i r q (a 20) (a 12) ++ tl) sz) := by
  refine Met.ofQ (cc := cX5_someHolds) (maxL := 4) (ret := (some .boolean)) (by decide) rfl ?_
  intro p e s m args below meth c s₁ B hml hv Q hQ
  obtain ⟨rfl, hnw, hsz, hP, hK, hD0⟩ := hv
  have hx := B.exec
  have hb := B.bytes
  have hr := B.returns
  have hlocks := B.notSynchronized
  have hT : ∀ w ∈ gT, w.before _ s = true := fun w h => atoms_spec (ws := (Cond.code yX5_someHolds cX5_someHolds 4 (some .boolean) :: gT)) B.pre w (List.mem_cons_of_mem _ h)
  have hown : s.vm.findClass RX5 = some m.cls := findClass_of_methodNamed B.named
  subst hsz
  have hD := hD0.self (sz := s.heap.size)
  generalize hAe : va_A (xW cy a i r q (a 20) (a 12) ++ tl) s.heap.size = A at hD hQ
  have hA : ∀ q : Nat, s.heap.size ≤ q → A q := fun q h => by rw [← hAe]; exact Or.inr h
  have hS : va_S A s.heap s.heap [] := va_S.rf
  have hl := lv_entry ([.ref (a 20), .int p0, .ref (a 28)]) (n := 4) (Nat.le_of_ble_eq_true rfl)
  rw [lg_entry_eq]
  generalize (lg_sl ([.ref (a 20), .int p0, .ref (a 28)]) ++ List.replicate (4 - (lg_sl ([.ref (a 20), .int p0, .ref (a 28)])).length) Slot.unset).toArray = ls at hl ⊢
  have hl : lv_has ls 4 [(0, .ref (a 20)), (1, .int p0), (2, .ref (a 28))] := hl
  have hEi : mEi [] i i := Ei_rf
  have hEr : mEr [27] r r := Er_rf
  obtain ⟨hN9, hR9, n9, hQ9, hT9⟩ := hL9
  refine lv_iconst (v := 0) hx hb dX5_someHolds_0 (by decide) ?_
  refine lv_istore_n (lv' := [(3, .int 0), (0, .ref (a 20)), (1, .int p0), (2, .ref (a 28))]) hx hb dX5_someHolds_1 rfl hl (by decide) rfl (fun ls hl => ?_)
  have loop_1 : ∀ (n : Nat) (x1_3 : Int32) (r1 : Nat → Nat → Int32) (H : Heap) (locs : List Loc) (ls : Array Slot), (14 - x1_3.toInt).toNat < n → (0 ≤ x1_3.toInt ∧ x1_3.toInt ≤ 14) → yRr r1 → mEr [27] r r1 → (∀ k, k < x1_3.toInt.toNat → lwM d9 fa9 98 k = false) → va_P D vwCl (xW cy a i r1 q (a 20) (a 12) ++ tl) H → va_D A (xW cy a i r1 q (a 20) (a 12) ++ tl) → va_S A s.heap H locs → lv_has ls 4 [(3, .int x1_3), (0, .ref (a 20)), (1, .int p0), (2, .ref (a 28))] → W p l e ({ frames := 3, cells := 0, slots := 0, locals := 75 } : Room) s m ([.ref (a 20), .int p0, .ref (a 28)] : List Value).toArray below meth c H locs 0 0 Q (F0 m 2 ls []) := by
    intro n
    induction n with
    | zero =>
      intro x1_3 r1 H locs ls hm1 hf1_0 hRr hEr hx1 hP hD hS hl
      exact absurd hm1 (by omega)
    | succ n ih1 =>
      intro x1_3 r1 H locs ls hm1 hf1_0 hRr hEr hx1 hP hD hS hl
      refine lv_iload_n hx hb dX5_someHolds_2 rfl (lv_at hl 0 rfl) ?_
      refine lv_aload_n hx hb dX5_someHolds_3 rfl (lv_at hl 1 rfl) ?_
      refine va_get (D := D) (ci := 5) (v := .int (i 8)) (C := RX5) (T := TX5) (N := 9) hx hb hT iX5 hown hK hP 20 rfl rfl 0 (by decide) (hT _ t_370) (fun _ h9 => h9) rfl dX5_someHolds_4 ?_
      have hg_2 : 0 ≤ (i 8).toInt ∧ (i 8).toInt ≤ 14 := hRi 8
      refine lv_icmp_ge (tgt := 48) hx hb dX5_someHolds_7 (by decide) (fun c_3 => ?_) (fun c_3 => ?_)
      · have c_3 : (i 8).toInt ≤ x1_3.toInt := b_le c_3
        refine lv_iconst (v := 0) hx hb dX5_someHolds_48 (by decide) ?_
        subst hQ
        exact W.zret hx hb hr rfl (fun t ht hW => ⟨⟨_, r1, rfl, ⟨hRr, hEr, (lwF_no hx1 (show d9.2 ≤ x1_3.toInt.toNat by omega)).symm⟩, by rw [ht]; exact hP, va_K.moved hW.alike hK, hD⟩, hS.F ht⟩) hS.2.2 dX5_someHolds_49
      · have c_3 : x1_3.toInt < (i 8).toInt := b_nle c_3
        have hKd : x1_3.toInt.toNat < d9.2 := by omega
        obtain ⟨e21, e22, e23, e24⟩ := hR9 _ hKd
        obtain ⟨s1, s2, s3, s4, s5⟩ := hG9 _ hKd
        have ht4 := hT9 _ hKd
        have hlt34 := s1.1
        refine lv_aload_n hx hb dX5_someHolds_10 rfl (lv_at hl 1 rfl) ?_
        refine va_get (D := D) (ci := 5) (v := .ref (a 21)) (C := RX5) (T := TX5) (N := 9) hx hb hT iX5 hown hK hP 20 rfl rfl 2 (by decide) (hT _ t_371) (fun _ h9 => h9) rfl dX5_someHolds_11 ?_
        refine lv_iload_n hx hb dX5_someHolds_14 rfl (lv_at hl 0 rfl) ?_
        refine va_iald hx hb hK hP 21 0 rfl rfl (vp_inI (by omega) (by omega)) dX5_someHolds_15 ?_
        refine lv_topi (fun v_4 ev_4 => ?_)
        have hcl : v_4.toInt = (d9.1 1 x1_3.toInt.toNat).toInt := by rw [ev_4, hEr 21 (by decide)]; exact congrArg Int32.toInt e21
        have h98 : (98 : Int32).toInt = 98 := rfl
        refine lv_iload_n hx hb dX5_someHolds_16 rfl (lv_at hl 2 rfl) ?_
        refine lv_icmp_ne (tgt := 42) hx hb dX5_someHolds_17 (by decide) (fun c_5 => ?_) (fun c_5 => ?_)
        · have c_5 : v_4.toInt ≠ p0.toInt := b_ne c_5
          obtain ⟨x_6, ex_6⟩ : ∃ y : Int32, y = x1_3 + 1 := ⟨_, rfl⟩
          refine lv_iinc (v := x_6) (lv' := [(3, .int x_6), (0, .ref (a 20)), (1, .int p0), (2, .ref (a 28))]) hx hb dX5_someHolds_42 hl (k := 0) rfl (by rw [ex_6]; rfl) (by decide) rfl (fun ls hl => ?_)
          have hx_6 : x_6.toInt = x1_3.toInt + 1 := by rw [ex_6]; have := b_rg x1_3; exact i_add (a := x1_3.toInt) (b := 1) rfl rfl (by omega) (by omega)
          refine lv_goto (tgt := 2) hx hb dX5_someHolds_45 (by decide) ?_
          exact ih1 x_6 r1 _ _ _ (by first | omega | (simp only [Int.toNat]; omega)) (by first | omega | decide) hRr hEr (lwN_s hx1 (show x_6.toInt.toNat = x1_3.toInt.toNat + 1 by omega) (lwM_f1 (by rw [← hcl]; omega))) hP hD hS (lv_sub hl [0, 1, 2, 3] rfl)
        · have c_5 : v_4.toInt = p0.toInt := b_nne c_5
          refine lv_aload_n hx hb dX5_someHolds_20 rfl (lv_at hl 1 rfl) ?_
          refine lv_aload_n hx hb dX5_someHolds_21 rfl (lv_at hl 1 rfl) ?_
          refine va_get (D := D) (ci := 5) (v := .ref (a 23)) (C := RX5) (T := TX5) (N := 9) hx hb hT iX5 hown hK hP 20 rfl rfl 4 (by decide) (hT _ t_372) (fun _ h9 => h9) rfl dX5_someHolds_22 ?_
          refine lv_iload_n hx hb dX5_someHolds_25 rfl (lv_at hl 0 rfl) ?_
          refine va_iald hx hb hK hP 23 0 rfl rfl (vp_inI (by omega) (by omega)) dX5_someHolds_26 ?_
          refine lv_topi (fun v_7 ev_7 => ?_)
          have hgv_7 : 0 ≤ v_7.toInt ∧ v_7.toInt ≤ 200 := by rw [ev_7]; exact hRr 23 _
          have eA9 : v_7 = d9.1 3 x1_3.toInt.toNat := by rw [ev_7, hEr 23 (by decide)]; exact e23
          refine lv_aload_n hx hb dX5_someHolds_27 rfl (lv_at hl 1 rfl) ?_
          refine va_get (D := D) (ci := 5) (v := .ref (a 24)) (C := RX5) (T := TX5) (N := 9) hx hb hT iX5 hown hK hP 20 rfl rfl 5 (by decide) (hT _ t_373) (fun _ h9 => h9) rfl dX5_someHolds_28 ?_
          refine lv_iload_n hx hb dX5_someHolds_31 rfl (lv_at hl 0 rfl) ?_
          refine va_iald hx hb hK hP 24 0 rfl rfl (vp_inI (by omega) (by omega)) dX5_someHolds_32 ?_
          refine lv_topi (fun v_8 ev_8 => ?_)
          have hgv_8 : 0 ≤ v_8.toInt ∧ v_8.toInt ≤ 200 := by rw [ev_8]; exact hRr 24 _
          have eB9 : v_8 = d9.1 4 x1_3.toInt.toNat := by rw [ev_8, hEr 24 (by decide)]; exact e24
          refine lv_aload_n hx hb dX5_someHolds_33 rfl (lv_at hl 3 rfl) ?_
          have hF_9 := rF hD hS hA
          refine va_calli (va_runV (As := [.int v_7, .int v_8, .ref (a 28)]) (rest := []) ⟨hx, hb, hml, hown, hT⟩ (c_X5_run9 l D cy a i r1 q tl v_7 v_8 _ hRi hRr (by omega) (by omega) (d9.1 0) fa9 n9 (by rw [hEr 25 (by decide), hEr 26 (by decide)]; exact hQ9) (by rw [eB9]; omega) (by rw [eA9, eB9]; exact s1) (by rw [eA9, eB9]; exact s4) (by rw [hEr 28 (by decide)]; exact hf9)) (cwV 3 hT (gV t_374 t_375 t_376 t_377 t_367) rfl rfl rfl (by decide +kernel) ⟨Nat.le_of_ble_eq_true rfl, Nat.le_of_ble_eq_true rfl⟩) (rM_v hnw hP hK hD (va_recv hK hP (ci := 5) (q0 := 20) rfl rfl)) rfl rfl hl.1 rfl (lv_room (Nat.le_of_ble_eq_true rfl)) dX5_someHolds_34 ⟨Nat.le_of_ble_eq_true rfl, Nat.le_of_ble_eq_true rfl⟩) hS (fun q _ h => hF_9 q h) hF_9 (fun r_10 u_11 t H1 locs ht hvm hr_10 hB hz1 hk1 hS => ?_)
          obtain ⟨r11, rfl⟩ : ∃ z, z = u_11 := ⟨_, rfl⟩
          obtain ⟨hP, hK1, hD1⟩ := hB
          rw [ht] at hP
          have hD := hD1.weaken (fun k q _ h => hF_9 q.1 h)
          obtain ⟨hRr, hE2, hr_10⟩ := hr_10
          have hRr : yRr r11 := hRr
          have hE2 : mEr [27] r1 r11 := hE2
          have hP : va_P D vwCl (xW cy a i r11 q (a 20) (a 12) ++ tl) H1 := hP
          have hD : va_D A (xW cy a i r11 q (a 20) (a 12) ++ tl) := hD
          have hEr : mEr [27] _ r11 := Er_tr hEr hE2 (by decide)
          have hrv : r_10 = rv (d9.1 0) fa9 (d9.1 3 x1_3.toInt.toNat).toInt.toNat (d9.1 4 x1_3.toInt.toNat).toInt.toNat := by rw [hr_10, eA9, eB9]
          refine lv_if_eq (tgt := 42) hx hb dX5_someHolds_37 (by decide) (fun c_12 => ?_) (fun c_12 => ?_)
          · have c_12 : r_10.toInt = 0 := b_eq c_12
            obtain ⟨x_13, ex_13⟩ : ∃ y : Int32, y = x1_3 + 1 := ⟨_, rfl⟩
            refine lv_iinc (v := x_13) (lv' := [(3, .int x_13), (0, .ref (a 20)), (1, .int p0), (2, .ref (a 28))]) hx hb dX5_someHolds_42 hl (k := 0) rfl (by rw [ex_13]; rfl) (by decide) rfl (fun ls hl => ?_)
            have hx_13 : x_13.toInt = x1_3.toInt + 1 := by rw [ex_13]; have := b_rg x1_3; exact i_add (a := x1_3.toInt) (b := 1) rfl rfl (by omega) (by omega)
            refine lv_goto (tgt := 2) hx hb dX5_someHolds_45 (by decide) ?_
            exact ih1 x_13 r11 _ _ _ (by first | omega | (simp only [Int.toNat]; omega)) (by first | omega | decide) hRr hEr (lwN_s hx1 (show x_13.toInt.toNat = x1_3.toInt.toNat + 1 by omega) (lwM_f2 (by rw [← hrv]; exact fun h9 => absurd (congrArg Int32.toInt h9) (show r_10.toInt ≠ 1 by omega)))) hP hD hS (lv_sub hl [0, 1, 2, 3] rfl)
          · have c_12 : r_10.toInt ≠ 0 := b_ne c_12
            refine lv_iconst (v := 1) hx hb dX5_someHolds_40 (by decide) ?_
            subst hQ
            have h19 : rv (d9.1 0) fa9 (d9.1 3 x1_3.toInt.toNat).toInt.toNat (d9.1 4 x1_3.toInt.toNat).toInt.toNat = 1 := (gLw_01 hG9 hKd).resolve_left (fun h9 => by have h8 : r_10.toInt = 0 := (by rw [hrv, h9]; rfl); omega)
            exact W.zret hx hb hr rfl (fun t ht hW => ⟨⟨_, r11, rfl, ⟨hRr, hEr, (lwF_hit (V := fun _ => (1 : Int32)) (no := 0) hx1 hKd (lwM_t (by rw [← hcl]; omega) h19)).symm⟩, by rw [ht]; exact hP, va_K.moved hW.alike hK, hD⟩, hS.F ht⟩) hS.2.2 dX5_someHolds_41
  exact loop_1 _ 0 r _ _ _ (Nat.lt_succ_self _) (by first | omega | decide) hRr hEr lwN_0 hP hD hS hl
set_option maxHeartbeats 4000000 in
set_option maxRecDepth 100000 in
theorem c_X11_describeHome9 (l : Launch) (D : va_G) (cy : Nat → ClassId) (a : Nat → Nat) (i : Nat → Int32) (r : Nat → Nat → Int32) (q : Nat → Option Nat) (tl : va_W) (sz : Nat) (hRi : yRi i) (hRr : yRr r) : Met l yX11_describeHome (Cond.code yX11_describeHome cX11_describeHome 2 none :: gT) { frames := 2, cells := 0, slots := 0, locals := 44 } (va_Pc [.ref (a 0), .ref (a 61)] (rQ D cy (xW cy a i r q (a 20) (a 12) ++ (hW cy a i r ++ tl)) sz)) (va_Qv (fun u : Nat → Nat → Int32 => yRr u ∧ mEr [28] r u ∧ (u 28 5 = (i 21 - i 20) ∧ u 28 6 = i 18 ∧ u 28 7 = i 17 ∧ ∀ k9, k9 < 5 → u 28 k9 = r 28 k9)) (fun (u : Nat → Nat → Int32) t => va_P D vwCl (xW cy a i u q (a 20) (a 12) ++ (hW cy a i u ++ tl)) t.heap ∧ va_K D vwCl (vT cy) t ∧ va_D (va_A (xW cy a i r q (a 20) (a 12) ++ (hW cy a i r ++ tl)) sz) (xW cy a i u q (a 20) (a 12) ++ (hW cy a i u ++ tl))) (va_A (xW cy a i r q (a 20) (a 12) ++ (hW cy a i r ++ tl)) sz)) 0 0 (va_A (xW cy a i r q (a 20) (a 12) ++ (hW cy a i r ++ tl)) sz) := by
  refine Met.ofQ (cc := cX11_describeHome) (maxL := 2) (ret := none) (by decide) rfl ?_
  intro p e s m args below meth c s₁ B hml hv Q hQ
  obtain ⟨rfl, hsz, hP, hK, hD0⟩ := hv
  have hx := B.exec
  have hb := B.bytes
  have hr := B.returns
  have hlocks := B.notSynchronized
  have hT : ∀ w ∈ gT, w.before _ s = true := fun w h => atoms_spec (ws := (Cond.code yX11_describeHome cX11_describeHome 2 none :: gT)) B.pre w (List.mem_cons_of_mem _ h)
  have hown : s.vm.findClass RX11 = some m.cls := findClass_of_methodNamed B.named
  subst hsz
  have hD := hD0.self (sz := s.heap.size)
  generalize hAe : va_A (xW cy a i r q (a 20) (a 12) ++ (hW cy a i r ++ tl)) s.heap.size = A at hD hQ
  have hA : ∀ q : Nat, s.heap.size ≤ q → A q := fun q h => by rw [← hAe]; exact Or.inr h
  have hS : va_S A s.heap s.heap [] := va_S.rf
  have hl := lv_entry ([.ref (a 0), .ref (a 61)]) (n := 2) (Nat.le_of_ble_eq_true rfl)
  rw [lg_entry_eq]
  generalize (lg_sl ([.ref (a 0), .ref (a 61)]) ++ List.replicate (2 - (lg_sl ([.ref (a 0), .ref (a 61)])).length) Slot.unset).toArray = ls at hl ⊢
  have hl : lv_has ls 2 [(0, .ref (a 0)), (1, .ref (a 61))] := hl
  have hEi : mEi [] i i := Ei_rf
  have hEr : mEr [28] r r := Er_rf
  refine lv_aload_n hx hb dX11_describeHome_0 rfl (lv_at hl 0 rfl) ?_
  refine va_get (D := D) (ci := 11) (v := .ref (a 28)) (C := RX11) (T := TX11) (N := 14) hx hb hT iX11 hown hK hP 0 rfl rfl 7 (by decide) (hT _ t_500) (fun _ h9 => h9) rfl dX11_describeHome_1 ?_
  refine lv_iconst (v := 5) hx hb dX11_describeHome_4 (by decide) ?_
  refine lv_aload_n hx hb dX11_describeHome_5 rfl (lv_at hl 1 rfl) ?_
  refine vp_callSi (W.runV (As := []) (rest := [.int 5, .ref (a 28)]) ⟨hx, hb, hml, hown, hT⟩ (c_X3_months9 l D cy a i r q tl hRi hRr) (cwV 0 hT (gV t_501 t_502 t_503 t_504 t_391) rfl rfl rfl (by decide +kernel) ⟨Nat.le_of_ble_eq_true rfl, Nat.le_of_ble_eq_true rfl⟩) (rP_v hP hK (va_recv hK hP (ci := 3) (q0 := 61) rfl rfl)) rfl rfl hl.1 rfl (lv_room (Nat.le_of_ble_eq_true rfl)) dX11_describeHome_6 ⟨Nat.le_of_ble_eq_true rfl, Nat.le_of_ble_eq_true rfl⟩) (fun r_1 hr_1 => ?_)
  have hqr_1 : r_1.toInt = (i 21).toInt - (i 20).toInt := hr_1.1
  have hr_1 : -999 ≤ r_1.toInt ∧ r_1.toInt ≤ 999 := hr_1.2
  have hmr_1 : r_1 = i 21 - i 20 := mon_eq hqr_1 (hRi 21) (hRi 20)
  refine va_iast hx hb hK hP hD hS 28 0 rfl rfl (vp_inI (by decide) (by decide)) dX11_describeHome_9 (fun H locs hP hD hS => ?_)
  rw [yS28] at hP hD
  have hRr : yRr (va_up r 28 (upd (r 28) ((5 : Int32).toNatClampNeg) r_1)) := Yr_upd hRr 28 ((5 : Int32).toNatClampNeg) r_1 (b_rg _)
  have hEr : mEr [28] _ (va_up r 28 (upd (r 28) ((5 : Int32).toNatClampNeg) r_1)) := Er_up hEr 28 _ (by decide)
  refine lv_aload_n hx hb dX11_describeHome_10 rfl (lv_at hl 0 rfl) ?_
  refine va_get (D := D) (ci := 11) (v := .ref (a 28)) (C := RX11) (T := TX11) (N := 14) hx hb hT iX11 hown hK hP 0 rfl rfl 7 (by decide) (hT _ t_500) (fun _ h9 => h9) rfl dX11_describeHome_11 ?_
  refine lv_bipush (v := 6) hx hb dX11_describeHome_14 (by decide) ?_
  refine lv_aload_n hx hb dX11_describeHome_16 rfl (lv_at hl 1 rfl) ?_
  refine va_get (D := D) (ci := 3) (v := .int (i 18)) (C := RX3) (T := TX3) (N := 12) hx hb hT iX3 hown hK hP 61 rfl rfl 1 (by decide) (hT _ t_447) (fun _ h9 => h9) rfl dX11_describeHome_17 ?_
  have hg_2 : 1 ≤ (i 18).toInt ∧ (i 18).toInt ≤ 4 := hRi 18
  refine va_iast hx hb hK hP hD hS 28 0 rfl rfl (vp_inI (by decide) (by decide)) dX11_describeHome_20 (fun H locs hP hD hS => ?_)
  rw [yS28] at hP hD
  have hRr : yRr (va_up (va_up r 28 (upd (r 28) ((5 : Int32).toNatClampNeg) r_1)) 28 (upd (upd (r 28) ((5 : Int32).toNatClampNeg) r_1) ((6 : Int32).toNatClampNeg) (i 18))) := Yr_upd hRr 28 ((6 : Int32).toNatClampNeg) (i 18) (b_rg _)
  have hEr : mEr [28] _ (va_up (va_up r 28 (upd (r 28) ((5 : Int32).toNatClampNeg) r_1)) 28 (upd (upd (r 28) ((5 : Int32).toNatClampNeg) r_1) ((6 : Int32).toNatClampNeg) (i 18))) := Er_up hEr 28 _ (by decide)
  refine lv_aload_n hx hb dX11_describeHome_21 rfl (lv_at hl 0 rfl) ?_
  refine va_get (D := D) (ci := 11) (v := .ref (a 28)) (C := RX11) (T := TX11) (N := 14) hx hb hT iX11 hown hK hP 0 rfl rfl 7 (by decide) (hT _ t_500) (fun _ h9 => h9) rfl dX11_describeHome_22 ?_
  refine lv_bipush (v := 7) hx hb dX11_describeHome_25 (by decide) ?_
  refine lv_aload_n hx hb dX11_describeHome_27 rfl (lv_at hl 1 rfl) ?_
  refine va_get (D := D) (ci := 3) (v := .int (i 17)) (C := RX3) (T := TX3) (N := 12) hx hb hT iX3 hown hK hP 61 rfl rfl 0 (by decide) (hT _ t_493) (fun _ h9 => h9) rfl dX11_describeHome_28 ?_
  have hg_3 : 0 ≤ (i 17).toInt ∧ (i 17).toInt ≤ 3 := hRi 17
  refine va_iast hx hb hK hP hD hS 28 0 rfl rfl (vp_inI (by decide) (by decide)) dX11_describeHome_31 (fun H locs hP hD hS => ?_)
  rw [yS28] at hP hD
  have hRr : yRr (va_up (va_up (va_up r 28 (upd (r 28) ((5 : Int32).toNatClampNeg) r_1)) 28 (upd (upd (r 28) ((5 : Int32).toNatClampNeg) r_1) ((6 : Int32).toNatClampNeg) (i 18))) 28 (upd (upd (upd (r 28) ((5 : Int32).toNatClampNeg) r_1) ((6 : Int32).toNatClampNeg) (i 18)) ((7 : Int32).toNatClampNeg) (i 17))) := Yr_upd hRr 28 ((7 : Int32).toNatClampNeg) (i 17) (b_rg _)
  have hEr : mEr [28] _ (va_up (va_up (va_up r 28 (upd (r 28) ((5 : Int32).toNatClampNeg) r_1)) 28 (upd (upd (r 28) ((5 : Int32).toNatClampNeg) r_1) ((6 : Int32).toNatClampNeg) (i 18))) 28 (upd (upd (upd (r 28) ((5 : Int32).toNatClampNeg) r_1) ((6 : Int32).toNatClampNeg) (i 18)) ((7 : Int32).toNatClampNeg) (i 17))) := Er_up hEr 28 _ (by decide)
  subst hQ
  have h3 := ds3 (f := r 28) (a := r_1) (b := i 18) (c := i 17)
  exact W.vret hx hb hr (fun t ht hW => ⟨⟨(va_up (va_up (va_up r 28 (upd (r 28) ((5 : Int32).toNatClampNeg) r_1)) 28 (upd (upd (r 28) ((5 : Int32).toNatClampNeg) r_1) ((6 : Int32).toNatClampNeg) (i 18))) 28 (upd (upd (upd (r 28) ((5 : Int32).toNatClampNeg) r_1) ((6 : Int32).toNatClampNeg) (i 18)) ((7 : Int32).toNatClampNeg) (i 17))), rfl, ⟨hRr, hEr, ⟨h3.1.trans hmr_1, h3.2⟩⟩, by rw [ht]; exact hP, va_K.moved hW.alike hK, hD⟩, hS.F ht⟩) hS.2.2 dX11_describeHome_32
set_option maxHeartbeats 4000000 in
set_option maxRecDepth 100000 in
theorem c_X11_describe9 (l : Launch) (D : va_G) (cy : Nat → ClassId) (a : Nat → Nat) (i : Nat → Int32) (r : Nat → Nat → Int32) (q : Nat → Option Nat) (tl : va_W) (p0 p1 p2 : Int32) (sz : Nat) (hRi : yRi i) (hRr : yRr r) (q0 : 0 ≤ p0.toInt ∧ p0.toInt ≤ 19) : Met l yX11_describe (Cond.code yX11_describe cX11_describe 5 none :: gT) { frames := 3, cells := 0, slots := 0, locals := 66 } (va_Pc [.ref (a 0), .ref (a 61), .int p0, .int p1, .int p2] (rQ D cy (xW cy a i r q (a 20) (a 12) ++ (hW cy a i r ++ tl)) sz)) (va_Qv (fun u : Nat → Nat → Int32 => yRr u ∧ mEr [28] r u ∧ (∀ k9, k9 < 10 → u 28 k9 = faL (xTh i r p0.toNatClampNeg p1 p2) k9)) (fun (u : Nat → Nat → Int32) t => va_P D vwCl (xW cy a i u q (a 20) (a 12) ++ (hW cy a i u ++ tl)) t.heap ∧ va_K D vwCl (vT cy) t ∧ va_D (va_A (xW cy a i r q (a 20) (a 12) ++ (hW cy a i r ++ tl)) sz) (xW cy a i u q (a 20) (a 12) ++ (hW cy a i u ++ tl))) (va_A (xW cy a i r q (a 20) (a 12) ++ (hW cy a i r ++ tl)) sz)) 0 0 (va_A (xW cy a i r q (a 20) (a 12) ++ (hW cy a i r ++ tl)) sz) := by
  refine Met.ofQ (cc := cX11_describe) (maxL := 5) (ret := none) (by decide) rfl ?_
  intro p e s m args below meth c s₁ B hml hv Q hQ
  obtain ⟨rfl, hsz, hP, hK, hD0⟩ := hv
  have hx := B.exec
  have hb := B.bytes
  have hr := B.returns
  have hlocks := B.notSynchronized
  have hT : ∀ w ∈ gT, w.before _ s = true := fun w h => atoms_spec (ws := (Cond.code yX11_describe cX11_describe 5 none :: gT)) B.pre w (List.mem_cons_of_mem _ h)
  have hown : s.vm.findClass RX11 = some m.cls := findClass_of_methodNamed B.named
  subst hsz
  have hD := hD0.self (sz := s.heap.size)
  generalize hAe : va_A (xW cy a i r q (a 20) (a 12) ++ (hW cy a i r ++ tl)) s.heap.size = A at hD hQ
  have hA : ∀ q : Nat, s.heap.size ≤ q → A q := fun q h => by rw [← hAe]; exact Or.inr h
  have hS : va_S A s.heap s.heap [] := va_S.rf
  have hl := lv_entry ([.ref (a 0), .ref (a 61), .int p0, .int p1, .int p2]) (n := 5) (Nat.le_of_ble_eq_true rfl)
  rw [lg_entry_eq]
  generalize (lg_sl ([.ref (a 0), .ref (a 61), .int p0, .int p1, .int p2]) ++ List.replicate (5 - (lg_sl ([.ref (a 0), .ref (a 61), .int p0, .int p1, .int p2])).length) Slot.unset).toArray = ls at hl ⊢
  have hl : lv_has ls 5 [(0, .ref (a 0)), (1, .ref (a 61)), (2, .int p0), (3, .int p1), (4, .int p2)] := hl
  have hEi : mEi [] i i := Ei_rf
  have hEr : mEr [28] r r := Er_rf
  refine lv_aload_n hx hb dX11_describe_0 rfl (lv_at hl 0 rfl) ?_
  refine va_get (D := D) (ci := 11) (v := .ref (a 28)) (C := RX11) (T := TX11) (N := 14) hx hb hT iX11 hown hK hP 0 rfl rfl 7 (by decide) (hT _ t_500) (fun _ h9 => h9) rfl dX11_describe_1 ?_
  refine lv_iconst (v := 0) hx hb dX11_describe_4 (by decide) ?_
  refine lv_aload_n hx hb dX11_describe_5 rfl (lv_at hl 1 rfl) ?_
  refine va_get (D := D) (ci := 3) (v := .ref (a 65)) (C := RX3) (T := TX3) (N := 12) hx hb hT iX3 hown hK hP 61 rfl rfl 9 (by decide) (hT _ t_453) (fun _ h9 => h9) rfl dX11_describe_6 ?_
  refine va_get (D := D) (ci := 10) (v := .ref (a 67)) (C := RX10) (T := TX10) (N := 5) hx hb hT iX10 hown hK hP 65 rfl rfl 2 (by decide) (hT _ t_492) (fun _ h9 => h9) rfl dX11_describe_9 ?_
  refine lv_iload_n hx hb dX11_describe_12 rfl (lv_at hl 2 rfl) ?_
  refine va_iald hx hb hK hP 67 0 rfl rfl (vp_inI (by omega) (by omega)) dX11_describe_13 ?_
  refine lv_topi (fun v_1 ev_1 => ?_)
  have hgv_1 : 0 ≤ v_1.toInt ∧ v_1.toInt ≤ 7 := by rw [ev_1]; exact hRr 67 _
  have hsv_1 : v_1 = r 67 p0.toNatClampNeg := ev_1.trans (congrFun (hEr 67 (by decide)) _)
  refine va_iast hx hb hK hP hD hS 28 0 rfl rfl (vp_inI (by decide) (by decide)) dX11_describe_14 (fun H locs hP hD hS => ?_)
  rw [yS28] at hP hD
  have hRr : yRr (va_up r 28 (upd (r 28) ((0 : Int32).toNatClampNeg) v_1)) := Yr_upd hRr 28 ((0 : Int32).toNatClampNeg) v_1 (b_rg _)
  have hEr : mEr [28] _ (va_up r 28 (upd (r 28) ((0 : Int32).toNatClampNeg) v_1)) := Er_up hEr 28 _ (by decide)
  refine lv_aload_n hx hb dX11_describe_15 rfl (lv_at hl 0 rfl) ?_
  refine va_get (D := D) (ci := 11) (v := .ref (a 28)) (C := RX11) (T := TX11) (N := 14) hx hb hT iX11 hown hK hP 0 rfl rfl 7 (by decide) (hT _ t_500) (fun _ h9 => h9) rfl dX11_describe_16 ?_
  refine lv_iconst (v := 1) hx hb dX11_describe_19 (by decide) ?_
  refine lv_aload_n hx hb dX11_describe_20 rfl (lv_at hl 1 rfl) ?_
  refine va_get (D := D) (ci := 3) (v := .ref (a 65)) (C := RX3) (T := TX3) (N := 12) hx hb hT iX3 hown hK hP 61 rfl rfl 9 (by decide) (hT _ t_453) (fun _ h9 => h9) rfl dX11_describe_21 ?_
  refine va_get (D := D) (ci := 10) (v := .ref (a 66)) (C := RX10) (T := TX10) (N := 5) hx hb hT iX10 hown hK hP 65 rfl rfl 1 (by decide) (hT _ t_505) (fun _ h9 => h9) rfl dX11_describe_24 ?_
  refine lv_iload_n hx hb dX11_describe_27 rfl (lv_at hl 2 rfl) ?_
  refine va_iald hx hb hK hP 66 0 rfl rfl (vp_inI (by omega) (by omega)) dX11_describe_28 ?_
  refine lv_topi (fun v_2 ev_2 => ?_)
  have hgv_2 : 0 ≤ v_2.toInt ∧ v_2.toInt ≤ 9 := by rw [ev_2]; exact hRr 66 _
  have hsv_2 : v_2 = r 66 p0.toNatClampNeg := ev_2.trans (congrFun (hEr 66 (by decide)) _)
  refine va_iast hx hb hK hP hD hS 28 0 rfl rfl (vp_inI (by decide) (by decide)) dX11_describe_29 (fun H locs hP hD hS => ?_)
  rw [yS28] at hP hD
  have hRr : yRr (va_up (va_up r 28 (upd (r 28) ((0 : Int32).toNatClampNeg) v_1)) 28 (upd (upd (r 28) ((0 : Int32).toNatClampNeg) v_1) ((1 : Int32).toNatClampNeg) v_2)) := Yr_upd hRr 28 ((1 : Int32).toNatClampNeg) v_2 (b_rg _)
  have hEr : mEr [28] _ (va_up (va_up r 28 (upd (r 28) ((0 : Int32).toNatClampNeg) v_1)) 28 (upd (upd (r 28) ((0 : Int32).toNatClampNeg) v_1) ((1 : Int32).toNatClampNeg) v_2)) := Er_up hEr 28 _ (by decide)
  refine lv_aload_n hx hb dX11_describe_30 rfl (lv_at hl 0 rfl) ?_
  refine va_get (D := D) (ci := 11) (v := .ref (a 28)) (C := RX11) (T := TX11) (N := 14) hx hb hT iX11 hown hK hP 0 rfl rfl 7 (by decide) (hT _ t_500) (fun _ h9 => h9) rfl dX11_describe_31 ?_
  refine lv_iconst (v := 2) hx hb dX11_describe_34 (by decide) ?_
  refine lv_aload_n hx hb dX11_describe_35 rfl (lv_at hl 1 rfl) ?_
  refine va_get (D := D) (ci := 3) (v := .ref (a 65)) (C := RX3) (T := TX3) (N := 12) hx hb hT iX3 hown hK hP 61 rfl rfl 9 (by decide) (hT _ t_453) (fun _ h9 => h9) rfl dX11_describe_36 ?_
  refine va_get (D := D) (ci := 10) (v := .ref (a 68)) (C := RX10) (T := TX10) (N := 5) hx hb hT iX10 hown hK hP 65 rfl rfl 3 (by decide) (hT _ t_506) (fun _ h9 => h9) rfl dX11_describe_39 ?_
  refine lv_iload_n hx hb dX11_describe_42 rfl (lv_at hl 2 rfl) ?_
  refine va_iald hx hb hK hP 68 0 rfl rfl (vp_inI (by omega) (by omega)) dX11_describe_43 ?_
  refine lv_topi (fun v_3 ev_3 => ?_)
  have hgv_3 : 0 ≤ v_3.toInt ∧ v_3.toInt ≤ 9 := by rw [ev_3]; exact hRr 68 _
  have hsv_3 : v_3 = r 68 p0.toNatClampNeg := ev_3.trans (congrFun (hEr 68 (by decide)) _)
  refine va_iast hx hb hK hP hD hS 28 0 rfl rfl (vp_inI (by decide) (by decide)) dX11_describe_44 (fun H locs hP hD hS => ?_)
  rw [yS28] at hP hD
  have hRr : yRr (va_up (va_up (va_up r 28 (upd (r 28) ((0 : Int32).toNatClampNeg) v_1)) 28 (upd (upd (r 28) ((0 : Int32).toNatClampNeg) v_1) ((1 : Int32).toNatClampNeg) v_2)) 28 (upd (upd (upd (r 28) ((0 : Int32).toNatClampNeg) v_1) ((1 : Int32).toNatClampNeg) v_2) ((2 : Int32).toNatClampNeg) v_3)) := Yr_upd hRr 28 ((2 : Int32).toNatClampNeg) v_3 (b_rg _)
  have hEr : mEr [28] _ (va_up (va_up (va_up r 28 (upd (r 28) ((0 : Int32).toNatClampNeg) v_1)) 28 (upd (upd (r 28) ((0 : Int32).toNatClampNeg) v_1) ((1 : Int32).toNatClampNeg) v_2)) 28 (upd (upd (upd (r 28) ((0 : Int32).toNatClampNeg) v_1) ((1 : Int32).toNatClampNeg) v_2) ((2 : Int32).toNatClampNeg) v_3)) := Er_up hEr 28 _ (by decide)
  refine lv_aload_n hx hb dX11_describe_45 rfl (lv_at hl 0 rfl) ?_
  refine va_get (D := D) (ci := 11) (v := .ref (a 28)) (C := RX11) (T := TX11) (N := 14) hx hb hT iX11 hown hK hP 0 rfl rfl 7 (by decide) (hT _ t_500) (fun _ h9 => h9) rfl dX11_describe_46 ?_
  refine lv_iconst (v := 3) hx hb dX11_describe_49 (by decide) ?_
  refine lv_aload_n hx hb dX11_describe_50 rfl (lv_at hl 1 rfl) ?_
  refine lv_iload_n hx hb dX11_describe_51 rfl (lv_at hl 2 rfl) ?_
  refine vp_callSi (W.runV (As := [.int p0]) (rest := [.int 3, .ref (a 28)]) ⟨hx, hb, hml, hown, hT⟩ (c_X3_stateAtLast9 l D cy a i (va_up (va_up (va_up r 28 (upd (r 28) ((0 : Int32).toNatClampNeg) v_1)) 28 (upd (upd (r 28) ((0 : Int32).toNatClampNeg) v_1) ((1 : Int32).toNatClampNeg) v_2)) 28 (upd (upd (upd (r 28) ((0 : Int32).toNatClampNeg) v_1) ((1 : Int32).toNatClampNeg) v_2) ((2 : Int32).toNatClampNeg) v_3)) q tl p0 hRi hRr (by first | omega | decide)) (cwV 1 hT (gV t_397 t_507 t_399 t_400 t_391) rfl rfl rfl (by decide +kernel) ⟨Nat.le_of_ble_eq_true rfl, Nat.le_of_ble_eq_true rfl⟩) (rP_v hP hK (va_recv hK hP (ci := 3) (q0 := 61) rfl rfl)) rfl rfl hl.1 rfl (lv_room (Nat.le_of_ble_eq_true rfl)) dX11_describe_52 ⟨Nat.le_of_ble_eq_true rfl, Nat.le_of_ble_eq_true rfl⟩) (fun r_4 hr_4 => ?_)
  have hqr_4 : r_4.toInt = (lkX ((va_up (va_up (va_up r 28 (upd (r 28) ((0 : Int32).toNatClampNeg) v_1)) 28 (upd (upd (r 28) ((0 : Int32).toNatClampNeg) v_1) ((1 : Int32).toNatClampNeg) v_2)) 28 (upd (upd (upd (r 28) ((0 : Int32).toNatClampNeg) v_1) ((1 : Int32).toNatClampNeg) v_2) ((2 : Int32).toNatClampNeg) v_3)) 75) ((va_up (va_up (va_up r 28 (upd (r 28) ((0 : Int32).toNatClampNeg) v_1)) 28 (upd (upd (r 28) ((0 : Int32).toNatClampNeg) v_1) ((1 : Int32).toNatClampNeg) v_2)) 28 (upd (upd (upd (r 28) ((0 : Int32).toNatClampNeg) v_1) ((1 : Int32).toNatClampNeg) v_2) ((2 : Int32).toNatClampNeg) v_3)) 73) (i 24).toInt) p0.toNatClampNeg := hr_4.1
  have hr_4 : 0 ≤ r_4.toInt ∧ r_4.toInt ≤ 9 := hr_4.2
  have hsr_4 : r_4 = nI (lkX (r 75) (r 73) (i 24).toInt p0.toNatClampNeg).toNat := by have h9 := hqr_4; rw [hEr 75 (by decide), hEr 73 (by decide)] at h9; exact nI_eqi h9 (by rw [← h9]; omega)
  refine va_iast hx hb hK hP hD hS 28 0 rfl rfl (vp_inI (by decide) (by decide)) dX11_describe_55 (fun H locs hP hD hS => ?_)
  rw [yS28] at hP hD
  have hRr : yRr (va_up (va_up (va_up (va_up r 28 (upd (r 28) ((0 : Int32).toNatClampNeg) v_1)) 28 (upd (upd (r 28) ((0 : Int32).toNatClampNeg) v_1) ((1 : Int32).toNatClampNeg) v_2)) 28 (upd (upd (upd (r 28) ((0 : Int32).toNatClampNeg) v_1) ((1 : Int32).toNatClampNeg) v_2) ((2 : Int32).toNatClampNeg) v_3)) 28 (upd (upd (upd (upd (r 28) ((0 : Int32).toNatClampNeg) v_1) ((1 : Int32).toNatClampNeg) v_2) ((2 : Int32).toNatClampNeg) v_3) ((3 : Int32).toNatClampNeg) r_4)) := Yr_upd hRr 28 ((3 : Int32).toNatClampNeg) r_4 (b_rg _)
  have hEr : mEr [28] _ (va_up (va_up (va_up (va_up r 28 (upd (r 28) ((0 : Int32).toNatClampNeg) v_1)) 28 (upd (upd (r 28) ((0 : Int32).toNatClampNeg) v_1) ((1 : Int32).toNatClampNeg) v_2)) 28 (upd (upd (upd (r 28) ((0 : Int32).toNatClampNeg) v_1) ((1 : Int32).toNatClampNeg) v_2) ((2 : Int32).toNatClampNeg) v_3)) 28 (upd (upd (upd (upd (r 28) ((0 : Int32).toNatClampNeg) v_1) ((1 : Int32).toNatClampNeg) v_2) ((2 : Int32).toNatClampNeg) v_3) ((3 : Int32).toNatClampNeg) r_4)) := Er_up hEr 28 _ (by decide)
  refine lv_aload_n hx hb dX11_describe_56 rfl (lv_at hl 0 rfl) ?_
  refine va_get (D := D) (ci := 11) (v := .ref (a 28)) (C := RX11) (T := TX11) (N := 14) hx hb hT iX11 hown hK hP 0 rfl rfl 7 (by decide) (hT _ t_500) (fun _ h9 => h9) rfl dX11_describe_57 ?_
  refine lv_iconst (v := 4) hx hb dX11_describe_60 (by decide) ?_
  refine lv_aload_n hx hb dX11_describe_61 rfl (lv_at hl 1 rfl) ?_
  refine va_get (D := D) (ci := 3) (v := .ref (a 65)) (C := RX3) (T := TX3) (N := 12) hx hb hT iX3 hown hK hP 61 rfl rfl 9 (by decide) (hT _ t_453) (fun _ h9 => h9) rfl dX11_describe_62 ?_
  refine va_get (D := D) (ci := 10) (v := .ref (a 69)) (C := RX10) (T := TX10) (N := 5) hx hb hT iX10 hown hK hP 65 rfl rfl 4 (by decide) (hT _ t_494) (fun _ h9 => h9) rfl dX11_describe_65 ?_
  refine lv_iload_n hx hb dX11_describe_68 rfl (lv_at hl 2 rfl) ?_
  refine va_iald hx hb hK hP 69 0 rfl rfl (vp_inI (by omega) (by omega)) dX11_describe_69 ?_
  refine lv_topi (fun v_5 ev_5 => ?_)
  have hgv_5 : 0 ≤ v_5.toInt ∧ v_5.toInt ≤ 360 := by rw [ev_5]; exact hRr 69 _
  have hsv_5 : v_5 = r 69 p0.toNatClampNeg := ev_5.trans (congrFun (hEr 69 (by decide)) _)
  refine lv_aload_n hx hb dX11_describe_70 rfl (lv_at hl 1 rfl) ?_
  refine vp_callSi (W.runV (As := []) (rest := [.int v_5, .int 4, .ref (a 28)]) ⟨hx, hb, hml, hown, hT⟩ (c_X3_months9 l D cy a i (va_up (va_up (va_up (va_up r 28 (upd (r 28) ((0 : Int32).toNatClampNeg) v_1)) 28 (upd (upd (r 28) ((0 : Int32).toNatClampNeg) v_1) ((1 : Int32).toNatClampNeg) v_2)) 28 (upd (upd (upd (r 28) ((0 : Int32).toNatClampNeg) v_1) ((1 : Int32).toNatClampNeg) v_2) ((2 : Int32).toNatClampNeg) v_3)) 28 (upd (upd (upd (upd (r 28) ((0 : Int32).toNatClampNeg) v_1) ((1 : Int32).toNatClampNeg) v_2) ((2 : Int32).toNatClampNeg) v_3) ((3 : Int32).toNatClampNeg) r_4)) q tl hRi hRr) (cwV 0 hT (gV t_501 t_502 t_503 t_504 t_391) rfl rfl rfl (by decide +kernel) ⟨Nat.le_of_ble_eq_true rfl, Nat.le_of_ble_eq_true rfl⟩) (rP_v hP hK (va_recv hK hP (ci := 3) (q0 := 61) rfl rfl)) rfl rfl hl.1 rfl (lv_room (Nat.le_of_ble_eq_true rfl)) dX11_describe_71 ⟨Nat.le_of_ble_eq_true rfl, Nat.le_of_ble_eq_true rfl⟩) (fun r_6 hr_6 => ?_)
  have hqr_6 : r_6.toInt = (i 21).toInt - (i 20).toInt := hr_6.1
  have hr_6 : -999 ≤ r_6.toInt ∧ r_6.toInt ≤ 999 := hr_6.2
  have hmr_6 : r_6 = i 21 - i 20 := mon_eq hqr_6 (hRi 21) (hRi 20)
  refine lv_iadd hx hb dX11_describe_74 ?_
  refine lv_topi (fun v_7 ev_7 => ?_)
  have hv_7 : v_7.toInt = v_5.toInt + r_6.toInt := by rw [ev_7]; have := b_rg v_5; have := b_rg r_6; exact i_add (a := v_5.toInt) (b := r_6.toInt) rfl rfl (by omega) (by omega)
  have hsv_7 : v_7 = r 69 p0.toNatClampNeg + (i 21 - i 20) := by rw [ev_7, hsv_5, hmr_6]
  refine va_iast hx hb hK hP hD hS 28 0 rfl rfl (vp_inI (by decide) (by decide)) dX11_describe_75 (fun H locs hP hD hS => ?_)
  rw [yS28] at hP hD
  have hRr : yRr (va_up (va_up (va_up (va_up (va_up r 28 (upd (r 28) ((0 : Int32).toNatClampNeg) v_1)) 28 (upd (upd (r 28) ((0 : Int32).toNatClampNeg) v_1) ((1 : Int32).toNatClampNeg) v_2)) 28 (upd (upd (upd (r 28) ((0 : Int32).toNatClampNeg) v_1) ((1 : Int32).toNatClampNeg) v_2) ((2 : Int32).toNatClampNeg) v_3)) 28 (upd (upd (upd (upd (r 28) ((0 : Int32).toNatClampNeg) v_1) ((1 : Int32).toNatClampNeg) v_2) ((2 : Int32).toNatClampNeg) v_3) ((3 : Int32).toNatClampNeg) r_4)) 28 (upd (upd (upd (upd (upd (r 28) ((0 : Int32).toNatClampNeg) v_1) ((1 : Int32).toNatClampNeg) v_2) ((2 : Int32).toNatClampNeg) v_3) ((3 : Int32).toNatClampNeg) r_4) ((4 : Int32).toNatClampNeg) v_7)) := Yr_upd hRr 28 ((4 : Int32).toNatClampNeg) v_7 (b_rg _)
  have hEr : mEr [28] _ (va_up (va_up (va_up (va_up (va_up r 28 (upd (r 28) ((0 : Int32).toNatClampNeg) v_1)) 28 (upd (upd (r 28) ((0 : Int32).toNatClampNeg) v_1) ((1 : Int32).toNatClampNeg) v_2)) 28 (upd (upd (upd (r 28) ((0 : Int32).toNatClampNeg) v_1) ((1 : Int32).toNatClampNeg) v_2) ((2 : Int32).toNatClampNeg) v_3)) 28 (upd (upd (upd (upd (r 28) ((0 : Int32).toNatClampNeg) v_1) ((1 : Int32).toNatClampNeg) v_2) ((2 : Int32).toNatClampNeg) v_3) ((3 : Int32).toNatClampNeg) r_4)) 28 (upd (upd (upd (upd (upd (r 28) ((0 : Int32).toNatClampNeg) v_1) ((1 : Int32).toNatClampNeg) v_2) ((2 : Int32).toNatClampNeg) v_3) ((3 : Int32).toNatClampNeg) r_4) ((4 : Int32).toNatClampNeg) v_7)) := Er_up hEr 28 _ (by decide)
  refine lv_aload_n hx hb dX11_describe_76 rfl (lv_at hl 0 rfl) ?_
  refine lv_aload_n hx hb dX11_describe_77 rfl (lv_at hl 1 rfl) ?_
  have hF_8 := rF hD hS hA
  refine va_callv (va_runV (As := [.ref (a 61)]) (rest := []) ⟨hx, hb, hml, hown, hT⟩ (c_X11_describeHome9 l D cy a i (va_up (va_up (va_up (va_up (va_up r 28 (upd (r 28) ((0 : Int32).toNatClampNeg) v_1)) 28 (upd (upd (r 28) ((0 : Int32).toNatClampNeg) v_1) ((1 : Int32).toNatClampNeg) v_2)) 28 (upd (upd (upd (r 28) ((0 : Int32).toNatClampNeg) v_1) ((1 : Int32).toNatClampNeg) v_2) ((2 : Int32).toNatClampNeg) v_3)) 28 (upd (upd (upd (upd (r 28) ((0 : Int32).toNatClampNeg) v_1) ((1 : Int32).toNatClampNeg) v_2) ((2 : Int32).toNatClampNeg) v_3) ((3 : Int32).toNatClampNeg) r_4)) 28 (upd (upd (upd (upd (upd (r 28) ((0 : Int32).toNatClampNeg) v_1) ((1 : Int32).toNatClampNeg) v_2) ((2 : Int32).toNatClampNeg) v_3) ((3 : Int32).toNatClampNeg) r_4) ((4 : Int32).toNatClampNeg) v_7)) q tl _ hRi hRr) (cwV 1 hT (gV t_508 t_509 t_510 t_511 t_2) rfl rfl rfl (by decide +kernel) ⟨Nat.le_of_ble_eq_true rfl, Nat.le_of_ble_eq_true rfl⟩) (rQ_v hP hK hD (va_recv hK hP (ci := 11) (q0 := 0) rfl rfl)) rfl rfl hl.1 rfl (lv_room (Nat.le_of_ble_eq_true rfl)) dX11_describe_78 ⟨Nat.le_of_ble_eq_true rfl, Nat.le_of_ble_eq_true rfl⟩) hS (fun q _ h => hF_8 q h) hF_8 (fun u_10 t H1 locs ht hvm hr_9 hB hz1 hk1 hS => ?_)
  obtain ⟨r10, rfl⟩ : ∃ z, z = u_10 := ⟨_, rfl⟩
  obtain ⟨hP, hK1, hD1⟩ := hB
  rw [ht] at hP
  have hD := hD1.weaken (fun k q _ h => hF_8 q.1 h)
  obtain ⟨hRr, hE2, hr_9⟩ := hr_9
  have hRr : yRr r10 := hRr
  have hE2 : mEr [28] (va_up (va_up (va_up (va_up (va_up r 28 (upd (r 28) ((0 : Int32).toNatClampNeg) v_1)) 28 (upd (upd (r 28) ((0 : Int32).toNatClampNeg) v_1) ((1 : Int32).toNatClampNeg) v_2)) 28 (upd (upd (upd (r 28) ((0 : Int32).toNatClampNeg) v_1) ((1 : Int32).toNatClampNeg) v_2) ((2 : Int32).toNatClampNeg) v_3)) 28 (upd (upd (upd (upd (r 28) ((0 : Int32).toNatClampNeg) v_1) ((1 : Int32).toNatClampNeg) v_2) ((2 : Int32).toNatClampNeg) v_3) ((3 : Int32).toNatClampNeg) r_4)) 28 (upd (upd (upd (upd (upd (r 28) ((0 : Int32).toNatClampNeg) v_1) ((1 : Int32).toNatClampNeg) v_2) ((2 : Int32).toNatClampNeg) v_3) ((3 : Int32).toNatClampNeg) r_4) ((4 : Int32).toNatClampNeg) v_7)) r10 := hE2
  have hP : va_P D vwCl (xW cy a i r10 q (a 20) (a 12) ++ (hW cy a i r10 ++ tl)) H1 := hP
  have hD : va_D A (xW cy a i r10 q (a 20) (a 12) ++ (hW cy a i r10 ++ tl)) := hD
  have hEr : mEr [28] _ r10 := Er_tr hEr hE2 (by decide)
  have hqr_9 : r10 28 5 = (i 21 - i 20) ∧ r10 28 6 = i 18 ∧ r10 28 7 = i 17 ∧ ∀ k9, k9 < 5 → r10 28 k9 = (va_up (va_up (va_up (va_up (va_up r 28 (upd (r 28) ((0 : Int32).toNatClampNeg) v_1)) 28 (upd (upd (r 28) ((0 : Int32).toNatClampNeg) v_1) ((1 : Int32).toNatClampNeg) v_2)) 28 (upd (upd (upd (r 28) ((0 : Int32).toNatClampNeg) v_1) ((1 : Int32).toNatClampNeg) v_2) ((2 : Int32).toNatClampNeg) v_3)) 28 (upd (upd (upd (upd (r 28) ((0 : Int32).toNatClampNeg) v_1) ((1 : Int32).toNatClampNeg) v_2) ((2 : Int32).toNatClampNeg) v_3) ((3 : Int32).toNatClampNeg) r_4)) 28 (upd (upd (upd (upd (upd (r 28) ((0 : Int32).toNatClampNeg) v_1) ((1 : Int32).toNatClampNeg) v_2) ((2 : Int32).toNatClampNeg) v_3) ((3 : Int32).toNatClampNeg) r_4) ((4 : Int32).toNatClampNeg) v_7)) 28 k9 := hr_9
  have hdh : r10 28 5 = (i 21 - i 20) ∧ r10 28 6 = i 18 ∧ r10 28 7 = i 17 ∧ ∀ k9, k9 < 5 → r10 28 k9 = (va_up (va_up (va_up (va_up (va_up r 28 (upd (r 28) ((0 : Int32).toNatClampNeg) v_1)) 28 (upd (upd (r 28) ((0 : Int32).toNatClampNeg) v_1) ((1 : Int32).toNatClampNeg) v_2)) 28 (upd (upd (upd (r 28) ((0 : Int32).toNatClampNeg) v_1) ((1 : Int32).toNatClampNeg) v_2) ((2 : Int32).toNatClampNeg) v_3)) 28 (upd (upd (upd (upd (r 28) ((0 : Int32).toNatClampNeg) v_1) ((1 : Int32).toNatClampNeg) v_2) ((2 : Int32).toNatClampNeg) v_3) ((3 : Int32).toNatClampNeg) r_4)) 28 (upd (upd (upd (upd (upd (r 28) ((0 : Int32).toNatClampNeg) v_1) ((1 : Int32).toNatClampNeg) v_2) ((2 : Int32).toNatClampNeg) v_3) ((3 : Int32).toNatClampNeg) r_4) ((4 : Int32).toNatClampNeg) v_7)) 28 k9 := hqr_9
  refine lv_aload_n hx hb dX11_describe_81 rfl (lv_at hl 0 rfl) ?_
  refine va_get (D := D) (ci := 11) (v := .ref (a 28)) (C := RX11) (T := TX11) (N := 14) hx hb hT iX11 hown hK hP 0 rfl rfl 7 (by decide) (hT _ t_500) (fun _ h9 => h9) rfl dX11_describe_82 ?_
  refine lv_bipush (v := 8) hx hb dX11_describe_85 (by decide) ?_
  refine lv_iload_n hx hb dX11_describe_87 rfl (lv_at hl 3 rfl) ?_
  refine va_iast hx hb hK hP hD hS 28 0 rfl rfl (vp_inI (by decide) (by decide)) dX11_describe_88 (fun H locs hP hD hS => ?_)
  rw [yS28] at hP hD
  have hRr : yRr (va_up r10 28 (upd (r10 28) ((8 : Int32).toNatClampNeg) p1)) := Yr_upd hRr 28 ((8 : Int32).toNatClampNeg) p1 (b_rg _)
  have hEr : mEr [28] _ (va_up r10 28 (upd (r10 28) ((8 : Int32).toNatClampNeg) p1)) := Er_up hEr 28 _ (by decide)
  refine lv_aload_n hx hb dX11_describe_89 rfl (lv_at hl 0 rfl) ?_
  refine va_get (D := D) (ci := 11) (v := .ref (a 28)) (C := RX11) (T := TX11) (N := 14) hx hb hT iX11 hown hK hP 0 rfl rfl 7 (by decide) (hT _ t_500) (fun _ h9 => h9) rfl dX11_describe_90 ?_
  refine lv_bipush (v := 9) hx hb dX11_describe_93 (by decide) ?_
  refine lv_iload hx hb dX11_describe_95 (lv_at hl 4 rfl) ?_
  refine va_iast hx hb hK hP hD hS 28 0 rfl rfl (vp_inI (by decide) (by decide)) dX11_describe_97 (fun H locs hP hD hS => ?_)
  rw [yS28] at hP hD
  have hRr : yRr (va_up (va_up r10 28 (upd (r10 28) ((8 : Int32).toNatClampNeg) p1)) 28 (upd (upd (r10 28) ((8 : Int32).toNatClampNeg) p1) ((9 : Int32).toNatClampNeg) p2)) := Yr_upd hRr 28 ((9 : Int32).toNatClampNeg) p2 (b_rg _)
  have hEr : mEr [28] _ (va_up (va_up r10 28 (upd (r10 28) ((8 : Int32).toNatClampNeg) p1)) 28 (upd (upd (r10 28) ((8 : Int32).toNatClampNeg) p1) ((9 : Int32).toNatClampNeg) p2)) := Er_up hEr 28 _ (by decide)
  subst hQ
  have h5 := ds5 (f := r 28) (a := v_1) (b := v_2) (c := v_3) (d := r_4) (e := v_7)
  have h2 := ds2 (f := r10 28) (a := p1) (b := p2)
  obtain ⟨a5, a6, a7, a8⟩ := hdh
  exact W.vret hx hb hr (fun t ht hW => ⟨⟨(va_up (va_up r10 28 (upd (r10 28) ((8 : Int32).toNatClampNeg) p1)) 28 (upd (upd (r10 28) ((8 : Int32).toNatClampNeg) p1) ((9 : Int32).toNatClampNeg) p2)), rfl, ⟨hRr, hEr, (fa10 ((h2.2.2 0 (by decide)).trans ((a8 0 (by decide)).trans (h5.1.trans hsv_1))) ((h2.2.2 1 (by decide)).trans ((a8 1 (by decide)).trans (h5.2.1.trans hsv_2))) ((h2.2.2 2 (by decide)).trans ((a8 2 (by decide)).trans (h5.2.2.1.trans hsv_3))) ((h2.2.2 3 (by decide)).trans ((a8 3 (by decide)).trans (h5.2.2.2.1.trans hsr_4))) ((h2.2.2 4 (by decide)).trans ((a8 4 (by decide)).trans (h5.2.2.2.2.trans hsv_7))) ((h2.2.2 5 (by decide)).trans a5) ((h2.2.2 6 (by decide)).trans a6) ((h2.2.2 7 (by decide)).trans a7) h2.1 h2.2.1)⟩, by rw [ht]; exact hP, va_K.moved hW.alike hK, hD⟩, hS.F ht⟩) hS.2.2 dX11_describe_98
set_option maxHeartbeats 4000000 in
set_option maxRecDepth 100000 in
theorem c_X11_fairWear9 (l : Launch) (D : va_G) (cy : Nat → ClassId) (a : Nat → Nat) (i : Nat → Int32) (r : Nat → Nat → Int32) (q : Nat → Option Nat) (tl : va_W) (p0 : Int32) (sz : Nat) (hRi : yRi i) (hRr : yRr r) (q0 : 0 ≤ p0.toInt ∧ p0.toInt ≤ 19) (d9 : lwT) (hL9 : xLw d9 i r) (hG9 : gLw d9) : Met l yX11_fairWear (Cond.code yX11_fairWear cX11_fairWear 3 (some .int) :: gT) { frames := 4, cells := 0, slots := 0, locals := 100 } (va_Pc [.ref (a 0), .ref (a 61), .int p0] (rM D cy (xW cy a i r q (a 20) (a 12) ++ (hW cy a i r ++ tl)) sz)) (va_Qi (fun (z : Int32) (u : Nat → Nat → Int32) => yRr u ∧ mEr [27, 28] r u ∧ (z = xWe d9 i r p0.toNatClampNeg)) (fun (u : Nat → Nat → Int32) t => va_P D vwCl (xW cy a i u q (a 20) (a 12) ++ (hW cy a i u ++ tl)) t.heap ∧ va_K D vwCl (vT cy) t ∧ va_D (va_A (xW cy a i r q (a 20) (a 12) ++ (hW cy a i r ++ tl)) sz) (xW cy a i u q (a 20) (a 12) ++ (hW cy a i u ++ tl))) (va_A (xW cy a i r q (a 20) (a 12) ++ (hW cy a i r ++ tl)) sz)) 0 0 (va_A (xW cy a i r q (a 20) (a 12) ++ (hW cy a i r ++ tl)) sz) := by
  refine Met.ofQ (cc := cX11_fairWear) (maxL := 3) (ret := (some .int)) (by decide) rfl ?_
  intro p e s m args below meth c s₁ B hml hv Q hQ
  obtain ⟨rfl, hnw, hsz, hP, hK, hD0⟩ := hv
  have hx := B.exec
  have hb := B.bytes
  have hr := B.returns
  have hlocks := B.notSynchronized
  have hT : ∀ w ∈ gT, w.before _ s = true := fun w h => atoms_spec (ws := (Cond.code yX11_fairWear cX11_fairWear 3 (some .int) :: gT)) B.pre w (List.mem_cons_of_mem _ h)
  have hown : s.vm.findClass RX11 = some m.cls := findClass_of_methodNamed B.named
  subst hsz
  have hD := hD0.self (sz := s.heap.size)
  generalize hAe : va_A (xW cy a i r q (a 20) (a 12) ++ (hW cy a i r ++ tl)) s.heap.size = A at hD hQ
  have hA : ∀ q : Nat, s.heap.size ≤ q → A q := fun q h => by rw [← hAe]; exact Or.inr h
  have hS : va_S A s.heap s.heap [] := va_S.rf
  have hl := lv_entry ([.ref (a 0), .ref (a 61), .int p0]) (n := 3) (Nat.le_of_ble_eq_true rfl)
  rw [lg_entry_eq]
  generalize (lg_sl ([.ref (a 0), .ref (a 61), .int p0]) ++ List.replicate (3 - (lg_sl ([.ref (a 0), .ref (a 61), .int p0])).length) Slot.unset).toArray = ls at hl ⊢
  have hl : lv_has ls 3 [(0, .ref (a 0)), (1, .ref (a 61)), (2, .int p0)] := hl
  have hEi : mEi [] i i := Ei_rf
  have hEr : mEr [27, 28] r r := Er_rf
  refine lv_aload_n hx hb dX11_fairWear_0 rfl (lv_at hl 0 rfl) ?_
  refine lv_aload_n hx hb dX11_fairWear_1 rfl (lv_at hl 1 rfl) ?_
  refine lv_iload_n hx hb dX11_fairWear_2 rfl (lv_at hl 2 rfl) ?_
  refine lv_iconst (v := 0) hx hb dX11_fairWear_3 (by decide) ?_
  refine lv_iconst (v := 0) hx hb dX11_fairWear_4 (by decide) ?_
  have hF_1 := rF hD hS hA
  refine va_callv (va_runV (As := [.ref (a 61), .int p0, .int 0, .int 0]) (rest := []) ⟨hx, hb, hml, hown, hT⟩ (c_X11_describe9 l D cy a i r q tl p0 0 0 _ hRi hRr (by first | omega | decide)) (cwV 4 hT (gV t_512 t_513 t_514 t_515 t_2) rfl rfl rfl (by decide +kernel) ⟨Nat.le_of_ble_eq_true rfl, Nat.le_of_ble_eq_true rfl⟩) (rQ_v hP hK hD (va_recv hK hP (ci := 11) (q0 := 0) rfl rfl)) rfl rfl hl.1 rfl (lv_room (Nat.le_of_ble_eq_true rfl)) dX11_fairWear_5 ⟨Nat.le_of_ble_eq_true rfl, Nat.le_of_ble_eq_true rfl⟩) hS (fun q _ h => hF_1 q h) hF_1 (fun u_3 t H1 locs ht hvm hr_2 hB hz1 hk1 hS => ?_)
  obtain ⟨r3, rfl⟩ : ∃ z, z = u_3 := ⟨_, rfl⟩
  obtain ⟨hP, hK1, hD1⟩ := hB
  rw [ht] at hP
  have hD := hD1.weaken (fun k q _ h => hF_1 q.1 h)
  obtain ⟨hRr, hE2, hr_2⟩ := hr_2
  have hRr : yRr r3 := hRr
  have hE2 : mEr [28] r r3 := hE2
  have hP : va_P D vwCl (xW cy a i r3 q (a 20) (a 12) ++ (hW cy a i r3 ++ tl)) H1 := hP
  have hD : va_D A (xW cy a i r3 q (a 20) (a 12) ++ (hW cy a i r3 ++ tl)) := hD
  have hEr : mEr [27, 28] _ r3 := Er_tr hEr hE2 (by decide)
  have hqr_2 : ∀ k9, k9 < 10 → r3 28 k9 = faL (xTh i r p0.toNatClampNeg (0 : Int32) (0 : Int32)) k9 := hr_2
  have hde : ∀ k9, k9 < 10 → r3 28 k9 = faL (xTh i r p0.toNatClampNeg 0 0) k9 := hqr_2
  refine lv_aload_n hx hb dX11_fairWear_8 rfl (lv_at hl 0 rfl) ?_
  refine va_get (D := D) (ci := 11) (v := .ref (a 20)) (C := RX11) (T := TX11) (N := 14) hx hb hT iX11 hown hK hP 0 rfl rfl 6 (by decide) (hT _ t_516) (fun _ h9 => h9) rfl dX11_fairWear_9 ?_
  refine lv_bipush (v := 102) hx hb dX11_fairWear_12 (by decide) ?_
  refine lv_aload_n hx hb dX11_fairWear_14 rfl (lv_at hl 0 rfl) ?_
  refine va_get (D := D) (ci := 11) (v := .ref (a 28)) (C := RX11) (T := TX11) (N := 14) hx hb hT iX11 hown hK hP 0 rfl rfl 7 (by decide) (hT _ t_500) (fun _ h9 => h9) rfl dX11_fairWear_15 ?_
  refine lv_iconst (v := 0) hx hb dX11_fairWear_18 (by decide) ?_
  refine lv_bipush (v := 9) hx hb dX11_fairWear_19 (by decide) ?_
  have hF_4 := rF hD hS hA
  refine va_calli (va_runV (As := [.int 102, .ref (a 28), .int 0, .int 9]) (rest := []) ⟨hx, hb, hml, hown, hT⟩ (c_X5_amount9 l D cy a i r3 q (hW cy a i r3 ++ tl) 102 0 9 _ hRi hRr d9 (faL (xTh i r p0.toNatClampNeg 0 0)) (xLw_co hL9 rfl (hEr 21 (by decide)) (hEr 22 (by decide)) (hEr 23 (by decide)) (hEr 24 (by decide)) (hEr 25 (by decide)) (hEr 26 (by decide))) hG9 hde (by first | omega | decide) (by first | omega | decide)) (cwV 4 hT (gV t_517 t_518 t_519 t_520 t_367) rfl rfl rfl (by decide +kernel) ⟨Nat.le_of_ble_eq_true rfl, Nat.le_of_ble_eq_true rfl⟩) (rM_v hnw hP hK hD (va_recv hK hP (ci := 5) (q0 := 20) rfl rfl)) rfl rfl hl.1 rfl (lv_room (Nat.le_of_ble_eq_true rfl)) dX11_fairWear_21 ⟨Nat.le_of_ble_eq_true rfl, Nat.le_of_ble_eq_true rfl⟩) hS (fun q _ h => hF_4 q h) hF_4 (fun r_5 u_6 t H1 locs ht hvm hr_5 hB hz1 hk1 hS => ?_)
  obtain ⟨r6, rfl⟩ : ∃ z, z = u_6 := ⟨_, rfl⟩
  obtain ⟨hP, hK1, hD1⟩ := hB
  rw [ht] at hP
  have hD := hD1.weaken (fun k q _ h => hF_4 q.1 h)
  obtain ⟨hRr, hE2, hr_5⟩ := hr_5
  have hRr : yRr r6 := hRr
  have hE2 : mEr [27] r3 r6 := hE2
  have hwe : hW cy a i r6 = hW cy a i r3 := hW_eqE (Ei_rf (T := [])) hE2 rfl rfl
  have hP : va_P D vwCl (xW cy a i r6 q (a 20) (a 12) ++ (hW cy a i r6 ++ tl)) H1 := by rw [hwe]; exact hP
  have hD : va_D A (xW cy a i r6 q (a 20) (a 12) ++ (hW cy a i r6 ++ tl)) := by rw [hwe]; exact hD
  have hEr : mEr [27, 28] _ r6 := Er_tr hEr hE2 (by decide)
  have hqr_5 : r_5 = byL d9 (faL (xTh i r p0.toNatClampNeg 0 0)) (102 : Int32) (9 : Int32) (0 : Int32) := hr_5
  subst hQ
  exact W.iret (v := r_5) hx hb hr (fun t ht hW => ⟨⟨_, r6, rfl, ⟨hRr, hEr, hqr_5⟩, by rw [ht]; exact hP, va_K.moved hW.alike hK, hD⟩, hS.F ht⟩) hS.2.2 dX11_fairWear_24
set_option maxHeartbeats 4000000 in
set_option maxRecDepth 100000 in
theorem c_X11_lost9 (l : Launch) (D : va_G) (cy : Nat → ClassId) (a : Nat → Nat) (i : Nat → Int32) (r : Nat → Nat → Int32) (q : Nat → Option Nat) (tl : va_W) (p0 p1 : Int32) (hRi : yRi i) (hRr : yRr r) (q0 : 0 ≤ p0.toInt ∧ p0.toInt ≤ 19) (hst : 1 ≤ (r 68 p0.toNatClampNeg).toInt) (hlf : 0 < (r 2 (r 67 p0.toNatClampNeg).toNatClampNeg).toInt) : Met l yX11_lost (Cond.code yX11_lost cX11_lost 6 (some .int) :: gT) { frames := 3, cells := 0, slots := 0, locals := 72 } (va_Pc [.ref (a 0), .ref (a 61), .int p0, .int p1] (rP D cy (xW cy a i r q (a 20) (a 12) ++ (hW cy a i r ++ tl)))) (vp_Si (fun z => z = lsT (r 68 p0.toNatClampNeg) p1 (nI (lkX (r 75) (r 73) (i 24).toInt p0.toNatClampNeg).toNat) (xWo i r p0.toNatClampNeg))) 0 0 (fun _ => False) := by
  refine Met.ofQ (cc := cX11_lost) (maxL := 6) (ret := (some .int)) (by decide) rfl ?_
  intro p e s m args below meth c s₁ B hml hv Q hQ
  obtain ⟨rfl, hP, hK⟩ := hv
  have hx := B.exec
  have hb := B.bytes
  have hr := B.returns
  have hlocks := B.notSynchronized
  have hT : ∀ w ∈ gT, w.before _ s = true := fun w h => atoms_spec (ws := (Cond.code yX11_lost cX11_lost 6 (some .int) :: gT)) B.pre w (List.mem_cons_of_mem _ h)
  have hown : s.vm.findClass RX11 = some m.cls := findClass_of_methodNamed B.named
  have hl := lv_entry ([.ref (a 0), .ref (a 61), .int p0, .int p1]) (n := 6) (Nat.le_of_ble_eq_true rfl)
  rw [lg_entry_eq]
  generalize (lg_sl ([.ref (a 0), .ref (a 61), .int p0, .int p1]) ++ List.replicate (6 - (lg_sl ([.ref (a 0), .ref (a 61), .int p0, .int p1])).length) Slot.unset).toArray = ls at hl ⊢
  have hl : lv_has ls 6 [(0, .ref (a 0)), (1, .ref (a 61)), (2, .int p0), (3, .int p1)] := hl
  have hEi : mEi [] i i := Ei_rf
  have hEr : mEr [] r r := Er_rf
  refine lv_aload_n hx hb dX11_lost_0 rfl (lv_at hl 1 rfl) ?_
  refine va_get (D := D) (ci := 3) (v := .ref (a 65)) (C := RX3) (T := TX3) (N := 12) hx hb hT iX3 hown hK hP 61 rfl rfl 9 (by decide) (hT _ t_453) (fun _ h9 => h9) rfl dX11_lost_1 ?_
  refine va_get (D := D) (ci := 10) (v := .ref (a 68)) (C := RX10) (T := TX10) (N := 5) hx hb hT iX10 hown hK hP 65 rfl rfl 3 (by decide) (hT _ t_506) (fun _ h9 => h9) rfl dX11_lost_4 ?_
  refine lv_iload_n hx hb dX11_lost_7 rfl (lv_at hl 2 rfl) ?_
  refine va_iald hx hb hK hP 68 0 rfl rfl (vp_inI (by omega) (by omega)) dX11_lost_8 ?_
  refine lv_topi (fun v_1 ev_1 => ?_)
  have hgv_1 : 0 ≤ v_1.toInt ∧ v_1.toInt ≤ 9 := by rw [ev_1]; exact hRr 68 _
  have hs1 : 1 ≤ v_1.toInt := by rw [ev_1]; exact hst
  refine lv_istore (lv' := [(4, .int v_1), (0, .ref (a 0)), (1, .ref (a 61)), (2, .int p0), (3, .int p1)]) hx hb dX11_lost_9 hl (by decide) rfl (fun ls hl => ?_)
  refine lv_iconst (v := 0) hx hb dX11_lost_11 (by decide) ?_
  refine lv_iload hx hb dX11_lost_12 (lv_at hl 0 rfl) ?_
  refine lv_iload_n hx hb dX11_lost_14 rfl (lv_at hl 4 rfl) ?_
  refine lv_isub hx hb dX11_lost_15 ?_
  refine lv_topi (fun v_2 ev_2 => ?_)
  refine va_mmax hx hb (by rw [hml]; exact hl.1.symm) hown (hT _ t_521) (hT _ t_307) (hT _ t_289) (hT _ t_308) (Nat.le_of_ble_eq_true rfl) (Nat.le_of_ble_eq_true rfl) (Nat.le_of_ble_eq_true rfl) (Nat.le_of_ble_eq_true rfl) dX11_lost_16 ?_
  refine lv_topi (fun v_3 ev_3 => ?_)
  refine lv_aload_n hx hb dX11_lost_19 rfl (lv_at hl 2 rfl) ?_
  refine lv_iload_n hx hb dX11_lost_20 rfl (lv_at hl 3 rfl) ?_
  refine vp_callSi (W.runV (As := [.int p0]) (rest := [.int v_3]) ⟨hx, hb, hml, hown, hT⟩ (c_X3_stateAtLast9 l D cy a i r q tl p0 hRi hRr (by first | omega | decide)) (cwV 1 hT (gV t_397 t_507 t_399 t_400 t_391) rfl rfl rfl (by decide +kernel) ⟨Nat.le_of_ble_eq_true rfl, Nat.le_of_ble_eq_true rfl⟩) (rP_v hP hK (va_recv hK hP (ci := 3) (q0 := 61) rfl rfl)) rfl rfl hl.1 rfl (lv_room (Nat.le_of_ble_eq_true rfl)) dX11_lost_21 ⟨Nat.le_of_ble_eq_true rfl, Nat.le_of_ble_eq_true rfl⟩) (fun r_4 hr_4 => ?_)
  have hqr_4 : r_4.toInt = (lkX (r 75) (r 73) (i 24).toInt) p0.toNatClampNeg := hr_4.1
  have hr_4 : 0 ≤ r_4.toInt ∧ r_4.toInt ≤ 9 := hr_4.2
  have hsr_4 : r_4 = nI (lkX (r 75) (r 73) (i 24).toInt p0.toNatClampNeg).toNat := nI_eqi hqr_4 (by rw [← hqr_4]; omega)
  refine lv_isub hx hb dX11_lost_24 ?_
  refine lv_topi (fun v_5 ev_5 => ?_)
  refine lv_istore (lv' := [(5, .int v_5), (4, .int v_1), (0, .ref (a 0)), (1, .ref (a 61)), (2, .int p0), (3, .int p1)]) hx hb dX11_lost_25 hl (by decide) rfl (fun ls hl => ?_)
  refine lv_iload hx hb dX11_lost_27 (lv_at hl 0 rfl) ?_
  refine lv_if_le (tgt := 37) hx hb dX11_lost_29 (by decide) (fun c_6 => ?_) (fun c_6 => ?_)
  · have c_6 : v_5.toInt ≤ 0 := b_le c_6
    refine lv_iconst (v := 0) hx hb dX11_lost_37 (by decide) ?_
    subst hQ
    exact W.iret (v := 0) hx hb hr (fun t ht hW => ⟨_, rfl, (by rw [← ev_1]; exact ls_0 (b := v_5) ev_2 (mx0 ev_3) (by rw [← hsr_4]; exact ev_5) (by omega)), ht⟩) (fun q hq => absurd hq List.not_mem_nil) dX11_lost_38
  · have c_6 : 0 < v_5.toInt := b_nle c_6
    refine lv_iload hx hb dX11_lost_32 (lv_at hl 1 rfl) ?_
    refine lv_if_gt (tgt := 39) hx hb dX11_lost_34 (by decide) (fun c_7 => ?_) (fun c_7 => by have c_7 : v_1.toInt ≤ 0 := b_nlt c_7; omega)
    have c_7 : 0 < v_1.toInt := b_lt c_7
    refine lv_aload_n hx hb dX11_lost_39 rfl (lv_at hl 2 rfl) ?_
    refine lv_aload_n hx hb dX11_lost_40 rfl (lv_at hl 3 rfl) ?_
    refine lv_iload_n hx hb dX11_lost_41 rfl (lv_at hl 4 rfl) ?_
    refine lv_aload_n hx hb dX11_lost_42 rfl (lv_at hl 3 rfl) ?_
    refine vp_callSi (W.runV (As := []) (rest := [.int p0, .ref (a 61), .ref (a 0)]) ⟨hx, hb, hml, hown, hT⟩ (c_X3_months9 l D cy a i r q tl hRi hRr) (cwV 0 hT (gV t_501 t_502 t_503 t_504 t_391) rfl rfl rfl (by decide +kernel) ⟨Nat.le_of_ble_eq_true rfl, Nat.le_of_ble_eq_true rfl⟩) (rP_v hP hK (va_recv hK hP (ci := 3) (q0 := 61) rfl rfl)) rfl rfl hl.1 rfl (lv_room (Nat.le_of_ble_eq_true rfl)) dX11_lost_43 ⟨Nat.le_of_ble_eq_true rfl, Nat.le_of_ble_eq_true rfl⟩) (fun r_8 hr_8 => ?_)
    have hqr_8 : r_8.toInt = (i 21).toInt - (i 20).toInt := hr_8.1
    have hr_8 : -999 ≤ r_8.toInt ∧ r_8.toInt ≤ 999 := hr_8.2
    have hmr_8 : r_8 = i 21 - i 20 := mon_eq hqr_8 (hRi 21) (hRi 20)
    refine vp_callSi (W.runV (As := [.ref (a 61), .int p0, .int r_8]) (rest := []) ⟨hx, hb, hml, hown, hT⟩ (c_X11_worth9 l D cy a i r q tl p0 r_8 hRi hRr (by omega)) (cwV 3 hT (gV t_522 t_523 t_524 t_525 t_2) rfl rfl rfl (by decide +kernel) ⟨Nat.le_of_ble_eq_true rfl, Nat.le_of_ble_eq_true rfl⟩) (rP_v hP hK (va_recv hK hP (ci := 11) (q0 := 0) rfl rfl)) rfl rfl hl.1 rfl (lv_room (Nat.le_of_ble_eq_true rfl)) dX11_lost_46 ⟨Nat.le_of_ble_eq_true rfl, Nat.le_of_ble_eq_true rfl⟩) (fun r_9 hr_9 => ?_)
    have hw9 : r_9 = xWo i r p0.toNatClampNeg := by have h9 := hr_9 hlf; rw [hmr_8] at h9; exact h9
    refine lv_iload hx hb dX11_lost_49 (lv_at hl 0 rfl) ?_
    refine lv_imul hx hb dX11_lost_51 ?_
    refine lv_topi (fun v_10 ev_10 => ?_)
    refine lv_iload hx hb dX11_lost_52 (lv_at hl 1 rfl) ?_
    refine lv_idiv hx hb dX11_lost_54 (nz (by omega)) ?_
    refine lv_topi (fun v_11 ev_11 => ?_)
    subst hQ
    exact W.iret (v := v_11) hx hb hr (fun t ht hW => ⟨_, rfl, (by rw [← ev_1, ← hw9]; exact ls_1 (b := v_5) ev_2 (mx0 ev_3) (by rw [← hsr_4]; exact ev_5) (by omega) ev_10 ev_11), ht⟩) (fun q hq => absurd hq List.not_mem_nil) dX11_lost_55
