theorem ABS_p {x : Int32} (h : 0 ≤ x.toInt) : x = ABS x := (if_pos (Int32.le_iff_toInt_le.mpr (show (0 : Int32).toInt ≤ x.toInt from h))).symm
theorem ABS_n {x : Int32} (h : x.toInt < 0) : -x = ABS x := by
  unfold ABS
  rw [if_neg (fun h9 => by have h8 := Int32.le_iff_toInt_le.mp h9; have h7 : (0 : Int32).toInt = 0 := rfl; omega)]
  apply Int32.toBitVec_inj.mp
  rw [Int32.toBitVec_neg, Int32.toBitVec_sub]
  exact (BitVec.zero_sub _).symm
/-- Euclid's way -/
def euc : Nat → Int32 → Int32 → Option Int32
  | 0, _, _ => none
  | n + 1, x, y => if y = 0 then some x else euc n y (x - x / y * y)
def EUC (x y g : Int32) : Prop := ∃ n, euc n x y = some g
theorem EUC_0 {x : Int32} : EUC x 0 x := ⟨1, if_pos rfl⟩
theorem EUC_s {x y z g : Int32} (hy : ¬ y = 0) (hz : z = x - x / y * y) (h : EUC y z g) : EUC x y g := by
  obtain ⟨n, e⟩ := h
  refine ⟨n + 1, ?_⟩
  show (if y = 0 then some x else euc n y (x - x / y * y)) = some g
  rw [if_neg hy, ← hz]; exact e
theorem euc_more : ∀ n x y g, euc n x y = some g → euc (n + 1) x y = some g := by
  intro n
  induction n with
  | zero => intro x y g h; cases h
  | succ n ih =>
    intro x y g h
    have h0 : (if y = 0 then some x else euc n y (x - x / y * y)) = some g := h
    show (if y = 0 then some x else euc (n + 1) y (x - x / y * y)) = some g
    by_cases e : y = 0
    · rw [if_pos e] at h0 ⊢; exact h0
    · rw [if_neg e] at h0 ⊢; exact ih _ _ _ h0
theorem euc_le {x y g : Int32} {n : Nat} (h : euc n x y = some g) : ∀ k, euc (n + k) x y = some g := by
  intro k
  induction k with
  | zero => exact h
  | succ k ih => exact euc_more _ _ _ _ ih
theorem EUC_un {x y g k : Int32} (h : EUC x y g) (h2 : EUC x y k) : g = k := by
  obtain ⟨n, e⟩ := h
  obtain ⟨m, e2⟩ := h2
  have a := euc_le e m
  have b := euc_le e2 n
  rw [Nat.add_comm] at b
  rw [a] at b
  exact Option.some.inj b
def EUB (x y a b : Int32) : Prop := ∀ g, EUC x y g → EUC a b g
theorem EUB_rf {x y : Int32} : EUB x y x y := fun _ h => h
theorem EUB_s {x y z a b : Int32} (h : EUB x y a b) (hy : ¬ y = 0) (hz : z = x - x / y * y) : EUB y z a b := fun g hg => h g (EUC_s hy hz hg)
theorem EUB_e {x y a b : Int32} (h : EUB x y a b) (hy : y.toInt = 0) : EUC a b x := by
  have e : y = 0 := Int32.toInt_inj.mp hy
  subst e; exact h x EUC_0
def SPb (rm : Nat → Nat → Int32) (j : Int32) (n : Nat) : Int32 := if (rm 52 n).toInt = j.toInt then rm 54 n - rm 55 n else rm 55 n - rm 54 n
def SPt (rm : Nat → Nat → Int32) (j : Int32) : Nat → Int32
  | 0 => 0
  | n + 1 => if (rm 52 n).toInt = j.toInt ∨ (rm 53 n).toInt = j.toInt then SPt rm j n + 1 else SPt rm j n
def SPa (rm : Nat → Nat → Int32) (j : Int32) : Nat → Int32
  | 0 => 0
  | n + 1 => if (rm 52 n).toInt = j.toInt ∨ (rm 53 n).toInt = j.toInt then SPa rm j n + ABS (SPb rm j n) else SPa rm j n
def SPm (rm : Nat → Nat → Int32) (j : Int32) : Nat → Int32
  | 0 => 0
  | n + 1 => if (rm 52 n).toInt = j.toInt ∨ (rm 53 n).toInt = j.toInt then SPm rm j n + SPb rm j n else SPm rm j n
def SPI (r : Nat → Nat → Int32) (j k t a m : Int32) : Prop := t = SPt r j k.toNatClampNeg ∧ a = SPa r j k.toNatClampNeg ∧ m = SPm r j k.toNatClampNeg
theorem SPI_0 {r : Nat → Nat → Int32} {j : Int32} : SPI r j 0 0 0 0 := ⟨rfl, rfl, rfl⟩
theorem nx {k y : Int32} (h0 : 0 ≤ k.toInt) (hy : y.toInt = k.toInt + 1) : y.toNatClampNeg = k.toNatClampNeg + 1 := by show y.toInt.toNat = k.toInt.toNat + 1; omega
theorem SPI_n {r : Nat → Nat → Int32} {j k t a m y : Int32} (h : SPI r j k t a m) (h0 : 0 ≤ k.toInt) (hy : y.toInt = k.toInt + 1) (hn : ¬ ((r 52 k.toNatClampNeg).toInt = j.toInt ∨ (r 53 k.toNatClampNeg).toInt = j.toInt)) : SPI r j y t a m := by
  obtain ⟨e1, e2, e3⟩ := h
  unfold SPI
  rw [nx h0 hy]
  exact ⟨e1.trans (if_neg hn).symm, e2.trans (if_neg hn).symm, e3.trans (if_neg hn).symm⟩
theorem SPI_y {r : Nat → Nat → Int32} {j k t a m y t2 a2 m2 b : Int32} (h : SPI r j k t a m) (h0 : 0 ≤ k.toInt) (hy : y.toInt = k.toInt + 1) (hn : (r 52 k.toNatClampNeg).toInt = j.toInt ∨ (r 53 k.toNatClampNeg).toInt = j.toInt) (hb : b = SPb r j k.toNatClampNeg) (ht : t2 = t + 1) (ha : a2 = a + ABS b) (hm : m2 = m + b) : SPI r j y t2 a2 m2 := by
  obtain ⟨e1, e2, e3⟩ := h
  unfold SPI
  rw [nx h0 hy]
  exact ⟨by rw [ht, e1]; exact (if_pos hn).symm, by rw [ha, e2, hb]; exact (if_pos hn).symm, by rw [hm, e3, hb]; exact (if_pos hn).symm⟩
/-- the answer of spread, out of times, distances and differences -/
def SPZ (t a m w z : Int32) : Prop := (t = 0 → z = -1000000) ∧ (¬ t = 0 → ∃ g, EUC (ABS (if w.toInt < 2 then a else m)) t g ∧ z = (if w.toInt % 2 = 0 then (if w.toInt < 2 then a else m) else t) / g)
theorem SPZ_un {t a m w z y : Int32} (h : SPZ t a m w z) (h2 : SPZ t a m w y) : z = y := by
  by_cases e : t = 0
  · rw [h.1 e, h2.1 e]
  · obtain ⟨g, g1, g2⟩ := h.2 e
    obtain ⟨k, k1, k2⟩ := h2.2 e
    rw [g2, k2, EUC_un g1 k1]
theorem EUC_ne : ∀ n x y g, euc n x y = some g → (x.toInt ≠ 0 ∨ y.toInt ≠ 0) → g.toInt ≠ 0 := by
  intro n
  induction n with
  | zero => intro x y g h; cases h
  | succ n ih =>
    intro x y g h hn
    have h0 : (if y = 0 then some x else euc n y (x - x / y * y)) = some g := h
    by_cases e : y = 0
    · rw [if_pos e] at h0
      rw [← Option.some.inj h0]
      have : y.toInt = 0 := by rw [e]; rfl
      omega
    · rw [if_neg e] at h0
      exact ih _ _ _ h0 (Or.inl (fun h9 => e (Int32.toInt_inj.mp h9)))
theorem SP_co {rm rm2 : Nat → Nat → Int32} {j : Int32} : ∀ n, (∀ k, k < n → rm2 52 k = rm 52 k ∧ rm2 53 k = rm 53 k ∧ rm2 54 k = rm 54 k ∧ rm2 55 k = rm 55 k) → SPt rm2 j n = SPt rm j n ∧ SPa rm2 j n = SPa rm j n ∧ SPm rm2 j n = SPm rm j n := by
  intro n
  induction n with
  | zero => intro _; exact ⟨rfl, rfl, rfl⟩
  | succ n ih =>
    intro h
    obtain ⟨e1, e2, e3⟩ := ih (fun k hk => h k (by omega))
    obtain ⟨a, b, c, d⟩ := h n (by omega)
    have eb : SPb rm2 j n = SPb rm j n := by unfold SPb; rw [a, c, d]
    refine ⟨?_, ?_, ?_⟩
    · show (if (rm2 52 n).toInt = j.toInt ∨ (rm2 53 n).toInt = j.toInt then SPt rm2 j n + 1 else SPt rm2 j n) = (if (rm 52 n).toInt = j.toInt ∨ (rm 53 n).toInt = j.toInt then SPt rm j n + 1 else SPt rm j n)
      rw [a, b, e1]
    · show (if (rm2 52 n).toInt = j.toInt ∨ (rm2 53 n).toInt = j.toInt then SPa rm2 j n + ABS (SPb rm2 j n) else SPa rm2 j n) = (if (rm 52 n).toInt = j.toInt ∨ (rm 53 n).toInt = j.toInt then SPa rm j n + ABS (SPb rm j n) else SPa rm j n)
      rw [a, b, e2, eb]
    · show (if (rm2 52 n).toInt = j.toInt ∨ (rm2 53 n).toInt = j.toInt then SPm rm2 j n + SPb rm2 j n else SPm rm2 j n) = (if (rm 52 n).toInt = j.toInt ∨ (rm 53 n).toInt = j.toInt then SPm rm j n + SPb rm j n else SPm rm j n)
      rw [a, b, e3, eb]
/-- how often at most -/
theorem SPt_le {rm : Nat → Nat → Int32} {j : Int32} : ∀ n, n ≤ 40 → 0 ≤ (SPt rm j n).toInt ∧ (SPt rm j n).toInt ≤ n := by
  intro n
  induction n with
  | zero => intro _; exact ⟨Int.le_of_eq rfl, Int.le_of_eq rfl⟩
  | succ n ih =>
    intro h
    have h1 := ih (by omega)
    by_cases e : (rm 52 n).toInt = j.toInt ∨ (rm 53 n).toInt = j.toInt
    · have e1 : SPt rm j (n + 1) = SPt rm j n + 1 := if_pos e
      have e2 : (SPt rm j n + 1).toInt = (SPt rm j n).toInt + 1 := i_add (a := (SPt rm j n).toInt) (b := 1) rfl rfl (by omega) (by omega)
      rw [e1, e2]; omega
    · have e1 : SPt rm j (n + 1) = SPt rm j n := if_neg e
      rw [e1]; omega
/-- the class's sums of doubles are those of the reference's list -/
def RSP (im : Nat → Int32) (rm r : Nat → Nat → Int32) : Prop := ∀ j : Nat, j < 6 → r 55 j = SPt rm (nI j) (im 63).toNatClampNeg ∧ r 56 j = SPa rm (nI j) (im 63).toNatClampNeg ∧ r 57 j = SPm rm (nI j) (im 63).toNatClampNeg
theorem RSP_push {im im2 : Nat → Int32} {rm rm2 r r2 : Nat → Nat → Int32} {p0 p1 p2 p3 : Int32} (h : RSP im rm r) (h0 : 0 ≤ p0.toInt ∧ p0.toInt ≤ 5) (h1 : 0 ≤ p1.toInt ∧ p1.toInt ≤ 5) (hne : p0.toInt ≠ p1.toInt) (hn : 0 ≤ (im 63).toInt) (hm : (im2 63).toInt = (im 63).toInt + 1)
    (a0 : rm2 52 = upd (rm 52) (im 63).toNatClampNeg p0) (a1 : rm2 53 = upd (rm 53) (im 63).toNatClampNeg p1) (a2 : rm2 54 = upd (rm 54) (im 63).toNatClampNeg p2) (a3 : rm2 55 = upd (rm 55) (im 63).toNatClampNeg p3)
    (b0 : r2 55 = upd (upd (r 55) p0.toNatClampNeg (r 55 p0.toNatClampNeg + 1)) p1.toNatClampNeg (r 55 p1.toNatClampNeg + 1)) (b1 : r2 56 = upd (upd (r 56) p0.toNatClampNeg (r 56 p0.toNatClampNeg + ABS (p2 - p3))) p1.toNatClampNeg (r 56 p1.toNatClampNeg + ABS (p3 - p2))) (b2 : r2 57 = upd (upd (r 57) p0.toNatClampNeg (r 57 p0.toNatClampNeg + (p2 - p3))) p1.toNatClampNeg (r 57 p1.toNatClampNeg + (p3 - p2))) : RSP im2 rm2 r2 := by
  intro j hj
  have hN : (im2 63).toNatClampNeg = (im 63).toNatClampNeg + 1 := by show (im2 63).toInt.toNat = (im 63).toInt.toNat + 1; omega
  rw [hN]
  generalize hg : (im 63).toNatClampNeg = n at a0 a1 a2 a3
  obtain ⟨g1, g2, g3⟩ := h j hj
  rw [hg] at g1 g2 g3
  obtain ⟨e1, e2, e3⟩ := SP_co (rm := rm) (rm2 := rm2) (j := nI j) n (fun k hk => ⟨by rw [a0]; exact if_neg (by omega), by rw [a1]; exact if_neg (by omega), by rw [a2]; exact if_neg (by omega), by rw [a3]; exact if_neg (by omega)⟩)
  have f0 : rm2 52 n = p0 := by rw [a0]; exact if_pos rfl
  have f1 : rm2 53 n = p1 := by rw [a1]; exact if_pos rfl
  have f2 : rm2 54 n = p2 := by rw [a2]; exact if_pos rfl
  have f3 : rm2 55 n = p3 := by rw [a3]; exact if_pos rfl
  have ij : (nI j).toInt = (j : Int) := nI_toInt (by omega)
  have c0 : p0.toNatClampNeg = p0.toInt.toNat := rfl
  have c1 : p1.toNatClampNeg = p1.toInt.toNat := rfl
  have st : SPt rm2 (nI j) (n + 1) = if (rm2 52 n).toInt = (nI j).toInt ∨ (rm2 53 n).toInt = (nI j).toInt then SPt rm2 (nI j) n + 1 else SPt rm2 (nI j) n := rfl
  have sa : SPa rm2 (nI j) (n + 1) = if (rm2 52 n).toInt = (nI j).toInt ∨ (rm2 53 n).toInt = (nI j).toInt then SPa rm2 (nI j) n + ABS (SPb rm2 (nI j) n) else SPa rm2 (nI j) n := rfl
  have sm : SPm rm2 (nI j) (n + 1) = if (rm2 52 n).toInt = (nI j).toInt ∨ (rm2 53 n).toInt = (nI j).toInt then SPm rm2 (nI j) n + SPb rm2 (nI j) n else SPm rm2 (nI j) n := rfl
  rw [st, sa, sm, f0, f1, ij, e1, e2, e3, b0, b1, b2, ← g1, ← g2, ← g3]
  unfold upd
  by_cases d1 : j = p1.toNatClampNeg
  · have eb : SPb rm2 (nI j) n = p3 - p2 := by unfold SPb; rw [f0, f2, f3, ij]; exact if_neg (by omega)
    rw [if_pos d1, if_pos d1, if_pos d1, if_pos (by omega), if_pos (by omega), if_pos (by omega), eb, d1]
    exact ⟨rfl, rfl, rfl⟩
  · by_cases d0 : j = p0.toNatClampNeg
    · have eb : SPb rm2 (nI j) n = p2 - p3 := by unfold SPb; rw [f0, f2, f3, ij]; exact if_pos (by omega)
      rw [if_neg d1, if_neg d1, if_neg d1, if_pos d0, if_pos d0, if_pos d0, if_pos (by omega), if_pos (by omega), if_pos (by omega), eb, d0]
      exact ⟨rfl, rfl, rfl⟩
    · rw [if_neg d1, if_neg d1, if_neg d1, if_neg d0, if_neg d0, if_neg d0, if_neg (by omega), if_neg (by omega), if_neg (by omega)]
      exact ⟨rfl, rfl, rfl⟩
set_option maxHeartbeats 4000000 in
set_option maxRecDepth 100000 in
theorem c_X12_size9 (l : Launch) (p0 : Int32) : Met l yX12_size (Cond.code yX12_size cX12_size 1 (some .int) :: gT) { frames := 1, cells := 0, slots := 0, locals := 24 } (va_Pc [.int p0] (fun _ => True)) (vp_Si (fun z => z = ABS p0)) 0 0 (fun _ => False) := by
  refine Met.ofQ (cc := cX12_size) (maxL := 1) (ret := (some .int)) (by decide) rfl ?_
  intro p e s m args below meth c s₁ B hml hv Q hQ
  obtain ⟨rfl, -⟩ := hv
  have hx := B.exec
  have hb := B.bytes
  have hr := B.returns
  have hlocks := B.notSynchronized
  have hT : ∀ w ∈ gT, w.before _ s = true := fun w h => atoms_spec (ws := (Cond.code yX12_size cX12_size 1 (some .int) :: gT)) B.pre w (List.mem_cons_of_mem _ h)
  have hown : s.vm.findClass RX12 = some m.cls := findClass_of_methodNamed B.named
  have hl := lv_entry ([.int p0]) (n := 1) (Nat.le_of_ble_eq_true rfl)
  rw [lg_entry_eq]
  generalize (lg_sl ([.int p0]) ++ List.replicate (1 - (lg_sl ([.int p0])).length) Slot.unset).toArray = ls at hl ⊢
  have hl : lv_has ls 1 [(0, .int p0)] := hl
  refine lv_iload_n hx hb dX12_size_0 rfl (lv_at hl 0 rfl) ?_
  refine lv_if_ge (tgt := 9) hx hb dX12_size_1 (by decide) (fun c_1 => ?_) (fun c_1 => ?_)
  · have c_1 : 0 ≤ p0.toInt := b_le c_1
    refine lv_iload_n hx hb dX12_size_9 rfl (lv_at hl 0 rfl) ?_
    subst hQ
    exact W.iret (v := p0) hx hb hr (fun t ht hW => ⟨_, rfl, (ABS_p (by omega)), ht⟩) (fun q hq => absurd hq List.not_mem_nil) dX12_size_10
  · have c_1 : p0.toInt < 0 := b_nle c_1
    refine lv_iload_n hx hb dX12_size_4 rfl (lv_at hl 0 rfl) ?_
    refine lv_ineg hx hb dX12_size_5 ?_
    refine lv_topi (fun v_2 ev_2 => ?_)
    refine lv_goto (tgt := 10) hx hb dX12_size_6 (by decide) ?_
    subst hQ
    exact W.iret (v := v_2) hx hb hr (fun t ht hW => ⟨_, rfl, (ev_2.trans (ABS_n (by omega))), ht⟩) (fun q hq => absurd hq List.not_mem_nil) dX12_size_10
set_option maxHeartbeats 4000000 in
set_option maxRecDepth 100000 in
theorem c_X12_gcd9 (l : Launch) (p0 p1 : Int32) (q : p1.toInt ≠ 0) : Met l yX12_gcd (Cond.code yX12_gcd cX12_gcd 5 (some .int) :: gT) { frames := 2, cells := 0, slots := 0, locals := 44 } (va_Pc [.int p0, .int p1] (fun _ => True)) (vp_Si (fun z => z.toInt ≠ 0 ∧ EUC (ABS p0) p1 z)) 0 0 (fun _ => False) := by
  refine Met.ofQ (cc := cX12_gcd) (maxL := 5) (ret := (some .int)) (by decide) rfl ?_
  intro p e s m args below meth c s₁ B hml hv Q hQ
  obtain ⟨rfl, -⟩ := hv
  have hx := B.exec
  have hb := B.bytes
  have hr := B.returns
  have hlocks := B.notSynchronized
  have hT : ∀ w ∈ gT, w.before _ s = true := fun w h => atoms_spec (ws := (Cond.code yX12_gcd cX12_gcd 5 (some .int) :: gT)) B.pre w (List.mem_cons_of_mem _ h)
  have hown : s.vm.findClass RX12 = some m.cls := findClass_of_methodNamed B.named
  have hl := lv_entry ([.int p0, .int p1]) (n := 5) (Nat.le_of_ble_eq_true rfl)
  rw [lg_entry_eq]
  generalize (lg_sl ([.int p0, .int p1]) ++ List.replicate (5 - (lg_sl ([.int p0, .int p1])).length) Slot.unset).toArray = ls at hl ⊢
  have hl : lv_has ls 5 [(0, .int p0), (1, .int p1)] := hl
  refine lv_iload_n hx hb dX12_gcd_0 rfl (lv_at hl 0 rfl) ?_
  refine vp_callSi (W.runS (As := [.int p0]) (rest := []) ⟨hx, hb, hml, hown, hT⟩ (c_X12_size9 l p0) (va_cwS 1 hT (gS t_220 t_221 t_222 t_6) rfl rfl rfl (by decide +kernel) ⟨Nat.le_of_ble_eq_true rfl, Nat.le_of_ble_eq_true rfl⟩) preT rfl rfl hl.1 rfl (lv_room (Nat.le_of_ble_eq_true rfl)) dX12_gcd_1 ⟨Nat.le_of_ble_eq_true rfl, Nat.le_of_ble_eq_true rfl⟩) (fun r_1 hr_1 => ?_)
  refine lv_istore_n (lv' := [(2, .int r_1), (0, .int p0), (1, .int p1)]) hx hb dX12_gcd_4 rfl hl (by decide) rfl (fun ls hl => ?_)
  refine lv_iload_n hx hb dX12_gcd_5 rfl (lv_at hl 2 rfl) ?_
  refine lv_istore_n (lv' := [(3, .int p1), (2, .int r_1), (0, .int p0), (1, .int p1)]) hx hb dX12_gcd_6 rfl hl (by decide) rfl (fun ls hl => ?_)
  have loop_2 : ∀ (n : Nat) (x2_3 : Int32) (x2_2 : Int32) (ls : Array Slot), ((x2_3.toInt.natAbs : Int)).toNat < n → ((x2_2.toInt ≠ 0 ∨ x2_3.toInt ≠ 0) ∧ EUB x2_2 x2_3 (ABS p0) p1) → lv_has ls 5 [(3, .int x2_3), (2, .int x2_2), (0, .int p0), (1, .int p1)] → W p l e ({ frames := 2, cells := 0, slots := 0, locals := 44 } : Room) s m ([.int p0, .int p1] : List Value).toArray below meth c s.heap [] 0 0 Q (F0 m 7 ls []) := by
    intro n
    induction n with
    | zero =>
      intro x2_3 x2_2 ls hm2 hx2 hl
      exact absurd hm2 (by omega)
    | succ n ih2 =>
      intro x2_3 x2_2 ls hm2 hx2 hl
      refine lv_iload_n hx hb dX12_gcd_7 rfl (lv_at hl 0 rfl) ?_
      refine lv_if_eq (tgt := 24) hx hb dX12_gcd_8 (by decide) (fun c_3 => ?_) (fun c_3 => ?_)
      · have c_3 : x2_3.toInt = 0 := b_eq c_3
        refine lv_iload_n hx hb dX12_gcd_24 rfl (lv_at hl 1 rfl) ?_
        subst hQ
        exact W.iret (v := x2_2) hx hb hr (fun t ht hW => ⟨_, rfl, ⟨by omega, EUB_e hx2.2 (by omega)⟩, ht⟩) (fun q hq => absurd hq List.not_mem_nil) dX12_gcd_25
      · have c_3 : x2_3.toInt ≠ 0 := b_ne c_3
        refine lv_iload_n hx hb dX12_gcd_11 rfl (lv_at hl 1 rfl) ?_
        refine lv_iload_n hx hb dX12_gcd_12 rfl (lv_at hl 0 rfl) ?_
        refine lv_irem hx hb dX12_gcd_13 (nz (by omega)) ?_
        refine lv_topi (fun v_4 ev_4 => ?_)
        refine lv_istore (lv' := [(4, .int v_4), (3, .int x2_3), (2, .int x2_2), (0, .int p0), (1, .int p1)]) hx hb dX12_gcd_14 hl (by decide) rfl (fun ls hl => ?_)
        refine lv_iload_n hx hb dX12_gcd_16 rfl (lv_at hl 1 rfl) ?_
        refine lv_istore_n (lv' := [(2, .int x2_3), (4, .int v_4), (3, .int x2_3), (0, .int p0), (1, .int p1)]) hx hb dX12_gcd_17 rfl hl (by decide) rfl (fun ls hl => ?_)
        refine lv_iload hx hb dX12_gcd_18 (lv_at hl 1 rfl) ?_
        refine lv_istore_n (lv' := [(3, .int v_4), (2, .int x2_3), (4, .int v_4), (0, .int p0), (1, .int p1)]) hx hb dX12_gcd_20 rfl hl (by decide) rfl (fun ls hl => ?_)
        refine lv_goto (tgt := 7) hx hb dX12_gcd_21 (by decide) ?_
        have hlt : v_4.toInt.natAbs < x2_3.toInt.natAbs := by rw [ev_4, rem_toInt]; exact tm_lt _ _ (by omega)
        exact ih2 v_4 x2_3 _ (by first | omega | (simp only [Int.toNat]; omega))   ⟨by omega, EUB_s hx2.2 (nz (by omega)) ev_4⟩  (lv_sub hl [0, 1, 3, 4] rfl)
  exact loop_2 _ p1 r_1 _ (Nat.lt_succ_self _)   ⟨by omega, by rw [(hr_1 : r_1 = ABS p0)]; exact EUB_rf⟩  hl
set_option maxHeartbeats 4000000 in
set_option maxRecDepth 100000 in
theorem c_X12_spread9 (l : Launch) (D : va_G) (cy : Nat → ClassId) (a : Nat → Nat) (i : Nat → Int32) (r : Nat → Nat → Int32) (rl : Nat → Int64) (p0 p1 : Int32) (hRi : mRi i) (hRr : mRr r) : Met l yX12_spread (Cond.code yX12_spread cX12_spread 8 (some .int) :: gT) { frames := 3, cells := 0, slots := 0, locals := 68 } (va_Pc [.ref (a 0), .int p0, .int p1] (rP D cy (mW cy a i r rl))) (vp_Si (fun z => (¬ ((0 ≤ p0.toInt ∧ p0.toInt ≤ 5) ∧ (0 ≤ p1.toInt ∧ p1.toInt ≤ 3)) → z = -1000000) ∧ (((0 ≤ p0.toInt ∧ p0.toInt ≤ 5) ∧ (0 ≤ p1.toInt ∧ p1.toInt ≤ 3)) → SPZ (SPt r p0 (i 63).toNatClampNeg) (SPa r p0 (i 63).toNatClampNeg) (SPm r p0 (i 63).toNatClampNeg) p1 z))) 0 0 (fun _ => False) := by
  refine Met.ofQ (cc := cX12_spread) (maxL := 8) (ret := (some .int)) (by decide) rfl ?_
  intro p e s m args below meth c s₁ B hml hv Q hQ
  obtain ⟨rfl, hP, hK⟩ := hv
  have hx := B.exec
  have hb := B.bytes
  have hr := B.returns
  have hlocks := B.notSynchronized
  have hT : ∀ w ∈ gT, w.before _ s = true := fun w h => atoms_spec (ws := (Cond.code yX12_spread cX12_spread 8 (some .int) :: gT)) B.pre w (List.mem_cons_of_mem _ h)
  have hown : s.vm.findClass RX12 = some m.cls := findClass_of_methodNamed B.named
  have hl := lv_entry ([.ref (a 0), .int p0, .int p1]) (n := 8) (Nat.le_of_ble_eq_true rfl)
  rw [lg_entry_eq]
  generalize (lg_sl ([.ref (a 0), .int p0, .int p1]) ++ List.replicate (8 - (lg_sl ([.ref (a 0), .int p0, .int p1])).length) Slot.unset).toArray = ls at hl ⊢
  have hl : lv_has ls 8 [(0, .ref (a 0)), (1, .int p0), (2, .int p1)] := hl
  have hEi : mEi [23, 24, 25, 26, 27, 28, 29, 30, 60] i i := Ei_rf
  have hEr : mEr [21, 22, 23, 24, 25, 26, 32, 33, 34, 35, 36, 37, 38, 39, 48, 49, 57, 61, 62] r r := Er_rf
  have hg63 : 0 ≤ (i 63).toInt ∧ (i 63).toInt ≤ 40 := hRi 63
  refine lv_iload_n hx hb dX12_spread_0 rfl (lv_at hl 1 rfl) ?_
  refine vp_callSi (W.runS (As := [.int p0]) (rest := []) ⟨hx, hb, hml, hown, hT⟩ (c_X12_isJudge l p0) (va_cwS 1 hT (gS t_187 t_188 t_189 t_6) rfl rfl rfl (by decide +kernel) ⟨Nat.le_of_ble_eq_true rfl, Nat.le_of_ble_eq_true rfl⟩) preT rfl rfl hl.1 rfl (lv_room (Nat.le_of_ble_eq_true rfl)) dX12_spread_1 ⟨Nat.le_of_ble_eq_true rfl, Nat.le_of_ble_eq_true rfl⟩) (fun r_1 hr_1 => ?_)
  have hr_1 : BR r_1 (0 ≤ p0.toInt ∧ p0.toInt ≤ 5) 1 0 := hr_1
  rcases hr_1 with ⟨rfl, h_2⟩ | ⟨rfl, h_2⟩
  · skip
    refine lv_if_eq (tgt := 16) hx hb dX12_spread_4 (by decide) (fun c_3 => absurd c_3 (by decide)) (fun c_3 => ?_)
    refine lv_iload_n hx hb dX12_spread_7 rfl (lv_at hl 2 rfl) ?_
    refine lv_iconst (v := 0) hx hb dX12_spread_8 (by decide) ?_
    refine lv_iconst (v := 3) hx hb dX12_spread_9 (by decide) ?_
    refine vp_callSi (W.runS (As := [.int p1, .int 0, .int 3]) (rest := []) ⟨hx, hb, hml, hown, hT⟩ (c_X12_in l p1 0 3) (va_cwS 3 hT (gS t_113 t_114 t_115 t_6) rfl rfl rfl (by decide +kernel) ⟨Nat.le_of_ble_eq_true rfl, Nat.le_of_ble_eq_true rfl⟩) preT rfl rfl hl.1 rfl (lv_room (Nat.le_of_ble_eq_true rfl)) dX12_spread_10 ⟨Nat.le_of_ble_eq_true rfl, Nat.le_of_ble_eq_true rfl⟩) (fun r_4 hr_4 => ?_)
    have hr_4 : BR r_4 (0 ≤ p1.toInt ∧ p1.toInt ≤ 3) 1 0 := hr_4
    rcases hr_4 with ⟨rfl, h_5⟩ | ⟨rfl, h_5⟩
    · skip
      refine lv_if_ne (tgt := 20) hx hb dX12_spread_13 (by decide) (fun c_6 => ?_) (fun c_6 => absurd c_6 (by decide))
      refine lv_iconst (v := 0) hx hb dX12_spread_20 (by decide) ?_
      refine lv_istore_n (lv' := [(3, .int 0), (0, .ref (a 0)), (1, .int p0), (2, .int p1)]) hx hb dX12_spread_21 rfl hl (by decide) rfl (fun ls hl => ?_)
      refine lv_iconst (v := 0) hx hb dX12_spread_22 (by decide) ?_
      refine lv_istore (lv' := [(4, .int 0), (3, .int 0), (0, .ref (a 0)), (1, .int p0), (2, .int p1)]) hx hb dX12_spread_23 hl (by decide) rfl (fun ls hl => ?_)
      refine lv_iconst (v := 0) hx hb dX12_spread_25 (by decide) ?_
      refine lv_istore (lv' := [(5, .int 0), (4, .int 0), (3, .int 0), (0, .ref (a 0)), (1, .int p0), (2, .int p1)]) hx hb dX12_spread_26 hl (by decide) rfl (fun ls hl => ?_)
      refine lv_iconst (v := 0) hx hb dX12_spread_28 (by decide) ?_
      refine lv_istore (lv' := [(6, .int 0), (5, .int 0), (4, .int 0), (3, .int 0), (0, .ref (a 0)), (1, .int p0), (2, .int p1)]) hx hb dX12_spread_29 hl (by decide) rfl (fun ls hl => ?_)
      have loop_7 : ∀ (n : Nat) (x7_6 : Int32) (x7_5 : Int32) (x7_4 : Int32) (x7_3 : Int32) (ls : Array Slot), (40 - x7_6.toInt).toNat < n → (0 ≤ x7_6.toInt ∧ x7_6.toInt ≤ 40) → (0 ≤ x7_3.toInt ∧ x7_3.toInt ≤ 40) → ((x7_3.toInt ≤ x7_6.toInt ∧ x7_6.toInt ≤ (i 63).toInt) ∧ SPI r p0 x7_6 x7_3 x7_4 x7_5) → lv_has ls 8 [(6, .int x7_6), (5, .int x7_5), (4, .int x7_4), (3, .int x7_3), (0, .ref (a 0)), (1, .int p0), (2, .int p1)] → W p l e ({ frames := 3, cells := 0, slots := 0, locals := 68 } : Room) s m ([.ref (a 0), .int p0, .int p1] : List Value).toArray below meth c s.heap [] 0 0 Q (F0 m 31 ls []) := by
        intro n
        induction n with
        | zero =>
          intro x7_6 x7_5 x7_4 x7_3 ls hm7 hf7_0 hf7_1 hx7 hl
          exact absurd hm7 (by omega)
        | succ n ih7 =>
          intro x7_6 x7_5 x7_4 x7_3 ls hm7 hf7_0 hf7_1 hx7 hl
          refine lv_iload hx hb dX12_spread_31 (lv_at hl 0 rfl) ?_
          refine lv_aload_n hx hb dX12_spread_33 rfl (lv_at hl 4 rfl) ?_
          refine va_get (D := D) (ci := 12) (v := .int (i 63)) (C := RX12) (T := TX12) (N := 91) hx hb hT iX12 hown hK hP 0 rfl rfl 63 (by decide) (hT _ t_191) (fun _ h9 => h9) rfl dX12_spread_34 ?_
          have hg_8 : 0 ≤ (i 63).toInt ∧ (i 63).toInt ≤ 40 := hRi 63
          refine lv_icmp_ge (tgt := 138) hx hb dX12_spread_37 (by decide) (fun c_9 => ?_) (fun c_9 => ?_)
          · have c_9 : (i 63).toInt ≤ x7_6.toInt := b_le c_9
            refine lv_iload_n hx hb dX12_spread_138 rfl (lv_at hl 3 rfl) ?_
            refine lv_if_ne (tgt := 146) hx hb dX12_spread_139 (by decide) (fun c_10 => ?_) (fun c_10 => ?_)
            · have c_10 : x7_3.toInt ≠ 0 := b_ne c_10
              refine lv_iload_n hx hb dX12_spread_146 rfl (lv_at hl 6 rfl) ?_
              refine lv_iconst (v := 2) hx hb dX12_spread_147 (by decide) ?_
              refine lv_icmp_ge (tgt := 156) hx hb dX12_spread_148 (by decide) (fun c_11 => ?_) (fun c_11 => ?_)
              · have c_11 : 2 ≤ p1.toInt := b_le c_11
                refine lv_iload hx hb dX12_spread_156 (lv_at hl 1 rfl) ?_
                refine lv_istore (lv' := [(6, .int x7_5), (5, .int x7_5), (4, .int x7_4), (3, .int x7_3), (0, .ref (a 0)), (1, .int p0), (2, .int p1)]) hx hb dX12_spread_158 hl (by decide) rfl (fun ls hl => ?_)
                refine lv_iload hx hb dX12_spread_160 (lv_at hl 0 rfl) ?_
                refine lv_iload_n hx hb dX12_spread_162 rfl (lv_at hl 3 rfl) ?_
                refine vp_callSi (W.runS (As := [.int x7_5, .int x7_3]) (rest := []) ⟨hx, hb, hml, hown, hT⟩ (c_X12_gcd9 l x7_5 x7_3 (by omega)) (va_cwS 2 hT (gS t_248 t_249 t_250 t_6) rfl rfl rfl (by decide +kernel) ⟨Nat.le_of_ble_eq_true rfl, Nat.le_of_ble_eq_true rfl⟩) preT rfl rfl hl.1 rfl (lv_room (Nat.le_of_ble_eq_true rfl)) dX12_spread_163 ⟨Nat.le_of_ble_eq_true rfl, Nat.le_of_ble_eq_true rfl⟩) (fun r_12 hr_12 => ?_)
                refine lv_istore (lv' := [(7, .int r_12), (6, .int x7_5), (5, .int x7_5), (4, .int x7_4), (3, .int x7_3), (0, .ref (a 0)), (1, .int p0), (2, .int p1)]) hx hb dX12_spread_166 hl (by decide) rfl (fun ls hl => ?_)
                refine lv_iload_n hx hb dX12_spread_168 rfl (lv_at hl 7 rfl) ?_
                refine lv_iconst (v := 2) hx hb dX12_spread_169 (by decide) ?_
                refine lv_irem hx hb dX12_spread_170 (by decide) ?_
                refine lv_topi (fun v_13 ev_13 => ?_)
                have hmv_13 : v_13.toInt = p1.toInt % 2 := by rw [ev_13, rem_toInt]; exact Int.tmod_eq_emod_of_nonneg (by omega)
                refine lv_if_ne (tgt := 182) hx hb dX12_spread_171 (by decide) (fun c_14 => ?_) (fun c_14 => ?_)
                · have c_14 : v_13.toInt ≠ 0 := b_ne c_14
                  refine lv_iload_n hx hb dX12_spread_182 rfl (lv_at hl 4 rfl) ?_
                  refine lv_iload hx hb dX12_spread_183 (lv_at hl 0 rfl) ?_
                  refine lv_idiv hx hb dX12_spread_185 (nz (by omega)) ?_
                  refine lv_topi (fun v_15 ev_15 => ?_)
                  subst hQ
                  have hk9 : x7_6.toNatClampNeg = (i 63).toNatClampNeg := by show x7_6.toInt.toNat = (i 63).toInt.toNat; omega
                  have hsp := hx7.2
                  unfold SPI at hsp
                  rw [hk9] at hsp
                  obtain ⟨s1, s2, s3⟩ := hsp
                  have hg9 : EUC (ABS x7_5) x7_3 r_12 := hr_12.2
                  have hA : (if p1.toInt < 2 then x7_4 else x7_5) = x7_5 := if_neg (by omega)
                  have hB : (if p1.toInt % 2 = 0 then x7_5 else x7_3) = x7_3 := if_neg (by omega)
                  exact W.iret (v := v_15) hx hb hr (fun t ht hW => ⟨_, rfl, ⟨fun h9 => absurd (by omega) h9, fun _ => by rw [← s1, ← s2, ← s3]; exact ⟨fun h8 => absurd (by rw [h8]; rfl) (show ¬ x7_3.toInt = 0 by omega), fun _ => ⟨r_12, by rw [hA]; exact hg9, by rw [hA, hB]; exact ev_15⟩⟩⟩, ht⟩) (fun q hq => absurd hq List.not_mem_nil) dX12_spread_186
                · have c_14 : v_13.toInt = 0 := b_nne c_14
                  refine lv_iload hx hb dX12_spread_174 (lv_at hl 1 rfl) ?_
                  refine lv_iload hx hb dX12_spread_176 (lv_at hl 0 rfl) ?_
                  refine lv_idiv hx hb dX12_spread_178 (nz (by omega)) ?_
                  refine lv_topi (fun v_16 ev_16 => ?_)
                  refine lv_goto (tgt := 186) hx hb dX12_spread_179 (by decide) ?_
                  subst hQ
                  have hk9 : x7_6.toNatClampNeg = (i 63).toNatClampNeg := by show x7_6.toInt.toNat = (i 63).toInt.toNat; omega
                  have hsp := hx7.2
                  unfold SPI at hsp
                  rw [hk9] at hsp
                  obtain ⟨s1, s2, s3⟩ := hsp
                  have hg9 : EUC (ABS x7_5) x7_3 r_12 := hr_12.2
                  have hA : (if p1.toInt < 2 then x7_4 else x7_5) = x7_5 := if_neg (by omega)
                  have hB : (if p1.toInt % 2 = 0 then x7_5 else x7_3) = x7_5 := if_pos (by omega)
                  exact W.iret (v := v_16) hx hb hr (fun t ht hW => ⟨_, rfl, ⟨fun h9 => absurd (by omega) h9, fun _ => by rw [← s1, ← s2, ← s3]; exact ⟨fun h8 => absurd (by rw [h8]; rfl) (show ¬ x7_3.toInt = 0 by omega), fun _ => ⟨r_12, by rw [hA]; exact hg9, by rw [hA, hB]; exact ev_16⟩⟩⟩, ht⟩) (fun q hq => absurd hq List.not_mem_nil) dX12_spread_186
              · have c_11 : p1.toInt < 2 := b_nle c_11
                refine lv_iload hx hb dX12_spread_151 (lv_at hl 2 rfl) ?_
                refine lv_goto (tgt := 158) hx hb dX12_spread_153 (by decide) ?_
                refine lv_istore (lv' := [(6, .int x7_4), (5, .int x7_5), (4, .int x7_4), (3, .int x7_3), (0, .ref (a 0)), (1, .int p0), (2, .int p1)]) hx hb dX12_spread_158 hl (by decide) rfl (fun ls hl => ?_)
                refine lv_iload hx hb dX12_spread_160 (lv_at hl 0 rfl) ?_
                refine lv_iload_n hx hb dX12_spread_162 rfl (lv_at hl 3 rfl) ?_
                refine vp_callSi (W.runS (As := [.int x7_4, .int x7_3]) (rest := []) ⟨hx, hb, hml, hown, hT⟩ (c_X12_gcd9 l x7_4 x7_3 (by omega)) (va_cwS 2 hT (gS t_248 t_249 t_250 t_6) rfl rfl rfl (by decide +kernel) ⟨Nat.le_of_ble_eq_true rfl, Nat.le_of_ble_eq_true rfl⟩) preT rfl rfl hl.1 rfl (lv_room (Nat.le_of_ble_eq_true rfl)) dX12_spread_163 ⟨Nat.le_of_ble_eq_true rfl, Nat.le_of_ble_eq_true rfl⟩) (fun r_17 hr_17 => ?_)
                refine lv_istore (lv' := [(7, .int r_17), (6, .int x7_4), (5, .int x7_5), (4, .int x7_4), (3, .int x7_3), (0, .ref (a 0)), (1, .int p0), (2, .int p1)]) hx hb dX12_spread_166 hl (by decide) rfl (fun ls hl => ?_)
                refine lv_iload_n hx hb dX12_spread_168 rfl (lv_at hl 7 rfl) ?_
                refine lv_iconst (v := 2) hx hb dX12_spread_169 (by decide) ?_
                refine lv_irem hx hb dX12_spread_170 (by decide) ?_
                refine lv_topi (fun v_18 ev_18 => ?_)
                have hmv_18 : v_18.toInt = p1.toInt % 2 := by rw [ev_18, rem_toInt]; exact Int.tmod_eq_emod_of_nonneg (by omega)
                refine lv_if_ne (tgt := 182) hx hb dX12_spread_171 (by decide) (fun c_19 => ?_) (fun c_19 => ?_)
                · have c_19 : v_18.toInt ≠ 0 := b_ne c_19
                  refine lv_iload_n hx hb dX12_spread_182 rfl (lv_at hl 4 rfl) ?_
                  refine lv_iload hx hb dX12_spread_183 (lv_at hl 0 rfl) ?_
                  refine lv_idiv hx hb dX12_spread_185 (nz (by omega)) ?_
                  refine lv_topi (fun v_20 ev_20 => ?_)
                  subst hQ
                  have hk9 : x7_6.toNatClampNeg = (i 63).toNatClampNeg := by show x7_6.toInt.toNat = (i 63).toInt.toNat; omega
                  have hsp := hx7.2
                  unfold SPI at hsp
                  rw [hk9] at hsp
                  obtain ⟨s1, s2, s3⟩ := hsp
                  have hg9 : EUC (ABS x7_4) x7_3 r_17 := hr_17.2
                  have hA : (if p1.toInt < 2 then x7_4 else x7_5) = x7_4 := if_pos (by omega)
                  have hB : (if p1.toInt % 2 = 0 then x7_4 else x7_3) = x7_3 := if_neg (by omega)
                  exact W.iret (v := v_20) hx hb hr (fun t ht hW => ⟨_, rfl, ⟨fun h9 => absurd (by omega) h9, fun _ => by rw [← s1, ← s2, ← s3]; exact ⟨fun h8 => absurd (by rw [h8]; rfl) (show ¬ x7_3.toInt = 0 by omega), fun _ => ⟨r_17, by rw [hA]; exact hg9, by rw [hA, hB]; exact ev_20⟩⟩⟩, ht⟩) (fun q hq => absurd hq List.not_mem_nil) dX12_spread_186
                · have c_19 : v_18.toInt = 0 := b_nne c_19
                  refine lv_iload hx hb dX12_spread_174 (lv_at hl 1 rfl) ?_
                  refine lv_iload hx hb dX12_spread_176 (lv_at hl 0 rfl) ?_
                  refine lv_idiv hx hb dX12_spread_178 (nz (by omega)) ?_
                  refine lv_topi (fun v_21 ev_21 => ?_)
                  refine lv_goto (tgt := 186) hx hb dX12_spread_179 (by decide) ?_
                  subst hQ
                  have hk9 : x7_6.toNatClampNeg = (i 63).toNatClampNeg := by show x7_6.toInt.toNat = (i 63).toInt.toNat; omega
                  have hsp := hx7.2
                  unfold SPI at hsp
                  rw [hk9] at hsp
                  obtain ⟨s1, s2, s3⟩ := hsp
                  have hg9 : EUC (ABS x7_4) x7_3 r_17 := hr_17.2
                  have hA : (if p1.toInt < 2 then x7_4 else x7_5) = x7_4 := if_pos (by omega)
                  have hB : (if p1.toInt % 2 = 0 then x7_4 else x7_3) = x7_4 := if_pos (by omega)
                  exact W.iret (v := v_21) hx hb hr (fun t ht hW => ⟨_, rfl, ⟨fun h9 => absurd (by omega) h9, fun _ => by rw [← s1, ← s2, ← s3]; exact ⟨fun h8 => absurd (by rw [h8]; rfl) (show ¬ x7_3.toInt = 0 by omega), fun _ => ⟨r_17, by rw [hA]; exact hg9, by rw [hA, hB]; exact ev_21⟩⟩⟩, ht⟩) (fun q hq => absurd hq List.not_mem_nil) dX12_spread_186
            · have c_10 : x7_3.toInt = 0 := b_nne c_10
              refine lv_ldcw (v := (-1000000)) hx hb hown (hT _ t_251) dX12_spread_142 ?_
              subst hQ
              have hk9 : x7_6.toNatClampNeg = (i 63).toNatClampNeg := by show x7_6.toInt.toNat = (i 63).toInt.toNat; omega
              have hsp := hx7.2
              unfold SPI at hsp
              rw [hk9] at hsp
              obtain ⟨s1, s2, s3⟩ := hsp
              have hz0 : x7_3 = 0 := Int32.toInt_inj.mp (by have h8 : (0 : Int32).toInt = 0 := rfl; omega)
              exact W.iret (v := (-1000000)) hx hb hr (fun t ht hW => ⟨_, rfl, ⟨fun h9 => absurd (by omega) h9, fun _ => by rw [← s1, ← s2, ← s3]; exact ⟨fun _ => rfl, fun h8 => absurd hz0 h8⟩⟩, ht⟩) (fun q hq => absurd hq List.not_mem_nil) dX12_spread_145
          · have c_9 : x7_6.toInt < (i 63).toInt := b_nle c_9
            refine lv_aload_n hx hb dX12_spread_40 rfl (lv_at hl 4 rfl) ?_
            refine va_get (D := D) (ci := 12) (v := .ref (a 52)) (C := RX12) (T := TX12) (N := 91) hx hb hT iX12 hown hK hP 0 rfl rfl 66 (by decide) (hT _ t_192) (fun _ h9 => h9) rfl dX12_spread_41 ?_
            refine lv_iload hx hb dX12_spread_44 (lv_at hl 0 rfl) ?_
            refine va_iald hx hb hK hP 52 0 rfl rfl (vp_inI (by omega) (by omega)) dX12_spread_46 ?_
            refine lv_topi (fun v_22 ev_22 => ?_)
            have hgv_22 : 0 ≤ v_22.toInt ∧ v_22.toInt ≤ 5 := by rw [ev_22]; exact hRr 52 _
            have hwv_22 : v_22.toInt = (r 52 (x7_6.toNatClampNeg)).toInt := congrArg Int32.toInt ev_22
            refine lv_iload_n hx hb dX12_spread_47 rfl (lv_at hl 5 rfl) ?_
            refine lv_icmp_eq (tgt := 65) hx hb dX12_spread_48 (by decide) (fun c_23 => ?_) (fun c_23 => ?_)
            · have c_23 : v_22.toInt = p0.toInt := b_eq c_23
              refine lv_aload_n hx hb dX12_spread_65 rfl (lv_at hl 4 rfl) ?_
              refine va_get (D := D) (ci := 12) (v := .ref (a 52)) (C := RX12) (T := TX12) (N := 91) hx hb hT iX12 hown hK hP 0 rfl rfl 66 (by decide) (hT _ t_192) (fun _ h9 => h9) rfl dX12_spread_66 ?_
              refine lv_iload hx hb dX12_spread_69 (lv_at hl 0 rfl) ?_
              refine va_iald hx hb hK hP 52 0 rfl rfl (vp_inI (by omega) (by omega)) dX12_spread_71 ?_
              refine lv_topi (fun v_24 ev_24 => ?_)
              have hgv_24 : 0 ≤ v_24.toInt ∧ v_24.toInt ≤ 5 := by rw [ev_24]; exact hRr 52 _
              have hwv_24 : v_24.toInt = (r 52 (x7_6.toNatClampNeg)).toInt := congrArg Int32.toInt ev_24
              refine lv_iload_n hx hb dX12_spread_72 rfl (lv_at hl 5 rfl) ?_
              refine lv_icmp_ne (tgt := 94) hx hb dX12_spread_73 (by decide) (fun c_25 => ?_) (fun c_25 => ?_)
              · have c_25 : v_24.toInt ≠ p0.toInt := b_ne c_25
                refine lv_aload_n hx hb dX12_spread_94 rfl (lv_at hl 4 rfl) ?_
                refine va_get (D := D) (ci := 12) (v := .ref (a 55)) (C := RX12) (T := TX12) (N := 91) hx hb hT iX12 hown hK hP 0 rfl rfl 69 (by decide) (hT _ t_195) (fun _ h9 => h9) rfl dX12_spread_95 ?_
                refine lv_iload hx hb dX12_spread_98 (lv_at hl 0 rfl) ?_
                refine va_iald hx hb hK hP 55 0 rfl rfl (vp_inI (by omega) (by omega)) dX12_spread_100 ?_
                refine lv_topi (fun v_26 ev_26 => ?_)
                have hgv_26 : 0 ≤ v_26.toInt ∧ v_26.toInt ≤ 9999 := by rw [ev_26]; exact hRr 55 _
                refine lv_aload_n hx hb dX12_spread_101 rfl (lv_at hl 4 rfl) ?_
                refine va_get (D := D) (ci := 12) (v := .ref (a 54)) (C := RX12) (T := TX12) (N := 91) hx hb hT iX12 hown hK hP 0 rfl rfl 68 (by decide) (hT _ t_194) (fun _ h9 => h9) rfl dX12_spread_102 ?_
                refine lv_iload hx hb dX12_spread_105 (lv_at hl 0 rfl) ?_
                refine va_iald hx hb hK hP 54 0 rfl rfl (vp_inI (by omega) (by omega)) dX12_spread_107 ?_
                refine lv_topi (fun v_27 ev_27 => ?_)
                have hgv_27 : 0 ≤ v_27.toInt ∧ v_27.toInt ≤ 9999 := by rw [ev_27]; exact hRr 54 _
                refine lv_isub hx hb dX12_spread_108 ?_
                refine lv_topi (fun v_28 ev_28 => ?_)
                have hv_28 : v_28.toInt = v_26.toInt - v_27.toInt := by rw [ev_28]; have := b_rg v_26; have := b_rg v_27; exact i_sub (a := v_26.toInt) (b := v_27.toInt) rfl rfl (by omega) (by omega)
                refine lv_istore (lv' := [(7, .int v_28), (6, .int x7_6), (5, .int x7_5), (4, .int x7_4), (3, .int x7_3), (0, .ref (a 0)), (1, .int p0), (2, .int p1)]) hx hb dX12_spread_109 hl (by decide) rfl (fun ls hl => ?_)
                refine lv_iload_n hx hb dX12_spread_111 rfl (lv_at hl 4 rfl) ?_
                refine lv_iconst (v := 1) hx hb dX12_spread_112 (by decide) ?_
                refine lv_iadd hx hb dX12_spread_113 ?_
                refine lv_topi (fun v_29 ev_29 => ?_)
                have hv_29 : v_29.toInt = x7_3.toInt + 1 := by rw [ev_29]; have := b_rg x7_3; exact i_add (a := x7_3.toInt) (b := 1) rfl rfl (by omega) (by omega)
                refine lv_istore_n (lv' := [(3, .int v_29), (7, .int v_28), (6, .int x7_6), (5, .int x7_5), (4, .int x7_4), (0, .ref (a 0)), (1, .int p0), (2, .int p1)]) hx hb dX12_spread_114 rfl hl (by decide) rfl (fun ls hl => ?_)
                refine lv_iload hx hb dX12_spread_115 (lv_at hl 4 rfl) ?_
                refine lv_iload hx hb dX12_spread_117 (lv_at hl 1 rfl) ?_
                refine vp_callSi (W.runS (As := [.int v_28]) (rest := [.int x7_4]) ⟨hx, hb, hml, hown, hT⟩ (c_X12_size9 l v_28) (va_cwS 1 hT (gS t_220 t_221 t_222 t_6) rfl rfl rfl (by decide +kernel) ⟨Nat.le_of_ble_eq_true rfl, Nat.le_of_ble_eq_true rfl⟩) preT rfl rfl hl.1 rfl (lv_room (Nat.le_of_ble_eq_true rfl)) dX12_spread_119 ⟨Nat.le_of_ble_eq_true rfl, Nat.le_of_ble_eq_true rfl⟩) (fun r_30 hr_30 => ?_)
                refine lv_iadd hx hb dX12_spread_122 ?_
                refine lv_topi (fun v_31 ev_31 => ?_)
                refine lv_istore (lv' := [(4, .int v_31), (3, .int v_29), (7, .int v_28), (6, .int x7_6), (5, .int x7_5), (0, .ref (a 0)), (1, .int p0), (2, .int p1)]) hx hb dX12_spread_123 hl (by decide) rfl (fun ls hl => ?_)
                refine lv_iload hx hb dX12_spread_125 (lv_at hl 4 rfl) ?_
                refine lv_iload hx hb dX12_spread_127 (lv_at hl 2 rfl) ?_
                refine lv_iadd hx hb dX12_spread_129 ?_
                refine lv_topi (fun v_32 ev_32 => ?_)
                refine lv_istore (lv' := [(5, .int v_32), (4, .int v_31), (3, .int v_29), (7, .int v_28), (6, .int x7_6), (0, .ref (a 0)), (1, .int p0), (2, .int p1)]) hx hb dX12_spread_130 hl (by decide) rfl (fun ls hl => ?_)
                obtain ⟨x_33, ex_33⟩ : ∃ y : Int32, y = x7_6 + 1 := ⟨_, rfl⟩
                refine lv_iinc (v := x_33) (lv' := [(6, .int x_33), (5, .int v_32), (4, .int v_31), (3, .int v_29), (7, .int v_28), (0, .ref (a 0)), (1, .int p0), (2, .int p1)]) hx hb dX12_spread_132 hl (k := 4) rfl (by rw [ex_33]; rfl) (by decide) rfl (fun ls hl => ?_)
                have hx_33 : x_33.toInt = x7_6.toInt + 1 := by rw [ex_33]; have := b_rg x7_6; exact i_add (a := x7_6.toInt) (b := 1) rfl rfl (by omega) (by omega)
                refine lv_goto (tgt := 31) hx hb dX12_spread_135 (by decide) ?_
                have hb9 : v_28 = SPb r p0 x7_6.toNatClampNeg := by unfold SPb; rw [if_neg (by omega), ev_28, ev_26, ev_27]
                have hs9 : r_30 = ABS v_28 := hr_30
                exact ih7 x_33 v_32 v_31 v_29 _ (by first | omega | (simp only [Int.toNat]; omega)) (by first | omega | decide) (by first | omega | decide)  ⟨by omega, SPI_y hx7.2 (by omega) hx_33 (by omega) hb9 ev_29 (by rw [ev_31, hs9]) ev_32⟩  (lv_sub hl [0, 1, 2, 3, 5, 6, 7] rfl)
              · have c_25 : v_24.toInt = p0.toInt := b_nne c_25
                refine lv_aload_n hx hb dX12_spread_76 rfl (lv_at hl 4 rfl) ?_
                refine va_get (D := D) (ci := 12) (v := .ref (a 54)) (C := RX12) (T := TX12) (N := 91) hx hb hT iX12 hown hK hP 0 rfl rfl 68 (by decide) (hT _ t_194) (fun _ h9 => h9) rfl dX12_spread_77 ?_
                refine lv_iload hx hb dX12_spread_80 (lv_at hl 0 rfl) ?_
                refine va_iald hx hb hK hP 54 0 rfl rfl (vp_inI (by omega) (by omega)) dX12_spread_82 ?_
                refine lv_topi (fun v_34 ev_34 => ?_)
                have hgv_34 : 0 ≤ v_34.toInt ∧ v_34.toInt ≤ 9999 := by rw [ev_34]; exact hRr 54 _
                refine lv_aload_n hx hb dX12_spread_83 rfl (lv_at hl 4 rfl) ?_
                refine va_get (D := D) (ci := 12) (v := .ref (a 55)) (C := RX12) (T := TX12) (N := 91) hx hb hT iX12 hown hK hP 0 rfl rfl 69 (by decide) (hT _ t_195) (fun _ h9 => h9) rfl dX12_spread_84 ?_
                refine lv_iload hx hb dX12_spread_87 (lv_at hl 0 rfl) ?_
                refine va_iald hx hb hK hP 55 0 rfl rfl (vp_inI (by omega) (by omega)) dX12_spread_89 ?_
                refine lv_topi (fun v_35 ev_35 => ?_)
                have hgv_35 : 0 ≤ v_35.toInt ∧ v_35.toInt ≤ 9999 := by rw [ev_35]; exact hRr 55 _
                refine lv_isub hx hb dX12_spread_90 ?_
                refine lv_topi (fun v_36 ev_36 => ?_)
                have hv_36 : v_36.toInt = v_34.toInt - v_35.toInt := by rw [ev_36]; have := b_rg v_34; have := b_rg v_35; exact i_sub (a := v_34.toInt) (b := v_35.toInt) rfl rfl (by omega) (by omega)
                refine lv_goto (tgt := 109) hx hb dX12_spread_91 (by decide) ?_
                refine lv_istore (lv' := [(7, .int v_36), (6, .int x7_6), (5, .int x7_5), (4, .int x7_4), (3, .int x7_3), (0, .ref (a 0)), (1, .int p0), (2, .int p1)]) hx hb dX12_spread_109 hl (by decide) rfl (fun ls hl => ?_)
                refine lv_iload_n hx hb dX12_spread_111 rfl (lv_at hl 4 rfl) ?_
                refine lv_iconst (v := 1) hx hb dX12_spread_112 (by decide) ?_
                refine lv_iadd hx hb dX12_spread_113 ?_
                refine lv_topi (fun v_37 ev_37 => ?_)
                have hv_37 : v_37.toInt = x7_3.toInt + 1 := by rw [ev_37]; have := b_rg x7_3; exact i_add (a := x7_3.toInt) (b := 1) rfl rfl (by omega) (by omega)
                refine lv_istore_n (lv' := [(3, .int v_37), (7, .int v_36), (6, .int x7_6), (5, .int x7_5), (4, .int x7_4), (0, .ref (a 0)), (1, .int p0), (2, .int p1)]) hx hb dX12_spread_114 rfl hl (by decide) rfl (fun ls hl => ?_)
                refine lv_iload hx hb dX12_spread_115 (lv_at hl 4 rfl) ?_
                refine lv_iload hx hb dX12_spread_117 (lv_at hl 1 rfl) ?_
                refine vp_callSi (W.runS (As := [.int v_36]) (rest := [.int x7_4]) ⟨hx, hb, hml, hown, hT⟩ (c_X12_size9 l v_36) (va_cwS 1 hT (gS t_220 t_221 t_222 t_6) rfl rfl rfl (by decide +kernel) ⟨Nat.le_of_ble_eq_true rfl, Nat.le_of_ble_eq_true rfl⟩) preT rfl rfl hl.1 rfl (lv_room (Nat.le_of_ble_eq_true rfl)) dX12_spread_119 ⟨Nat.le_of_ble_eq_true rfl, Nat.le_of_ble_eq_true rfl⟩) (fun r_38 hr_38 => ?_)
                refine lv_iadd hx hb dX12_spread_122 ?_
                refine lv_topi (fun v_39 ev_39 => ?_)
                refine lv_istore (lv' := [(4, .int v_39), (3, .int v_37), (7, .int v_36), (6, .int x7_6), (5, .int x7_5), (0, .ref (a 0)), (1, .int p0), (2, .int p1)]) hx hb dX12_spread_123 hl (by decide) rfl (fun ls hl => ?_)
                refine lv_iload hx hb dX12_spread_125 (lv_at hl 4 rfl) ?_
                refine lv_iload hx hb dX12_spread_127 (lv_at hl 2 rfl) ?_
                refine lv_iadd hx hb dX12_spread_129 ?_
                refine lv_topi (fun v_40 ev_40 => ?_)
                refine lv_istore (lv' := [(5, .int v_40), (4, .int v_39), (3, .int v_37), (7, .int v_36), (6, .int x7_6), (0, .ref (a 0)), (1, .int p0), (2, .int p1)]) hx hb dX12_spread_130 hl (by decide) rfl (fun ls hl => ?_)
                obtain ⟨x_41, ex_41⟩ : ∃ y : Int32, y = x7_6 + 1 := ⟨_, rfl⟩
                refine lv_iinc (v := x_41) (lv' := [(6, .int x_41), (5, .int v_40), (4, .int v_39), (3, .int v_37), (7, .int v_36), (0, .ref (a 0)), (1, .int p0), (2, .int p1)]) hx hb dX12_spread_132 hl (k := 4) rfl (by rw [ex_41]; rfl) (by decide) rfl (fun ls hl => ?_)
                have hx_41 : x_41.toInt = x7_6.toInt + 1 := by rw [ex_41]; have := b_rg x7_6; exact i_add (a := x7_6.toInt) (b := 1) rfl rfl (by omega) (by omega)
                refine lv_goto (tgt := 31) hx hb dX12_spread_135 (by decide) ?_
                have hb9 : v_36 = SPb r p0 x7_6.toNatClampNeg := by unfold SPb; rw [if_pos (by omega), ev_36, ev_34, ev_35]
                have hs9 : r_38 = ABS v_36 := hr_38
                exact ih7 x_41 v_40 v_39 v_37 _ (by first | omega | (simp only [Int.toNat]; omega)) (by first | omega | decide) (by first | omega | decide)  ⟨by omega, SPI_y hx7.2 (by omega) hx_41 (by omega) hb9 ev_37 (by rw [ev_39, hs9]) ev_40⟩  (lv_sub hl [0, 1, 2, 3, 5, 6, 7] rfl)
            · have c_23 : v_22.toInt ≠ p0.toInt := b_ne c_23
              refine lv_aload_n hx hb dX12_spread_51 rfl (lv_at hl 4 rfl) ?_
              refine va_get (D := D) (ci := 12) (v := .ref (a 53)) (C := RX12) (T := TX12) (N := 91) hx hb hT iX12 hown hK hP 0 rfl rfl 67 (by decide) (hT _ t_193) (fun _ h9 => h9) rfl dX12_spread_52 ?_
              refine lv_iload hx hb dX12_spread_55 (lv_at hl 0 rfl) ?_
              refine va_iald hx hb hK hP 53 0 rfl rfl (vp_inI (by omega) (by omega)) dX12_spread_57 ?_
              refine lv_topi (fun v_42 ev_42 => ?_)
              have hgv_42 : 0 ≤ v_42.toInt ∧ v_42.toInt ≤ 5 := by rw [ev_42]; exact hRr 53 _
              have hwv_42 : v_42.toInt = (r 53 (x7_6.toNatClampNeg)).toInt := congrArg Int32.toInt ev_42
              refine lv_iload_n hx hb dX12_spread_58 rfl (lv_at hl 5 rfl) ?_
              refine lv_icmp_eq (tgt := 65) hx hb dX12_spread_59 (by decide) (fun c_43 => ?_) (fun c_43 => ?_)
              · have c_43 : v_42.toInt = p0.toInt := b_eq c_43
                refine lv_aload_n hx hb dX12_spread_65 rfl (lv_at hl 4 rfl) ?_
                refine va_get (D := D) (ci := 12) (v := .ref (a 52)) (C := RX12) (T := TX12) (N := 91) hx hb hT iX12 hown hK hP 0 rfl rfl 66 (by decide) (hT _ t_192) (fun _ h9 => h9) rfl dX12_spread_66 ?_
                refine lv_iload hx hb dX12_spread_69 (lv_at hl 0 rfl) ?_
                refine va_iald hx hb hK hP 52 0 rfl rfl (vp_inI (by omega) (by omega)) dX12_spread_71 ?_
                refine lv_topi (fun v_44 ev_44 => ?_)
                have hgv_44 : 0 ≤ v_44.toInt ∧ v_44.toInt ≤ 5 := by rw [ev_44]; exact hRr 52 _
                have hwv_44 : v_44.toInt = (r 52 (x7_6.toNatClampNeg)).toInt := congrArg Int32.toInt ev_44
                refine lv_iload_n hx hb dX12_spread_72 rfl (lv_at hl 5 rfl) ?_
                refine lv_icmp_ne (tgt := 94) hx hb dX12_spread_73 (by decide) (fun c_45 => ?_) (fun c_45 => ?_)
                · have c_45 : v_44.toInt ≠ p0.toInt := b_ne c_45
                  refine lv_aload_n hx hb dX12_spread_94 rfl (lv_at hl 4 rfl) ?_
                  refine va_get (D := D) (ci := 12) (v := .ref (a 55)) (C := RX12) (T := TX12) (N := 91) hx hb hT iX12 hown hK hP 0 rfl rfl 69 (by decide) (hT _ t_195) (fun _ h9 => h9) rfl dX12_spread_95 ?_
                  refine lv_iload hx hb dX12_spread_98 (lv_at hl 0 rfl) ?_
                  refine va_iald hx hb hK hP 55 0 rfl rfl (vp_inI (by omega) (by omega)) dX12_spread_100 ?_
                  refine lv_topi (fun v_46 ev_46 => ?_)
                  have hgv_46 : 0 ≤ v_46.toInt ∧ v_46.toInt ≤ 9999 := by rw [ev_46]; exact hRr 55 _
                  refine lv_aload_n hx hb dX12_spread_101 rfl (lv_at hl 4 rfl) ?_
                  refine va_get (D := D) (ci := 12) (v := .ref (a 54)) (C := RX12) (T := TX12) (N := 91) hx hb hT iX12 hown hK hP 0 rfl rfl 68 (by decide) (hT _ t_194) (fun _ h9 => h9) rfl dX12_spread_102 ?_
                  refine lv_iload hx hb dX12_spread_105 (lv_at hl 0 rfl) ?_
                  refine va_iald hx hb hK hP 54 0 rfl rfl (vp_inI (by omega) (by omega)) dX12_spread_107 ?_
                  refine lv_topi (fun v_47 ev_47 => ?_)
                  have hgv_47 : 0 ≤ v_47.toInt ∧ v_47.toInt ≤ 9999 := by rw [ev_47]; exact hRr 54 _
                  refine lv_isub hx hb dX12_spread_108 ?_
                  refine lv_topi (fun v_48 ev_48 => ?_)
                  have hv_48 : v_48.toInt = v_46.toInt - v_47.toInt := by rw [ev_48]; have := b_rg v_46; have := b_rg v_47; exact i_sub (a := v_46.toInt) (b := v_47.toInt) rfl rfl (by omega) (by omega)
                  refine lv_istore (lv' := [(7, .int v_48), (6, .int x7_6), (5, .int x7_5), (4, .int x7_4), (3, .int x7_3), (0, .ref (a 0)), (1, .int p0), (2, .int p1)]) hx hb dX12_spread_109 hl (by decide) rfl (fun ls hl => ?_)
                  refine lv_iload_n hx hb dX12_spread_111 rfl (lv_at hl 4 rfl) ?_
                  refine lv_iconst (v := 1) hx hb dX12_spread_112 (by decide) ?_
                  refine lv_iadd hx hb dX12_spread_113 ?_
                  refine lv_topi (fun v_49 ev_49 => ?_)
                  have hv_49 : v_49.toInt = x7_3.toInt + 1 := by rw [ev_49]; have := b_rg x7_3; exact i_add (a := x7_3.toInt) (b := 1) rfl rfl (by omega) (by omega)
                  refine lv_istore_n (lv' := [(3, .int v_49), (7, .int v_48), (6, .int x7_6), (5, .int x7_5), (4, .int x7_4), (0, .ref (a 0)), (1, .int p0), (2, .int p1)]) hx hb dX12_spread_114 rfl hl (by decide) rfl (fun ls hl => ?_)
                  refine lv_iload hx hb dX12_spread_115 (lv_at hl 4 rfl) ?_
                  refine lv_iload hx hb dX12_spread_117 (lv_at hl 1 rfl) ?_
                  refine vp_callSi (W.runS (As := [.int v_48]) (rest := [.int x7_4]) ⟨hx, hb, hml, hown, hT⟩ (c_X12_size9 l v_48) (va_cwS 1 hT (gS t_220 t_221 t_222 t_6) rfl rfl rfl (by decide +kernel) ⟨Nat.le_of_ble_eq_true rfl, Nat.le_of_ble_eq_true rfl⟩) preT rfl rfl hl.1 rfl (lv_room (Nat.le_of_ble_eq_true rfl)) dX12_spread_119 ⟨Nat.le_of_ble_eq_true rfl, Nat.le_of_ble_eq_true rfl⟩) (fun r_50 hr_50 => ?_)
                  refine lv_iadd hx hb dX12_spread_122 ?_
                  refine lv_topi (fun v_51 ev_51 => ?_)
                  refine lv_istore (lv' := [(4, .int v_51), (3, .int v_49), (7, .int v_48), (6, .int x7_6), (5, .int x7_5), (0, .ref (a 0)), (1, .int p0), (2, .int p1)]) hx hb dX12_spread_123 hl (by decide) rfl (fun ls hl => ?_)
                  refine lv_iload hx hb dX12_spread_125 (lv_at hl 4 rfl) ?_
                  refine lv_iload hx hb dX12_spread_127 (lv_at hl 2 rfl) ?_
                  refine lv_iadd hx hb dX12_spread_129 ?_
                  refine lv_topi (fun v_52 ev_52 => ?_)
                  refine lv_istore (lv' := [(5, .int v_52), (4, .int v_51), (3, .int v_49), (7, .int v_48), (6, .int x7_6), (0, .ref (a 0)), (1, .int p0), (2, .int p1)]) hx hb dX12_spread_130 hl (by decide) rfl (fun ls hl => ?_)
                  obtain ⟨x_53, ex_53⟩ : ∃ y : Int32, y = x7_6 + 1 := ⟨_, rfl⟩
                  refine lv_iinc (v := x_53) (lv' := [(6, .int x_53), (5, .int v_52), (4, .int v_51), (3, .int v_49), (7, .int v_48), (0, .ref (a 0)), (1, .int p0), (2, .int p1)]) hx hb dX12_spread_132 hl (k := 4) rfl (by rw [ex_53]; rfl) (by decide) rfl (fun ls hl => ?_)
                  have hx_53 : x_53.toInt = x7_6.toInt + 1 := by rw [ex_53]; have := b_rg x7_6; exact i_add (a := x7_6.toInt) (b := 1) rfl rfl (by omega) (by omega)
                  refine lv_goto (tgt := 31) hx hb dX12_spread_135 (by decide) ?_
                  have hb9 : v_48 = SPb r p0 x7_6.toNatClampNeg := by unfold SPb; rw [if_neg (by omega), ev_48, ev_46, ev_47]
                  have hs9 : r_50 = ABS v_48 := hr_50
                  exact ih7 x_53 v_52 v_51 v_49 _ (by first | omega | (simp only [Int.toNat]; omega)) (by first | omega | decide) (by first | omega | decide)  ⟨by omega, SPI_y hx7.2 (by omega) hx_53 (by omega) hb9 ev_49 (by rw [ev_51, hs9]) ev_52⟩  (lv_sub hl [0, 1, 2, 3, 5, 6, 7] rfl)
                · have c_45 : v_44.toInt = p0.toInt := b_nne c_45
                  refine lv_aload_n hx hb dX12_spread_76 rfl (lv_at hl 4 rfl) ?_
                  refine va_get (D := D) (ci := 12) (v := .ref (a 54)) (C := RX12) (T := TX12) (N := 91) hx hb hT iX12 hown hK hP 0 rfl rfl 68 (by decide) (hT _ t_194) (fun _ h9 => h9) rfl dX12_spread_77 ?_
                  refine lv_iload hx hb dX12_spread_80 (lv_at hl 0 rfl) ?_
                  refine va_iald hx hb hK hP 54 0 rfl rfl (vp_inI (by omega) (by omega)) dX12_spread_82 ?_
                  refine lv_topi (fun v_54 ev_54 => ?_)
                  have hgv_54 : 0 ≤ v_54.toInt ∧ v_54.toInt ≤ 9999 := by rw [ev_54]; exact hRr 54 _
                  refine lv_aload_n hx hb dX12_spread_83 rfl (lv_at hl 4 rfl) ?_
                  refine va_get (D := D) (ci := 12) (v := .ref (a 55)) (C := RX12) (T := TX12) (N := 91) hx hb hT iX12 hown hK hP 0 rfl rfl 69 (by decide) (hT _ t_195) (fun _ h9 => h9) rfl dX12_spread_84 ?_
                  refine lv_iload hx hb dX12_spread_87 (lv_at hl 0 rfl) ?_
                  refine va_iald hx hb hK hP 55 0 rfl rfl (vp_inI (by omega) (by omega)) dX12_spread_89 ?_
                  refine lv_topi (fun v_55 ev_55 => ?_)
                  have hgv_55 : 0 ≤ v_55.toInt ∧ v_55.toInt ≤ 9999 := by rw [ev_55]; exact hRr 55 _
                  refine lv_isub hx hb dX12_spread_90 ?_
                  refine lv_topi (fun v_56 ev_56 => ?_)
                  have hv_56 : v_56.toInt = v_54.toInt - v_55.toInt := by rw [ev_56]; have := b_rg v_54; have := b_rg v_55; exact i_sub (a := v_54.toInt) (b := v_55.toInt) rfl rfl (by omega) (by omega)
                  refine lv_goto (tgt := 109) hx hb dX12_spread_91 (by decide) ?_
                  refine lv_istore (lv' := [(7, .int v_56), (6, .int x7_6), (5, .int x7_5), (4, .int x7_4), (3, .int x7_3), (0, .ref (a 0)), (1, .int p0), (2, .int p1)]) hx hb dX12_spread_109 hl (by decide) rfl (fun ls hl => ?_)
                  refine lv_iload_n hx hb dX12_spread_111 rfl (lv_at hl 4 rfl) ?_
                  refine lv_iconst (v := 1) hx hb dX12_spread_112 (by decide) ?_
                  refine lv_iadd hx hb dX12_spread_113 ?_
                  refine lv_topi (fun v_57 ev_57 => ?_)
                  have hv_57 : v_57.toInt = x7_3.toInt + 1 := by rw [ev_57]; have := b_rg x7_3; exact i_add (a := x7_3.toInt) (b := 1) rfl rfl (by omega) (by omega)
                  refine lv_istore_n (lv' := [(3, .int v_57), (7, .int v_56), (6, .int x7_6), (5, .int x7_5), (4, .int x7_4), (0, .ref (a 0)), (1, .int p0), (2, .int p1)]) hx hb dX12_spread_114 rfl hl (by decide) rfl (fun ls hl => ?_)
                  refine lv_iload hx hb dX12_spread_115 (lv_at hl 4 rfl) ?_
                  refine lv_iload hx hb dX12_spread_117 (lv_at hl 1 rfl) ?_
                  refine vp_callSi (W.runS (As := [.int v_56]) (rest := [.int x7_4]) ⟨hx, hb, hml, hown, hT⟩ (c_X12_size9 l v_56) (va_cwS 1 hT (gS t_220 t_221 t_222 t_6) rfl rfl rfl (by decide +kernel) ⟨Nat.le_of_ble_eq_true rfl, Nat.le_of_ble_eq_true rfl⟩) preT rfl rfl hl.1 rfl (lv_room (Nat.le_of_ble_eq_true rfl)) dX12_spread_119 ⟨Nat.le_of_ble_eq_true rfl, Nat.le_of_ble_eq_true rfl⟩) (fun r_58 hr_58 => ?_)
                  refine lv_iadd hx hb dX12_spread_122 ?_
                  refine lv_topi (fun v_59 ev_59 => ?_)
                  refine lv_istore (lv' := [(4, .int v_59), (3, .int v_57), (7, .int v_56), (6, .int x7_6), (5, .int x7_5), (0, .ref (a 0)), (1, .int p0), (2, .int p1)]) hx hb dX12_spread_123 hl (by decide) rfl (fun ls hl => ?_)
                  refine lv_iload hx hb dX12_spread_125 (lv_at hl 4 rfl) ?_
                  refine lv_iload hx hb dX12_spread_127 (lv_at hl 2 rfl) ?_
                  refine lv_iadd hx hb dX12_spread_129 ?_
                  refine lv_topi (fun v_60 ev_60 => ?_)
                  refine lv_istore (lv' := [(5, .int v_60), (4, .int v_59), (3, .int v_57), (7, .int v_56), (6, .int x7_6), (0, .ref (a 0)), (1, .int p0), (2, .int p1)]) hx hb dX12_spread_130 hl (by decide) rfl (fun ls hl => ?_)
                  obtain ⟨x_61, ex_61⟩ : ∃ y : Int32, y = x7_6 + 1 := ⟨_, rfl⟩
                  refine lv_iinc (v := x_61) (lv' := [(6, .int x_61), (5, .int v_60), (4, .int v_59), (3, .int v_57), (7, .int v_56), (0, .ref (a 0)), (1, .int p0), (2, .int p1)]) hx hb dX12_spread_132 hl (k := 4) rfl (by rw [ex_61]; rfl) (by decide) rfl (fun ls hl => ?_)
                  have hx_61 : x_61.toInt = x7_6.toInt + 1 := by rw [ex_61]; have := b_rg x7_6; exact i_add (a := x7_6.toInt) (b := 1) rfl rfl (by omega) (by omega)
                  refine lv_goto (tgt := 31) hx hb dX12_spread_135 (by decide) ?_
                  have hb9 : v_56 = SPb r p0 x7_6.toNatClampNeg := by unfold SPb; rw [if_pos (by omega), ev_56, ev_54, ev_55]
                  have hs9 : r_58 = ABS v_56 := hr_58
                  exact ih7 x_61 v_60 v_59 v_57 _ (by first | omega | (simp only [Int.toNat]; omega)) (by first | omega | decide) (by first | omega | decide)  ⟨by omega, SPI_y hx7.2 (by omega) hx_61 (by omega) hb9 ev_57 (by rw [ev_59, hs9]) ev_60⟩  (lv_sub hl [0, 1, 2, 3, 5, 6, 7] rfl)
              · have c_43 : v_42.toInt ≠ p0.toInt := b_ne c_43
                refine lv_goto (tgt := 132) hx hb dX12_spread_62 (by decide) ?_
                obtain ⟨x_62, ex_62⟩ : ∃ y : Int32, y = x7_6 + 1 := ⟨_, rfl⟩
                refine lv_iinc (v := x_62) (lv' := [(6, .int x_62), (5, .int x7_5), (4, .int x7_4), (3, .int x7_3), (0, .ref (a 0)), (1, .int p0), (2, .int p1)]) hx hb dX12_spread_132 hl (k := 0) rfl (by rw [ex_62]; rfl) (by decide) rfl (fun ls hl => ?_)
                have hx_62 : x_62.toInt = x7_6.toInt + 1 := by rw [ex_62]; have := b_rg x7_6; exact i_add (a := x7_6.toInt) (b := 1) rfl rfl (by omega) (by omega)
                refine lv_goto (tgt := 31) hx hb dX12_spread_135 (by decide) ?_
                exact ih7 x_62 x7_5 x7_4 x7_3 _ (by first | omega | (simp only [Int.toNat]; omega)) (by first | omega | decide) (by first | omega | decide)  ⟨by omega, SPI_n hx7.2 (by omega) hx_62 (by omega)⟩  (lv_sub hl [0, 1, 2, 3, 4, 5, 6] rfl)
      exact loop_7 _ 0 0 0 0 _ (Nat.lt_succ_self _) (by first | omega | decide) (by first | omega | decide)  ⟨by have h9 : (0 : Int32).toInt = 0 := rfl; omega, SPI_0⟩  hl
    · skip
      refine lv_if_ne (tgt := 20) hx hb dX12_spread_13 (by decide) (fun c_63 => absurd (by decide) c_63) (fun c_63 => ?_)
      refine lv_ldcw (v := (-1000000)) hx hb hown (hT _ t_251) dX12_spread_16 ?_
      subst hQ
      exact W.iret (v := (-1000000)) hx hb hr (fun t ht hW => ⟨_, rfl, ⟨fun _ => rfl, fun h9 => absurd h9 (by omega)⟩, ht⟩) (fun q hq => absurd hq List.not_mem_nil) dX12_spread_19
  · skip
    refine lv_if_eq (tgt := 16) hx hb dX12_spread_4 (by decide) (fun c_64 => ?_) (fun c_64 => absurd (by decide) c_64)
    refine lv_ldcw (v := (-1000000)) hx hb hown (hT _ t_251) dX12_spread_16 ?_
    subst hQ
    exact W.iret (v := (-1000000)) hx hb hr (fun t ht hW => ⟨_, rfl, ⟨fun _ => rfl, fun h9 => absurd h9 (by omega)⟩, ht⟩) (fun q hq => absurd hq List.not_mem_nil) dX12_spread_19
set_option maxHeartbeats 4000000 in
set_option maxRecDepth 100000 in
theorem c_X11_commonDivisor9 (l : Launch) (p0 p1 : Int32) : Met l yX11_commonDivisor (Cond.code yX11_commonDivisor cX11_commonDivisor 6 (some .int) :: gT) { frames := 1, cells := 0, slots := 0, locals := 24 } (va_Pc [.int p0, .int p1] (fun _ => True)) (vp_Si (fun z => p1.toInt.natAbs < 64 → EUC p0 p1 z)) 0 0 (fun _ => False) := by
  refine Met.ofQ (cc := cX11_commonDivisor) (maxL := 6) (ret := (some .int)) (by decide) rfl ?_
  intro p e s m args below meth c s₁ B hml hv Q hQ
  obtain ⟨rfl, -⟩ := hv
  have hx := B.exec
  have hb := B.bytes
  have hr := B.returns
  have hlocks := B.notSynchronized
  have hT : ∀ w ∈ gT, w.before _ s = true := fun w h => atoms_spec (ws := (Cond.code yX11_commonDivisor cX11_commonDivisor 6 (some .int) :: gT)) B.pre w (List.mem_cons_of_mem _ h)
  have hown : s.vm.findClass RX11 = some m.cls := findClass_of_methodNamed B.named
  have hl := lv_entry ([.int p0, .int p1]) (n := 6) (Nat.le_of_ble_eq_true rfl)
  rw [lg_entry_eq]
  generalize (lg_sl ([.int p0, .int p1]) ++ List.replicate (6 - (lg_sl ([.int p0, .int p1])).length) Slot.unset).toArray = ls at hl ⊢
  have hl : lv_has ls 6 [(0, .int p0), (1, .int p1)] := hl
  refine lv_iload_n hx hb dX11_commonDivisor_0 rfl (lv_at hl 0 rfl) ?_
  refine lv_istore_n (lv' := [(2, .int p0), (0, .int p0), (1, .int p1)]) hx hb dX11_commonDivisor_1 rfl hl (by decide) rfl (fun ls hl => ?_)
  refine lv_iload_n hx hb dX11_commonDivisor_2 rfl (lv_at hl 2 rfl) ?_
  refine lv_istore_n (lv' := [(3, .int p1), (2, .int p0), (0, .int p0), (1, .int p1)]) hx hb dX11_commonDivisor_3 rfl hl (by decide) rfl (fun ls hl => ?_)
  refine lv_iconst (v := 0) hx hb dX11_commonDivisor_4 (by decide) ?_
  refine lv_istore (lv' := [(4, .int 0), (3, .int p1), (2, .int p0), (0, .int p0), (1, .int p1)]) hx hb dX11_commonDivisor_5 hl (by decide) rfl (fun ls hl => ?_)
  have loop_1 : ∀ (n : Nat) (x1_4 : Int32) (x1_3 : Int32) (x1_2 : Int32) (ls : Array Slot), (64 - x1_4.toInt).toNat < n → (0 ≤ x1_4.toInt ∧ x1_4.toInt ≤ 64) → (EUB x1_2 x1_3 p0 p1 ∧ (x1_3.toInt.natAbs : Int) + x1_4.toInt ≤ (p1.toInt.natAbs : Int)) → lv_has ls 6 [(4, .int x1_4), (3, .int x1_3), (2, .int x1_2), (0, .int p0), (1, .int p1)] → W p l e ({ frames := 1, cells := 0, slots := 0, locals := 24 } : Room) s m ([.int p0, .int p1] : List Value).toArray below meth c s.heap [] 0 0 Q (F0 m 7 ls []) := by
    intro n
    induction n with
    | zero =>
      intro x1_4 x1_3 x1_2 ls hm1 hf1_0 hx1 hl
      exact absurd hm1 (by omega)
    | succ n ih1 =>
      intro x1_4 x1_3 x1_2 ls hm1 hf1_0 hx1 hl
      refine lv_iload hx hb dX11_commonDivisor_7 (lv_at hl 0 rfl) ?_
      refine lv_bipush (v := 64) hx hb dX11_commonDivisor_9 (by decide) ?_
      refine lv_icmp_ge (tgt := 34) hx hb dX11_commonDivisor_11 (by decide) (fun c_2 => ?_) (fun c_2 => ?_)
      · have c_2 : 64 ≤ x1_4.toInt := b_le c_2
        refine lv_iload_n hx hb dX11_commonDivisor_34 rfl (lv_at hl 2 rfl) ?_
        subst hQ
        exact W.iret (v := x1_2) hx hb hr (fun t ht hW => ⟨_, rfl, (fun h9 => by first | exact EUB_e hx1.1 (by omega) | (exfalso; omega)), ht⟩) (fun q hq => absurd hq List.not_mem_nil) dX11_commonDivisor_35
      · have c_2 : x1_4.toInt < 64 := b_nle c_2
        refine lv_iload_n hx hb dX11_commonDivisor_14 rfl (lv_at hl 1 rfl) ?_
        refine lv_if_eq (tgt := 34) hx hb dX11_commonDivisor_15 (by decide) (fun c_3 => ?_) (fun c_3 => ?_)
        · have c_3 : x1_3.toInt = 0 := b_eq c_3
          refine lv_iload_n hx hb dX11_commonDivisor_34 rfl (lv_at hl 2 rfl) ?_
          subst hQ
          exact W.iret (v := x1_2) hx hb hr (fun t ht hW => ⟨_, rfl, (fun h9 => by first | exact EUB_e hx1.1 (by omega) | (exfalso; omega)), ht⟩) (fun q hq => absurd hq List.not_mem_nil) dX11_commonDivisor_35
        · have c_3 : x1_3.toInt ≠ 0 := b_ne c_3
          refine lv_iload_n hx hb dX11_commonDivisor_18 rfl (lv_at hl 2 rfl) ?_
          refine lv_iload_n hx hb dX11_commonDivisor_19 rfl (lv_at hl 1 rfl) ?_
          refine lv_irem hx hb dX11_commonDivisor_20 (nz (by omega)) ?_
          refine lv_topi (fun v_4 ev_4 => ?_)
          refine lv_istore (lv' := [(5, .int v_4), (4, .int x1_4), (3, .int x1_3), (2, .int x1_2), (0, .int p0), (1, .int p1)]) hx hb dX11_commonDivisor_21 hl (by decide) rfl (fun ls hl => ?_)
          refine lv_iload_n hx hb dX11_commonDivisor_23 rfl (lv_at hl 2 rfl) ?_
          refine lv_istore_n (lv' := [(2, .int x1_3), (5, .int v_4), (4, .int x1_4), (3, .int x1_3), (0, .int p0), (1, .int p1)]) hx hb dX11_commonDivisor_24 rfl hl (by decide) rfl (fun ls hl => ?_)
          refine lv_iload hx hb dX11_commonDivisor_25 (lv_at hl 1 rfl) ?_
          refine lv_istore_n (lv' := [(3, .int v_4), (2, .int x1_3), (5, .int v_4), (4, .int x1_4), (0, .int p0), (1, .int p1)]) hx hb dX11_commonDivisor_27 rfl hl (by decide) rfl (fun ls hl => ?_)
          obtain ⟨x_5, ex_5⟩ : ∃ y : Int32, y = x1_4 + 1 := ⟨_, rfl⟩
          refine lv_iinc (v := x_5) (lv' := [(4, .int x_5), (3, .int v_4), (2, .int x1_3), (5, .int v_4), (0, .int p0), (1, .int p1)]) hx hb dX11_commonDivisor_28 hl (k := 3) rfl (by rw [ex_5]; rfl) (by decide) rfl (fun ls hl => ?_)
          have hx_5 : x_5.toInt = x1_4.toInt + 1 := by rw [ex_5]; have := b_rg x1_4; exact i_add (a := x1_4.toInt) (b := 1) rfl rfl (by omega) (by omega)
          refine lv_goto (tgt := 7) hx hb dX11_commonDivisor_31 (by decide) ?_
          have hlt : v_4.toInt.natAbs < x1_3.toInt.natAbs := by rw [ev_4, rem_toInt]; exact tm_lt _ _ (by omega)
          exact ih1 x_5 v_4 x1_3 _ (by first | omega | (simp only [Int.toNat]; omega)) (by first | omega | decide)  ⟨EUB_s hx1.1 (nz (by omega)) ev_4, by omega⟩  (lv_sub hl [0, 1, 2, 4, 5] rfl)
  exact loop_1 _ 0 p1 p0 _ (Nat.lt_succ_self _) (by first | omega | decide)  ⟨EUB_rf, by have h9 : (0 : Int32).toInt = 0 := rfl; omega⟩  hl
set_option maxHeartbeats 4000000 in
set_option maxRecDepth 100000 in
theorem c_X11_spread9 (l : Launch) (D : va_G) (cy : Nat → ClassId) (a : Nat → Nat) (i : Nat → Int32) (r : Nat → Nat → Int32) (q : Nat → Option Nat) (tl : va_W) (p0 p1 : Int32) (hRi : yRi i) (hRr : yRr r) : Met l yX11_spread (Cond.code yX11_spread cX11_spread 6 (some .int) :: gT) { frames := 2, cells := 0, slots := 0, locals := 49 } (va_Pc [.ref (a 0), .int p0, .int p1] (rP D cy (xW cy a i r q (a 20) (a 12) ++ tl))) (vp_Si (fun z => (¬ ((0 ≤ p0.toInt ∧ p0.toInt ≤ 5) ∧ (0 ≤ p1.toInt ∧ p1.toInt ≤ 3)) → z = -1000000) ∧ (((0 ≤ p0.toInt ∧ p0.toInt ≤ 5) ∧ (0 ≤ p1.toInt ∧ p1.toInt ≤ 3)) → (r 55 p0.toNatClampNeg).toInt.natAbs < 64 → SPZ (r 55 p0.toNatClampNeg) (r 56 p0.toNatClampNeg) (r 57 p0.toNatClampNeg) p1 z))) 0 0 (fun _ => False) := by
  refine Met.ofQ (cc := cX11_spread) (maxL := 6) (ret := (some .int)) (by decide) rfl ?_
  intro p e s m args below meth c s₁ B hml hv Q hQ
  obtain ⟨rfl, hP, hK⟩ := hv
  have hx := B.exec
  have hb := B.bytes
  have hr := B.returns
  have hlocks := B.notSynchronized
  have hT : ∀ w ∈ gT, w.before _ s = true := fun w h => atoms_spec (ws := (Cond.code yX11_spread cX11_spread 6 (some .int) :: gT)) B.pre w (List.mem_cons_of_mem _ h)
  have hown : s.vm.findClass RX11 = some m.cls := findClass_of_methodNamed B.named
  have hl := lv_entry ([.ref (a 0), .int p0, .int p1]) (n := 6) (Nat.le_of_ble_eq_true rfl)
  rw [lg_entry_eq]
  generalize (lg_sl ([.ref (a 0), .int p0, .int p1]) ++ List.replicate (6 - (lg_sl ([.ref (a 0), .int p0, .int p1])).length) Slot.unset).toArray = ls at hl ⊢
  have hl : lv_has ls 6 [(0, .ref (a 0)), (1, .int p0), (2, .int p1)] := hl
  have hEi : mEi [] i i := Ei_rf
  have hEr : mEr [] r r := Er_rf
  refine lv_iload_n hx hb dX11_spread_0 rfl (lv_at hl 1 rfl) ?_
  refine lv_iconst (v := 0) hx hb dX11_spread_1 (by decide) ?_
  refine lv_iconst (v := 5) hx hb dX11_spread_2 (by decide) ?_
  refine vp_callSi (W.runS (As := [.int p0, .int 0, .int 5]) (rest := []) ⟨hx, hb, hml, hown, hT⟩ (c_X11_within l p0 0 5) (va_cwS 3 hT (gS t_1 t_3 t_4 t_2) rfl rfl rfl (by decide +kernel) ⟨Nat.le_of_ble_eq_true rfl, Nat.le_of_ble_eq_true rfl⟩) preT rfl rfl hl.1 rfl (lv_room (Nat.le_of_ble_eq_true rfl)) dX11_spread_3 ⟨Nat.le_of_ble_eq_true rfl, Nat.le_of_ble_eq_true rfl⟩) (fun r_1 hr_1 => ?_)
  have hr_1 : BR r_1 (0 ≤ p0.toInt ∧ p0.toInt ≤ 5) 1 0 := hr_1
  rcases hr_1 with ⟨rfl, h_2⟩ | ⟨rfl, h_2⟩
  · skip
    refine lv_if_eq (tgt := 30) hx hb dX11_spread_6 (by decide) (fun c_3 => absurd c_3 (by decide)) (fun c_3 => ?_)
    refine lv_iload_n hx hb dX11_spread_9 rfl (lv_at hl 2 rfl) ?_
    refine lv_iconst (v := 0) hx hb dX11_spread_10 (by decide) ?_
    refine lv_iconst (v := 3) hx hb dX11_spread_11 (by decide) ?_
    refine vp_callSi (W.runS (As := [.int p1, .int 0, .int 3]) (rest := []) ⟨hx, hb, hml, hown, hT⟩ (c_X11_within l p1 0 3) (va_cwS 3 hT (gS t_1 t_3 t_4 t_2) rfl rfl rfl (by decide +kernel) ⟨Nat.le_of_ble_eq_true rfl, Nat.le_of_ble_eq_true rfl⟩) preT rfl rfl hl.1 rfl (lv_room (Nat.le_of_ble_eq_true rfl)) dX11_spread_12 ⟨Nat.le_of_ble_eq_true rfl, Nat.le_of_ble_eq_true rfl⟩) (fun r_4 hr_4 => ?_)
    have hr_4 : BR r_4 (0 ≤ p1.toInt ∧ p1.toInt ≤ 3) 1 0 := hr_4
    rcases hr_4 with ⟨rfl, h_5⟩ | ⟨rfl, h_5⟩
    · skip
      refine lv_if_eq (tgt := 30) hx hb dX11_spread_15 (by decide) (fun c_6 => absurd c_6 (by decide)) (fun c_6 => ?_)
      refine lv_aload_n hx hb dX11_spread_18 rfl (lv_at hl 0 rfl) ?_
      refine va_get (D := D) (ci := 11) (v := .ref (a 54)) (C := RX11) (T := TX11) (N := 14) hx hb hT iX11 hown hK hP 0 rfl rfl 12 (by decide) (hT _ t_292) (fun _ h9 => h9) rfl dX11_spread_19 ?_
      refine va_get (D := D) (ci := 2) (v := .ref (a 55)) (C := RX2) (T := TX2) (N := 4) hx hb hT iX2 hown hK hP 54 rfl rfl 1 (by decide) (hT _ t_326) (fun _ h9 => h9) rfl dX11_spread_22 ?_
      refine lv_iload_n hx hb dX11_spread_25 rfl (lv_at hl 1 rfl) ?_
      refine va_iald hx hb hK hP 55 0 rfl rfl (vp_inI (by omega) (by omega)) dX11_spread_26 ?_
      refine lv_topi (fun v_7 ev_7 => ?_)
      have hwv_7 : v_7.toInt = (r 55 (p0.toNatClampNeg)).toInt := congrArg Int32.toInt ev_7
      refine lv_if_ne (tgt := 34) hx hb dX11_spread_27 (by decide) (fun c_8 => ?_) (fun c_8 => ?_)
      · have c_8 : v_7.toInt ≠ 0 := b_ne c_8
        refine lv_iload_n hx hb dX11_spread_34 rfl (lv_at hl 2 rfl) ?_
        refine lv_iconst (v := 2) hx hb dX11_spread_35 (by decide) ?_
        refine lv_icmp_ge (tgt := 51) hx hb dX11_spread_36 (by decide) (fun c_9 => ?_) (fun c_9 => ?_)
        · have c_9 : 2 ≤ p1.toInt := b_le c_9
          refine lv_aload_n hx hb dX11_spread_51 rfl (lv_at hl 0 rfl) ?_
          refine va_get (D := D) (ci := 11) (v := .ref (a 54)) (C := RX11) (T := TX11) (N := 14) hx hb hT iX11 hown hK hP 0 rfl rfl 12 (by decide) (hT _ t_292) (fun _ h9 => h9) rfl dX11_spread_52 ?_
          refine va_get (D := D) (ci := 2) (v := .ref (a 57)) (C := RX2) (T := TX2) (N := 4) hx hb hT iX2 hown hK hP 54 rfl rfl 3 (by decide) (hT _ t_327) (fun _ h9 => h9) rfl dX11_spread_55 ?_
          refine lv_iload_n hx hb dX11_spread_58 rfl (lv_at hl 1 rfl) ?_
          refine va_iald hx hb hK hP 57 0 rfl rfl (vp_inI (by omega) (by omega)) dX11_spread_59 ?_
          refine lv_topi (fun v_10 ev_10 => ?_)
          refine lv_istore_n (lv' := [(3, .int v_10), (0, .ref (a 0)), (1, .int p0), (2, .int p1)]) hx hb dX11_spread_60 rfl hl (by decide) rfl (fun ls hl => ?_)
          refine lv_aload_n hx hb dX11_spread_61 rfl (lv_at hl 1 rfl) ?_
          refine va_get (D := D) (ci := 11) (v := .ref (a 54)) (C := RX11) (T := TX11) (N := 14) hx hb hT iX11 hown hK hP 0 rfl rfl 12 (by decide) (hT _ t_292) (fun _ h9 => h9) rfl dX11_spread_62 ?_
          refine va_get (D := D) (ci := 2) (v := .ref (a 55)) (C := RX2) (T := TX2) (N := 4) hx hb hT iX2 hown hK hP 54 rfl rfl 1 (by decide) (hT _ t_326) (fun _ h9 => h9) rfl dX11_spread_65 ?_
          refine lv_iload_n hx hb dX11_spread_68 rfl (lv_at hl 2 rfl) ?_
          refine va_iald hx hb hK hP 55 0 rfl rfl (vp_inI (by omega) (by omega)) dX11_spread_69 ?_
          refine lv_topi (fun v_11 ev_11 => ?_)
          have hwv_11 : v_11.toInt = (r 55 (p0.toNatClampNeg)).toInt := congrArg Int32.toInt ev_11
          refine lv_istore (lv' := [(4, .int v_11), (3, .int v_10), (0, .ref (a 0)), (1, .int p0), (2, .int p1)]) hx hb dX11_spread_70 hl (by decide) rfl (fun ls hl => ?_)
          refine lv_iload_n hx hb dX11_spread_72 rfl (lv_at hl 1 rfl) ?_
          refine va_mabs hx hb (by rw [hml]; exact hl.1.symm) hown (hT _ t_328) (hT _ t_288) (hT _ t_289) (hT _ t_290) (Nat.le_of_ble_eq_true rfl) (Nat.le_of_ble_eq_true rfl) (Nat.le_of_ble_eq_true rfl) (Nat.le_of_ble_eq_true rfl) dX11_spread_73 ?_
          refine lv_topi (fun v_12 ev_12 => ?_)
          refine lv_iload hx hb dX11_spread_76 (lv_at hl 0 rfl) ?_
          refine vp_callSi (W.runS (As := [.int v_12, .int v_11]) (rest := []) ⟨hx, hb, hml, hown, hT⟩ (c_X11_commonDivisor9 l v_12 v_11) (va_cwS 2 hT (gS t_329 t_330 t_331 t_2) rfl rfl rfl (by decide +kernel) ⟨Nat.le_of_ble_eq_true rfl, Nat.le_of_ble_eq_true rfl⟩) preT rfl rfl hl.1 rfl (lv_room (Nat.le_of_ble_eq_true rfl)) dX11_spread_78 ⟨Nat.le_of_ble_eq_true rfl, Nat.le_of_ble_eq_true rfl⟩) (fun r_13 hr_13 => ?_)
          refine lv_istore (lv' := [(5, .int r_13), (4, .int v_11), (3, .int v_10), (0, .ref (a 0)), (1, .int p0), (2, .int p1)]) hx hb dX11_spread_81 hl (by decide) rfl (fun ls hl => ?_)
          refine lv_iload hx hb dX11_spread_83 (lv_at hl 0 rfl) ?_
          refine lv_if_ne (tgt := 92) hx hb dX11_spread_85 (by decide) (fun c_14 => ?_) (fun c_14 => ?_)
          · have c_14 : r_13.toInt ≠ 0 := b_ne c_14
            refine lv_iload_n hx hb dX11_spread_92 rfl (lv_at hl 5 rfl) ?_
            refine lv_iconst (v := 2) hx hb dX11_spread_93 (by decide) ?_
            refine lv_irem hx hb dX11_spread_94 (by decide) ?_
            refine lv_topi (fun v_15 ev_15 => ?_)
            have hmv_15 : v_15.toInt = p1.toInt % 2 := by rw [ev_15, rem_toInt]; exact Int.tmod_eq_emod_of_nonneg (by omega)
            have hnv_15 : v_15.toInt = p1.toInt % 2 := by rw [ev_15, rem_toInt]; exact Int.tmod_eq_emod_of_nonneg (by omega)
            refine lv_if_ne (tgt := 102) hx hb dX11_spread_95 (by decide) (fun c_16 => ?_) (fun c_16 => ?_)
            · have c_16 : v_15.toInt ≠ 0 := b_ne c_16
              refine lv_iload hx hb dX11_spread_102 (lv_at hl 1 rfl) ?_
              refine lv_iload hx hb dX11_spread_104 (lv_at hl 0 rfl) ?_
              refine lv_idiv hx hb dX11_spread_106 (nz (by omega)) ?_
              refine lv_topi (fun v_17 ev_17 => ?_)
              subst hQ
              have hc9 : v_11.toInt.natAbs < 64 → EUC (ABS v_10) v_11 r_13 := by have h9 := hr_13; rw [ev_12] at h9; exact h9
              have hA : (if p1.toInt < 2 then r 56 p0.toNatClampNeg else r 57 p0.toNatClampNeg) = v_10 := (if_neg (by omega)).trans ev_10.symm
              have hB : (if p1.toInt % 2 = 0 then v_10 else v_11) = v_11 := if_neg (by omega)
              have ht9 : v_11 = r 55 p0.toNatClampNeg := ev_11
              exact W.iret (v := v_17) hx hb hr (fun t ht hW => ⟨_, rfl, ⟨fun h9 => absurd (by omega) h9, fun _ h8 => ⟨fun h7 => absurd (congrArg Int32.toInt h7) (show ¬ (r 55 p0.toNatClampNeg).toInt = (0 : Int32).toInt from fun h6 => by have h5 : (0 : Int32).toInt = 0 := rfl; omega), fun _ => ⟨r_13, by rw [hA, ← ht9]; exact hc9 (by omega), by rw [hA, ← ht9, hB]; exact ev_17⟩⟩⟩, ht⟩) (fun q hq => absurd hq List.not_mem_nil) dX11_spread_107
            · have c_16 : v_15.toInt = 0 := b_nne c_16
              refine lv_iload_n hx hb dX11_spread_98 rfl (lv_at hl 2 rfl) ?_
              refine lv_goto (tgt := 104) hx hb dX11_spread_99 (by decide) ?_
              refine lv_iload hx hb dX11_spread_104 (lv_at hl 0 rfl) ?_
              refine lv_idiv hx hb dX11_spread_106 (nz (by omega)) ?_
              refine lv_topi (fun v_18 ev_18 => ?_)
              subst hQ
              have hc9 : v_11.toInt.natAbs < 64 → EUC (ABS v_10) v_11 r_13 := by have h9 := hr_13; rw [ev_12] at h9; exact h9
              have hA : (if p1.toInt < 2 then r 56 p0.toNatClampNeg else r 57 p0.toNatClampNeg) = v_10 := (if_neg (by omega)).trans ev_10.symm
              have hB : (if p1.toInt % 2 = 0 then v_10 else v_11) = v_10 := if_pos (by omega)
              have ht9 : v_11 = r 55 p0.toNatClampNeg := ev_11
              exact W.iret (v := v_18) hx hb hr (fun t ht hW => ⟨_, rfl, ⟨fun h9 => absurd (by omega) h9, fun _ h8 => ⟨fun h7 => absurd (congrArg Int32.toInt h7) (show ¬ (r 55 p0.toNatClampNeg).toInt = (0 : Int32).toInt from fun h6 => by have h5 : (0 : Int32).toInt = 0 := rfl; omega), fun _ => ⟨r_13, by rw [hA, ← ht9]; exact hc9 (by omega), by rw [hA, ← ht9, hB]; exact ev_18⟩⟩⟩, ht⟩) (fun q hq => absurd hq List.not_mem_nil) dX11_spread_107
          · have c_14 : r_13.toInt = 0 := b_nne c_14
            refine lv_ldcw (v := (-1000000)) hx hb hown (hT _ t_322) dX11_spread_88 ?_
            subst hQ
            have hc9 : v_11.toInt.natAbs < 64 → EUC v_12 v_11 r_13 := hr_13
            exact W.iret (v := (-1000000)) hx hb hr (fun t ht hW => ⟨_, rfl, ⟨fun h9 => absurd (by omega) h9, fun _ h8 => absurd (by omega) (Exists.elim (hc9 (by omega)) (fun n9 e9 => EUC_ne n9 _ _ _ e9 (Or.inr (by omega))))⟩, ht⟩) (fun q hq => absurd hq List.not_mem_nil) dX11_spread_91
        · have c_9 : p1.toInt < 2 := b_nle c_9
          refine lv_aload_n hx hb dX11_spread_39 rfl (lv_at hl 0 rfl) ?_
          refine va_get (D := D) (ci := 11) (v := .ref (a 54)) (C := RX11) (T := TX11) (N := 14) hx hb hT iX11 hown hK hP 0 rfl rfl 12 (by decide) (hT _ t_292) (fun _ h9 => h9) rfl dX11_spread_40 ?_
          refine va_get (D := D) (ci := 2) (v := .ref (a 56)) (C := RX2) (T := TX2) (N := 4) hx hb hT iX2 hown hK hP 54 rfl rfl 2 (by decide) (hT _ t_332) (fun _ h9 => h9) rfl dX11_spread_43 ?_
          refine lv_iload_n hx hb dX11_spread_46 rfl (lv_at hl 1 rfl) ?_
          refine va_iald hx hb hK hP 56 0 rfl rfl (vp_inI (by omega) (by omega)) dX11_spread_47 ?_
          refine lv_topi (fun v_19 ev_19 => ?_)
          refine lv_goto (tgt := 60) hx hb dX11_spread_48 (by decide) ?_
          refine lv_istore_n (lv' := [(3, .int v_19), (0, .ref (a 0)), (1, .int p0), (2, .int p1)]) hx hb dX11_spread_60 rfl hl (by decide) rfl (fun ls hl => ?_)
          refine lv_aload_n hx hb dX11_spread_61 rfl (lv_at hl 1 rfl) ?_
          refine va_get (D := D) (ci := 11) (v := .ref (a 54)) (C := RX11) (T := TX11) (N := 14) hx hb hT iX11 hown hK hP 0 rfl rfl 12 (by decide) (hT _ t_292) (fun _ h9 => h9) rfl dX11_spread_62 ?_
          refine va_get (D := D) (ci := 2) (v := .ref (a 55)) (C := RX2) (T := TX2) (N := 4) hx hb hT iX2 hown hK hP 54 rfl rfl 1 (by decide) (hT _ t_326) (fun _ h9 => h9) rfl dX11_spread_65 ?_
          refine lv_iload_n hx hb dX11_spread_68 rfl (lv_at hl 2 rfl) ?_
          refine va_iald hx hb hK hP 55 0 rfl rfl (vp_inI (by omega) (by omega)) dX11_spread_69 ?_
          refine lv_topi (fun v_20 ev_20 => ?_)
          have hwv_20 : v_20.toInt = (r 55 (p0.toNatClampNeg)).toInt := congrArg Int32.toInt ev_20
          refine lv_istore (lv' := [(4, .int v_20), (3, .int v_19), (0, .ref (a 0)), (1, .int p0), (2, .int p1)]) hx hb dX11_spread_70 hl (by decide) rfl (fun ls hl => ?_)
          refine lv_iload_n hx hb dX11_spread_72 rfl (lv_at hl 1 rfl) ?_
          refine va_mabs hx hb (by rw [hml]; exact hl.1.symm) hown (hT _ t_328) (hT _ t_288) (hT _ t_289) (hT _ t_290) (Nat.le_of_ble_eq_true rfl) (Nat.le_of_ble_eq_true rfl) (Nat.le_of_ble_eq_true rfl) (Nat.le_of_ble_eq_true rfl) dX11_spread_73 ?_
          refine lv_topi (fun v_21 ev_21 => ?_)
          refine lv_iload hx hb dX11_spread_76 (lv_at hl 0 rfl) ?_
          refine vp_callSi (W.runS (As := [.int v_21, .int v_20]) (rest := []) ⟨hx, hb, hml, hown, hT⟩ (c_X11_commonDivisor9 l v_21 v_20) (va_cwS 2 hT (gS t_329 t_330 t_331 t_2) rfl rfl rfl (by decide +kernel) ⟨Nat.le_of_ble_eq_true rfl, Nat.le_of_ble_eq_true rfl⟩) preT rfl rfl hl.1 rfl (lv_room (Nat.le_of_ble_eq_true rfl)) dX11_spread_78 ⟨Nat.le_of_ble_eq_true rfl, Nat.le_of_ble_eq_true rfl⟩) (fun r_22 hr_22 => ?_)
          refine lv_istore (lv' := [(5, .int r_22), (4, .int v_20), (3, .int v_19), (0, .ref (a 0)), (1, .int p0), (2, .int p1)]) hx hb dX11_spread_81 hl (by decide) rfl (fun ls hl => ?_)
          refine lv_iload hx hb dX11_spread_83 (lv_at hl 0 rfl) ?_
          refine lv_if_ne (tgt := 92) hx hb dX11_spread_85 (by decide) (fun c_23 => ?_) (fun c_23 => ?_)
          · have c_23 : r_22.toInt ≠ 0 := b_ne c_23
            refine lv_iload_n hx hb dX11_spread_92 rfl (lv_at hl 5 rfl) ?_
            refine lv_iconst (v := 2) hx hb dX11_spread_93 (by decide) ?_
            refine lv_irem hx hb dX11_spread_94 (by decide) ?_
            refine lv_topi (fun v_24 ev_24 => ?_)
            have hmv_24 : v_24.toInt = p1.toInt % 2 := by rw [ev_24, rem_toInt]; exact Int.tmod_eq_emod_of_nonneg (by omega)
            have hnv_24 : v_24.toInt = p1.toInt % 2 := by rw [ev_24, rem_toInt]; exact Int.tmod_eq_emod_of_nonneg (by omega)
            refine lv_if_ne (tgt := 102) hx hb dX11_spread_95 (by decide) (fun c_25 => ?_) (fun c_25 => ?_)
            · have c_25 : v_24.toInt ≠ 0 := b_ne c_25
              refine lv_iload hx hb dX11_spread_102 (lv_at hl 1 rfl) ?_
              refine lv_iload hx hb dX11_spread_104 (lv_at hl 0 rfl) ?_
              refine lv_idiv hx hb dX11_spread_106 (nz (by omega)) ?_
              refine lv_topi (fun v_26 ev_26 => ?_)
              subst hQ
              have hc9 : v_20.toInt.natAbs < 64 → EUC (ABS v_19) v_20 r_22 := by have h9 := hr_22; rw [ev_21] at h9; exact h9
              have hA : (if p1.toInt < 2 then r 56 p0.toNatClampNeg else r 57 p0.toNatClampNeg) = v_19 := (if_pos (by omega)).trans ev_19.symm
              have hB : (if p1.toInt % 2 = 0 then v_19 else v_20) = v_20 := if_neg (by omega)
              have ht9 : v_20 = r 55 p0.toNatClampNeg := ev_20
              exact W.iret (v := v_26) hx hb hr (fun t ht hW => ⟨_, rfl, ⟨fun h9 => absurd (by omega) h9, fun _ h8 => ⟨fun h7 => absurd (congrArg Int32.toInt h7) (show ¬ (r 55 p0.toNatClampNeg).toInt = (0 : Int32).toInt from fun h6 => by have h5 : (0 : Int32).toInt = 0 := rfl; omega), fun _ => ⟨r_22, by rw [hA, ← ht9]; exact hc9 (by omega), by rw [hA, ← ht9, hB]; exact ev_26⟩⟩⟩, ht⟩) (fun q hq => absurd hq List.not_mem_nil) dX11_spread_107
            · have c_25 : v_24.toInt = 0 := b_nne c_25
              refine lv_iload_n hx hb dX11_spread_98 rfl (lv_at hl 2 rfl) ?_
              refine lv_goto (tgt := 104) hx hb dX11_spread_99 (by decide) ?_
              refine lv_iload hx hb dX11_spread_104 (lv_at hl 0 rfl) ?_
              refine lv_idiv hx hb dX11_spread_106 (nz (by omega)) ?_
              refine lv_topi (fun v_27 ev_27 => ?_)
              subst hQ
              have hc9 : v_20.toInt.natAbs < 64 → EUC (ABS v_19) v_20 r_22 := by have h9 := hr_22; rw [ev_21] at h9; exact h9
              have hA : (if p1.toInt < 2 then r 56 p0.toNatClampNeg else r 57 p0.toNatClampNeg) = v_19 := (if_pos (by omega)).trans ev_19.symm
              have hB : (if p1.toInt % 2 = 0 then v_19 else v_20) = v_19 := if_pos (by omega)
              have ht9 : v_20 = r 55 p0.toNatClampNeg := ev_20
              exact W.iret (v := v_27) hx hb hr (fun t ht hW => ⟨_, rfl, ⟨fun h9 => absurd (by omega) h9, fun _ h8 => ⟨fun h7 => absurd (congrArg Int32.toInt h7) (show ¬ (r 55 p0.toNatClampNeg).toInt = (0 : Int32).toInt from fun h6 => by have h5 : (0 : Int32).toInt = 0 := rfl; omega), fun _ => ⟨r_22, by rw [hA, ← ht9]; exact hc9 (by omega), by rw [hA, ← ht9, hB]; exact ev_27⟩⟩⟩, ht⟩) (fun q hq => absurd hq List.not_mem_nil) dX11_spread_107
          · have c_23 : r_22.toInt = 0 := b_nne c_23
            refine lv_ldcw (v := (-1000000)) hx hb hown (hT _ t_322) dX11_spread_88 ?_
            subst hQ
            have hc9 : v_20.toInt.natAbs < 64 → EUC v_21 v_20 r_22 := hr_22
            exact W.iret (v := (-1000000)) hx hb hr (fun t ht hW => ⟨_, rfl, ⟨fun h9 => absurd (by omega) h9, fun _ h8 => absurd (by omega) (Exists.elim (hc9 (by omega)) (fun n9 e9 => EUC_ne n9 _ _ _ e9 (Or.inr (by omega))))⟩, ht⟩) (fun q hq => absurd hq List.not_mem_nil) dX11_spread_91
      · have c_8 : v_7.toInt = 0 := b_nne c_8
        refine lv_ldcw (v := (-1000000)) hx hb hown (hT _ t_322) dX11_spread_30 ?_
        subst hQ
        have hz0 : r 55 p0.toNatClampNeg = 0 := Int32.toInt_inj.mp (by have h8 : (0 : Int32).toInt = 0 := rfl; omega)
        exact W.iret (v := (-1000000)) hx hb hr (fun t ht hW => ⟨_, rfl, ⟨fun h9 => absurd (by omega) h9, fun _ _ => ⟨fun _ => rfl, fun h8 => absurd hz0 h8⟩⟩, ht⟩) (fun q hq => absurd hq List.not_mem_nil) dX11_spread_33
    · skip
      refine lv_if_eq (tgt := 30) hx hb dX11_spread_15 (by decide) (fun c_28 => ?_) (fun c_28 => absurd (by decide) c_28)
      refine lv_ldcw (v := (-1000000)) hx hb hown (hT _ t_322) dX11_spread_30 ?_
      subst hQ
      exact W.iret (v := (-1000000)) hx hb hr (fun t ht hW => ⟨_, rfl, ⟨fun _ => rfl, fun h9 => absurd h9 (by omega)⟩, ht⟩) (fun q hq => absurd hq List.not_mem_nil) dX11_spread_33
  · skip
    refine lv_if_eq (tgt := 30) hx hb dX11_spread_6 (by decide) (fun c_29 => ?_) (fun c_29 => absurd (by decide) c_29)
    refine lv_ldcw (v := (-1000000)) hx hb hown (hT _ t_322) dX11_spread_30 ?_
    subst hQ
    exact W.iret (v := (-1000000)) hx hb hr (fun t ht hW => ⟨_, rfl, ⟨fun _ => rfl, fun h9 => absurd h9 (by omega)⟩, ht⟩) (fun q hq => absurd hq List.not_mem_nil) dX11_spread_33
