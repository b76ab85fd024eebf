-- a law as it is: its steps (0), its clauses' letters (1), amounts from (2), tests from (3), to (4); how many
abbrev lwT := (Nat → Nat → Int32) × Nat
def lwM (d : lwT) (fa : Nat → Int32) (lt : Int32) (q : Nat) : Bool := decide ((d.1 1 q).toInt = lt.toInt ∧ rv (d.1 0) fa (d.1 3 q).toInt.toNat (d.1 4 q).toInt.toNat = 1)
def clp (hi v : Int32) : Int32 := if v.toInt < 0 then 0 else if hi.toInt < v.toInt then hi else v
def lwF (M : Nat → Bool) (V : Nat → Int32) (no : Int32) : Nat → Nat → Int32
  | 0, _ => no
  | f + 1, q => if M q = true then V q else lwF M V no f (q + 1)
def byL (d : lwT) (fa : Nat → Int32) (lt hi no : Int32) : Int32 := lwF (lwM d fa lt) (fun q => clp hi (rv (d.1 0) fa (d.1 2 q).toInt.toNat (d.1 3 q).toInt.toNat)) no d.2 0
def anB (d : lwT) (fa : Nat → Int32) : Int32 := lwF (lwM d fa 98) (fun _ => 1) 0 d.2 0
def mD (i : Nat → Int32) (r : Nat → Nat → Int32) : lwT := (fun k => if k = 0 then r 27 else if k = 1 then r 28 else if k = 2 then r 29 else if k = 3 then r 30 else r 31, (i 31).toInt.toNat)
theorem mD_E {T : List Nat} {i I : Nat → Int32} {r R : Nat → Nat → Int32} (e : I 31 = i 31) (h : mEr T r R) (hT : ∀ p ∈ ([27, 28, 29, 30, 31] : List Nat), p ∉ T) : mD I R = mD i r := by
  unfold mD
  rw [e, h 27 (hT _ (by decide)), h 28 (hT _ (by decide)), h 29 (hT _ (by decide)), h 30 (hT _ (by decide)), h 31 (hT _ (by decide))]
theorem clp_0 {hi v : Int32} (h : v.toInt < 0) : clp hi v = 0 := if_pos h
theorem clp_h {hi v : Int32} (h : ¬ v.toInt < 0) (h2 : hi.toInt < v.toInt) : clp hi v = hi := by unfold clp; rw [if_neg h, if_pos h2]
theorem clp_v {hi v : Int32} (h : ¬ v.toInt < 0) (h2 : ¬ hi.toInt < v.toInt) : clp hi v = v := by unfold clp; rw [if_neg h, if_neg h2]
theorem lwF_sk {M : Nat → Bool} {V : Nat → Int32} {no : Int32} : ∀ (q f : Nat), (∀ k, k < q → M k = false) → lwF M V no (q + f) 0 = lwF M V no f q := by
  intro q
  induction q with
  | zero => intro f _; rw [Nat.zero_add]
  | succ q ih =>
    intro f h
    have h1 := ih (f + 1) (fun k hk => h k (by omega))
    rw [show q + 1 + f = q + (f + 1) by omega, h1]
    show (if M q = true then V q else lwF M V no f (q + 1)) = _
    rw [if_neg (by rw [h q (by omega)]; exact Bool.false_ne_true)]
theorem lwF_hit {M : Nat → Bool} {V : Nat → Int32} {no : Int32} {q N : Nat} (h : ∀ k, k < q → M k = false) (hq : q < N) (hM : M q = true) : lwF M V no N 0 = V q := by
  have h1 := lwF_sk (V := V) (no := no) q (N - q) h
  rw [show q + (N - q) = N by omega] at h1
  rw [h1, show N - q = (N - q - 1) + 1 by omega]
  exact if_pos hM
theorem lwF_no {M : Nat → Bool} {V : Nat → Int32} {no : Int32} {q N : Nat} (h : ∀ k, k < q → M k = false) (hq : N ≤ q) : lwF M V no N 0 = no := by
  have h1 := lwF_sk (V := V) (no := no) N 0 (fun k hk => h k (by omega))
  rw [Nat.add_zero] at h1
  exact h1
theorem lwM_t {d : lwT} {fa : Nat → Int32} {lt : Int32} {q : Nat} (h1 : (d.1 1 q).toInt = lt.toInt) (h2 : rv (d.1 0) fa (d.1 3 q).toInt.toNat (d.1 4 q).toInt.toNat = 1) : lwM d fa lt q = true := decide_eq_true ⟨h1, h2⟩
theorem lwM_f1 {d : lwT} {fa : Nat → Int32} {lt : Int32} {q : Nat} (h1 : (d.1 1 q).toInt ≠ lt.toInt) : lwM d fa lt q = false := decide_eq_false (fun h => h1 h.1)
theorem lwM_f2 {d : lwT} {fa : Nat → Int32} {lt : Int32} {q : Nat} (h2 : rv (d.1 0) fa (d.1 3 q).toInt.toNat (d.1 4 q).toInt.toNat ≠ 1) : lwM d fa lt q = false := decide_eq_false (fun h => h2 h.2)
theorem lwN_0 {M : Nat → Bool} : ∀ k, k < 0 → M k = false := fun k hk => absurd hk (Nat.not_lt_zero k)
theorem lwN_s {M : Nat → Bool} {q q2 : Nat} (h : ∀ k, k < q → M k = false) (e : q2 = q + 1) (hq : M q = false) : ∀ k, k < q2 → M k = false := by
  intro k hk
  by_cases h9 : k = q
  · rw [h9]; exact hq
  · exact h k (by omega)
-- a run looks at ten letters alone
theorem rv_co {c fa fb : Nat → Int32} {f t : Nat} (h : segOK c f t) (hA : rA c f t) (e : ∀ k, k < 10 → fa k = fb k) : rv c fa f t = rv c fb f t := by
  obtain ⟨hft, ht, g, ⟨g0, g1⟩, hs⟩ := h
  have hS : ∀ (k : Nat) (l : List Int32), f ≤ k → rStep c fa t (k, l) = rStep c fb t (k, l) := by
    intro k l hk
    by_cases h9 : t ≤ k
    · rw [rT_end (S := (k, l)) h9, rT_end (S := (k, l)) h9]
    · by_cases h1 : cOp (c k) = 1
      · rw [rT_1 (show k < t by omega) h1, rT_1 (show k < t by omega) h1]
        obtain ⟨s0, s1, s2, s3⟩ := hs k hk (by omega)
        have hv : cV (c k) < 10 := by
          rcases s3 with ⟨o1, _⟩ | ⟨_, o2, _⟩ | ⟨o1, _⟩ | ⟨o1, _⟩ | ⟨_, o1, _⟩
          · omega
          · exact o2
          · omega
          · omega
          · exact absurd h1 o1
        have hv0 : 0 ≤ cV (c k) := by unfold cV; omega
        rw [e (cV (c k)).toNat (by omega)]
      · unfold rStep
        rw [if_neg h9, if_neg h9]
        by_cases h0 : cOp (c k) = 0
        · rw [if_pos h0, if_pos h0]
        · rw [if_neg h0, if_neg h0, if_neg h1, if_neg h1]
  have key : ∀ (j : Nat) (S : rC), rIn c g f t S → rIt c fa t j S = rIt c fb t j S := by
    intro j
    induction j with
    | zero => intro S _; rfl
    | succ j ih =>
      intro S hS2
      obtain ⟨k, l⟩ := S
      have hk : f ≤ k := hS2.1
      show rIt c fa t j (rStep c fa t (k, l)) = rIt c fb t j (rStep c fb t (k, l))
      rw [← hS k l hk]
      by_cases h9 : t ≤ k
      · rw [rT_end (S := (k, l)) h9]; exact ih _ hS2
      · exact ih _ (rIn_s (fa := fa) g0 g1 hs hA hS2 (by omega)).1
  unfold rv
  rw [key 256 (f, []) (rIn_0 g0 (by omega))]
def gLw (d : lwT) : Prop := ∀ q, q < d.2 → segOK (d.1 0) (d.1 3 q).toInt.toNat (d.1 4 q).toInt.toNat ∧ ((d.1 1 q).toInt ≠ 98 → segOK (d.1 0) (d.1 2 q).toInt.toNat (d.1 3 q).toInt.toNat) ∧ rA (d.1 0) (d.1 2 q).toInt.toNat (d.1 3 q).toInt.toNat ∧ rA (d.1 0) (d.1 3 q).toInt.toNat (d.1 4 q).toInt.toNat ∧ qLs (d.1 0) (d.1 4 q).toInt.toNat
theorem mE_gl {i : Nat → Int32} {r : Nat → Nat → Int32} (h : mE i r) : gLw (mD i r) := fun q hq => h.2.2.2.2 q (by have h9 : q < (i 31).toInt.toNat := hq; omega)
theorem gLw_01 {d : lwT} (h : gLw d) {q : Nat} (hq : q < d.2) {fa : Nat → Int32} : rv (d.1 0) fa (d.1 3 q).toInt.toNat (d.1 4 q).toInt.toNat = 0 ∨ rv (d.1 0) fa (d.1 3 q).toInt.toNat (d.1 4 q).toInt.toNat = 1 := by
  obtain ⟨⟨a1, a2, g, ⟨g0, g1⟩, gs⟩, _, _, a4, a5⟩ := h q hq
  exact rv_b01 (g := g) ⟨g0, g1, gs, a4, a1, a2⟩ a5.2
theorem lwF_co {M M2 : Nat → Bool} {V V2 : Nat → Int32} {no : Int32} : ∀ (f q : Nat), (∀ k, q ≤ k → k < q + f → M k = M2 k ∧ (M k = true → V k = V2 k)) → lwF M V no f q = lwF M2 V2 no f q := by
  intro f
  induction f with
  | zero => intro q _; rfl
  | succ f ih =>
    intro q h
    obtain ⟨h1, h2⟩ := h q (Nat.le_refl q) (by omega)
    show (if M q = true then V q else lwF M V no f (q + 1)) = (if M2 q = true then V2 q else lwF M2 V2 no f (q + 1))
    rw [← h1, ih (q + 1) (fun k k1 k2 => h k (by omega) (by omega))]
    by_cases e : M q = true
    · rw [if_pos e, if_pos e, h2 e]
    · rw [if_neg e, if_neg e]
theorem lwM_co {d : lwT} {fa fb : Nat → Int32} {lt : Int32} {q : Nat} (h : gLw d) (hq : q < d.2) (e : ∀ k, k < 10 → fa k = fb k) : lwM d fa lt q = lwM d fb lt q := by
  obtain ⟨a1, _, _, a4, _⟩ := h q hq
  unfold lwM
  rw [rv_co a1 a4 e]
theorem byL_co {d : lwT} {fa fb : Nat → Int32} {lt hi no : Int32} (h : gLw d) (hl : lt.toInt ≠ 98) (e : ∀ k, k < 10 → fa k = fb k) : byL d fa lt hi no = byL d fb lt hi no := by
  refine lwF_co _ _ (fun k _ k2 => ⟨lwM_co h (by omega) e, fun hM => ?_⟩)
  obtain ⟨_, a2, a3, _, _⟩ := h k (by omega)
  have hM2 := of_decide_eq_true hM
  have a5 := a2 (by rw [hM2.1]; exact hl)
  show clp hi (rv (d.1 0) fa _ _) = clp hi (rv (d.1 0) fb _ _)
  rw [rv_co a5 a3 e]
theorem anB_co {d : lwT} {fa fb : Nat → Int32} (h : gLw d) (e : ∀ k, k < 10 → fa k = fb k) : anB d fa = anB d fb := lwF_co _ _ (fun k _ k2 => ⟨lwM_co h (by omega) e, fun _ => rfl⟩)
theorem lwF_r {M : Nat → Bool} {V : Nat → Int32} {no : Int32} {Pp : Int32 → Prop} (h0 : Pp no) (hV : ∀ k, Pp (V k)) : ∀ f q : Nat, Pp (lwF M V no f q) := by
  intro f
  induction f with
  | zero => intro q; exact h0
  | succ f ih =>
    intro q
    show Pp (if M q = true then V q else lwF M V no f (q + 1))
    by_cases e : M q = true
    · rw [if_pos e]; exact hV q
    · rw [if_neg e]; exact ih (q + 1)
theorem clp_r {hi v : Int32} (h : 0 ≤ hi.toInt) : 0 ≤ (clp hi v).toInt ∧ (clp hi v).toInt ≤ hi.toInt := by
  have h0 : (0 : Int32).toInt = 0 := rfl
  unfold clp
  by_cases e : v.toInt < 0
  · rw [if_pos e]; omega
  · rw [if_neg e]
    by_cases e2 : hi.toInt < v.toInt
    · rw [if_pos e2]; omega
    · rw [if_neg e2]; omega
theorem byL_r {d : lwT} {fa : Nat → Int32} {lt hi no : Int32} (h : 0 ≤ hi.toInt) (h1 : 0 ≤ no.toInt ∧ no.toInt ≤ hi.toInt) : 0 ≤ (byL d fa lt hi no).toInt ∧ (byL d fa lt hi no).toInt ≤ hi.toInt := lwF_r (Pp := fun x => 0 ≤ x.toInt ∧ x.toInt ≤ hi.toInt) h1 (fun _ => clp_r h) _ _
theorem anB_01 {d : lwT} {fa : Nat → Int32} : anB d fa = 0 ∨ anB d fa = 1 := lwF_r (Pp := fun x => x = 0 ∨ x = 1) (Or.inl rfl) (fun _ => Or.inr rfl) _ _
-- what a thing is: kind, room, state, state at last, aged, months, tenants, region, cause, evidence
def faL (l : List Int32) (k : Nat) : Int32 := l.getD k 0
theorem fa10 {f : Nat → Int32} {x0 x1 x2 x3 x4 x5 x6 x7 x8 x9 : Int32} (h0 : f 0 = x0) (h1 : f 1 = x1) (h2 : f 2 = x2) (h3 : f 3 = x3) (h4 : f 4 = x4) (h5 : f 5 = x5) (h6 : f 6 = x6) (h7 : f 7 = x7) (h8 : f 8 = x8) (h9 : f 9 = x9) : ∀ k, k < 10 → f k = faL [x0, x1, x2, x3, x4, x5, x6, x7, x8, x9] k := by
  intro k hk
  rcases (show k = 0 ∨ k = 1 ∨ k = 2 ∨ k = 3 ∨ k = 4 ∨ k = 5 ∨ k = 6 ∨ k = 7 ∨ k = 8 ∨ k = 9 by omega) with rfl | rfl | rfl | rfl | rfl | rfl | rfl | rfl | rfl | rfl
  · exact h0
  · exact h1
  · exact h2
  · exact h3
  · exact h4
  · exact h5
  · exact h6
  · exact h7
  · exact h8
  · exact h9
theorem mon_eq {z t f : Int32} (h : z.toInt = t.toInt - f.toInt) (h1 : 0 ≤ t.toInt ∧ t.toInt ≤ 999) (h2 : 0 ≤ f.toInt ∧ f.toInt ≤ 999) : z = t - f := Int32.toInt_inj.mp (by rw [i_sub (x := t) (y := f) rfl rfl (by omega) (by omega)]; exact h)
theorem nI_eqi {z : Int32} {x : Int} (h : z.toInt = x) (h0 : 0 ≤ x) : z = nI x.toNat := nI_i (by omega)
set_option maxHeartbeats 4000000 in
set_option maxRecDepth 100000 in
theorem c_X12_reckon9 (l : Launch) (p0 p1 p2 : Int32) (q : p0.toInt = 5 ∨ p0.toInt = 6 → p2.toInt ≠ 0) : Met l yX12_reckon (Cond.code yX12_reckon cX12_reckon 3 (some .int) :: gT) { frames := 1, cells := 0, slots := 0, locals := 24 } (va_Pc [.int p0, .int p1, .int p2] (fun _ => True)) (vp_Si (fun z => z = rK p0.toInt p1 p2)) 0 0 (fun _ => False) := by
  refine Met.ofQ (cc := cX12_reckon) (maxL := 3) (ret := (some .int)) (by decide) rfl ?_
  intro p e s m args below meth c s₁ B hml hv Q hQ
  obtain ⟨rfl, -⟩ := hv
  have hx := B.exec
  have hb := B.bytes
  have hr := B.returns
  have hlocks := B.notSynchronized
  have hT : ∀ w ∈ gT, w.before _ s = true := fun w h => atoms_spec (ws := (Cond.code yX12_reckon cX12_reckon 3 (some .int) :: gT)) B.pre w (List.mem_cons_of_mem _ h)
  have hown : s.vm.findClass RX12 = some m.cls := findClass_of_methodNamed B.named
  have hl := lv_entry ([.int p0, .int p1, .int p2]) (n := 3) (Nat.le_of_ble_eq_true rfl)
  rw [lg_entry_eq]
  generalize (lg_sl ([.int p0, .int p1, .int p2]) ++ List.replicate (3 - (lg_sl ([.int p0, .int p1, .int p2])).length) Slot.unset).toArray = ls at hl ⊢
  have hl : lv_has ls 3 [(0, .int p0), (1, .int p1), (2, .int p2)] := hl
  refine lv_iload_n hx hb dX12_reckon_0 rfl (lv_at hl 0 rfl) ?_
  rcases (show (p0.toInt < 2 ∨ 8 < p0.toInt) ∨ p0.toInt = 2 ∨ p0.toInt = 3 ∨ p0.toInt = 4 ∨ p0.toInt = 5 ∨ p0.toInt = 6 ∨ p0.toInt = 7 ∨ p0.toInt = 8 by omega) with h_1 | h_1 | h_1 | h_1 | h_1 | h_1 | h_1 | h_1
  · refine lv_tableOut (tgt := 86) hx hb dX12_reckon_1 h_1 (by decide) ?_
    refine lv_iload_n hx hb dX12_reckon_86 rfl (lv_at hl 1 rfl) ?_
    refine lv_iload_n hx hb dX12_reckon_87 rfl (lv_at hl 2 rfl) ?_
    refine lv_icmp_ne (tgt := 95) hx hb dX12_reckon_88 (by decide) (fun c_2 => ?_) (fun c_2 => ?_)
    · have c_2 : p1.toInt ≠ p2.toInt := b_ne c_2
      refine lv_iconst (v := 0) hx hb dX12_reckon_95 (by decide) ?_
      subst hQ
      exact W.iret (v := 0) hx hb hr (fun t ht hW => ⟨_, rfl, (by unfold rK; rw [if_neg (by omega), if_neg (by omega), if_neg (by omega), if_neg (by omega), if_neg (by omega), if_neg (by omega), if_neg (by omega), if_neg (by omega)]), ht⟩) (fun q hq => absurd hq List.not_mem_nil) dX12_reckon_96
    · have c_2 : p1.toInt = p2.toInt := b_nne c_2
      refine lv_iconst (v := 1) hx hb dX12_reckon_91 (by decide) ?_
      refine lv_goto (tgt := 96) hx hb dX12_reckon_92 (by decide) ?_
      subst hQ
      exact W.iret (v := 1) hx hb hr (fun t ht hW => ⟨_, rfl, (by unfold rK; rw [if_neg (by omega), if_neg (by omega), if_neg (by omega), if_neg (by omega), if_neg (by omega), if_neg (by omega), if_neg (by omega), if_pos (by omega)]), ht⟩) (fun q hq => absurd hq List.not_mem_nil) dX12_reckon_96
  · refine lv_tableIn (off := 43) (tgt := 44) hx hb dX12_reckon_1 (by omega) (by omega) (by rw [h_1]; rfl) (by decide) ?_
    refine lv_iload_n hx hb dX12_reckon_44 rfl (lv_at hl 1 rfl) ?_
    refine lv_iload_n hx hb dX12_reckon_45 rfl (lv_at hl 2 rfl) ?_
    refine lv_iadd hx hb dX12_reckon_46 ?_
    refine lv_topi (fun v_3 ev_3 => ?_)
    subst hQ
    exact W.iret (v := v_3) hx hb hr (fun t ht hW => ⟨_, rfl, (by unfold rK; rw [if_pos (by omega)]; exact ev_3), ht⟩) (fun q hq => absurd hq List.not_mem_nil) dX12_reckon_47
  · refine lv_tableIn (off := 47) (tgt := 48) hx hb dX12_reckon_1 (by omega) (by omega) (by rw [h_1]; rfl) (by decide) ?_
    refine lv_iload_n hx hb dX12_reckon_48 rfl (lv_at hl 1 rfl) ?_
    refine lv_iload_n hx hb dX12_reckon_49 rfl (lv_at hl 2 rfl) ?_
    refine lv_isub hx hb dX12_reckon_50 ?_
    refine lv_topi (fun v_4 ev_4 => ?_)
    subst hQ
    exact W.iret (v := v_4) hx hb hr (fun t ht hW => ⟨_, rfl, (by unfold rK; rw [if_neg (by omega), if_pos (by omega)]; exact ev_4), ht⟩) (fun q hq => absurd hq List.not_mem_nil) dX12_reckon_51
  · refine lv_tableIn (off := 51) (tgt := 52) hx hb dX12_reckon_1 (by omega) (by omega) (by rw [h_1]; rfl) (by decide) ?_
    refine lv_iload_n hx hb dX12_reckon_52 rfl (lv_at hl 1 rfl) ?_
    refine lv_iload_n hx hb dX12_reckon_53 rfl (lv_at hl 2 rfl) ?_
    refine lv_imul hx hb dX12_reckon_54 ?_
    refine lv_topi (fun v_5 ev_5 => ?_)
    subst hQ
    exact W.iret (v := v_5) hx hb hr (fun t ht hW => ⟨_, rfl, (by unfold rK; rw [if_neg (by omega), if_neg (by omega), if_pos (by omega)]; exact ev_5), ht⟩) (fun q hq => absurd hq List.not_mem_nil) dX12_reckon_55
  · refine lv_tableIn (off := 55) (tgt := 56) hx hb dX12_reckon_1 (by omega) (by omega) (by rw [h_1]; rfl) (by decide) ?_
    refine lv_iload_n hx hb dX12_reckon_56 rfl (lv_at hl 1 rfl) ?_
    refine lv_iload_n hx hb dX12_reckon_57 rfl (lv_at hl 2 rfl) ?_
    refine lv_idiv hx hb dX12_reckon_58 (nz (by omega)) ?_
    refine lv_topi (fun v_6 ev_6 => ?_)
    subst hQ
    exact W.iret (v := v_6) hx hb hr (fun t ht hW => ⟨_, rfl, (by unfold rK; rw [if_neg (by omega), if_neg (by omega), if_neg (by omega), if_pos (by omega)]; exact ev_6), ht⟩) (fun q hq => absurd hq List.not_mem_nil) dX12_reckon_59
  · refine lv_tableIn (off := 59) (tgt := 60) hx hb dX12_reckon_1 (by omega) (by omega) (by rw [h_1]; rfl) (by decide) ?_
    refine lv_iload_n hx hb dX12_reckon_60 rfl (lv_at hl 1 rfl) ?_
    refine lv_iload_n hx hb dX12_reckon_61 rfl (lv_at hl 2 rfl) ?_
    refine lv_irem hx hb dX12_reckon_62 (nz (by omega)) ?_
    refine lv_topi (fun v_7 ev_7 => ?_)
    subst hQ
    exact W.iret (v := v_7) hx hb hr (fun t ht hW => ⟨_, rfl, (by unfold rK; rw [if_neg (by omega), if_neg (by omega), if_neg (by omega), if_neg (by omega), if_pos (by omega)]; exact ev_7), ht⟩) (fun q hq => absurd hq List.not_mem_nil) dX12_reckon_63
  · refine lv_tableIn (off := 63) (tgt := 64) hx hb dX12_reckon_1 (by omega) (by omega) (by rw [h_1]; rfl) (by decide) ?_
    refine lv_iload_n hx hb dX12_reckon_64 rfl (lv_at hl 1 rfl) ?_
    refine lv_iload_n hx hb dX12_reckon_65 rfl (lv_at hl 2 rfl) ?_
    refine lv_icmp_ge (tgt := 73) hx hb dX12_reckon_66 (by decide) (fun c_8 => ?_) (fun c_8 => ?_)
    · have c_8 : p2.toInt ≤ p1.toInt := b_le c_8
      refine lv_iconst (v := 0) hx hb dX12_reckon_73 (by decide) ?_
      subst hQ
      exact W.iret (v := 0) hx hb hr (fun t ht hW => ⟨_, rfl, (by unfold rK; rw [if_neg (by omega), if_neg (by omega), if_neg (by omega), if_neg (by omega), if_neg (by omega), if_pos (by omega), if_neg (by omega)]), ht⟩) (fun q hq => absurd hq List.not_mem_nil) dX12_reckon_74
    · have c_8 : p1.toInt < p2.toInt := b_nle c_8
      refine lv_iconst (v := 1) hx hb dX12_reckon_69 (by decide) ?_
      refine lv_goto (tgt := 74) hx hb dX12_reckon_70 (by decide) ?_
      subst hQ
      exact W.iret (v := 1) hx hb hr (fun t ht hW => ⟨_, rfl, (by unfold rK; rw [if_neg (by omega), if_neg (by omega), if_neg (by omega), if_neg (by omega), if_neg (by omega), if_pos (by omega), if_pos (by omega)]), ht⟩) (fun q hq => absurd hq List.not_mem_nil) dX12_reckon_74
  · refine lv_tableIn (off := 74) (tgt := 75) hx hb dX12_reckon_1 (by omega) (by omega) (by rw [h_1]; rfl) (by decide) ?_
    refine lv_iload_n hx hb dX12_reckon_75 rfl (lv_at hl 1 rfl) ?_
    refine lv_iload_n hx hb dX12_reckon_76 rfl (lv_at hl 2 rfl) ?_
    refine lv_icmp_le (tgt := 84) hx hb dX12_reckon_77 (by decide) (fun c_9 => ?_) (fun c_9 => ?_)
    · have c_9 : p1.toInt ≤ p2.toInt := b_le c_9
      refine lv_iconst (v := 0) hx hb dX12_reckon_84 (by decide) ?_
      subst hQ
      exact W.iret (v := 0) hx hb hr (fun t ht hW => ⟨_, rfl, (by unfold rK; rw [if_neg (by omega), if_neg (by omega), if_neg (by omega), if_neg (by omega), if_neg (by omega), if_neg (by omega), if_pos (by omega), if_neg (by omega)]), ht⟩) (fun q hq => absurd hq List.not_mem_nil) dX12_reckon_85
    · have c_9 : p2.toInt < p1.toInt := b_nle c_9
      refine lv_iconst (v := 1) hx hb dX12_reckon_80 (by decide) ?_
      refine lv_goto (tgt := 85) hx hb dX12_reckon_81 (by decide) ?_
      subst hQ
      exact W.iret (v := 1) hx hb hr (fun t ht hW => ⟨_, rfl, (by unfold rK; rw [if_neg (by omega), if_neg (by omega), if_neg (by omega), if_neg (by omega), if_neg (by omega), if_neg (by omega), if_pos (by omega), if_pos (by omega)]), ht⟩) (fun q hq => absurd hq List.not_mem_nil) dX12_reckon_85
set_option maxHeartbeats 4000000 in
set_option maxRecDepth 100000 in
theorem c_X12_comesTo9 (l : Launch) (D : va_G) (cy : Nat → ClassId) (a : Nat → Nat) (i : Nat → Int32) (r : Nat → Nat → Int32) (rl : Nat → Int64) (p0 p1 : Int32) (sz : Nat) (hRi : mRi i) (hRr : mRr r) (q0 : 0 ≤ p0.toInt) (q1 : 0 ≤ p1.toInt) (hw : segOK (r 27) p0.toNatClampNeg p1.toNatClampNeg) (hA9 : rA (r 27) p0.toNatClampNeg p1.toNatClampNeg) : Met l yX12_comesTo (Cond.code yX12_comesTo cX12_comesTo 8 (some .int) :: gT) { frames := 2, cells := 0, slots := 0, locals := 46 } (va_Pc [.ref (a 0), .int p0, .int p1] (rQ D cy (mW cy a i r rl) sz)) (va_Qi (fun (z : Int32) (u : Nat → Nat → Int32) => mRr u ∧ mEr [32] r u ∧ (z = rv (r 27) (r 33) p0.toInt.toNat p1.toInt.toNat)) (fun (u : Nat → Nat → Int32) t => va_P D vwCl (mW cy a i u rl) t.heap ∧ va_K D vwCl (vT cy) t ∧ va_D (va_A (mW cy a i r rl) sz) (mW cy a i u rl)) (va_A (mW cy a i r rl) sz)) 0 0 (va_A (mW cy a i r rl) sz) := by
  refine Met.ofQ (cc := cX12_comesTo) (maxL := 8) (ret := (some .int)) (by decide) rfl ?_
  intro p e s m args below meth c s₁ B hml hv Q hQ
  obtain ⟨rfl, hsz, hP, hK, hD0⟩ := hv
  have hx := B.exec
  have hb := B.bytes
  have hr := B.returns
  have hlocks := B.notSynchronized
  have hT : ∀ w ∈ gT, w.before _ s = true := fun w h => atoms_spec (ws := (Cond.code yX12_comesTo cX12_comesTo 8 (some .int) :: gT)) B.pre w (List.mem_cons_of_mem _ h)
  have hown : s.vm.findClass RX12 = some m.cls := findClass_of_methodNamed B.named
  subst hsz
  have hD := hD0.self (sz := s.heap.size)
  generalize hAe : va_A (mW cy a i r rl) s.heap.size = A at hD hQ
  have hA : ∀ q : Nat, s.heap.size ≤ q → A q := fun q h => by rw [← hAe]; exact Or.inr h
  have hS : va_S A s.heap s.heap [] := va_S.rf
  have hl := lv_entry ([.ref (a 0), .int p0, .int p1]) (n := 8) (Nat.le_of_ble_eq_true rfl)
  rw [lg_entry_eq]
  generalize (lg_sl ([.ref (a 0), .int p0, .int p1]) ++ List.replicate (8 - (lg_sl ([.ref (a 0), .int p0, .int p1])).length) Slot.unset).toArray = ls at hl ⊢
  have hl : lv_has ls 8 [(0, .ref (a 0)), (1, .int p0), (2, .int p1)] := hl
  have hEi : mEi [23, 24, 25, 26, 27, 28, 29, 30, 60] i i := Ei_rf
  have hEr : mEr [32] r r := Er_rf
  obtain ⟨hft, ht, g, ⟨hg0, hg1⟩, hg⟩ := hw
  have hc0 : p0.toNatClampNeg = p0.toInt.toNat := rfl
  have hc1 : p1.toNatClampNeg = p1.toInt.toNat := rfl
  rw [hc0] at hft hg0 hg hA9
  rw [hc1] at hft ht hg1 hg hA9
  have hX9 : rX (r 27) g p0.toInt.toNat p1.toInt.toNat := ⟨hg0, hg1, hg, hA9, hft, ht⟩
  refine lv_iconst (v := 0) hx hb dX12_comesTo_0 (by decide) ?_
  refine lv_istore_n (lv' := [(3, .int 0), (0, .ref (a 0)), (1, .int p0), (2, .int p1)]) hx hb dX12_comesTo_1 rfl hl (by decide) rfl (fun ls hl => ?_)
  refine lv_sipush (v := 220) hx hb dX12_comesTo_2 (by decide) ?_
  refine lv_iload_n hx hb dX12_comesTo_5 rfl (lv_at hl 2 rfl) ?_
  refine lv_sipush (v := 220) hx hb dX12_comesTo_6 (by decide) ?_
  refine lv_idiv hx hb dX12_comesTo_9 (by decide) ?_
  refine lv_topi (fun v_1 ev_1 => ?_)
  obtain rfl : v_1 = 0 := ev_1.trans (idiv220 (by omega) (by omega))
  refine lv_imul hx hb dX12_comesTo_10 ?_
  refine lv_topi (fun v_2 ev_2 => ?_)
  obtain rfl : v_2 = 0 := ev_2.trans (by decide)
  refine lv_istore (lv' := [(4, .int 0), (3, .int 0), (0, .ref (a 0)), (1, .int p0), (2, .int p1)]) hx hb dX12_comesTo_11 hl (by decide) rfl (fun ls hl => ?_)
  refine lv_iload_n hx hb dX12_comesTo_13 rfl (lv_at hl 3 rfl) ?_
  refine lv_istore (lv' := [(5, .int p0), (4, .int 0), (3, .int 0), (0, .ref (a 0)), (1, .int p0), (2, .int p1)]) hx hb dX12_comesTo_14 hl (by decide) rfl (fun ls hl => ?_)
  have loop_3 : ∀ (n : Nat) (x3_5 : Int32) (x3_3 : Int32) (r3 : Nat → Nat → Int32) (H : Heap) (locs : List Loc) (ls : Array Slot), (p1.toInt - x3_5.toInt).toNat < n → (0 ≤ x3_5.toInt ∧ x3_5.toInt ≤ 220) → (0 ≤ x3_3.toInt ∧ x3_3.toInt ≤ 220) → mRr r3 → mEr [32] r r3 → ((p0.toInt ≤ x3_5.toInt ∧ x3_5.toInt ≤ p1.toInt ∧ x3_3.toInt = (g x3_5.toInt.toNat : Int)) ∧ rLI (r 27) (r 33) g p0.toInt.toNat p1.toInt.toNat (r3 32) x3_5.toInt.toNat x3_3.toInt) → va_P D vwCl (mW cy a i r3 rl) H → va_D A (mW cy a i r3 rl) → va_S A s.heap H locs → lv_has ls 8 [(5, .int x3_5), (4, .int 0), (3, .int x3_3), (0, .ref (a 0)), (1, .int p0), (2, .int p1)] → W p l e ({ frames := 2, cells := 0, slots := 0, locals := 46 } : Room) s m ([.ref (a 0), .int p0, .int p1] : List Value).toArray below meth c H locs 0 0 Q (F0 m 16 ls []) := by
    intro n
    induction n with
    | zero =>
      intro x3_5 x3_3 r3 H locs ls hm3 hf3_0 hf3_1 hRr hEr hx3 hP hD hS hl
      exact absurd hm3 (by omega)
    | succ n ih3 =>
      intro x3_5 x3_3 r3 H locs ls hm3 hf3_0 hf3_1 hRr hEr hx3 hP hD hS hl
      refine lv_iload hx hb dX12_comesTo_16 (lv_at hl 0 rfl) ?_
      obtain ⟨hx3, hLI9⟩ := hx3
      refine lv_iload_n hx hb dX12_comesTo_18 rfl (lv_at hl 5 rfl) ?_
      refine lv_icmp_ge (tgt := 235) hx hb dX12_comesTo_19 (by decide) (fun c_4 => ?_) (fun c_4 => ?_)
      · have c_4 : p1.toInt ≤ x3_5.toInt := b_le c_4
        refine lv_aload_n hx hb dX12_comesTo_235 rfl (lv_at hl 3 rfl) ?_
        refine va_get (D := D) (ci := 12) (v := .ref (a 32)) (C := RX12) (T := TX12) (N := 91) hx hb hT iX12 hown hK hP 0 rfl rfl 43 (by decide) (hT _ t_82) (fun _ h9 => h9) rfl dX12_comesTo_236 ?_
        refine lv_iconst (v := 0) hx hb dX12_comesTo_239 (by decide) ?_
        refine va_iald hx hb hK hP 32 0 rfl rfl (vp_inI (by decide) (by decide)) dX12_comesTo_240 ?_
        refine lv_topi (fun v_5 ev_5 => ?_)
        have hwv_5 : v_5.toInt = (r3 32 ((0 : Int32).toNatClampNeg)).toInt := congrArg Int32.toInt ev_5
        subst hQ
        exact W.iret (v := v_5) hx hb hr (fun t ht hW => ⟨⟨_, r3, rfl, ⟨hRr, hEr, (by rw [ev_5]; exact (rL_end hX9 hLI9 (by omega)).1)⟩, by rw [ht]; exact hP, va_K.moved hW.alike hK, hD⟩, hS.F ht⟩) hS.2.2 dX12_comesTo_241
      · have c_4 : x3_5.toInt < p1.toInt := b_nle c_4
        obtain ⟨K, hKK⟩ : ∃ K : Nat, K = x3_5.toInt.toNat := ⟨_, rfl⟩
        have hx5 := hx3
        rw [← hKK] at hx5 hLI9
        have hs := hg K (by omega) (by omega)
        unfold stepOK at hs
        obtain ⟨hs0, hs1, hs2, hs3⟩ := hs
        have hc38 : r3 27 = r 27 := hEr 27 (by decide)
        have hcv : 0 ≤ cV (r 27 K) ∧ cV (r 27 K) < 1048576 := by unfold cV; omega
        have hKc : x3_5.toNatClampNeg = K := hKK.symm
        have hKt : K < p1.toInt.toNat := by omega
        refine lv_aload_n hx hb dX12_comesTo_22 rfl (lv_at hl 3 rfl) ?_
        refine va_get (D := D) (ci := 12) (v := .ref (a 27)) (C := RX12) (T := TX12) (N := 91) hx hb hT iX12 hown hK hP 0 rfl rfl 38 (by decide) (hT _ t_83) (fun _ h9 => h9) rfl dX12_comesTo_23 ?_
        refine lv_iload hx hb dX12_comesTo_26 (lv_at hl 0 rfl) ?_
        refine va_iald hx hb hK hP 27 0 rfl rfl (vp_inI (by omega) (by omega)) dX12_comesTo_28 ?_
        refine lv_topi (fun v_6 ev_6 => ?_)
        refine lv_ldcw (v := 1048576) hx hb hown (hT _ t_84) dX12_comesTo_29 ?_
        refine lv_idiv hx hb dX12_comesTo_32 (by decide) ?_
        refine lv_topi (fun v_7 ev_7 => ?_)
        have hop : v_7.toInt = cOp (r 27 K) := by rw [ev_7, ev_6, hc38, hKc]; exact idivU hs0
        have hop2 : 0 ≤ v_7.toInt ∧ v_7.toInt ≤ 2047 := by rw [hop]; unfold cOp; have := b_rg (r 27 K); omega
        refine lv_istore (lv' := [(6, .int v_7), (5, .int x3_5), (4, .int 0), (3, .int x3_3), (0, .ref (a 0)), (1, .int p0), (2, .int p1)]) hx hb dX12_comesTo_33 hl (by decide) rfl (fun ls hl => ?_)
        refine lv_aload_n hx hb dX12_comesTo_35 rfl (lv_at hl 4 rfl) ?_
        refine va_get (D := D) (ci := 12) (v := .ref (a 27)) (C := RX12) (T := TX12) (N := 91) hx hb hT iX12 hown hK hP 0 rfl rfl 38 (by decide) (hT _ t_83) (fun _ h9 => h9) rfl dX12_comesTo_36 ?_
        refine lv_iload hx hb dX12_comesTo_39 (lv_at hl 1 rfl) ?_
        refine va_iald hx hb hK hP 27 0 rfl rfl (vp_inI (by omega) (by omega)) dX12_comesTo_41 ?_
        refine lv_topi (fun v_8 ev_8 => ?_)
        refine lv_ldcw (v := 1048576) hx hb hown (hT _ t_84) dX12_comesTo_42 ?_
        refine lv_irem hx hb dX12_comesTo_45 (by decide) ?_
        refine lv_topi (fun v_9 ev_9 => ?_)
        have hvv : v_9.toInt = cV (r 27 K) := by rw [ev_9, ev_8, hc38, hKc]; exact iremU hs0
        refine lv_istore (lv' := [(7, .int v_9), (6, .int v_7), (5, .int x3_5), (4, .int 0), (3, .int x3_3), (0, .ref (a 0)), (1, .int p0), (2, .int p1)]) hx hb dX12_comesTo_46 hl (by decide) rfl (fun ls hl => ?_)
        refine lv_iload hx hb dX12_comesTo_48 (lv_at hl 2 rfl) ?_
        refine lv_iconst (v := 1) hx hb dX12_comesTo_50 (by decide) ?_
        refine lv_iadd hx hb dX12_comesTo_51 ?_
        refine lv_topi (fun v_10 ev_10 => ?_)
        have hv_10 : v_10.toInt = x3_5.toInt + 1 := by rw [ev_10]; have := b_rg x3_5; exact i_add (a := x3_5.toInt) (b := 1) rfl rfl (by omega) (by omega)
        refine lv_istore (lv' := [(5, .int v_10), (7, .int v_9), (6, .int v_7), (4, .int 0), (3, .int x3_3), (0, .ref (a 0)), (1, .int p0), (2, .int p1)]) hx hb dX12_comesTo_52 hl (by decide) rfl (fun ls hl => ?_)
        refine lv_iload hx hb dX12_comesTo_54 (lv_at hl 2 rfl) ?_
        refine lv_if_eq (tgt := 65) hx hb dX12_comesTo_56 (by decide) (fun c_11 => ?_) (fun c_11 => ?_)
        · have c_11 : v_7.toInt = 0 := b_eq c_11
          refine lv_aload_n hx hb dX12_comesTo_65 rfl (lv_at hl 5 rfl) ?_
          refine va_get (D := D) (ci := 12) (v := .ref (a 32)) (C := RX12) (T := TX12) (N := 91) hx hb hT iX12 hown hK hP 0 rfl rfl 43 (by decide) (hT _ t_82) (fun _ h9 => h9) rfl dX12_comesTo_66 ?_
          refine lv_iload_n hx hb dX12_comesTo_69 rfl (lv_at hl 4 rfl) ?_
          refine lv_iload hx hb dX12_comesTo_70 (lv_at hl 2 rfl) ?_
          refine lv_if_ne (tgt := 80) hx hb dX12_comesTo_72 (by decide) (fun c_12 => by have c_12 : v_7.toInt ≠ 0 := b_ne c_12; omega) (fun c_12 => ?_)
          have c_12 : v_7.toInt = 0 := b_nne c_12
          refine lv_iload hx hb dX12_comesTo_75 (lv_at hl 1 rfl) ?_
          refine lv_goto (tgt := 87) hx hb dX12_comesTo_77 (by decide) ?_
          refine va_iast hx hb hK hP hD hS 32 0 rfl rfl (vp_inI (by omega) (by omega)) dX12_comesTo_87 (fun H locs hP hD hS => ?_)
          rw [mS32] at hP hD
          have hRr : mRr (va_up r3 32 (upd (r3 32) x3_3.toNatClampNeg v_9)) := Rr_upd hRr 32 (x3_3.toNatClampNeg) v_9 (b_rg _)
          have hEr : mEr [32] _ (va_up r3 32 (upd (r3 32) x3_3.toNatClampNeg v_9)) := Er_up hEr 32 _ (by decide)
          refine lv_iload_n hx hb dX12_comesTo_88 rfl (lv_at hl 4 rfl) ?_
          refine lv_iconst (v := 1) hx hb dX12_comesTo_89 (by decide) ?_
          refine lv_iadd hx hb dX12_comesTo_90 ?_
          refine lv_topi (fun v_13 ev_13 => ?_)
          have hv_13 : v_13.toInt = x3_3.toInt + 1 := by rw [ev_13]; have := b_rg x3_3; exact i_add (a := x3_3.toInt) (b := 1) rfl rfl (by omega) (by omega)
          refine lv_istore_n (lv' := [(3, .int v_13), (5, .int v_10), (7, .int v_9), (6, .int v_7), (4, .int 0), (0, .ref (a 0)), (1, .int p0), (2, .int p1)]) hx hb dX12_comesTo_91 rfl hl (by decide) rfl (fun ls hl => ?_)
          refine lv_goto (tgt := 232) hx hb dX12_comesTo_92 (by decide) ?_
          refine lv_goto (tgt := 16) hx hb dX12_comesTo_232 (by decide) ?_
          have hgk : g v_10.toInt.toNat = g (K + 1) := congrArg g (by omega)
          have hLn := rL_num (x := v_9) (j := x3_3.toNatClampNeg) hX9 hLI9 hKt (by omega) hvv (show ((x3_3.toInt.toNat : Nat) : Int) = x3_3.toInt by omega)
          rw [show K + 1 = v_10.toInt.toNat by omega, show x3_3.toInt + 1 = v_13.toInt by omega] at hLn
          exact ih3 v_10 v_13 (va_up r3 32 (upd (r3 32) x3_3.toNatClampNeg v_9)) _ _ _ (by first | omega | (simp only [Int.toNat]; omega)) (by first | omega | decide) (by first | omega | decide) hRr hEr ⟨⟨by omega, by omega, by omega⟩, hLn⟩ hP hD hS (lv_sub hl [1, 4, 0, 5, 6, 7] rfl)
        · have c_11 : v_7.toInt ≠ 0 := b_ne c_11
          refine lv_iload hx hb dX12_comesTo_59 (lv_at hl 2 rfl) ?_
          refine lv_iconst (v := 1) hx hb dX12_comesTo_61 (by decide) ?_
          refine lv_icmp_ne (tgt := 95) hx hb dX12_comesTo_62 (by decide) (fun c_14 => ?_) (fun c_14 => ?_)
          · have c_14 : v_7.toInt ≠ 1 := b_ne c_14
            refine lv_iload hx hb dX12_comesTo_95 (lv_at hl 2 rfl) ?_
            refine lv_bipush (v := 10) hx hb dX12_comesTo_97 (by decide) ?_
            refine lv_icmp_ne (tgt := 123) hx hb dX12_comesTo_99 (by decide) (fun c_15 => ?_) (fun c_15 => ?_)
            · have c_15 : v_7.toInt ≠ 10 := b_ne c_15
              refine lv_iload hx hb dX12_comesTo_123 (lv_at hl 2 rfl) ?_
              refine lv_bipush (v := 11) hx hb dX12_comesTo_125 (by decide) ?_
              refine lv_icmp_eq (tgt := 137) hx hb dX12_comesTo_127 (by decide) (fun c_16 => ?_) (fun c_16 => ?_)
              · have c_16 : v_7.toInt = 11 := b_eq c_16
                refine lv_aload_n hx hb dX12_comesTo_137 rfl (lv_at hl 5 rfl) ?_
                refine va_get (D := D) (ci := 12) (v := .ref (a 32)) (C := RX12) (T := TX12) (N := 91) hx hb hT iX12 hown hK hP 0 rfl rfl 43 (by decide) (hT _ t_82) (fun _ h9 => h9) rfl dX12_comesTo_138 ?_
                refine lv_iload_n hx hb dX12_comesTo_141 rfl (lv_at hl 4 rfl) ?_
                refine lv_iconst (v := 1) hx hb dX12_comesTo_142 (by decide) ?_
                refine lv_isub hx hb dX12_comesTo_143 ?_
                refine lv_topi (fun v_17 ev_17 => ?_)
                have hv_17 : v_17.toInt = x3_3.toInt - 1 := by rw [ev_17]; have := b_rg x3_3; exact i_sub (a := x3_3.toInt) (b := 1) rfl rfl (by omega) (by omega)
                refine va_iald hx hb hK hP 32 0 rfl rfl (vp_inI (by omega) (by omega)) dX12_comesTo_144 ?_
                refine lv_topi (fun v_18 ev_18 => ?_)
                have hwv_18 : v_18.toInt = (r3 32 (v_17.toNatClampNeg)).toInt := congrArg Int32.toInt ev_18
                refine lv_iload hx hb dX12_comesTo_145 (lv_at hl 2 rfl) ?_
                refine lv_bipush (v := 12) hx hb dX12_comesTo_147 (by decide) ?_
                refine lv_icmp_ne (tgt := 156) hx hb dX12_comesTo_149 (by decide) (fun c_19 => ?_) (fun c_19 => by have c_19 : v_7.toInt = 12 := b_nne c_19; omega)
                have c_19 : v_7.toInt ≠ 12 := b_ne c_19
                refine lv_iconst (v := 0) hx hb dX12_comesTo_156 (by decide) ?_
                refine lv_icmp_ne (tgt := 170) hx hb dX12_comesTo_157 (by decide) (fun c_20 => ?_) (fun c_20 => ?_)
                · have c_20 : v_18.toInt ≠ 0 := b_ne c_20
                  refine lv_iload_n hx hb dX12_comesTo_170 rfl (lv_at hl 4 rfl) ?_
                  refine lv_iconst (v := 1) hx hb dX12_comesTo_171 (by decide) ?_
                  refine lv_isub hx hb dX12_comesTo_172 ?_
                  refine lv_topi (fun v_21 ev_21 => ?_)
                  have hv_21 : v_21.toInt = x3_3.toInt - 1 := by rw [ev_21]; have := b_rg x3_3; exact i_sub (a := x3_3.toInt) (b := 1) rfl rfl (by omega) (by omega)
                  refine lv_istore_n (lv' := [(3, .int v_21), (5, .int v_10), (7, .int v_9), (6, .int v_7), (4, .int 0), (0, .ref (a 0)), (1, .int p0), (2, .int p1)]) hx hb dX12_comesTo_173 rfl hl (by decide) rfl (fun ls hl => ?_)
                  refine lv_goto (tgt := 232) hx hb dX12_comesTo_174 (by decide) ?_
                  refine lv_goto (tgt := 16) hx hb dX12_comesTo_232 (by decide) ?_
                  have hgk : g v_10.toInt.toNat = g (K + 1) := congrArg g (by omega)
                  have hl0 : r3 32 v_17.toNatClampNeg ≠ 0 := fun h9 => by have h8 : v_18.toInt = 0 := (by rw [ev_18, h9]; rfl); omega
                  have hLn := rL_pop (j := v_17.toNatClampNeg) hX9 hLI9 hKt (Or.inl ⟨by omega, hl0⟩) (show ((v_17.toInt.toNat : Nat) : Int) + 1 = x3_3.toInt by omega)
                  rw [show K + 1 = v_10.toInt.toNat by omega, show x3_3.toInt - 1 = v_21.toInt by omega] at hLn
                  exact ih3 v_10 v_21 r3 _ _ _ (by first | omega | (simp only [Int.toNat]; omega)) (by first | omega | decide) (by first | omega | decide) hRr hEr ⟨⟨by omega, by omega, by omega⟩, hLn⟩ hP hD hS (lv_sub hl [1, 4, 0, 5, 6, 7] rfl)
                · have c_20 : v_18.toInt = 0 := b_nne c_20
                  refine lv_iload hx hb dX12_comesTo_160 (lv_at hl 3 rfl) ?_
                  refine lv_iload hx hb dX12_comesTo_162 (lv_at hl 1 rfl) ?_
                  refine lv_iadd hx hb dX12_comesTo_164 ?_
                  refine lv_topi (fun v_22 ev_22 => ?_)
                  have hv_22 : v_22.toInt = 0 + v_9.toInt := by rw [ev_22]; have := b_rg v_9; exact i_add (a := 0) (b := v_9.toInt) rfl rfl (by omega) (by omega)
                  refine lv_istore (lv' := [(5, .int v_22), (7, .int v_9), (6, .int v_7), (4, .int 0), (3, .int x3_3), (0, .ref (a 0)), (1, .int p0), (2, .int p1)]) hx hb dX12_comesTo_165 hl (by decide) rfl (fun ls hl => ?_)
                  refine lv_goto (tgt := 232) hx hb dX12_comesTo_167 (by decide) ?_
                  refine lv_goto (tgt := 16) hx hb dX12_comesTo_232 (by decide) ?_
                  have hgk : g v_22.toInt.toNat = g (cV (r 27 K)).toNat := congrArg g (by omega)
                  have hl0 : r3 32 v_17.toNatClampNeg = 0 := by rw [← ev_18]; exact Int32.toInt_inj.mp (show v_18.toInt = 0 by omega)
                  have hLn := rL_jmp (j := v_17.toNatClampNeg) hX9 hLI9 hKt (Or.inl ⟨by omega, hl0⟩) (show ((v_17.toInt.toNat : Nat) : Int) + 1 = x3_3.toInt by omega)
                  rw [show (cV (r 27 K)).toNat = v_22.toInt.toNat by omega] at hLn
                  exact ih3 v_22 x3_3 r3 _ _ _ (by first | omega | (simp only [Int.toNat]; omega)) (by first | omega | decide) (by first | omega | decide) hRr hEr ⟨⟨by omega, by omega, by omega⟩, hLn⟩ hP hD hS (lv_sub hl [0, 3, 4, 5, 6, 7] rfl)
              · have c_16 : v_7.toInt ≠ 11 := b_ne c_16
                refine lv_iload hx hb dX12_comesTo_130 (lv_at hl 2 rfl) ?_
                refine lv_bipush (v := 12) hx hb dX12_comesTo_132 (by decide) ?_
                refine lv_icmp_ne (tgt := 177) hx hb dX12_comesTo_134 (by decide) (fun c_23 => ?_) (fun c_23 => ?_)
                · have c_23 : v_7.toInt ≠ 12 := b_ne c_23
                  refine lv_iload_n hx hb dX12_comesTo_177 rfl (lv_at hl 4 rfl) ?_
                  refine lv_iconst (v := 1) hx hb dX12_comesTo_178 (by decide) ?_
                  refine lv_isub hx hb dX12_comesTo_179 ?_
                  refine lv_topi (fun v_24 ev_24 => ?_)
                  have hv_24 : v_24.toInt = x3_3.toInt - 1 := by rw [ev_24]; have := b_rg x3_3; exact i_sub (a := x3_3.toInt) (b := 1) rfl rfl (by omega) (by omega)
                  refine lv_istore_n (lv' := [(3, .int v_24), (5, .int v_10), (7, .int v_9), (6, .int v_7), (4, .int 0), (0, .ref (a 0)), (1, .int p0), (2, .int p1)]) hx hb dX12_comesTo_180 rfl hl (by decide) rfl (fun ls hl => ?_)
                  refine lv_iload hx hb dX12_comesTo_181 (lv_at hl 3 rfl) ?_
                  refine lv_iconst (v := 5) hx hb dX12_comesTo_183 (by decide) ?_
                  refine lv_icmp_eq (tgt := 194) hx hb dX12_comesTo_184 (by decide) (fun c_25 => ?_) (fun c_25 => ?_)
                  · have c_25 : v_7.toInt = 5 := b_eq c_25
                    refine lv_aload_n hx hb dX12_comesTo_194 rfl (lv_at hl 5 rfl) ?_
                    refine va_get (D := D) (ci := 12) (v := .ref (a 32)) (C := RX12) (T := TX12) (N := 91) hx hb hT iX12 hown hK hP 0 rfl rfl 43 (by decide) (hT _ t_82) (fun _ h9 => h9) rfl dX12_comesTo_195 ?_
                    refine lv_iload_n hx hb dX12_comesTo_198 rfl (lv_at hl 0 rfl) ?_
                    refine va_iald hx hb hK hP 32 0 rfl rfl (vp_inI (by omega) (by omega)) dX12_comesTo_199 ?_
                    refine lv_topi (fun v_26 ev_26 => ?_)
                    have hwv_26 : v_26.toInt = (r3 32 (v_24.toNatClampNeg)).toInt := congrArg Int32.toInt ev_26
                    refine lv_if_ne (tgt := 205) hx hb dX12_comesTo_200 (by decide) (fun c_27 => ?_) (fun c_27 => ?_)
                    · have c_27 : v_26.toInt ≠ 0 := b_ne c_27
                      refine lv_aload_n hx hb dX12_comesTo_205 rfl (lv_at hl 5 rfl) ?_
                      refine va_get (D := D) (ci := 12) (v := .ref (a 32)) (C := RX12) (T := TX12) (N := 91) hx hb hT iX12 hown hK hP 0 rfl rfl 43 (by decide) (hT _ t_82) (fun _ h9 => h9) rfl dX12_comesTo_206 ?_
                      refine lv_iload_n hx hb dX12_comesTo_209 rfl (lv_at hl 0 rfl) ?_
                      refine lv_iconst (v := 1) hx hb dX12_comesTo_210 (by decide) ?_
                      refine lv_isub hx hb dX12_comesTo_211 ?_
                      refine lv_topi (fun v_28 ev_28 => ?_)
                      have hv_28 : v_28.toInt = v_24.toInt - 1 := by rw [ev_28]; have := b_rg v_24; exact i_sub (a := v_24.toInt) (b := 1) rfl rfl (by omega) (by omega)
                      refine lv_iload hx hb dX12_comesTo_212 (lv_at hl 3 rfl) ?_
                      refine lv_aload_n hx hb dX12_comesTo_214 rfl (lv_at hl 5 rfl) ?_
                      refine va_get (D := D) (ci := 12) (v := .ref (a 32)) (C := RX12) (T := TX12) (N := 91) hx hb hT iX12 hown hK hP 0 rfl rfl 43 (by decide) (hT _ t_82) (fun _ h9 => h9) rfl dX12_comesTo_215 ?_
                      refine lv_iload_n hx hb dX12_comesTo_218 rfl (lv_at hl 0 rfl) ?_
                      refine lv_iconst (v := 1) hx hb dX12_comesTo_219 (by decide) ?_
                      refine lv_isub hx hb dX12_comesTo_220 ?_
                      refine lv_topi (fun v_29 ev_29 => ?_)
                      have hv_29 : v_29.toInt = v_24.toInt - 1 := by rw [ev_29]; have := b_rg v_24; exact i_sub (a := v_24.toInt) (b := 1) rfl rfl (by omega) (by omega)
                      refine va_iald hx hb hK hP 32 0 rfl rfl (vp_inI (by omega) (by omega)) dX12_comesTo_221 ?_
                      refine lv_topi (fun v_30 ev_30 => ?_)
                      have hwv_30 : v_30.toInt = (r3 32 (v_29.toNatClampNeg)).toInt := congrArg Int32.toInt ev_30
                      refine lv_aload_n hx hb dX12_comesTo_222 rfl (lv_at hl 5 rfl) ?_
                      refine va_get (D := D) (ci := 12) (v := .ref (a 32)) (C := RX12) (T := TX12) (N := 91) hx hb hT iX12 hown hK hP 0 rfl rfl 43 (by decide) (hT _ t_82) (fun _ h9 => h9) rfl dX12_comesTo_223 ?_
                      refine lv_iload_n hx hb dX12_comesTo_226 rfl (lv_at hl 0 rfl) ?_
                      refine va_iald hx hb hK hP 32 0 rfl rfl (vp_inI (by omega) (by omega)) dX12_comesTo_227 ?_
                      refine lv_topi (fun v_31 ev_31 => ?_)
                      have hwv_31 : v_31.toInt = (r3 32 (v_24.toNatClampNeg)).toInt := congrArg Int32.toInt ev_31
                      refine vp_callSi (W.runS (As := [.int v_7, .int v_30, .int v_31]) (rest := [.int v_28, .ref (a 32)]) ⟨hx, hb, hml, hown, hT⟩ (c_X12_reckon9 l v_7 v_30 v_31 (by omega)) (va_cwS 3 hT (gS t_85 t_86 t_87 t_6) rfl rfl rfl (by decide +kernel) ⟨Nat.le_of_ble_eq_true rfl, Nat.le_of_ble_eq_true rfl⟩) preT rfl rfl hl.1 rfl (lv_room (Nat.le_of_ble_eq_true rfl)) dX12_comesTo_228 ⟨Nat.le_of_ble_eq_true rfl, Nat.le_of_ble_eq_true rfl⟩) (fun r_32 hr_32 => ?_)
                      refine va_iast hx hb hK hP hD hS 32 0 rfl rfl (vp_inI (by omega) (by omega)) dX12_comesTo_231 (fun H locs hP hD hS => ?_)
                      rw [mS32] at hP hD
                      have hRr : mRr (va_up r3 32 (upd (r3 32) v_28.toNatClampNeg r_32)) := Rr_upd hRr 32 (v_28.toNatClampNeg) r_32 (b_rg _)
                      have hEr : mEr [32] _ (va_up r3 32 (upd (r3 32) v_28.toNatClampNeg r_32)) := Er_up hEr 32 _ (by decide)
                      refine lv_goto (tgt := 16) hx hb dX12_comesTo_232 (by decide) ?_
                      have hgk : g v_10.toInt.toNat = g (K + 1) := congrArg g (by omega)
                      have hxv : v_30 = r3 32 v_28.toNatClampNeg := by rw [ev_30]; exact congrArg (r3 32) (by show v_29.toInt.toNat = v_28.toInt.toNat; omega)
                      have hex : r_32 = rK (cOp (r 27 K)) (r3 32 v_28.toNatClampNeg) (r3 32 v_24.toNatClampNeg) := by rw [hr_32, hop, hxv, ev_31]
                      have hz9 : ¬ ((cOp (r 27 K) = 5 ∨ cOp (r 27 K) = 6) ∧ r3 32 v_24.toNatClampNeg = 0) := fun h9 => by
                        have h8 : v_26.toInt = 0 := (by rw [ev_26, h9.2]; rfl); omega
                      have hLn := rL_bin (x := r_32) (j := v_24.toNatClampNeg) (j2 := v_28.toNatClampNeg) hX9 hLI9 hKt ⟨by omega, by omega, by omega, by omega, by omega⟩ (show ((v_24.toInt.toNat : Nat) : Int) + 1 = x3_3.toInt by omega) (show ((v_28.toInt.toNat : Nat) : Int) + 2 = x3_3.toInt by omega) hz9 hex
                      rw [show K + 1 = v_10.toInt.toNat by omega, show x3_3.toInt - 1 = v_24.toInt by omega] at hLn
                      exact ih3 v_10 v_24 (va_up r3 32 (upd (r3 32) v_28.toNatClampNeg r_32)) _ _ _ (by first | omega | (simp only [Int.toNat]; omega)) (by first | omega | decide) (by first | omega | decide) hRr hEr ⟨⟨by omega, by omega, by omega⟩, hLn⟩ hP hD hS (lv_sub hl [1, 4, 0, 5, 6, 7] rfl)
                    · have c_27 : v_26.toInt = 0 := b_nne c_27
                      refine lv_iconst (v := 0) hx hb dX12_comesTo_203 (by decide) ?_
                      subst hQ
                      have hl0 : r3 32 v_24.toNatClampNeg = 0 := by rw [← ev_26]; exact Int32.toInt_inj.mp (show v_26.toInt = 0 by omega)
                      exact W.iret (v := 0) hx hb hr (fun t ht hW => ⟨⟨_, r3, rfl, ⟨hRr, hEr, (rL_dz (j := v_24.toNatClampNeg) hX9 hLI9 hKt (by omega) (show ((v_24.toInt.toNat : Nat) : Int) + 1 = x3_3.toInt by omega) hl0)⟩, by rw [ht]; exact hP, va_K.moved hW.alike hK, hD⟩, hS.F ht⟩) hS.2.2 dX12_comesTo_204
                  · have c_25 : v_7.toInt ≠ 5 := b_ne c_25
                    refine lv_iload hx hb dX12_comesTo_187 (lv_at hl 3 rfl) ?_
                    refine lv_bipush (v := 6) hx hb dX12_comesTo_189 (by decide) ?_
                    refine lv_icmp_ne (tgt := 205) hx hb dX12_comesTo_191 (by decide) (fun c_33 => ?_) (fun c_33 => ?_)
                    · have c_33 : v_7.toInt ≠ 6 := b_ne c_33
                      refine lv_aload_n hx hb dX12_comesTo_205 rfl (lv_at hl 5 rfl) ?_
                      refine va_get (D := D) (ci := 12) (v := .ref (a 32)) (C := RX12) (T := TX12) (N := 91) hx hb hT iX12 hown hK hP 0 rfl rfl 43 (by decide) (hT _ t_82) (fun _ h9 => h9) rfl dX12_comesTo_206 ?_
                      refine lv_iload_n hx hb dX12_comesTo_209 rfl (lv_at hl 0 rfl) ?_
                      refine lv_iconst (v := 1) hx hb dX12_comesTo_210 (by decide) ?_
                      refine lv_isub hx hb dX12_comesTo_211 ?_
                      refine lv_topi (fun v_34 ev_34 => ?_)
                      have hv_34 : v_34.toInt = v_24.toInt - 1 := by rw [ev_34]; have := b_rg v_24; exact i_sub (a := v_24.toInt) (b := 1) rfl rfl (by omega) (by omega)
                      refine lv_iload hx hb dX12_comesTo_212 (lv_at hl 3 rfl) ?_
                      refine lv_aload_n hx hb dX12_comesTo_214 rfl (lv_at hl 5 rfl) ?_
                      refine va_get (D := D) (ci := 12) (v := .ref (a 32)) (C := RX12) (T := TX12) (N := 91) hx hb hT iX12 hown hK hP 0 rfl rfl 43 (by decide) (hT _ t_82) (fun _ h9 => h9) rfl dX12_comesTo_215 ?_
                      refine lv_iload_n hx hb dX12_comesTo_218 rfl (lv_at hl 0 rfl) ?_
                      refine lv_iconst (v := 1) hx hb dX12_comesTo_219 (by decide) ?_
                      refine lv_isub hx hb dX12_comesTo_220 ?_
                      refine lv_topi (fun v_35 ev_35 => ?_)
                      have hv_35 : v_35.toInt = v_24.toInt - 1 := by rw [ev_35]; have := b_rg v_24; exact i_sub (a := v_24.toInt) (b := 1) rfl rfl (by omega) (by omega)
                      refine va_iald hx hb hK hP 32 0 rfl rfl (vp_inI (by omega) (by omega)) dX12_comesTo_221 ?_
                      refine lv_topi (fun v_36 ev_36 => ?_)
                      have hwv_36 : v_36.toInt = (r3 32 (v_35.toNatClampNeg)).toInt := congrArg Int32.toInt ev_36
                      refine lv_aload_n hx hb dX12_comesTo_222 rfl (lv_at hl 5 rfl) ?_
                      refine va_get (D := D) (ci := 12) (v := .ref (a 32)) (C := RX12) (T := TX12) (N := 91) hx hb hT iX12 hown hK hP 0 rfl rfl 43 (by decide) (hT _ t_82) (fun _ h9 => h9) rfl dX12_comesTo_223 ?_
                      refine lv_iload_n hx hb dX12_comesTo_226 rfl (lv_at hl 0 rfl) ?_
                      refine va_iald hx hb hK hP 32 0 rfl rfl (vp_inI (by omega) (by omega)) dX12_comesTo_227 ?_
                      refine lv_topi (fun v_37 ev_37 => ?_)
                      have hwv_37 : v_37.toInt = (r3 32 (v_24.toNatClampNeg)).toInt := congrArg Int32.toInt ev_37
                      refine vp_callSi (W.runS (As := [.int v_7, .int v_36, .int v_37]) (rest := [.int v_34, .ref (a 32)]) ⟨hx, hb, hml, hown, hT⟩ (c_X12_reckon9 l v_7 v_36 v_37 (by omega)) (va_cwS 3 hT (gS t_85 t_86 t_87 t_6) rfl rfl rfl (by decide +kernel) ⟨Nat.le_of_ble_eq_true rfl, Nat.le_of_ble_eq_true rfl⟩) preT rfl rfl hl.1 rfl (lv_room (Nat.le_of_ble_eq_true rfl)) dX12_comesTo_228 ⟨Nat.le_of_ble_eq_true rfl, Nat.le_of_ble_eq_true rfl⟩) (fun r_38 hr_38 => ?_)
                      refine va_iast hx hb hK hP hD hS 32 0 rfl rfl (vp_inI (by omega) (by omega)) dX12_comesTo_231 (fun H locs hP hD hS => ?_)
                      rw [mS32] at hP hD
                      have hRr : mRr (va_up r3 32 (upd (r3 32) v_34.toNatClampNeg r_38)) := Rr_upd hRr 32 (v_34.toNatClampNeg) r_38 (b_rg _)
                      have hEr : mEr [32] _ (va_up r3 32 (upd (r3 32) v_34.toNatClampNeg r_38)) := Er_up hEr 32 _ (by decide)
                      refine lv_goto (tgt := 16) hx hb dX12_comesTo_232 (by decide) ?_
                      have hgk : g v_10.toInt.toNat = g (K + 1) := congrArg g (by omega)
                      have hxv : v_36 = r3 32 v_34.toNatClampNeg := by rw [ev_36]; exact congrArg (r3 32) (by show v_35.toInt.toNat = v_34.toInt.toNat; omega)
                      have hex : r_38 = rK (cOp (r 27 K)) (r3 32 v_34.toNatClampNeg) (r3 32 v_24.toNatClampNeg) := by rw [hr_38, hop, hxv, ev_37]
                      have hz9 : ¬ ((cOp (r 27 K) = 5 ∨ cOp (r 27 K) = 6) ∧ r3 32 v_24.toNatClampNeg = 0) := fun h9 => by
                        have h8 := h9.1
                        omega
                      have hLn := rL_bin (x := r_38) (j := v_24.toNatClampNeg) (j2 := v_34.toNatClampNeg) hX9 hLI9 hKt ⟨by omega, by omega, by omega, by omega, by omega⟩ (show ((v_24.toInt.toNat : Nat) : Int) + 1 = x3_3.toInt by omega) (show ((v_34.toInt.toNat : Nat) : Int) + 2 = x3_3.toInt by omega) hz9 hex
                      rw [show K + 1 = v_10.toInt.toNat by omega, show x3_3.toInt - 1 = v_24.toInt by omega] at hLn
                      exact ih3 v_10 v_24 (va_up r3 32 (upd (r3 32) v_34.toNatClampNeg r_38)) _ _ _ (by first | omega | (simp only [Int.toNat]; omega)) (by first | omega | decide) (by first | omega | decide) hRr hEr ⟨⟨by omega, by omega, by omega⟩, hLn⟩ hP hD hS (lv_sub hl [1, 4, 0, 5, 6, 7] rfl)
                    · have c_33 : v_7.toInt = 6 := b_nne c_33
                      refine lv_aload_n hx hb dX12_comesTo_194 rfl (lv_at hl 5 rfl) ?_
                      refine va_get (D := D) (ci := 12) (v := .ref (a 32)) (C := RX12) (T := TX12) (N := 91) hx hb hT iX12 hown hK hP 0 rfl rfl 43 (by decide) (hT _ t_82) (fun _ h9 => h9) rfl dX12_comesTo_195 ?_
                      refine lv_iload_n hx hb dX12_comesTo_198 rfl (lv_at hl 0 rfl) ?_
                      refine va_iald hx hb hK hP 32 0 rfl rfl (vp_inI (by omega) (by omega)) dX12_comesTo_199 ?_
                      refine lv_topi (fun v_39 ev_39 => ?_)
                      have hwv_39 : v_39.toInt = (r3 32 (v_24.toNatClampNeg)).toInt := congrArg Int32.toInt ev_39
                      refine lv_if_ne (tgt := 205) hx hb dX12_comesTo_200 (by decide) (fun c_40 => ?_) (fun c_40 => ?_)
                      · have c_40 : v_39.toInt ≠ 0 := b_ne c_40
                        refine lv_aload_n hx hb dX12_comesTo_205 rfl (lv_at hl 5 rfl) ?_
                        refine va_get (D := D) (ci := 12) (v := .ref (a 32)) (C := RX12) (T := TX12) (N := 91) hx hb hT iX12 hown hK hP 0 rfl rfl 43 (by decide) (hT _ t_82) (fun _ h9 => h9) rfl dX12_comesTo_206 ?_
                        refine lv_iload_n hx hb dX12_comesTo_209 rfl (lv_at hl 0 rfl) ?_
                        refine lv_iconst (v := 1) hx hb dX12_comesTo_210 (by decide) ?_
                        refine lv_isub hx hb dX12_comesTo_211 ?_
                        refine lv_topi (fun v_41 ev_41 => ?_)
                        have hv_41 : v_41.toInt = v_24.toInt - 1 := by rw [ev_41]; have := b_rg v_24; exact i_sub (a := v_24.toInt) (b := 1) rfl rfl (by omega) (by omega)
                        refine lv_iload hx hb dX12_comesTo_212 (lv_at hl 3 rfl) ?_
                        refine lv_aload_n hx hb dX12_comesTo_214 rfl (lv_at hl 5 rfl) ?_
                        refine va_get (D := D) (ci := 12) (v := .ref (a 32)) (C := RX12) (T := TX12) (N := 91) hx hb hT iX12 hown hK hP 0 rfl rfl 43 (by decide) (hT _ t_82) (fun _ h9 => h9) rfl dX12_comesTo_215 ?_
                        refine lv_iload_n hx hb dX12_comesTo_218 rfl (lv_at hl 0 rfl) ?_
                        refine lv_iconst (v := 1) hx hb dX12_comesTo_219 (by decide) ?_
                        refine lv_isub hx hb dX12_comesTo_220 ?_
                        refine lv_topi (fun v_42 ev_42 => ?_)
                        have hv_42 : v_42.toInt = v_24.toInt - 1 := by rw [ev_42]; have := b_rg v_24; exact i_sub (a := v_24.toInt) (b := 1) rfl rfl (by omega) (by omega)
                        refine va_iald hx hb hK hP 32 0 rfl rfl (vp_inI (by omega) (by omega)) dX12_comesTo_221 ?_
                        refine lv_topi (fun v_43 ev_43 => ?_)
                        have hwv_43 : v_43.toInt = (r3 32 (v_42.toNatClampNeg)).toInt := congrArg Int32.toInt ev_43
                        refine lv_aload_n hx hb dX12_comesTo_222 rfl (lv_at hl 5 rfl) ?_
                        refine va_get (D := D) (ci := 12) (v := .ref (a 32)) (C := RX12) (T := TX12) (N := 91) hx hb hT iX12 hown hK hP 0 rfl rfl 43 (by decide) (hT _ t_82) (fun _ h9 => h9) rfl dX12_comesTo_223 ?_
                        refine lv_iload_n hx hb dX12_comesTo_226 rfl (lv_at hl 0 rfl) ?_
                        refine va_iald hx hb hK hP 32 0 rfl rfl (vp_inI (by omega) (by omega)) dX12_comesTo_227 ?_
                        refine lv_topi (fun v_44 ev_44 => ?_)
                        have hwv_44 : v_44.toInt = (r3 32 (v_24.toNatClampNeg)).toInt := congrArg Int32.toInt ev_44
                        refine vp_callSi (W.runS (As := [.int v_7, .int v_43, .int v_44]) (rest := [.int v_41, .ref (a 32)]) ⟨hx, hb, hml, hown, hT⟩ (c_X12_reckon9 l v_7 v_43 v_44 (by omega)) (va_cwS 3 hT (gS t_85 t_86 t_87 t_6) rfl rfl rfl (by decide +kernel) ⟨Nat.le_of_ble_eq_true rfl, Nat.le_of_ble_eq_true rfl⟩) preT rfl rfl hl.1 rfl (lv_room (Nat.le_of_ble_eq_true rfl)) dX12_comesTo_228 ⟨Nat.le_of_ble_eq_true rfl, Nat.le_of_ble_eq_true rfl⟩) (fun r_45 hr_45 => ?_)
                        refine va_iast hx hb hK hP hD hS 32 0 rfl rfl (vp_inI (by omega) (by omega)) dX12_comesTo_231 (fun H locs hP hD hS => ?_)
                        rw [mS32] at hP hD
                        have hRr : mRr (va_up r3 32 (upd (r3 32) v_41.toNatClampNeg r_45)) := Rr_upd hRr 32 (v_41.toNatClampNeg) r_45 (b_rg _)
                        have hEr : mEr [32] _ (va_up r3 32 (upd (r3 32) v_41.toNatClampNeg r_45)) := Er_up hEr 32 _ (by decide)
                        refine lv_goto (tgt := 16) hx hb dX12_comesTo_232 (by decide) ?_
                        have hgk : g v_10.toInt.toNat = g (K + 1) := congrArg g (by omega)
                        have hxv : v_43 = r3 32 v_41.toNatClampNeg := by rw [ev_43]; exact congrArg (r3 32) (by show v_42.toInt.toNat = v_41.toInt.toNat; omega)
                        have hex : r_45 = rK (cOp (r 27 K)) (r3 32 v_41.toNatClampNeg) (r3 32 v_24.toNatClampNeg) := by rw [hr_45, hop, hxv, ev_44]
                        have hz9 : ¬ ((cOp (r 27 K) = 5 ∨ cOp (r 27 K) = 6) ∧ r3 32 v_24.toNatClampNeg = 0) := fun h9 => by
                          have h8 : v_39.toInt = 0 := (by rw [ev_39, h9.2]; rfl); omega
                        have hLn := rL_bin (x := r_45) (j := v_24.toNatClampNeg) (j2 := v_41.toNatClampNeg) hX9 hLI9 hKt ⟨by omega, by omega, by omega, by omega, by omega⟩ (show ((v_24.toInt.toNat : Nat) : Int) + 1 = x3_3.toInt by omega) (show ((v_41.toInt.toNat : Nat) : Int) + 2 = x3_3.toInt by omega) hz9 hex
                        rw [show K + 1 = v_10.toInt.toNat by omega, show x3_3.toInt - 1 = v_24.toInt by omega] at hLn
                        exact ih3 v_10 v_24 (va_up r3 32 (upd (r3 32) v_41.toNatClampNeg r_45)) _ _ _ (by first | omega | (simp only [Int.toNat]; omega)) (by first | omega | decide) (by first | omega | decide) hRr hEr ⟨⟨by omega, by omega, by omega⟩, hLn⟩ hP hD hS (lv_sub hl [1, 4, 0, 5, 6, 7] rfl)
                      · have c_40 : v_39.toInt = 0 := b_nne c_40
                        refine lv_iconst (v := 0) hx hb dX12_comesTo_203 (by decide) ?_
                        subst hQ
                        have hl0 : r3 32 v_24.toNatClampNeg = 0 := by rw [← ev_39]; exact Int32.toInt_inj.mp (show v_39.toInt = 0 by omega)
                        exact W.iret (v := 0) hx hb hr (fun t ht hW => ⟨⟨_, r3, rfl, ⟨hRr, hEr, (rL_dz (j := v_24.toNatClampNeg) hX9 hLI9 hKt (by omega) (show ((v_24.toInt.toNat : Nat) : Int) + 1 = x3_3.toInt by omega) hl0)⟩, by rw [ht]; exact hP, va_K.moved hW.alike hK, hD⟩, hS.F ht⟩) hS.2.2 dX12_comesTo_204
                · have c_23 : v_7.toInt = 12 := b_nne c_23
                  refine lv_aload_n hx hb dX12_comesTo_137 rfl (lv_at hl 5 rfl) ?_
                  refine va_get (D := D) (ci := 12) (v := .ref (a 32)) (C := RX12) (T := TX12) (N := 91) hx hb hT iX12 hown hK hP 0 rfl rfl 43 (by decide) (hT _ t_82) (fun _ h9 => h9) rfl dX12_comesTo_138 ?_
                  refine lv_iload_n hx hb dX12_comesTo_141 rfl (lv_at hl 4 rfl) ?_
                  refine lv_iconst (v := 1) hx hb dX12_comesTo_142 (by decide) ?_
                  refine lv_isub hx hb dX12_comesTo_143 ?_
                  refine lv_topi (fun v_46 ev_46 => ?_)
                  have hv_46 : v_46.toInt = x3_3.toInt - 1 := by rw [ev_46]; have := b_rg x3_3; exact i_sub (a := x3_3.toInt) (b := 1) rfl rfl (by omega) (by omega)
                  refine va_iald hx hb hK hP 32 0 rfl rfl (vp_inI (by omega) (by omega)) dX12_comesTo_144 ?_
                  refine lv_topi (fun v_47 ev_47 => ?_)
                  have hwv_47 : v_47.toInt = (r3 32 (v_46.toNatClampNeg)).toInt := congrArg Int32.toInt ev_47
                  refine lv_iload hx hb dX12_comesTo_145 (lv_at hl 2 rfl) ?_
                  refine lv_bipush (v := 12) hx hb dX12_comesTo_147 (by decide) ?_
                  refine lv_icmp_ne (tgt := 156) hx hb dX12_comesTo_149 (by decide) (fun c_48 => by have c_48 : v_7.toInt ≠ 12 := b_ne c_48; omega) (fun c_48 => ?_)
                  have c_48 : v_7.toInt = 12 := b_nne c_48
                  refine lv_iconst (v := 1) hx hb dX12_comesTo_152 (by decide) ?_
                  refine lv_goto (tgt := 157) hx hb dX12_comesTo_153 (by decide) ?_
                  refine lv_icmp_ne (tgt := 170) hx hb dX12_comesTo_157 (by decide) (fun c_49 => ?_) (fun c_49 => ?_)
                  · have c_49 : v_47.toInt ≠ 1 := b_ne c_49
                    refine lv_iload_n hx hb dX12_comesTo_170 rfl (lv_at hl 4 rfl) ?_
                    refine lv_iconst (v := 1) hx hb dX12_comesTo_171 (by decide) ?_
                    refine lv_isub hx hb dX12_comesTo_172 ?_
                    refine lv_topi (fun v_50 ev_50 => ?_)
                    have hv_50 : v_50.toInt = x3_3.toInt - 1 := by rw [ev_50]; have := b_rg x3_3; exact i_sub (a := x3_3.toInt) (b := 1) rfl rfl (by omega) (by omega)
                    refine lv_istore_n (lv' := [(3, .int v_50), (5, .int v_10), (7, .int v_9), (6, .int v_7), (4, .int 0), (0, .ref (a 0)), (1, .int p0), (2, .int p1)]) hx hb dX12_comesTo_173 rfl hl (by decide) rfl (fun ls hl => ?_)
                    refine lv_goto (tgt := 232) hx hb dX12_comesTo_174 (by decide) ?_
                    refine lv_goto (tgt := 16) hx hb dX12_comesTo_232 (by decide) ?_
                    have hgk : g v_10.toInt.toNat = g (K + 1) := congrArg g (by omega)
                    have hl0 : r3 32 v_46.toNatClampNeg ≠ 1 := fun h9 => by have h8 : v_47.toInt = 1 := (by rw [ev_47, h9]; rfl); omega
                    have hLn := rL_pop (j := v_46.toNatClampNeg) hX9 hLI9 hKt (Or.inr ⟨by omega, hl0⟩) (show ((v_46.toInt.toNat : Nat) : Int) + 1 = x3_3.toInt by omega)
                    rw [show K + 1 = v_10.toInt.toNat by omega, show x3_3.toInt - 1 = v_50.toInt by omega] at hLn
                    exact ih3 v_10 v_50 r3 _ _ _ (by first | omega | (simp only [Int.toNat]; omega)) (by first | omega | decide) (by first | omega | decide) hRr hEr ⟨⟨by omega, by omega, by omega⟩, hLn⟩ hP hD hS (lv_sub hl [1, 4, 0, 5, 6, 7] rfl)
                  · have c_49 : v_47.toInt = 1 := b_nne c_49
                    refine lv_iload hx hb dX12_comesTo_160 (lv_at hl 3 rfl) ?_
                    refine lv_iload hx hb dX12_comesTo_162 (lv_at hl 1 rfl) ?_
                    refine lv_iadd hx hb dX12_comesTo_164 ?_
                    refine lv_topi (fun v_51 ev_51 => ?_)
                    have hv_51 : v_51.toInt = 0 + v_9.toInt := by rw [ev_51]; have := b_rg v_9; exact i_add (a := 0) (b := v_9.toInt) rfl rfl (by omega) (by omega)
                    refine lv_istore (lv' := [(5, .int v_51), (7, .int v_9), (6, .int v_7), (4, .int 0), (3, .int x3_3), (0, .ref (a 0)), (1, .int p0), (2, .int p1)]) hx hb dX12_comesTo_165 hl (by decide) rfl (fun ls hl => ?_)
                    refine lv_goto (tgt := 232) hx hb dX12_comesTo_167 (by decide) ?_
                    refine lv_goto (tgt := 16) hx hb dX12_comesTo_232 (by decide) ?_
                    have hgk : g v_51.toInt.toNat = g (cV (r 27 K)).toNat := congrArg g (by omega)
                    have hl0 : r3 32 v_46.toNatClampNeg = 1 := by rw [← ev_47]; exact Int32.toInt_inj.mp (show v_47.toInt = 1 by omega)
                    have hLn := rL_jmp (j := v_46.toNatClampNeg) hX9 hLI9 hKt (Or.inr ⟨by omega, hl0⟩) (show ((v_46.toInt.toNat : Nat) : Int) + 1 = x3_3.toInt by omega)
                    rw [show (cV (r 27 K)).toNat = v_51.toInt.toNat by omega] at hLn
                    exact ih3 v_51 x3_3 r3 _ _ _ (by first | omega | (simp only [Int.toNat]; omega)) (by first | omega | decide) (by first | omega | decide) hRr hEr ⟨⟨by omega, by omega, by omega⟩, hLn⟩ hP hD hS (lv_sub hl [0, 3, 4, 5, 6, 7] rfl)
            · have c_15 : v_7.toInt = 10 := b_nne c_15
              refine lv_aload_n hx hb dX12_comesTo_102 rfl (lv_at hl 5 rfl) ?_
              refine va_get (D := D) (ci := 12) (v := .ref (a 32)) (C := RX12) (T := TX12) (N := 91) hx hb hT iX12 hown hK hP 0 rfl rfl 43 (by decide) (hT _ t_82) (fun _ h9 => h9) rfl dX12_comesTo_103 ?_
              refine lv_iload_n hx hb dX12_comesTo_106 rfl (lv_at hl 4 rfl) ?_
              refine lv_iconst (v := 1) hx hb dX12_comesTo_107 (by decide) ?_
              refine lv_isub hx hb dX12_comesTo_108 ?_
              refine lv_topi (fun v_52 ev_52 => ?_)
              have hv_52 : v_52.toInt = x3_3.toInt - 1 := by rw [ev_52]; have := b_rg x3_3; exact i_sub (a := x3_3.toInt) (b := 1) rfl rfl (by omega) (by omega)
              refine lv_iconst (v := 1) hx hb dX12_comesTo_109 (by decide) ?_
              refine lv_aload_n hx hb dX12_comesTo_110 rfl (lv_at hl 5 rfl) ?_
              refine va_get (D := D) (ci := 12) (v := .ref (a 32)) (C := RX12) (T := TX12) (N := 91) hx hb hT iX12 hown hK hP 0 rfl rfl 43 (by decide) (hT _ t_82) (fun _ h9 => h9) rfl dX12_comesTo_111 ?_
              refine lv_iload_n hx hb dX12_comesTo_114 rfl (lv_at hl 4 rfl) ?_
              refine lv_iconst (v := 1) hx hb dX12_comesTo_115 (by decide) ?_
              refine lv_isub hx hb dX12_comesTo_116 ?_
              refine lv_topi (fun v_53 ev_53 => ?_)
              have hv_53 : v_53.toInt = x3_3.toInt - 1 := by rw [ev_53]; have := b_rg x3_3; exact i_sub (a := x3_3.toInt) (b := 1) rfl rfl (by omega) (by omega)
              refine va_iald hx hb hK hP 32 0 rfl rfl (vp_inI (by omega) (by omega)) dX12_comesTo_117 ?_
              refine lv_topi (fun v_54 ev_54 => ?_)
              have hwv_54 : v_54.toInt = (r3 32 (v_53.toNatClampNeg)).toInt := congrArg Int32.toInt ev_54
              refine lv_isub hx hb dX12_comesTo_118 ?_
              refine lv_topi (fun v_55 ev_55 => ?_)
              refine va_iast hx hb hK hP hD hS 32 0 rfl rfl (vp_inI (by omega) (by omega)) dX12_comesTo_119 (fun H locs hP hD hS => ?_)
              rw [mS32] at hP hD
              have hRr : mRr (va_up r3 32 (upd (r3 32) v_52.toNatClampNeg v_55)) := Rr_upd hRr 32 (v_52.toNatClampNeg) v_55 (b_rg _)
              have hEr : mEr [32] _ (va_up r3 32 (upd (r3 32) v_52.toNatClampNeg v_55)) := Er_up hEr 32 _ (by decide)
              refine lv_goto (tgt := 232) hx hb dX12_comesTo_120 (by decide) ?_
              refine lv_goto (tgt := 16) hx hb dX12_comesTo_232 (by decide) ?_
              have hgk : g v_10.toInt.toNat = g (K + 1) := congrArg g (by omega)
              have hlv : v_54 = r3 32 v_52.toNatClampNeg := by rw [ev_54]; exact congrArg (r3 32) (by show v_53.toInt.toNat = v_52.toInt.toNat; omega)
              have hLn := rL_not (x := v_55) (j := v_52.toNatClampNeg) hX9 hLI9 hKt (by omega) (show ((v_52.toInt.toNat : Nat) : Int) + 1 = x3_3.toInt by omega) (by rw [ev_55, hlv])
              rw [show K + 1 = v_10.toInt.toNat by omega] at hLn
              exact ih3 v_10 x3_3 (va_up r3 32 (upd (r3 32) v_52.toNatClampNeg v_55)) _ _ _ (by first | omega | (simp only [Int.toNat]; omega)) (by first | omega | decide) (by first | omega | decide) hRr hEr ⟨⟨by omega, by omega, by omega⟩, hLn⟩ hP hD hS (lv_sub hl [0, 3, 4, 5, 6, 7] rfl)
          · have c_14 : v_7.toInt = 1 := b_nne c_14
            refine lv_aload_n hx hb dX12_comesTo_65 rfl (lv_at hl 5 rfl) ?_
            refine va_get (D := D) (ci := 12) (v := .ref (a 32)) (C := RX12) (T := TX12) (N := 91) hx hb hT iX12 hown hK hP 0 rfl rfl 43 (by decide) (hT _ t_82) (fun _ h9 => h9) rfl dX12_comesTo_66 ?_
            refine lv_iload_n hx hb dX12_comesTo_69 rfl (lv_at hl 4 rfl) ?_
            refine lv_iload hx hb dX12_comesTo_70 (lv_at hl 2 rfl) ?_
            refine lv_if_ne (tgt := 80) hx hb dX12_comesTo_72 (by decide) (fun c_56 => ?_) (fun c_56 => by have c_56 : v_7.toInt = 0 := b_nne c_56; omega)
            have c_56 : v_7.toInt ≠ 0 := b_ne c_56
            refine lv_aload_n hx hb dX12_comesTo_80 rfl (lv_at hl 5 rfl) ?_
            refine va_get (D := D) (ci := 12) (v := .ref (a 33)) (C := RX12) (T := TX12) (N := 91) hx hb hT iX12 hown hK hP 0 rfl rfl 44 (by decide) (hT _ t_65) (fun _ h9 => h9) rfl dX12_comesTo_81 ?_
            refine lv_iload hx hb dX12_comesTo_84 (lv_at hl 1 rfl) ?_
            refine va_iald hx hb hK hP 33 0 rfl rfl (vp_inI (by omega) (by omega)) dX12_comesTo_86 ?_
            refine lv_topi (fun v_57 ev_57 => ?_)
            have hlv : v_57 = r 33 (cV (r 27 K)).toNat := by rw [ev_57, hEr 33 (by decide)]; exact congrArg (r 33) (by show v_9.toInt.toNat = _; rw [hvv])
            refine va_iast hx hb hK hP hD hS 32 0 rfl rfl (vp_inI (by omega) (by omega)) dX12_comesTo_87 (fun H locs hP hD hS => ?_)
            rw [mS32] at hP hD
            have hRr : mRr (va_up r3 32 (upd (r3 32) x3_3.toNatClampNeg v_57)) := Rr_upd hRr 32 (x3_3.toNatClampNeg) v_57 (b_rg _)
            have hEr : mEr [32] _ (va_up r3 32 (upd (r3 32) x3_3.toNatClampNeg v_57)) := Er_up hEr 32 _ (by decide)
            refine lv_iload_n hx hb dX12_comesTo_88 rfl (lv_at hl 4 rfl) ?_
            refine lv_iconst (v := 1) hx hb dX12_comesTo_89 (by decide) ?_
            refine lv_iadd hx hb dX12_comesTo_90 ?_
            refine lv_topi (fun v_58 ev_58 => ?_)
            have hv_58 : v_58.toInt = x3_3.toInt + 1 := by rw [ev_58]; have := b_rg x3_3; exact i_add (a := x3_3.toInt) (b := 1) rfl rfl (by omega) (by omega)
            refine lv_istore_n (lv' := [(3, .int v_58), (5, .int v_10), (7, .int v_9), (6, .int v_7), (4, .int 0), (0, .ref (a 0)), (1, .int p0), (2, .int p1)]) hx hb dX12_comesTo_91 rfl hl (by decide) rfl (fun ls hl => ?_)
            refine lv_goto (tgt := 232) hx hb dX12_comesTo_92 (by decide) ?_
            refine lv_goto (tgt := 16) hx hb dX12_comesTo_232 (by decide) ?_
            have hgk : g v_10.toInt.toNat = g (K + 1) := congrArg g (by omega)
            have hLn := rL_let (x := v_57) (j := x3_3.toNatClampNeg) hX9 hLI9 hKt (by omega) hlv (show ((x3_3.toInt.toNat : Nat) : Int) = x3_3.toInt by omega)
            rw [show K + 1 = v_10.toInt.toNat by omega, show x3_3.toInt + 1 = v_58.toInt by omega] at hLn
            exact ih3 v_10 v_58 (va_up r3 32 (upd (r3 32) x3_3.toNatClampNeg v_57)) _ _ _ (by first | omega | (simp only [Int.toNat]; omega)) (by first | omega | decide) (by first | omega | decide) hRr hEr ⟨⟨by omega, by omega, by omega⟩, hLn⟩ hP hD hS (lv_sub hl [1, 4, 0, 5, 6, 7] rfl)
  exact loop_3 _ p0 0 r _ _ _ (Nat.lt_succ_self _) (by first | omega | decide) (by first | omega | decide) hRr hEr ⟨⟨by omega, by omega, by have h3 : (0 : Int32).toInt = 0 := rfl; omega⟩, rL_0 hX9⟩ hP hD hS hl
set_option maxHeartbeats 4000000 in
set_option maxRecDepth 100000 in
theorem c_X12_byLaw9 (l : Launch) (D : va_G) (cy : Nat → ClassId) (a : Nat → Nat) (i : Nat → Int32) (r : Nat → Nat → Int32) (rl : Nat → Int64) (p0 p1 p2 : Int32) (sz : Nat) (hRi : mRi i) (hRr : mRr r) (hE : mE i r) (q0 : p0.toInt ≠ 98) : Met l yX12_byLaw (Cond.code yX12_byLaw cX12_byLaw 6 (some .int) :: gT) { frames := 3, cells := 0, slots := 0, locals := 73 } (va_Pc [.ref (a 0), .int p0, .int p1, .int p2] (rQ D cy (mW cy a i r rl) sz)) (va_Qi (fun (z : Int32) (u : Nat → Nat → Int32) => mRr u ∧ mEr [32] r u ∧ (z = byL (mD i r) (r 33) p0 p1 p2)) (fun (u : Nat → Nat → Int32) t => va_P D vwCl (mW cy a i u rl) t.heap ∧ va_K D vwCl (vT cy) t ∧ va_D (va_A (mW cy a i r rl) sz) (mW cy a i u rl)) (va_A (mW cy a i r rl) sz)) 0 0 (va_A (mW cy a i r rl) sz) := by
  refine Met.ofQ (cc := cX12_byLaw) (maxL := 6) (ret := (some .int)) (by decide) rfl ?_
  intro p e s m args below meth c s₁ B hml hv Q hQ
  obtain ⟨rfl, hsz, hP, hK, hD0⟩ := hv
  have hx := B.exec
  have hb := B.bytes
  have hr := B.returns
  have hlocks := B.notSynchronized
  have hT : ∀ w ∈ gT, w.before _ s = true := fun w h => atoms_spec (ws := (Cond.code yX12_byLaw cX12_byLaw 6 (some .int) :: gT)) B.pre w (List.mem_cons_of_mem _ h)
  have hown : s.vm.findClass RX12 = some m.cls := findClass_of_methodNamed B.named
  subst hsz
  have hD := hD0.self (sz := s.heap.size)
  generalize hAe : va_A (mW cy a i r rl) s.heap.size = A at hD hQ
  have hA : ∀ q : Nat, s.heap.size ≤ q → A q := fun q h => by rw [← hAe]; exact Or.inr h
  have hS : va_S A s.heap s.heap [] := va_S.rf
  have hl := lv_entry ([.ref (a 0), .int p0, .int p1, .int p2]) (n := 6) (Nat.le_of_ble_eq_true rfl)
  rw [lg_entry_eq]
  generalize (lg_sl ([.ref (a 0), .int p0, .int p1, .int p2]) ++ List.replicate (6 - (lg_sl ([.ref (a 0), .int p0, .int p1, .int p2])).length) Slot.unset).toArray = ls at hl ⊢
  have hl : lv_has ls 6 [(0, .ref (a 0)), (1, .int p0), (2, .int p1), (3, .int p2)] := hl
  have hEi : mEi [23, 24, 25, 26, 27, 28, 29, 30, 60] i i := Ei_rf
  have hEr : mEr [32] r r := Er_rf
  refine lv_iconst (v := 0) hx hb dX12_byLaw_0 (by decide) ?_
  refine lv_istore (lv' := [(4, .int 0), (0, .ref (a 0)), (1, .int p0), (2, .int p1), (3, .int p2)]) hx hb dX12_byLaw_1 hl (by decide) rfl (fun ls hl => ?_)
  have loop_1 : ∀ (n : Nat) (x1_4 : Int32) (r1 : Nat → Nat → Int32) (H : Heap) (locs : List Loc) (ls : Array Slot), (14 - x1_4.toInt).toNat < n → (0 ≤ x1_4.toInt ∧ x1_4.toInt ≤ 14) → mRr r1 → mEr [32] r r1 → (∀ k, k < x1_4.toInt.toNat → lwM (mD i r) (r 33) p0 k = false) → va_P D vwCl (mW cy a i r1 rl) H → va_D A (mW cy a i r1 rl) → va_S A s.heap H locs → lv_has ls 6 [(4, .int x1_4), (0, .ref (a 0)), (1, .int p0), (2, .int p1), (3, .int p2)] → W p l e ({ frames := 3, cells := 0, slots := 0, locals := 73 } : Room) s m ([.ref (a 0), .int p0, .int p1, .int p2] : List Value).toArray below meth c H locs 0 0 Q (F0 m 3 ls []) := by
    intro n
    induction n with
    | zero =>
      intro x1_4 r1 H locs ls hm1 hf1_0 hRr hEr hx1 hP hD hS hl
      exact absurd hm1 (by omega)
    | succ n ih1 =>
      intro x1_4 r1 H locs ls hm1 hf1_0 hRr hEr hx1 hP hD hS hl
      refine lv_iload hx hb dX12_byLaw_3 (lv_at hl 0 rfl) ?_
      refine lv_aload_n hx hb dX12_byLaw_5 rfl (lv_at hl 1 rfl) ?_
      refine va_get (D := D) (ci := 12) (v := .int (i 31)) (C := RX12) (T := TX12) (N := 91) hx hb hT iX12 hown hK hP 0 rfl rfl 31 (by decide) (hT _ t_88) (fun _ h9 => h9) rfl dX12_byLaw_6 ?_
      have hg_2 : 0 ≤ (i 31).toInt ∧ (i 31).toInt ≤ 14 := hRi 31
      refine lv_icmp_ge (tgt := 96) hx hb dX12_byLaw_9 (by decide) (fun c_3 => ?_) (fun c_3 => ?_)
      · have c_3 : (i 31).toInt ≤ x1_4.toInt := b_le c_3
        refine lv_iload_n hx hb dX12_byLaw_96 rfl (lv_at hl 4 rfl) ?_
        subst hQ
        exact W.iret (v := p2) hx hb hr (fun t ht hW => ⟨⟨_, r1, rfl, ⟨hRr, hEr, (lwF_no hx1 (show (i 31).toInt.toNat ≤ x1_4.toInt.toNat by omega)).symm⟩, by rw [ht]; exact hP, va_K.moved hW.alike hK, hD⟩, hS.F ht⟩) hS.2.2 dX12_byLaw_97
      · have c_3 : x1_4.toInt < (i 31).toInt := b_nle c_3
        refine lv_aload_n hx hb dX12_byLaw_12 rfl (lv_at hl 1 rfl) ?_
        refine va_get (D := D) (ci := 12) (v := .ref (a 28)) (C := RX12) (T := TX12) (N := 91) hx hb hT iX12 hown hK hP 0 rfl rfl 39 (by decide) (hT _ t_89) (fun _ h9 => h9) rfl dX12_byLaw_13 ?_
        refine lv_iload hx hb dX12_byLaw_16 (lv_at hl 0 rfl) ?_
        refine va_iald hx hb hK hP 28 0 rfl rfl (vp_inI (by omega) (by omega)) dX12_byLaw_18 ?_
        refine lv_topi (fun v_4 ev_4 => ?_)
        have hcl : v_4.toInt = (r 28 x1_4.toInt.toNat).toInt := by rw [ev_4, hEr 28 (by decide)]; rfl
        refine lv_iload_n hx hb dX12_byLaw_19 rfl (lv_at hl 2 rfl) ?_
        refine lv_icmp_ne (tgt := 90) hx hb dX12_byLaw_20 (by decide) (fun c_5 => ?_) (fun c_5 => ?_)
        · have c_5 : v_4.toInt ≠ p0.toInt := b_ne c_5
          obtain ⟨x_6, ex_6⟩ : ∃ y : Int32, y = x1_4 + 1 := ⟨_, rfl⟩
          refine lv_iinc (v := x_6) (lv' := [(4, .int x_6), (0, .ref (a 0)), (1, .int p0), (2, .int p1), (3, .int p2)]) hx hb dX12_byLaw_90 hl (k := 0) rfl (by rw [ex_6]; rfl) (by decide) rfl (fun ls hl => ?_)
          have hx_6 : x_6.toInt = x1_4.toInt + 1 := by rw [ex_6]; have := b_rg x1_4; exact i_add (a := x1_4.toInt) (b := 1) rfl rfl (by omega) (by omega)
          refine lv_goto (tgt := 3) hx hb dX12_byLaw_93 (by decide) ?_
          exact ih1 x_6 r1 _ _ _ (by first | omega | (simp only [Int.toNat]; omega)) (by first | omega | decide) hRr hEr (lwN_s hx1 (show x_6.toInt.toNat = x1_4.toInt.toNat + 1 by omega) (lwM_f1 (show (r 28 x1_4.toInt.toNat).toInt ≠ p0.toInt by rw [← hcl]; omega))) hP hD hS (lv_sub hl [0, 1, 2, 3, 4] rfl)
        · have c_5 : v_4.toInt = p0.toInt := b_nne c_5
          have hnb : (r 28 x1_4.toNatClampNeg).toInt ≠ 98 := by have h8 : (r 28 x1_4.toNatClampNeg).toInt = (r 28 x1_4.toInt.toNat).toInt := rfl; rw [h8, ← hcl]; omega
          refine lv_aload_n hx hb dX12_byLaw_23 rfl (lv_at hl 1 rfl) ?_
          refine lv_aload_n hx hb dX12_byLaw_24 rfl (lv_at hl 1 rfl) ?_
          refine va_get (D := D) (ci := 12) (v := .ref (a 30)) (C := RX12) (T := TX12) (N := 91) hx hb hT iX12 hown hK hP 0 rfl rfl 41 (by decide) (hT _ t_90) (fun _ h9 => h9) rfl dX12_byLaw_25 ?_
          refine lv_iload hx hb dX12_byLaw_28 (lv_at hl 0 rfl) ?_
          refine va_iald hx hb hK hP 30 0 rfl rfl (vp_inI (by omega) (by omega)) dX12_byLaw_30 ?_
          refine lv_topi (fun v_7 ev_7 => ?_)
          have hgv_7 : 0 ≤ v_7.toInt ∧ v_7.toInt ≤ 220 := by rw [ev_7]; exact hRr 30 _
          have eA9 : v_7 = r 30 x1_4.toInt.toNat := by rw [ev_7, hEr 30 (by decide)]; rfl
          refine lv_aload_n hx hb dX12_byLaw_31 rfl (lv_at hl 1 rfl) ?_
          refine va_get (D := D) (ci := 12) (v := .ref (a 31)) (C := RX12) (T := TX12) (N := 91) hx hb hT iX12 hown hK hP 0 rfl rfl 42 (by decide) (hT _ t_91) (fun _ h9 => h9) rfl dX12_byLaw_32 ?_
          refine lv_iload hx hb dX12_byLaw_35 (lv_at hl 0 rfl) ?_
          refine va_iald hx hb hK hP 31 0 rfl rfl (vp_inI (by omega) (by omega)) dX12_byLaw_37 ?_
          refine lv_topi (fun v_8 ev_8 => ?_)
          have hgv_8 : 0 ≤ v_8.toInt ∧ v_8.toInt ≤ 220 := by rw [ev_8]; exact hRr 31 _
          have eB9 : v_8 = r 31 x1_4.toInt.toNat := by rw [ev_8, hEr 31 (by decide)]; rfl
          have hrP : r1 27 = r 27 := hEr 27 (by decide)
          have hrF : r1 33 = r 33 := hEr 33 (by decide)
          have hF_9 := rF hD hS hA
          refine va_calli (va_runV (As := [.int v_7, .int v_8]) (rest := []) ⟨hx, hb, hml, hown, hT⟩ (c_X12_comesTo9 l D cy a i r1 rl v_7 v_8 _ hRi hRr (by omega) (by omega) (by rw [ev_7, ev_8, hEr 27 (by decide), hEr 30 (by decide), hEr 31 (by decide)]; exact (hE.2.2.2.2 x1_4.toNatClampNeg (by have h9 : x1_4.toNatClampNeg = x1_4.toInt.toNat := rfl; omega)).1) (by rw [ev_7, ev_8, hEr 27 (by decide), hEr 30 (by decide), hEr 31 (by decide)]; exact (hE.2.2.2.2 x1_4.toNatClampNeg (by have h9 : x1_4.toNatClampNeg = x1_4.toInt.toNat := rfl; omega)).2.2.2.1)) (cwV 2 hT (gV t_92 t_93 t_94 t_95 t_6) rfl rfl rfl (by decide +kernel) ⟨Nat.le_of_ble_eq_true rfl, Nat.le_of_ble_eq_true rfl⟩) (rQ_v hP hK hD (va_recv hK hP (ci := 12) (q0 := 0) rfl rfl)) rfl rfl hl.1 rfl (lv_room (Nat.le_of_ble_eq_true rfl)) dX12_byLaw_38 ⟨Nat.le_of_ble_eq_true rfl, Nat.le_of_ble_eq_true rfl⟩) hS (fun q _ h => hF_9 q h) hF_9 (fun r_10 u_11 t H1 locs ht hvm hr_10 hB hz1 hk1 hS => ?_)
          obtain ⟨r11, rfl⟩ : ∃ z, z = u_11 := ⟨_, rfl⟩
          obtain ⟨hP, hK1, hD1⟩ := hB
          rw [ht] at hP
          have hD := hD1.weaken (fun k q _ h => hF_9 q.1 h)
          have hP : va_P D vwCl (mW cy a i r11 rl) H1 := hP
          have hD : va_D A (mW cy a i r11 rl) := hD
          obtain ⟨hRr, hE2, hr_10⟩ := hr_10
          have hRr : mRr r11 := hRr
          have hEr : mEr [32] _ r11 := Er_tr hEr hE2 (by decide)
          have hrv : r_10 = rv (r 27) (r 33) (r 30 x1_4.toInt.toNat).toInt.toNat (r 31 x1_4.toInt.toNat).toInt.toNat := by rw [hr_10, hrP, hrF, eA9, eB9]
          refine lv_iconst (v := 1) hx hb dX12_byLaw_41 (by decide) ?_
          refine lv_icmp_eq (tgt := 48) hx hb dX12_byLaw_42 (by decide) (fun c_12 => ?_) (fun c_12 => ?_)
          · have c_12 : r_10.toInt = 1 := b_eq c_12
            refine lv_aload_n hx hb dX12_byLaw_48 rfl (lv_at hl 1 rfl) ?_
            refine lv_aload_n hx hb dX12_byLaw_49 rfl (lv_at hl 1 rfl) ?_
            refine va_get (D := D) (ci := 12) (v := .ref (a 29)) (C := RX12) (T := TX12) (N := 91) hx hb hT iX12 hown hK hP 0 rfl rfl 40 (by decide) (hT _ t_96) (fun _ h9 => h9) rfl dX12_byLaw_50 ?_
            refine lv_iload hx hb dX12_byLaw_53 (lv_at hl 0 rfl) ?_
            refine va_iald hx hb hK hP 29 0 rfl rfl (vp_inI (by omega) (by omega)) dX12_byLaw_55 ?_
            refine lv_topi (fun v_13 ev_13 => ?_)
            have hgv_13 : 0 ≤ v_13.toInt ∧ v_13.toInt ≤ 220 := by rw [ev_13]; exact hRr 29 _
            have eF9 : v_13 = r 29 x1_4.toInt.toNat := by rw [ev_13, hEr 29 (by decide)]; rfl
            refine lv_aload_n hx hb dX12_byLaw_56 rfl (lv_at hl 1 rfl) ?_
            refine va_get (D := D) (ci := 12) (v := .ref (a 30)) (C := RX12) (T := TX12) (N := 91) hx hb hT iX12 hown hK hP 0 rfl rfl 41 (by decide) (hT _ t_90) (fun _ h9 => h9) rfl dX12_byLaw_57 ?_
            refine lv_iload hx hb dX12_byLaw_60 (lv_at hl 0 rfl) ?_
            refine va_iald hx hb hK hP 30 0 rfl rfl (vp_inI (by omega) (by omega)) dX12_byLaw_62 ?_
            refine lv_topi (fun v_14 ev_14 => ?_)
            have hgv_14 : 0 ≤ v_14.toInt ∧ v_14.toInt ≤ 220 := by rw [ev_14]; exact hRr 30 _
            have eH9 : v_14 = r 30 x1_4.toInt.toNat := by rw [ev_14, hEr 30 (by decide)]; rfl
            have hrP : r11 27 = r 27 := hEr 27 (by decide)
            have hrF : r11 33 = r 33 := hEr 33 (by decide)
            have hF_15 := rF hD hS hA
            refine va_calli (va_runV (As := [.int v_13, .int v_14]) (rest := []) ⟨hx, hb, hml, hown, hT⟩ (c_X12_comesTo9 l D cy a i r11 rl v_13 v_14 _ hRi hRr (by omega) (by omega) (by rw [ev_13, ev_14, hEr 27 (by decide), hEr 29 (by decide), hEr 30 (by decide)]; exact ((hE.2.2.2.2 x1_4.toNatClampNeg (by have h9 : x1_4.toNatClampNeg = x1_4.toInt.toNat := rfl; omega)).2.1 (by exact hnb))) (by rw [ev_13, ev_14, hEr 27 (by decide), hEr 29 (by decide), hEr 30 (by decide)]; exact (hE.2.2.2.2 x1_4.toNatClampNeg (by have h9 : x1_4.toNatClampNeg = x1_4.toInt.toNat := rfl; omega)).2.2.1)) (cwV 2 hT (gV t_92 t_93 t_94 t_95 t_6) rfl rfl rfl (by decide +kernel) ⟨Nat.le_of_ble_eq_true rfl, Nat.le_of_ble_eq_true rfl⟩) (rQ_v hP hK hD (va_recv hK hP (ci := 12) (q0 := 0) rfl rfl)) rfl rfl hl.1 rfl (lv_room (Nat.le_of_ble_eq_true rfl)) dX12_byLaw_63 ⟨Nat.le_of_ble_eq_true rfl, Nat.le_of_ble_eq_true rfl⟩) hS (fun q _ h => hF_15 q h) hF_15 (fun r_16 u_17 t H1 locs ht hvm hr_16 hB hz1 hk1 hS => ?_)
            obtain ⟨r17, rfl⟩ : ∃ z, z = u_17 := ⟨_, rfl⟩
            obtain ⟨hP, hK1, hD1⟩ := hB
            rw [ht] at hP
            have hD := hD1.weaken (fun k q _ h => hF_15 q.1 h)
            have hP : va_P D vwCl (mW cy a i r17 rl) H1 := hP
            have hD : va_D A (mW cy a i r17 rl) := hD
            obtain ⟨hRr, hE2, hr_16⟩ := hr_16
            have hRr : mRr r17 := hRr
            have hEr : mEr [32] _ r17 := Er_tr hEr hE2 (by decide)
            have hrw : r_16 = rv (r 27) (r 33) (r 29 x1_4.toInt.toNat).toInt.toNat (r 30 x1_4.toInt.toNat).toInt.toNat := by rw [hr_16, hrP, hrF, eF9, eH9]
            refine lv_istore (lv' := [(5, .int r_16), (4, .int x1_4), (0, .ref (a 0)), (1, .int p0), (2, .int p1), (3, .int p2)]) hx hb dX12_byLaw_66 hl (by decide) rfl (fun ls hl => ?_)
            refine lv_iload hx hb dX12_byLaw_68 (lv_at hl 0 rfl) ?_
            refine lv_if_ge (tgt := 77) hx hb dX12_byLaw_70 (by decide) (fun c_18 => ?_) (fun c_18 => ?_)
            · have c_18 : 0 ≤ r_16.toInt := b_le c_18
              refine lv_iload hx hb dX12_byLaw_77 (lv_at hl 0 rfl) ?_
              refine lv_iload_n hx hb dX12_byLaw_79 rfl (lv_at hl 4 rfl) ?_
              refine lv_icmp_le (tgt := 87) hx hb dX12_byLaw_80 (by decide) (fun c_19 => ?_) (fun c_19 => ?_)
              · have c_19 : r_16.toInt ≤ p1.toInt := b_le c_19
                refine lv_iload hx hb dX12_byLaw_87 (lv_at hl 0 rfl) ?_
                subst hQ
                have hb9 : byL (mD i r) (r 33) p0 p1 p2 = clp p1 r_16 := (lwF_hit hx1 (show x1_4.toInt.toNat < (i 31).toInt.toNat by omega) (lwM_t (show (r 28 x1_4.toInt.toNat).toInt = p0.toInt by rw [← hcl]; omega) (hrv.symm.trans (Int32.toInt_inj.mp (show r_10.toInt = 1 by omega))))).trans (congrArg (clp p1) hrw.symm)
                exact W.iret (v := r_16) hx hb hr (fun t ht hW => ⟨⟨_, r17, rfl, ⟨hRr, hEr, (hb9.trans (clp_v (by omega) (by omega))).symm⟩, by rw [ht]; exact hP, va_K.moved hW.alike hK, hD⟩, hS.F ht⟩) hS.2.2 dX12_byLaw_89
              · have c_19 : p1.toInt < r_16.toInt := b_nle c_19
                refine lv_iload_n hx hb dX12_byLaw_83 rfl (lv_at hl 4 rfl) ?_
                refine lv_goto (tgt := 89) hx hb dX12_byLaw_84 (by decide) ?_
                subst hQ
                have hb9 : byL (mD i r) (r 33) p0 p1 p2 = clp p1 r_16 := (lwF_hit hx1 (show x1_4.toInt.toNat < (i 31).toInt.toNat by omega) (lwM_t (show (r 28 x1_4.toInt.toNat).toInt = p0.toInt by rw [← hcl]; omega) (hrv.symm.trans (Int32.toInt_inj.mp (show r_10.toInt = 1 by omega))))).trans (congrArg (clp p1) hrw.symm)
                exact W.iret (v := p1) hx hb hr (fun t ht hW => ⟨⟨_, r17, rfl, ⟨hRr, hEr, (hb9.trans (clp_h (by omega) (by omega))).symm⟩, by rw [ht]; exact hP, va_K.moved hW.alike hK, hD⟩, hS.F ht⟩) hS.2.2 dX12_byLaw_89
            · have c_18 : r_16.toInt < 0 := b_nle c_18
              refine lv_iconst (v := 0) hx hb dX12_byLaw_73 (by decide) ?_
              refine lv_goto (tgt := 89) hx hb dX12_byLaw_74 (by decide) ?_
              subst hQ
              have hb9 : byL (mD i r) (r 33) p0 p1 p2 = clp p1 r_16 := (lwF_hit hx1 (show x1_4.toInt.toNat < (i 31).toInt.toNat by omega) (lwM_t (show (r 28 x1_4.toInt.toNat).toInt = p0.toInt by rw [← hcl]; omega) (hrv.symm.trans (Int32.toInt_inj.mp (show r_10.toInt = 1 by omega))))).trans (congrArg (clp p1) hrw.symm)
              exact W.iret (v := 0) hx hb hr (fun t ht hW => ⟨⟨_, r17, rfl, ⟨hRr, hEr, (hb9.trans (clp_0 (by omega))).symm⟩, by rw [ht]; exact hP, va_K.moved hW.alike hK, hD⟩, hS.F ht⟩) hS.2.2 dX12_byLaw_89
          · have c_12 : r_10.toInt ≠ 1 := b_ne c_12
            refine lv_goto (tgt := 90) hx hb dX12_byLaw_45 (by decide) ?_
            obtain ⟨x_20, ex_20⟩ : ∃ y : Int32, y = x1_4 + 1 := ⟨_, rfl⟩
            refine lv_iinc (v := x_20) (lv' := [(4, .int x_20), (0, .ref (a 0)), (1, .int p0), (2, .int p1), (3, .int p2)]) hx hb dX12_byLaw_90 hl (k := 0) rfl (by rw [ex_20]; rfl) (by decide) rfl (fun ls hl => ?_)
            have hx_20 : x_20.toInt = x1_4.toInt + 1 := by rw [ex_20]; have := b_rg x1_4; exact i_add (a := x1_4.toInt) (b := 1) rfl rfl (by omega) (by omega)
            refine lv_goto (tgt := 3) hx hb dX12_byLaw_93 (by decide) ?_
            exact ih1 x_20 r11 _ _ _ (by first | omega | (simp only [Int.toNat]; omega)) (by first | omega | decide) hRr hEr (lwN_s hx1 (show x_20.toInt.toNat = x1_4.toInt.toNat + 1 by omega) (lwM_f2 (show rv (r 27) (r 33) (r 30 x1_4.toInt.toNat).toInt.toNat (r 31 x1_4.toInt.toNat).toInt.toNat ≠ 1 by rw [← hrv]; exact fun h9 => absurd (congrArg Int32.toInt h9) (show r_10.toInt ≠ 1 by omega)))) hP hD hS (lv_sub hl [0, 1, 2, 3, 4] rfl)
  exact loop_1 _ 0 r _ _ _ (Nat.lt_succ_self _) (by first | omega | decide) hRr hEr lwN_0 hP hD hS hl
set_option maxHeartbeats 4000000 in
set_option maxRecDepth 100000 in
theorem c_X12_anyB9 (l : Launch) (D : va_G) (cy : Nat → ClassId) (a : Nat → Nat) (i : Nat → Int32) (r : Nat → Nat → Int32) (rl : Nat → Int64) (sz : Nat) (hRi : mRi i) (hRr : mRr r) (hE : mE i r) : Met l yX12_anyB (Cond.code yX12_anyB cX12_anyB 2 (some .boolean) :: gT) { frames := 3, cells := 0, slots := 0, locals := 73 } (va_Pc [.ref (a 0)] (rQ D cy (mW cy a i r rl) sz)) (va_Qi (fun (z : Int32) (u : Nat → Nat → Int32) => mRr u ∧ mEr [32] r u ∧ (z = anB (mD i r) (r 33))) (fun (u : Nat → Nat → Int32) t => va_P D vwCl (mW cy a i u rl) t.heap ∧ va_K D vwCl (vT cy) t ∧ va_D (va_A (mW cy a i r rl) sz) (mW cy a i u rl)) (va_A (mW cy a i r rl) sz)) 0 0 (va_A (mW cy a i r rl) sz) := by
  refine Met.ofQ (cc := cX12_anyB) (maxL := 2) (ret := (some .boolean)) (by decide) rfl ?_
  intro p e s m args below meth c s₁ B hml hv Q hQ
  obtain ⟨rfl, hsz, hP, hK, hD0⟩ := hv
  have hx := B.exec
  have hb := B.bytes
  have hr := B.returns
  have hlocks := B.notSynchronized
  have hT : ∀ w ∈ gT, w.before _ s = true := fun w h => atoms_spec (ws := (Cond.code yX12_anyB cX12_anyB 2 (some .boolean) :: gT)) B.pre w (List.mem_cons_of_mem _ h)
  have hown : s.vm.findClass RX12 = some m.cls := findClass_of_methodNamed B.named
  subst hsz
  have hD := hD0.self (sz := s.heap.size)
  generalize hAe : va_A (mW cy a i r rl) s.heap.size = A at hD hQ
  have hA : ∀ q : Nat, s.heap.size ≤ q → A q := fun q h => by rw [← hAe]; exact Or.inr h
  have hS : va_S A s.heap s.heap [] := va_S.rf
  have hl := lv_entry ([.ref (a 0)]) (n := 2) (Nat.le_of_ble_eq_true rfl)
  rw [lg_entry_eq]
  generalize (lg_sl ([.ref (a 0)]) ++ List.replicate (2 - (lg_sl ([.ref (a 0)])).length) Slot.unset).toArray = ls at hl ⊢
  have hl : lv_has ls 2 [(0, .ref (a 0))] := hl
  have hEi : mEi [23, 24, 25, 26, 27, 28, 29, 30, 60] i i := Ei_rf
  have hEr : mEr [32] r r := Er_rf
  have h98 : (98 : Int32).toInt = 98 := rfl
  refine lv_iconst (v := 0) hx hb dX12_anyB_0 (by decide) ?_
  refine lv_istore_n (lv' := [(1, .int 0), (0, .ref (a 0))]) hx hb dX12_anyB_1 rfl hl (by decide) rfl (fun ls hl => ?_)
  have loop_1 : ∀ (n : Nat) (x1_1 : Int32) (r1 : Nat → Nat → Int32) (H : Heap) (locs : List Loc) (ls : Array Slot), (14 - x1_1.toInt).toNat < n → (0 ≤ x1_1.toInt ∧ x1_1.toInt ≤ 14) → mRr r1 → mEr [32] r r1 → (∀ k, k < x1_1.toInt.toNat → lwM (mD i r) (r 33) 98 k = false) → va_P D vwCl (mW cy a i r1 rl) H → va_D A (mW cy a i r1 rl) → va_S A s.heap H locs → lv_has ls 2 [(1, .int x1_1), (0, .ref (a 0))] → W p l e ({ frames := 3, cells := 0, slots := 0, locals := 73 } : Room) s m ([.ref (a 0)] : List Value).toArray below meth c H locs 0 0 Q (F0 m 2 ls []) := by
    intro n
    induction n with
    | zero =>
      intro x1_1 r1 H locs ls hm1 hf1_0 hRr hEr hx1 hP hD hS hl
      exact absurd hm1 (by omega)
    | succ n ih1 =>
      intro x1_1 r1 H locs ls hm1 hf1_0 hRr hEr hx1 hP hD hS hl
      refine lv_iload_n hx hb dX12_anyB_2 rfl (lv_at hl 0 rfl) ?_
      refine lv_aload_n hx hb dX12_anyB_3 rfl (lv_at hl 1 rfl) ?_
      refine va_get (D := D) (ci := 12) (v := .int (i 31)) (C := RX12) (T := TX12) (N := 91) hx hb hT iX12 hown hK hP 0 rfl rfl 31 (by decide) (hT _ t_88) (fun _ h9 => h9) rfl dX12_anyB_4 ?_
      have hg_2 : 0 ≤ (i 31).toInt ∧ (i 31).toInt ≤ 14 := hRi 31
      refine lv_icmp_ge (tgt := 49) hx hb dX12_anyB_7 (by decide) (fun c_3 => ?_) (fun c_3 => ?_)
      · have c_3 : (i 31).toInt ≤ x1_1.toInt := b_le c_3
        refine lv_iconst (v := 0) hx hb dX12_anyB_49 (by decide) ?_
        subst hQ
        exact W.zret hx hb hr rfl (fun t ht hW => ⟨⟨_, r1, rfl, ⟨hRr, hEr, (lwF_no hx1 (show (i 31).toInt.toNat ≤ x1_1.toInt.toNat by omega)).symm⟩, by rw [ht]; exact hP, va_K.moved hW.alike hK, hD⟩, hS.F ht⟩) hS.2.2 dX12_anyB_50
      · have c_3 : x1_1.toInt < (i 31).toInt := b_nle c_3
        refine lv_aload_n hx hb dX12_anyB_10 rfl (lv_at hl 1 rfl) ?_
        refine va_get (D := D) (ci := 12) (v := .ref (a 28)) (C := RX12) (T := TX12) (N := 91) hx hb hT iX12 hown hK hP 0 rfl rfl 39 (by decide) (hT _ t_89) (fun _ h9 => h9) rfl dX12_anyB_11 ?_
        refine lv_iload_n hx hb dX12_anyB_14 rfl (lv_at hl 0 rfl) ?_
        refine va_iald hx hb hK hP 28 0 rfl rfl (vp_inI (by omega) (by omega)) dX12_anyB_15 ?_
        refine lv_topi (fun v_4 ev_4 => ?_)
        have hcl : v_4.toInt = (r 28 x1_1.toInt.toNat).toInt := by rw [ev_4, hEr 28 (by decide)]; rfl
        refine lv_bipush (v := 98) hx hb dX12_anyB_16 (by decide) ?_
        refine lv_icmp_ne (tgt := 43) hx hb dX12_anyB_18 (by decide) (fun c_5 => ?_) (fun c_5 => ?_)
        · have c_5 : v_4.toInt ≠ 98 := b_ne c_5
          obtain ⟨x_6, ex_6⟩ : ∃ y : Int32, y = x1_1 + 1 := ⟨_, rfl⟩
          refine lv_iinc (v := x_6) (lv' := [(1, .int x_6), (0, .ref (a 0))]) hx hb dX12_anyB_43 hl (k := 0) rfl (by rw [ex_6]; rfl) (by decide) rfl (fun ls hl => ?_)
          have hx_6 : x_6.toInt = x1_1.toInt + 1 := by rw [ex_6]; have := b_rg x1_1; exact i_add (a := x1_1.toInt) (b := 1) rfl rfl (by omega) (by omega)
          refine lv_goto (tgt := 2) hx hb dX12_anyB_46 (by decide) ?_
          exact ih1 x_6 r1 _ _ _ (by first | omega | (simp only [Int.toNat]; omega)) (by first | omega | decide) hRr hEr (lwN_s hx1 (show x_6.toInt.toNat = x1_1.toInt.toNat + 1 by omega) (lwM_f1 (show (r 28 x1_1.toInt.toNat).toInt ≠ (98 : Int32).toInt by rw [← hcl]; omega))) hP hD hS (lv_sub hl [0, 1] rfl)
        · have c_5 : v_4.toInt = 98 := b_nne c_5
          refine lv_aload_n hx hb dX12_anyB_21 rfl (lv_at hl 1 rfl) ?_
          refine lv_aload_n hx hb dX12_anyB_22 rfl (lv_at hl 1 rfl) ?_
          refine va_get (D := D) (ci := 12) (v := .ref (a 30)) (C := RX12) (T := TX12) (N := 91) hx hb hT iX12 hown hK hP 0 rfl rfl 41 (by decide) (hT _ t_90) (fun _ h9 => h9) rfl dX12_anyB_23 ?_
          refine lv_iload_n hx hb dX12_anyB_26 rfl (lv_at hl 0 rfl) ?_
          refine va_iald hx hb hK hP 30 0 rfl rfl (vp_inI (by omega) (by omega)) dX12_anyB_27 ?_
          refine lv_topi (fun v_7 ev_7 => ?_)
          have hgv_7 : 0 ≤ v_7.toInt ∧ v_7.toInt ≤ 220 := by rw [ev_7]; exact hRr 30 _
          have eA9 : v_7 = r 30 x1_1.toInt.toNat := by rw [ev_7, hEr 30 (by decide)]; rfl
          refine lv_aload_n hx hb dX12_anyB_28 rfl (lv_at hl 1 rfl) ?_
          refine va_get (D := D) (ci := 12) (v := .ref (a 31)) (C := RX12) (T := TX12) (N := 91) hx hb hT iX12 hown hK hP 0 rfl rfl 42 (by decide) (hT _ t_91) (fun _ h9 => h9) rfl dX12_anyB_29 ?_
          refine lv_iload_n hx hb dX12_anyB_32 rfl (lv_at hl 0 rfl) ?_
          refine va_iald hx hb hK hP 31 0 rfl rfl (vp_inI (by omega) (by omega)) dX12_anyB_33 ?_
          refine lv_topi (fun v_8 ev_8 => ?_)
          have hgv_8 : 0 ≤ v_8.toInt ∧ v_8.toInt ≤ 220 := by rw [ev_8]; exact hRr 31 _
          have eB9 : v_8 = r 31 x1_1.toInt.toNat := by rw [ev_8, hEr 31 (by decide)]; rfl
          have hrP : r1 27 = r 27 := hEr 27 (by decide)
          have hrF : r1 33 = r 33 := hEr 33 (by decide)
          have hF_9 := rF hD hS hA
          refine va_calli (va_runV (As := [.int v_7, .int v_8]) (rest := []) ⟨hx, hb, hml, hown, hT⟩ (c_X12_comesTo9 l D cy a i r1 rl v_7 v_8 _ hRi hRr (by omega) (by omega) (by rw [ev_7, ev_8, hEr 27 (by decide), hEr 30 (by decide), hEr 31 (by decide)]; exact (hE.2.2.2.2 x1_1.toNatClampNeg (by have h9 : x1_1.toNatClampNeg = x1_1.toInt.toNat := rfl; omega)).1) (by rw [ev_7, ev_8, hEr 27 (by decide), hEr 30 (by decide), hEr 31 (by decide)]; exact (hE.2.2.2.2 x1_1.toNatClampNeg (by have h9 : x1_1.toNatClampNeg = x1_1.toInt.toNat := rfl; omega)).2.2.2.1)) (cwV 2 hT (gV t_92 t_93 t_94 t_95 t_6) rfl rfl rfl (by decide +kernel) ⟨Nat.le_of_ble_eq_true rfl, Nat.le_of_ble_eq_true rfl⟩) (rQ_v hP hK hD (va_recv hK hP (ci := 12) (q0 := 0) rfl rfl)) rfl rfl hl.1 rfl (lv_room (Nat.le_of_ble_eq_true rfl)) dX12_anyB_34 ⟨Nat.le_of_ble_eq_true rfl, Nat.le_of_ble_eq_true rfl⟩) hS (fun q _ h => hF_9 q h) hF_9 (fun r_10 u_11 t H1 locs ht hvm hr_10 hB hz1 hk1 hS => ?_)
          obtain ⟨r11, rfl⟩ : ∃ z, z = u_11 := ⟨_, rfl⟩
          obtain ⟨hP, hK1, hD1⟩ := hB
          rw [ht] at hP
          have hD := hD1.weaken (fun k q _ h => hF_9 q.1 h)
          have hP : va_P D vwCl (mW cy a i r11 rl) H1 := hP
          have hD : va_D A (mW cy a i r11 rl) := hD
          obtain ⟨hRr, hE2, hr_10⟩ := hr_10
          have hRr : mRr r11 := hRr
          have hEr : mEr [32] _ r11 := Er_tr hEr hE2 (by decide)
          have hrv : r_10 = rv (r 27) (r 33) (r 30 x1_1.toInt.toNat).toInt.toNat (r 31 x1_1.toInt.toNat).toInt.toNat := by rw [hr_10, hrP, hrF, eA9, eB9]
          refine lv_iconst (v := 1) hx hb dX12_anyB_37 (by decide) ?_
          refine lv_icmp_ne (tgt := 43) hx hb dX12_anyB_38 (by decide) (fun c_12 => ?_) (fun c_12 => ?_)
          · have c_12 : r_10.toInt ≠ 1 := b_ne c_12
            obtain ⟨x_13, ex_13⟩ : ∃ y : Int32, y = x1_1 + 1 := ⟨_, rfl⟩
            refine lv_iinc (v := x_13) (lv' := [(1, .int x_13), (0, .ref (a 0))]) hx hb dX12_anyB_43 hl (k := 0) rfl (by rw [ex_13]; rfl) (by decide) rfl (fun ls hl => ?_)
            have hx_13 : x_13.toInt = x1_1.toInt + 1 := by rw [ex_13]; have := b_rg x1_1; exact i_add (a := x1_1.toInt) (b := 1) rfl rfl (by omega) (by omega)
            refine lv_goto (tgt := 2) hx hb dX12_anyB_46 (by decide) ?_
            exact ih1 x_13 r11 _ _ _ (by first | omega | (simp only [Int.toNat]; omega)) (by first | omega | decide) hRr hEr (lwN_s hx1 (show x_13.toInt.toNat = x1_1.toInt.toNat + 1 by omega) (lwM_f2 (show rv (r 27) (r 33) (r 30 x1_1.toInt.toNat).toInt.toNat (r 31 x1_1.toInt.toNat).toInt.toNat ≠ 1 by rw [← hrv]; exact fun h9 => absurd (congrArg Int32.toInt h9) (show r_10.toInt ≠ 1 by omega)))) hP hD hS (lv_sub hl [0, 1] rfl)
          · have c_12 : r_10.toInt = 1 := b_nne c_12
            refine lv_iconst (v := 1) hx hb dX12_anyB_41 (by decide) ?_
            subst hQ
            exact W.zret hx hb hr rfl (fun t ht hW => ⟨⟨_, r11, rfl, ⟨hRr, hEr, (lwF_hit (V := fun _ => (1 : Int32)) (no := 0) hx1 (show x1_1.toInt.toNat < (i 31).toInt.toNat by omega) (lwM_t (show (r 28 x1_1.toInt.toNat).toInt = (98 : Int32).toInt by rw [← hcl]; show _ = (98 : Int); omega) (hrv.symm.trans (Int32.toInt_inj.mp (show r_10.toInt = 1 by omega))))).symm⟩, by rw [ht]; exact hP, va_K.moved hW.alike hK, hD⟩, hS.F ht⟩) hS.2.2 dX12_anyB_42
  exact loop_1 _ 0 r _ _ _ (Nat.lt_succ_self _) (by first | omega | decide) hRr hEr lwN_0 hP hD hS hl
