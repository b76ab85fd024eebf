/-! numbers -/
theorem b_lt {x y : Int32} (h : x < y) : x.toInt < y.toInt := Int32.lt_iff_toInt_lt.mp h
theorem b_le {x y : Int32} (h : x ≤ y) : x.toInt ≤ y.toInt := Int32.le_iff_toInt_le.mp h
theorem b_nlt {x y : Int32} (h : ¬ x < y) : y.toInt ≤ x.toInt := by rw [Int32.lt_iff_toInt_lt] at h; omega
theorem b_nle {x y : Int32} (h : ¬ x ≤ y) : y.toInt < x.toInt := by rw [Int32.le_iff_toInt_le] at h; omega
theorem b_eq {x y : Int32} (h : x = y) : x.toInt = y.toInt := congrArg _ h
theorem b_nne {x y : Int32} (h : x = y) : x.toInt = y.toInt := congrArg _ h
theorem b_ne {x y : Int32} (h : ¬ x = y) : x.toInt ≠ y.toInt := fun e => h (Int32.toInt_inj.mp e)
theorem vp_inI {x : Int32} {n : Nat} (h0 : 0 ≤ x.toInt) (h1 : x.toInt < n) : vp_in x n := vp_in_iff.mpr ⟨h0, h1⟩
/-- an answer that is u where C holds, else v -/
def BR (r : Int32) (C : Prop) (u v : Int32) : Prop := (r = u ∧ C) ∨ (r = v ∧ ¬ C)
theorem BR_eq {r r2 u v : Int32} {C : Prop} (h : BR r C u v) (h2 : BR r2 C u v) : r = r2 := by
  rcases h with ⟨rfl, h⟩ | ⟨rfl, h⟩ <;> rcases h2 with ⟨rfl, h2⟩ | ⟨rfl, h2⟩ <;> first | rfl | exact absurd h h2 | exact absurd h2 h
/-! the classes of the arrays -/
def vT (cy : Nat → ClassId) : List (ClassId × FieldType) := [(cy 0, .int), (cy 1, .byte), (cy 2, .boolean), (cy 3, .long), (cy 4, .object "DepositJudge$Home")]
/-! the private constructors that nest mates call, and the array class over Home -/
def nw (U : State) : Prop := va_Nw (.methodLinkNest RX11 28 yX4_init RX11) U ∧ va_Nw (.methodLinkNest RX11 35 yX9_init RX11) U ∧ va_Nw (.methodLinkNest RX11 42 yX6_init RX11) U ∧ va_Nw (.methodLinkNest RX6 11 yX5_init RX11) U ∧ va_Nw (.methodLinkNest RX11 49 yX5_init RX11) U ∧ va_Nw (.methodLinkNest RX11 74 yX0_init RX11) U ∧ va_Nw (.methodLinkNest RX11 81 yX2_init RX11) U ∧ va_Nw (.methodLinkNest RX3 24 yX10_init RX11) U ∧ va_AO "DepositJudge$Home" U
theorem nw_same {u U : State} (h : u.vm = U.vm) (q : nw u) : nw U := ⟨va_Nw.same rfl h q.1, va_Nw.same rfl h q.2.1, va_Nw.same rfl h q.2.2.1, va_Nw.same rfl h q.2.2.2.1, va_Nw.same rfl h q.2.2.2.2.1, va_Nw.same rfl h q.2.2.2.2.2.1, va_Nw.same rfl h q.2.2.2.2.2.2.1, va_Nw.same rfl h q.2.2.2.2.2.2.2.1, va_AO.moved (by rw [h]; exact Vm.Alike.refl U.vm) q.2.2.2.2.2.2.2.2⟩
theorem nw_warm {s U : State} (h : s.WarmedH U.vm) (q : nw s) : nw U := ⟨va_Nw.warmM h q.1, va_Nw.warmM h q.2.1, va_Nw.warmM h q.2.2.1, va_Nw.warmM h q.2.2.2.1, va_Nw.warmM h q.2.2.2.2.1, va_Nw.warmM h q.2.2.2.2.2.1, va_Nw.warmM h q.2.2.2.2.2.2.1, va_Nw.warmM h q.2.2.2.2.2.2.2.1, va_AO.moved h.alike q.2.2.2.2.2.2.2.2⟩
/-! what a method asks of the heap: to read (rP), to write (rQ), to make (rN) -/
def rP (D : va_G) (cy : Nat → ClassId) (W : va_W) (U : State) : Prop := va_P D vwCl W U.heap ∧ va_K D vwCl (vT cy) U
def rQ (D : va_G) (cy : Nat → ClassId) (W : va_W) (sz : Nat) (U : State) : Prop := U.heap.size = sz ∧ va_P D vwCl W U.heap ∧ va_K D vwCl (vT cy) U ∧ va_D (fun _ => True) W
def rN (D : va_G) (cy : Nat → ClassId) (W : va_W) (sz : Nat) (U : State) : Prop := nw U ∧ rQ D cy W sz U
theorem preT {s : State} {H : Heap} {av : List Value} : PreS s H (va_Pc av (fun _ => True)) av := ⟨fun _ _ _ _ q => q, fun _ _ _ => ⟨rfl, trivial⟩⟩
section PRE
variable {D : va_G} {cy : Nat → ClassId} {W : va_W} {sz : Nat} {s : State} {H : Heap} {av : List Value} {b : Addr} {C : String} {A : Nat → Prop}
theorem rP_b : FrameBlind (va_Pc av (rP D cy W)) := fun a U g mk q => ⟨q.1, q.2.1, va_K.moved (u := U) (U := U.calling g mk a) (Vm.Alike.refl U.vm) q.2.2⟩
theorem rQ_b : FrameBlind (va_Pc av (rQ D cy W sz)) := fun a U g mk q => ⟨q.1, q.2.1, q.2.2.1, va_K.moved (u := U) (U := U.calling g mk a) (Vm.Alike.refl U.vm) q.2.2.2.1, q.2.2.2.2⟩
theorem rN_b : FrameBlind (va_Pc av (rN D cy W sz)) := fun a U g mk q => ⟨q.1, nw_same (u := U) (U := U.calling g mk a) rfl q.2.1, q.2.2.1, q.2.2.2.1, va_K.moved (u := U) (U := U.calling g mk a) (Vm.Alike.refl U.vm) q.2.2.2.2.1, q.2.2.2.2.2⟩
theorem rP_v (hP : va_P D vwCl W H) (hK : va_K D vwCl (vT cy) s) (hr : ∃ cell : Cell, H[b]? = some cell ∧ cell.vm.isStatics = false ∧ s.vm.findClass C = some cell.cls) : PreV s H C b (va_Pc (.ref b :: av) (rP D cy W)) av := ⟨rP_b, hr, fun U hU hW => ⟨rfl, by rw [hU]; exact hP, va_K.moved hW.alike hK⟩⟩
theorem rQ_s (hP : va_P D vwCl W H) (hK : va_K D vwCl (vT cy) s) (hD : va_D A W) : PreS s H (va_Pc av (rQ D cy W H.size)) av := ⟨rQ_b, fun U hU hW => ⟨rfl, by rw [hU], by rw [hU]; exact hP, va_K.moved hW.alike hK, hD.weaken (fun _ _ _ _ => trivial)⟩⟩
theorem rQ_v (hP : va_P D vwCl W H) (hK : va_K D vwCl (vT cy) s) (hD : va_D A W) (hr : ∃ cell : Cell, H[b]? = some cell ∧ cell.vm.isStatics = false ∧ s.vm.findClass C = some cell.cls) : PreV s H C b (va_Pc (.ref b :: av) (rQ D cy W H.size)) av := ⟨rQ_b, hr, fun U hU hW => ⟨rfl, by rw [hU], by rw [hU]; exact hP, va_K.moved hW.alike hK, hD.weaken (fun _ _ _ _ => trivial)⟩⟩
theorem rN_s (hn : nw s) (hP : va_P D vwCl W H) (hK : va_K D vwCl (vT cy) s) (hD : va_D A W) : PreS s H (va_Pc av (rN D cy W H.size)) av := ⟨rN_b, fun U hU hW => ⟨rfl, nw_warm hW hn, by rw [hU], by rw [hU]; exact hP, va_K.moved hW.alike hK, hD.weaken (fun _ _ _ _ => trivial)⟩⟩
theorem rN_v (hn : nw s) (hP : va_P D vwCl W H) (hK : va_K D vwCl (vT cy) s) (hD : va_D A W) (hr : ∃ cell : Cell, H[b]? = some cell ∧ cell.vm.isStatics = false ∧ s.vm.findClass C = some cell.cls) : PreV s H C b (va_Pc (.ref b :: av) (rN D cy W H.size)) av := ⟨rN_b, hr, fun U hU hW => ⟨rfl, nw_warm hW hn, by rw [hU], by rw [hU]; exact hP, va_K.moved hW.alike hK, hD.weaken (fun _ _ _ _ => trivial)⟩⟩
end PRE
/-! new arrays: their classes are those of vT -/
section NEWA
variable {p : Program} {l : Launch} {e : Env} {R : Room} {s : State} {m : MethodId} {args : Array Value} {below : List Frame} {meth : Method} {c : Code} {H : Heap} {locs : List Loc} {cells slots : Nat} {Q : State → Prop}
variable {cc : ByteArray} {pc : Nat} {ls : Array Slot} {rest : List Value} {D : va_G} {cl : List vw_C} {A : Nat → Prop} {ws : va_W} {H0 : Heap} {cy : Nat → ClassId}
theorem r_newI (hexec : p.tables.exec = Jvm.exec) (hb : c.code = cc) (harr : (Cond.arrayClass .int).before args s = true) (hK : va_K D cl (vT cy) s) (hP : va_P D cl ws H) (hD : va_D A ws) (hS : va_S A H0 H locs) (hA : ∀ q, H0.size ≤ q → A q)
    {n : Int32} {N : Nat} (hn : ¬ n < 0) (hN : n.toNatClampNeg = N) (hbytes : N * 4 ≤ 536870912) (hcells : cells + 1 ≤ R.cells) (hslots : slots + N ≤ R.slots) (hdg : decode cc pc = .ok (.newarray .int, 2))
    (kk : ∀ (q : Nat) (H1 : Heap), va_P D cl (ws ++ [(q, .inl (cy 0, N, .inl (fun _ => 0)))]) H1 → va_D A (ws ++ [(q, .inl (cy 0, N, .inl (fun _ => 0)))]) → va_S A H0 H1 locs → W p l e R s m args below meth c H1 locs (cells + 1) (slots + N) Q (F0 m (pc + 2) ls (.ref q :: rest))) : W p l e R s m args below meth c H locs cells slots Q (F0 m pc ls (.int n :: rest)) := by
  refine va_newa (atype := .int) hexec hb harr rfl hK hP hD hS hA (a0 := (N, .inl (fun _ => 0))) (fun cA => rfl) hn hN hbytes hcells hslots hdg (fun q cA H1 hK1 hP1 hD1 hS1 => ?_)
  have e1 : cA = cy 0 := Option.some.inj ((va_nm_int (hK1.2 5 (cA, .int) rfl).2).symm.trans (va_nm_int (hK.2 0 (cy 0, .int) rfl).2))
  subst e1
  exact kk q H1 hP1 hD1 hS1
theorem r_newB (hexec : p.tables.exec = Jvm.exec) (hb : c.code = cc) (harr : (Cond.arrayClass .byte).before args s = true) (hK : va_K D cl (vT cy) s) (hP : va_P D cl ws H) (hD : va_D A ws) (hS : va_S A H0 H locs) (hA : ∀ q, H0.size ≤ q → A q)
    {n : Int32} {N : Nat} (hn : ¬ n < 0) (hN : n.toNatClampNeg = N) (hbytes : N * 1 ≤ 536870912) (hcells : cells + 1 ≤ R.cells) (hslots : slots + N ≤ R.slots) (hdg : decode cc pc = .ok (.newarray .byte, 2))
    (kk : ∀ (q : Nat) (H1 : Heap), va_P D cl (ws ++ [(q, .inl (cy 1, N, .inl (fun _ => 0)))]) H1 → va_D A (ws ++ [(q, .inl (cy 1, N, .inl (fun _ => 0)))]) → va_S A H0 H1 locs → W p l e R s m args below meth c H1 locs (cells + 1) (slots + N) Q (F0 m (pc + 2) ls (.ref q :: rest))) : W p l e R s m args below meth c H locs cells slots Q (F0 m pc ls (.int n :: rest)) := by
  refine va_newa (atype := .byte) hexec hb harr rfl hK hP hD hS hA (a0 := (N, .inl (fun _ => 0))) (fun cA => rfl) hn hN hbytes hcells hslots hdg (fun q cA H1 hK1 hP1 hD1 hS1 => ?_)
  have e1 : cA = cy 1 := Option.some.inj ((va_nm_byte (hK1.2 5 (cA, .byte) rfl).2).symm.trans (va_nm_byte (hK.2 1 (cy 1, .byte) rfl).2))
  subst e1
  exact kk q H1 hP1 hD1 hS1
theorem r_newZ (hexec : p.tables.exec = Jvm.exec) (hb : c.code = cc) (harr : (Cond.arrayClass .boolean).before args s = true) (hK : va_K D cl (vT cy) s) (hP : va_P D cl ws H) (hD : va_D A ws) (hS : va_S A H0 H locs) (hA : ∀ q, H0.size ≤ q → A q)
    {n : Int32} {N : Nat} (hn : ¬ n < 0) (hN : n.toNatClampNeg = N) (hbytes : N * 1 ≤ 536870912) (hcells : cells + 1 ≤ R.cells) (hslots : slots + N ≤ R.slots) (hdg : decode cc pc = .ok (.newarray .boolean, 2))
    (kk : ∀ (q : Nat) (H1 : Heap), va_P D cl (ws ++ [(q, .inl (cy 2, N, .inl (fun _ => 0)))]) H1 → va_D A (ws ++ [(q, .inl (cy 2, N, .inl (fun _ => 0)))]) → va_S A H0 H1 locs → W p l e R s m args below meth c H1 locs (cells + 1) (slots + N) Q (F0 m (pc + 2) ls (.ref q :: rest))) : W p l e R s m args below meth c H locs cells slots Q (F0 m pc ls (.int n :: rest)) := by
  refine va_newa (atype := .boolean) hexec hb harr rfl hK hP hD hS hA (a0 := (N, .inl (fun _ => 0))) (fun cA => rfl) hn hN hbytes hcells hslots hdg (fun q cA H1 hK1 hP1 hD1 hS1 => ?_)
  have e1 : cA = cy 2 := Option.some.inj ((va_nm_boolean (hK1.2 5 (cA, .boolean) rfl).2).symm.trans (va_nm_boolean (hK.2 2 (cy 2, .boolean) rfl).2))
  subst e1
  exact kk q H1 hP1 hD1 hS1
theorem r_newJ (hexec : p.tables.exec = Jvm.exec) (hb : c.code = cc) (harr : (Cond.arrayClass .long).before args s = true) (hK : va_K D cl (vT cy) s) (hP : va_P D cl ws H) (hD : va_D A ws) (hS : va_S A H0 H locs) (hA : ∀ q, H0.size ≤ q → A q)
    {n : Int32} {N : Nat} (hn : ¬ n < 0) (hN : n.toNatClampNeg = N) (hbytes : N * 8 ≤ 536870912) (hcells : cells + 1 ≤ R.cells) (hslots : slots + N ≤ R.slots) (hdg : decode cc pc = .ok (.newarray .long, 2))
    (kk : ∀ (q : Nat) (H1 : Heap), va_P D cl (ws ++ [(q, .inl (cy 3, N, .inr (.inl (fun _ => 0))))]) H1 → va_D A (ws ++ [(q, .inl (cy 3, N, .inr (.inl (fun _ => 0))))]) → va_S A H0 H1 locs → W p l e R s m args below meth c H1 locs (cells + 1) (slots + N) Q (F0 m (pc + 2) ls (.ref q :: rest))) : W p l e R s m args below meth c H locs cells slots Q (F0 m pc ls (.int n :: rest)) := by
  refine va_newa (atype := .long) hexec hb harr rfl hK hP hD hS hA (a0 := (N, .inr (.inl (fun _ => 0)))) (fun cA => rfl) hn hN hbytes hcells hslots hdg (fun q cA H1 hK1 hP1 hD1 hS1 => ?_)
  have e1 : cA = cy 3 := Option.some.inj ((va_nm_long (hK1.2 5 (cA, .long) rfl).2).symm.trans (va_nm_long (hK.2 3 (cy 3, .long) rfl).2))
  subst e1
  exact kk q H1 hP1 hD1 hS1
end NEWA
theorem vaD_fst {A : Nat → Prop} {w w1 : va_W} (h : w1.map Prod.fst = w.map Prod.fst) (hD : va_D A w) : va_D A w1 := by
  have key : ∀ (k : Nat) (q : Nat × va_E), w1[k]? = some q → ∃ q2 : Nat × va_E, w[k]? = some q2 ∧ q2.1 = q.1 := by
    intro k q hq
    have e1 : (w1.map Prod.fst)[k]? = some q.1 := by rw [List.getElem?_map, hq]; rfl
    rw [h, List.getElem?_map] at e1
    cases hw : w[k]? with
    | none => rw [hw] at e1; cases e1
    | some q2 => rw [hw] at e1; exact ⟨q2, rfl, Option.some.inj e1⟩
  refine ⟨fun i j p q hp hq hpq => ?_, fun k q hq => ?_⟩
  · obtain ⟨p2, h1, e1⟩ := key i p hp
    obtain ⟨q2, h2, e2⟩ := key j q hq
    exact hD.1 i j p2 q2 h1 h2 (by rw [e1, e2, hpq])
  · obtain ⟨q2, h2, e2⟩ := key k q hq
    rw [← e2]; exact hD.2 k q2 h2
def setL : va_W → List Nat → va_W → va_W
  | ws, k :: ks, e :: es => setL (ws.set k e) ks es
  | ws, _, _ => ws
theorem setL_get : ∀ (is : List Nat) (w1 ws : va_W) (k : Nat) (q : Nat × va_E), is.length = w1.length → (setL ws is w1)[k]? = some q → (ws[k]? = some q ∧ k ∉ is) ∨ q ∈ w1 := by
  intro is
  induction is with
  | nil => intro w1 ws k q hl h; left; cases w1 with
    | nil => exact ⟨h, List.not_mem_nil⟩
    | cons e es => cases hl
  | cons k0 ks ih =>
    intro w1 ws k q hl h
    cases w1 with
    | nil => cases hl
    | cons e es =>
      rcases ih es (ws.set k0 e) k q (by simpa using hl) h with ⟨h1, h2⟩ | h1
      · by_cases hk : k0 = k
        · subst hk
          rw [List.getElem?_set] at h1
          simp only [if_true] at h1
          split at h1
          · right; rw [← Option.some.inj h1]; exact List.mem_cons_self
          · cases h1
        · rw [List.getElem?_set_ne hk] at h1
          left
          exact ⟨h1, fun h3 => (List.mem_cons.mp h3).elim (fun h4 => hk h4.symm) h2⟩
      · right; exact List.mem_cons_of_mem _ h1
theorem setL_fst : ∀ (is : List Nat) (w1 ws : va_W), is.map (fun i => (ws[i]?).map Prod.fst) = w1.map (fun e => some e.1) → (setL ws is w1).map Prod.fst = ws.map Prod.fst := by
  intro is
  induction is with
  | nil => intro w1 ws _; cases w1 <;> rfl
  | cons k0 ks ih =>
    intro w1 ws h
    cases w1 with
    | nil => rfl
    | cons e es =>
      simp only [List.map_cons, List.cons.injEq] at h
      have hs : (ws.set k0 e).map Prod.fst = ws.map Prod.fst := by
        rw [List.map_set]
        apply List.ext_getElem?
        intro j
        by_cases hj : k0 = j
        · subst hj
          rw [List.getElem?_set, List.getElem?_map, h.1]
          simp only [if_true]
          split
          · rfl
          · rename_i hlt
            have : ws[k0]? = none := List.getElem?_eq_none (by simpa using hlt)
            rw [this] at h; cases h.1
        · rw [List.getElem?_set_ne hj]
      show (setL (ws.set k0 e) ks es).map Prod.fst = _
      rw [ih es (ws.set k0 e) ?_, hs]
      rw [← h.2]
      apply List.map_congr_left
      intro j _
      rw [← List.getElem?_map, ← List.getElem?_map, hs]
theorem rj {A : Nat → Prop} {D : va_G} {cl : List vw_C} {ws wc w1 : va_W} {H H1 : Heap} (hP : va_P D cl ws H) (hD : va_D A ws) (is : List Nat) (hC : is.map (fun i => ws[i]?) = wc.map some) (hF : w1.map Prod.fst = wc.map Prod.fst) (hk : ∀ q : Nat, q < H.size → ¬ va_A wc H.size q → H1[q]? = H[q]?) (hP1 : va_P D cl w1 H1) : va_P D cl (setL ws is w1) H1 ∧ va_D A (setL ws is w1) := by
  have hl : is.length = w1.length := by
    have e1 := congrArg List.length hC
    have e2 := congrArg List.length hF
    simp only [List.length_map] at e1 e2
    omega
  refine ⟨fun k q hq => ?_, vaD_fst (setL_fst is w1 ws ?_) hD⟩
  · rcases setL_get is w1 ws k q hl hq with ⟨h1, h2⟩ | h1
    · refine (hP k q h1).kept (hk q.1 (hP k q h1).lt ?_)
      rintro (⟨j, e, hj⟩ | h)
      · have e1 : (is.map (fun i => ws[i]?))[j]? = some (some (q.1, e)) := by rw [hC, List.getElem?_map, hj]; rfl
        rw [List.getElem?_map] at e1
        cases hi : is[j]? with
        | none => rw [hi] at e1; cases e1
        | some i0 =>
          rw [hi] at e1
          have e2 : ws[i0]? = some (q.1, e) := Option.some.inj e1
          have e3 := hD.1 k i0 q (q.1, e) h1 e2 rfl
          exact h2 (by rw [e3]; exact List.mem_of_getElem? hi)
      · exact absurd (hP k q h1).lt (by omega)
    · obtain ⟨j, hj⟩ := List.mem_iff_getElem?.mp h1
      exact hP1 j q hj
  · have e1 : is.map (fun i => (ws[i]?).map Prod.fst) = (is.map (fun i => ws[i]?)).map (fun o => o.map Prod.fst) := by rw [List.map_map]; rfl
    rw [e1, hC, List.map_map]
    have e2 : w1.map (fun e => some e.1) = (w1.map Prod.fst).map some := by rw [List.map_map]; rfl
    rw [e2, hF, List.map_map]
    rfl
/-! the worlds: the reference (mW), the class without its homes (xW) -/
def mF (a : Nat → Nat) (i : Nat → Int32) : List Value := [.int (i 0), .int (i 1), .ref (a 1), .ref (a 2), .ref (a 3), .ref (a 4), .ref (a 5), .ref (a 6), .ref (a 7), .ref (a 8), .ref (a 9), .ref (a 10), .ref (a 11), .ref (a 12), .ref (a 13), .ref (a 14), .ref (a 15), .ref (a 16), .ref (a 17), .ref (a 18), .ref (a 19), .ref (a 20), .int (i 22), .int (i 23), .int (i 24), .int (i 25), .int (i 26), .int (i 27), .int (i 28), .int (i 29), .int (i 30), .int (i 31), .ref (a 21), .ref (a 22), .ref (a 23), .ref (a 24), .ref (a 25), .ref (a 26), .ref (a 27), .ref (a 28), .ref (a 29), .ref (a 30), .ref (a 31), .ref (a 32), .ref (a 33), .ref (a 34), .ref (a 35), .ref (a 36), .ref (a 37), .ref (a 38), .ref (a 39), .int (i 51), .ref (a 40), .ref (a 41), .ref (a 42), .ref (a 43), .ref (a 44), .ref (a 45), .ref (a 46), .ref (a 47), .int (i 60), .ref (a 48), .ref (a 49), .int (i 63), .ref (a 50), .ref (a 51), .ref (a 52), .ref (a 53), .ref (a 54), .ref (a 55), .ref (a 56), .ref (a 57), .int (i 72), .ref (a 58), .ref (a 59), .ref (a 60), .ref (a 61), .ref (a 62), .int (i 78), .int (i 79), .int (i 80), .ref (a 63), .ref (a 64), .ref (a 65), .ref (a 66), .ref (a 67), .ref (a 68), .ref (a 69), .ref (a 70), .ref (a 71), .ref (a 72)]
def mW (cy : Nat → ClassId) (a : Nat → Nat) (i : Nat → Int32) (r : Nat → Nat → Int32) (rl : Nat → Int64) : va_W := [(a 0, .inr (12, (mF a i))), (a 1, .inl (cy 0, 8, .inl (r 1))), (a 2, .inl (cy 0, 32, .inl (r 2))), (a 3, .inl (cy 0, 6, .inl (r 3))), (a 4, .inl (cy 0, 6, .inl (r 4))), (a 5, .inl (cy 0, 6, .inl (r 5))), (a 6, .inl (cy 0, 6, .inl (r 6))), (a 7, .inl (cy 0, 6, .inl (r 7))), (a 8, .inl (cy 0, 24, .inl (r 8))), (a 9, .inl (cy 0, 18, .inl (r 9))), (a 10, .inl (cy 0, 6, .inl (r 10))), (a 11, .inl (cy 0, 6, .inl (r 11))), (a 12, .inl (cy 0, 120, .inl (r 12))), (a 13, .inl (cy 0, 120, .inl (r 13))), (a 14, .inl (cy 0, 120, .inl (r 14))), (a 15, .inl (cy 0, 120, .inl (r 15))), (a 16, .inl (cy 0, 120, .inl (r 16))), (a 17, .inl (cy 0, 120, .inl (r 17))), (a 18, .inl (cy 0, 120, .inl (r 18))), (a 19, .inl (cy 2, 6, .inl (r 19))), (a 20, .inl (cy 1, 220, .inl (r 20))), (a 21, .inl (cy 0, 220, .inl (r 21))), (a 22, .inl (cy 0, 220, .inl (r 22))), (a 23, .inl (cy 0, 14, .inl (r 23))), (a 24, .inl (cy 0, 14, .inl (r 24))), (a 25, .inl (cy 0, 14, .inl (r 25))), (a 26, .inl (cy 0, 14, .inl (r 26))), (a 27, .inl (cy 0, 220, .inl (r 27))), (a 28, .inl (cy 0, 14, .inl (r 28))), (a 29, .inl (cy 0, 14, .inl (r 29))), (a 30, .inl (cy 0, 14, .inl (r 30))), (a 31, .inl (cy 0, 14, .inl (r 31))), (a 32, .inl (cy 0, 220, .inl (r 32))), (a 33, .inl (cy 0, 10, .inl (r 33))), (a 34, .inl (cy 0, 20, .inl (r 34))), (a 35, .inl (cy 0, 10, .inl (r 35))), (a 36, .inl (cy 0, 10, .inl (r 36))), (a 37, .inl (cy 0, 10, .inl (r 37))), (a 38, .inl (cy 0, 10, .inl (r 38))), (a 39, .inl (cy 2, 20, .inl (r 39))), (a 40, .inl (cy 0, 30, .inl (r 40))), (a 41, .inl (cy 0, 30, .inl (r 41))), (a 42, .inl (cy 0, 30, .inl (r 42))), (a 43, .inl (cy 0, 30, .inl (r 43))), (a 44, .inl (cy 0, 30, .inl (r 44))), (a 45, .inl (cy 0, 30, .inl (r 45))), (a 46, .inl (cy 0, 30, .inl (r 46))), (a 47, .inl (cy 2, 30, .inl (r 47))), (a 48, .inl (cy 3, 4, .inr (.inl rl))), (a 49, .inl (cy 0, 4, .inl (r 49))), (a 50, .inl (cy 0, 6, .inl (r 50))), (a 51, .inl (cy 0, 6, .inl (r 51))), (a 52, .inl (cy 0, 40, .inl (r 52))), (a 53, .inl (cy 0, 40, .inl (r 53))), (a 54, .inl (cy 0, 40, .inl (r 54))), (a 55, .inl (cy 0, 40, .inl (r 55))), (a 56, .inl (cy 2, 36, .inl (r 56))), (a 57, .inl (cy 0, 48, .inl (r 57))), (a 58, .inl (cy 0, 30, .inl (r 58))), (a 59, .inl (cy 0, 30, .inl (r 59))), (a 60, .inl (cy 0, 30, .inl (r 60))), (a 61, .inl (cy 0, 121, .inl (r 61))), (a 62, .inl (cy 2, 30, .inl (r 62))), (a 63, .inl (cy 0, 30, .inl (r 63))), (a 64, .inl (cy 0, 30, .inl (r 64))), (a 65, .inl (cy 0, 30, .inl (r 65))), (a 66, .inl (cy 0, 30, .inl (r 66))), (a 67, .inl (cy 0, 30, .inl (r 67))), (a 68, .inl (cy 0, 30, .inl (r 68))), (a 69, .inl (cy 0, 30, .inl (r 69))), (a 70, .inl (cy 0, 6, .inl (r 70))), (a 71, .inl (cy 0, 6, .inl (r 71))), (a 72, .inl (cy 2, 30, .inl (r 72)))]
def xF0 (a : Nat → Nat) (i : Nat → Int32) (lf : Nat) : List Value := [.ref (a 1), .ref (a 4), .int (i 0), .ref (a 5), .ref (a 8), .ref (a 10), .ref lf, .ref (a 28), .ref (a 29), .ref (a 40), .int (i 1), .ref (a 51), .ref (a 54), .ref (a 58)]
def xF1 (a : Nat → Nat) (i : Nat → Int32) : List Value := [.ref (a 2), .ref (a 3)]
def xF5 (a : Nat → Nat) (i : Nat → Int32) : List Value := [.ref (a 6), .ref (a 7)]
def xF8 (a : Nat → Nat) (i : Nat → Int32) : List Value := [.ref (a 9), .int (i 2)]
def xF10 (a : Nat → Nat) (i : Nat → Int32) (ld : Nat) : List Value := [.ref ld, .ref (a 11), .int (i 3), .int (i 4), .int (i 5)]
def xF12 (a : Nat → Nat) (i : Nat → Int32) : List Value := [.int (i 6), .int (i 7), .ref (a 13), .ref (a 14), .ref (a 15), .ref (a 16), .ref (a 17), .ref (a 18), .ref (a 19)]
def xF20 (a : Nat → Nat) (i : Nat → Int32) : List Value := [.int (i 8), .int (i 9), .ref (a 21), .ref (a 22), .ref (a 23), .ref (a 24), .ref (a 25), .ref (a 26), .ref (a 27)]
def xF29 (a : Nat → Nat) (i : Nat → Int32) : List Value := [.int (i 10), .ref (a 30), .ref (a 31), .ref (a 32), .ref (a 33), .ref (a 34), .ref (a 35), .ref (a 36), .ref (a 37), .ref (a 38), .ref (a 39), .int (i 11)]
def xF40 (a : Nat → Nat) (i : Nat → Int32) : List Value := [.int (i 12), .ref (a 41), .ref (a 42), .ref (a 43), .ref (a 44), .ref (a 45), .ref (a 46), .ref (a 47), .ref (a 48), .ref (a 49), .ref (a 50), .int (i 13)]
def xF51 (a : Nat → Nat) (i : Nat → Int32) : List Value := [.ref (a 52), .ref (a 53)]
def xF54 (a : Nat → Nat) (i : Nat → Int32) : List Value := [.int (i 14), .ref (a 55), .ref (a 56), .ref (a 57)]
def xF58 (a : Nat → Nat) (i : Nat → Int32) : List Value := [.int (i 15), .int (i 16), .ref (a 59), .ref (a 60)]
def xW (cy : Nat → ClassId) (a : Nat → Nat) (i : Nat → Int32) (r : Nat → Nat → Int32) (q : Nat → Option Nat) (lf ld : Nat) : va_W := [(a 0, .inr (11, (xF0 a i lf))), (a 1, .inr (8, (xF1 a i))), (a 2, .inl (cy 0, 8, .inl (r 2))), (a 3, .inl (cy 0, 32, .inl (r 3))), (a 4, .inl (cy 4, 6, .inr (.inr (.inr (.inr q))))), (a 5, .inr (4, (xF5 a i))), (a 6, .inl (cy 0, 10, .inl (r 6))), (a 7, .inl (cy 2, 20, .inl (r 7))), (a 8, .inr (9, (xF8 a i))), (a 9, .inl (cy 1, 220, .inl (r 9))), (a 10, .inr (6, (xF10 a i ld))), (a 11, .inl (cy 1, 200, .inl (r 11))), (a 12, .inr (5, (xF12 a i))), (a 13, .inl (cy 0, 14, .inl (r 13))), (a 14, .inl (cy 0, 14, .inl (r 14))), (a 15, .inl (cy 0, 14, .inl (r 15))), (a 16, .inl (cy 0, 14, .inl (r 16))), (a 17, .inl (cy 0, 200, .inl (r 17))), (a 18, .inl (cy 0, 200, .inl (r 18))), (a 19, .inl (cy 0, 200, .inl (r 19))), (a 20, .inr (5, (xF20 a i))), (a 21, .inl (cy 0, 14, .inl (r 21))), (a 22, .inl (cy 0, 14, .inl (r 22))), (a 23, .inl (cy 0, 14, .inl (r 23))), (a 24, .inl (cy 0, 14, .inl (r 24))), (a 25, .inl (cy 0, 200, .inl (r 25))), (a 26, .inl (cy 0, 200, .inl (r 26))), (a 27, .inl (cy 0, 200, .inl (r 27))), (a 28, .inl (cy 0, 10, .inl (r 28))), (a 29, .inr (1, (xF29 a i))), (a 30, .inl (cy 0, 30, .inl (r 30))), (a 31, .inl (cy 0, 30, .inl (r 31))), (a 32, .inl (cy 0, 30, .inl (r 32))), (a 33, .inl (cy 0, 30, .inl (r 33))), (a 34, .inl (cy 0, 30, .inl (r 34))), (a 35, .inl (cy 0, 30, .inl (r 35))), (a 36, .inl (cy 0, 30, .inl (r 36))), (a 37, .inl (cy 2, 30, .inl (r 37))), (a 38, .inl (cy 0, 6, .inl (r 38))), (a 39, .inl (cy 0, 6, .inl (r 39))), (a 40, .inr (1, (xF40 a i))), (a 41, .inl (cy 0, 30, .inl (r 41))), (a 42, .inl (cy 0, 30, .inl (r 42))), (a 43, .inl (cy 0, 30, .inl (r 43))), (a 44, .inl (cy 0, 30, .inl (r 44))), (a 45, .inl (cy 0, 30, .inl (r 45))), (a 46, .inl (cy 0, 30, .inl (r 46))), (a 47, .inl (cy 0, 30, .inl (r 47))), (a 48, .inl (cy 2, 30, .inl (r 48))), (a 49, .inl (cy 0, 6, .inl (r 49))), (a 50, .inl (cy 0, 6, .inl (r 50))), (a 51, .inr (0, (xF51 a i))), (a 52, .inl (cy 0, 4, .inl (r 52))), (a 53, .inl (cy 0, 4, .inl (r 53))), (a 54, .inr (2, (xF54 a i))), (a 55, .inl (cy 0, 6, .inl (r 55))), (a 56, .inl (cy 0, 6, .inl (r 56))), (a 57, .inl (cy 0, 6, .inl (r 57))), (a 58, .inr (7, (xF58 a i))), (a 59, .inl (cy 0, 30, .inl (r 59))), (a 60, .inl (cy 0, 121, .inl (r 60)))]
theorem mS1 (cy : Nat → ClassId) (a : Nat → Nat) (i : Nat → Int32) (r : Nat → Nat → Int32) (rl : Nat → Int64) (f : Nat → Int32) : (mW cy a i r rl).set 1 (a 1, .inl (cy 0, 8, .inl f)) = mW cy a i (va_up r 1 f) rl := rfl
theorem mS2 (cy : Nat → ClassId) (a : Nat → Nat) (i : Nat → Int32) (r : Nat → Nat → Int32) (rl : Nat → Int64) (f : Nat → Int32) : (mW cy a i r rl).set 2 (a 2, .inl (cy 0, 32, .inl f)) = mW cy a i (va_up r 2 f) rl := rfl
theorem mS3 (cy : Nat → ClassId) (a : Nat → Nat) (i : Nat → Int32) (r : Nat → Nat → Int32) (rl : Nat → Int64) (f : Nat → Int32) : (mW cy a i r rl).set 3 (a 3, .inl (cy 0, 6, .inl f)) = mW cy a i (va_up r 3 f) rl := rfl
theorem mS4 (cy : Nat → ClassId) (a : Nat → Nat) (i : Nat → Int32) (r : Nat → Nat → Int32) (rl : Nat → Int64) (f : Nat → Int32) : (mW cy a i r rl).set 4 (a 4, .inl (cy 0, 6, .inl f)) = mW cy a i (va_up r 4 f) rl := rfl
theorem mS5 (cy : Nat → ClassId) (a : Nat → Nat) (i : Nat → Int32) (r : Nat → Nat → Int32) (rl : Nat → Int64) (f : Nat → Int32) : (mW cy a i r rl).set 5 (a 5, .inl (cy 0, 6, .inl f)) = mW cy a i (va_up r 5 f) rl := rfl
theorem mS6 (cy : Nat → ClassId) (a : Nat → Nat) (i : Nat → Int32) (r : Nat → Nat → Int32) (rl : Nat → Int64) (f : Nat → Int32) : (mW cy a i r rl).set 6 (a 6, .inl (cy 0, 6, .inl f)) = mW cy a i (va_up r 6 f) rl := rfl
theorem mS7 (cy : Nat → ClassId) (a : Nat → Nat) (i : Nat → Int32) (r : Nat → Nat → Int32) (rl : Nat → Int64) (f : Nat → Int32) : (mW cy a i r rl).set 7 (a 7, .inl (cy 0, 6, .inl f)) = mW cy a i (va_up r 7 f) rl := rfl
theorem mS8 (cy : Nat → ClassId) (a : Nat → Nat) (i : Nat → Int32) (r : Nat → Nat → Int32) (rl : Nat → Int64) (f : Nat → Int32) : (mW cy a i r rl).set 8 (a 8, .inl (cy 0, 24, .inl f)) = mW cy a i (va_up r 8 f) rl := rfl
theorem mS9 (cy : Nat → ClassId) (a : Nat → Nat) (i : Nat → Int32) (r : Nat → Nat → Int32) (rl : Nat → Int64) (f : Nat → Int32) : (mW cy a i r rl).set 9 (a 9, .inl (cy 0, 18, .inl f)) = mW cy a i (va_up r 9 f) rl := rfl
theorem mS10 (cy : Nat → ClassId) (a : Nat → Nat) (i : Nat → Int32) (r : Nat → Nat → Int32) (rl : Nat → Int64) (f : Nat → Int32) : (mW cy a i r rl).set 10 (a 10, .inl (cy 0, 6, .inl f)) = mW cy a i (va_up r 10 f) rl := rfl
theorem mS11 (cy : Nat → ClassId) (a : Nat → Nat) (i : Nat → Int32) (r : Nat → Nat → Int32) (rl : Nat → Int64) (f : Nat → Int32) : (mW cy a i r rl).set 11 (a 11, .inl (cy 0, 6, .inl f)) = mW cy a i (va_up r 11 f) rl := rfl
theorem mS12 (cy : Nat → ClassId) (a : Nat → Nat) (i : Nat → Int32) (r : Nat → Nat → Int32) (rl : Nat → Int64) (f : Nat → Int32) : (mW cy a i r rl).set 12 (a 12, .inl (cy 0, 120, .inl f)) = mW cy a i (va_up r 12 f) rl := rfl
theorem mS13 (cy : Nat → ClassId) (a : Nat → Nat) (i : Nat → Int32) (r : Nat → Nat → Int32) (rl : Nat → Int64) (f : Nat → Int32) : (mW cy a i r rl).set 13 (a 13, .inl (cy 0, 120, .inl f)) = mW cy a i (va_up r 13 f) rl := rfl
theorem mS14 (cy : Nat → ClassId) (a : Nat → Nat) (i : Nat → Int32) (r : Nat → Nat → Int32) (rl : Nat → Int64) (f : Nat → Int32) : (mW cy a i r rl).set 14 (a 14, .inl (cy 0, 120, .inl f)) = mW cy a i (va_up r 14 f) rl := rfl
theorem mS15 (cy : Nat → ClassId) (a : Nat → Nat) (i : Nat → Int32) (r : Nat → Nat → Int32) (rl : Nat → Int64) (f : Nat → Int32) : (mW cy a i r rl).set 15 (a 15, .inl (cy 0, 120, .inl f)) = mW cy a i (va_up r 15 f) rl := rfl
theorem mS16 (cy : Nat → ClassId) (a : Nat → Nat) (i : Nat → Int32) (r : Nat → Nat → Int32) (rl : Nat → Int64) (f : Nat → Int32) : (mW cy a i r rl).set 16 (a 16, .inl (cy 0, 120, .inl f)) = mW cy a i (va_up r 16 f) rl := rfl
theorem mS17 (cy : Nat → ClassId) (a : Nat → Nat) (i : Nat → Int32) (r : Nat → Nat → Int32) (rl : Nat → Int64) (f : Nat → Int32) : (mW cy a i r rl).set 17 (a 17, .inl (cy 0, 120, .inl f)) = mW cy a i (va_up r 17 f) rl := rfl
theorem mS18 (cy : Nat → ClassId) (a : Nat → Nat) (i : Nat → Int32) (r : Nat → Nat → Int32) (rl : Nat → Int64) (f : Nat → Int32) : (mW cy a i r rl).set 18 (a 18, .inl (cy 0, 120, .inl f)) = mW cy a i (va_up r 18 f) rl := rfl
theorem mS19 (cy : Nat → ClassId) (a : Nat → Nat) (i : Nat → Int32) (r : Nat → Nat → Int32) (rl : Nat → Int64) (f : Nat → Int32) : (mW cy a i r rl).set 19 (a 19, .inl (cy 2, 6, .inl f)) = mW cy a i (va_up r 19 f) rl := rfl
theorem mS20 (cy : Nat → ClassId) (a : Nat → Nat) (i : Nat → Int32) (r : Nat → Nat → Int32) (rl : Nat → Int64) (f : Nat → Int32) : (mW cy a i r rl).set 20 (a 20, .inl (cy 1, 220, .inl f)) = mW cy a i (va_up r 20 f) rl := rfl
theorem mS21 (cy : Nat → ClassId) (a : Nat → Nat) (i : Nat → Int32) (r : Nat → Nat → Int32) (rl : Nat → Int64) (f : Nat → Int32) : (mW cy a i r rl).set 21 (a 21, .inl (cy 0, 220, .inl f)) = mW cy a i (va_up r 21 f) rl := rfl
theorem mS22 (cy : Nat → ClassId) (a : Nat → Nat) (i : Nat → Int32) (r : Nat → Nat → Int32) (rl : Nat → Int64) (f : Nat → Int32) : (mW cy a i r rl).set 22 (a 22, .inl (cy 0, 220, .inl f)) = mW cy a i (va_up r 22 f) rl := rfl
theorem mS23 (cy : Nat → ClassId) (a : Nat → Nat) (i : Nat → Int32) (r : Nat → Nat → Int32) (rl : Nat → Int64) (f : Nat → Int32) : (mW cy a i r rl).set 23 (a 23, .inl (cy 0, 14, .inl f)) = mW cy a i (va_up r 23 f) rl := rfl
theorem mS24 (cy : Nat → ClassId) (a : Nat → Nat) (i : Nat → Int32) (r : Nat → Nat → Int32) (rl : Nat → Int64) (f : Nat → Int32) : (mW cy a i r rl).set 24 (a 24, .inl (cy 0, 14, .inl f)) = mW cy a i (va_up r 24 f) rl := rfl
theorem mS25 (cy : Nat → ClassId) (a : Nat → Nat) (i : Nat → Int32) (r : Nat → Nat → Int32) (rl : Nat → Int64) (f : Nat → Int32) : (mW cy a i r rl).set 25 (a 25, .inl (cy 0, 14, .inl f)) = mW cy a i (va_up r 25 f) rl := rfl
theorem mS26 (cy : Nat → ClassId) (a : Nat → Nat) (i : Nat → Int32) (r : Nat → Nat → Int32) (rl : Nat → Int64) (f : Nat → Int32) : (mW cy a i r rl).set 26 (a 26, .inl (cy 0, 14, .inl f)) = mW cy a i (va_up r 26 f) rl := rfl
theorem mS27 (cy : Nat → ClassId) (a : Nat → Nat) (i : Nat → Int32) (r : Nat → Nat → Int32) (rl : Nat → Int64) (f : Nat → Int32) : (mW cy a i r rl).set 27 (a 27, .inl (cy 0, 220, .inl f)) = mW cy a i (va_up r 27 f) rl := rfl
theorem mS28 (cy : Nat → ClassId) (a : Nat → Nat) (i : Nat → Int32) (r : Nat → Nat → Int32) (rl : Nat → Int64) (f : Nat → Int32) : (mW cy a i r rl).set 28 (a 28, .inl (cy 0, 14, .inl f)) = mW cy a i (va_up r 28 f) rl := rfl
theorem mS29 (cy : Nat → ClassId) (a : Nat → Nat) (i : Nat → Int32) (r : Nat → Nat → Int32) (rl : Nat → Int64) (f : Nat → Int32) : (mW cy a i r rl).set 29 (a 29, .inl (cy 0, 14, .inl f)) = mW cy a i (va_up r 29 f) rl := rfl
theorem mS30 (cy : Nat → ClassId) (a : Nat → Nat) (i : Nat → Int32) (r : Nat → Nat → Int32) (rl : Nat → Int64) (f : Nat → Int32) : (mW cy a i r rl).set 30 (a 30, .inl (cy 0, 14, .inl f)) = mW cy a i (va_up r 30 f) rl := rfl
theorem mS31 (cy : Nat → ClassId) (a : Nat → Nat) (i : Nat → Int32) (r : Nat → Nat → Int32) (rl : Nat → Int64) (f : Nat → Int32) : (mW cy a i r rl).set 31 (a 31, .inl (cy 0, 14, .inl f)) = mW cy a i (va_up r 31 f) rl := rfl
theorem mS32 (cy : Nat → ClassId) (a : Nat → Nat) (i : Nat → Int32) (r : Nat → Nat → Int32) (rl : Nat → Int64) (f : Nat → Int32) : (mW cy a i r rl).set 32 (a 32, .inl (cy 0, 220, .inl f)) = mW cy a i (va_up r 32 f) rl := rfl
theorem mS33 (cy : Nat → ClassId) (a : Nat → Nat) (i : Nat → Int32) (r : Nat → Nat → Int32) (rl : Nat → Int64) (f : Nat → Int32) : (mW cy a i r rl).set 33 (a 33, .inl (cy 0, 10, .inl f)) = mW cy a i (va_up r 33 f) rl := rfl
theorem mS34 (cy : Nat → ClassId) (a : Nat → Nat) (i : Nat → Int32) (r : Nat → Nat → Int32) (rl : Nat → Int64) (f : Nat → Int32) : (mW cy a i r rl).set 34 (a 34, .inl (cy 0, 20, .inl f)) = mW cy a i (va_up r 34 f) rl := rfl
theorem mS35 (cy : Nat → ClassId) (a : Nat → Nat) (i : Nat → Int32) (r : Nat → Nat → Int32) (rl : Nat → Int64) (f : Nat → Int32) : (mW cy a i r rl).set 35 (a 35, .inl (cy 0, 10, .inl f)) = mW cy a i (va_up r 35 f) rl := rfl
theorem mS36 (cy : Nat → ClassId) (a : Nat → Nat) (i : Nat → Int32) (r : Nat → Nat → Int32) (rl : Nat → Int64) (f : Nat → Int32) : (mW cy a i r rl).set 36 (a 36, .inl (cy 0, 10, .inl f)) = mW cy a i (va_up r 36 f) rl := rfl
theorem mS37 (cy : Nat → ClassId) (a : Nat → Nat) (i : Nat → Int32) (r : Nat → Nat → Int32) (rl : Nat → Int64) (f : Nat → Int32) : (mW cy a i r rl).set 37 (a 37, .inl (cy 0, 10, .inl f)) = mW cy a i (va_up r 37 f) rl := rfl
theorem mS38 (cy : Nat → ClassId) (a : Nat → Nat) (i : Nat → Int32) (r : Nat → Nat → Int32) (rl : Nat → Int64) (f : Nat → Int32) : (mW cy a i r rl).set 38 (a 38, .inl (cy 0, 10, .inl f)) = mW cy a i (va_up r 38 f) rl := rfl
theorem mS39 (cy : Nat → ClassId) (a : Nat → Nat) (i : Nat → Int32) (r : Nat → Nat → Int32) (rl : Nat → Int64) (f : Nat → Int32) : (mW cy a i r rl).set 39 (a 39, .inl (cy 2, 20, .inl f)) = mW cy a i (va_up r 39 f) rl := rfl
theorem mS40 (cy : Nat → ClassId) (a : Nat → Nat) (i : Nat → Int32) (r : Nat → Nat → Int32) (rl : Nat → Int64) (f : Nat → Int32) : (mW cy a i r rl).set 40 (a 40, .inl (cy 0, 30, .inl f)) = mW cy a i (va_up r 40 f) rl := rfl
theorem mS41 (cy : Nat → ClassId) (a : Nat → Nat) (i : Nat → Int32) (r : Nat → Nat → Int32) (rl : Nat → Int64) (f : Nat → Int32) : (mW cy a i r rl).set 41 (a 41, .inl (cy 0, 30, .inl f)) = mW cy a i (va_up r 41 f) rl := rfl
theorem mS42 (cy : Nat → ClassId) (a : Nat → Nat) (i : Nat → Int32) (r : Nat → Nat → Int32) (rl : Nat → Int64) (f : Nat → Int32) : (mW cy a i r rl).set 42 (a 42, .inl (cy 0, 30, .inl f)) = mW cy a i (va_up r 42 f) rl := rfl
theorem mS43 (cy : Nat → ClassId) (a : Nat → Nat) (i : Nat → Int32) (r : Nat → Nat → Int32) (rl : Nat → Int64) (f : Nat → Int32) : (mW cy a i r rl).set 43 (a 43, .inl (cy 0, 30, .inl f)) = mW cy a i (va_up r 43 f) rl := rfl
theorem mS44 (cy : Nat → ClassId) (a : Nat → Nat) (i : Nat → Int32) (r : Nat → Nat → Int32) (rl : Nat → Int64) (f : Nat → Int32) : (mW cy a i r rl).set 44 (a 44, .inl (cy 0, 30, .inl f)) = mW cy a i (va_up r 44 f) rl := rfl
theorem mS45 (cy : Nat → ClassId) (a : Nat → Nat) (i : Nat → Int32) (r : Nat → Nat → Int32) (rl : Nat → Int64) (f : Nat → Int32) : (mW cy a i r rl).set 45 (a 45, .inl (cy 0, 30, .inl f)) = mW cy a i (va_up r 45 f) rl := rfl
theorem mS46 (cy : Nat → ClassId) (a : Nat → Nat) (i : Nat → Int32) (r : Nat → Nat → Int32) (rl : Nat → Int64) (f : Nat → Int32) : (mW cy a i r rl).set 46 (a 46, .inl (cy 0, 30, .inl f)) = mW cy a i (va_up r 46 f) rl := rfl
theorem mS47 (cy : Nat → ClassId) (a : Nat → Nat) (i : Nat → Int32) (r : Nat → Nat → Int32) (rl : Nat → Int64) (f : Nat → Int32) : (mW cy a i r rl).set 47 (a 47, .inl (cy 2, 30, .inl f)) = mW cy a i (va_up r 47 f) rl := rfl
theorem mS49 (cy : Nat → ClassId) (a : Nat → Nat) (i : Nat → Int32) (r : Nat → Nat → Int32) (rl : Nat → Int64) (f : Nat → Int32) : (mW cy a i r rl).set 49 (a 49, .inl (cy 0, 4, .inl f)) = mW cy a i (va_up r 49 f) rl := rfl
theorem mS50 (cy : Nat → ClassId) (a : Nat → Nat) (i : Nat → Int32) (r : Nat → Nat → Int32) (rl : Nat → Int64) (f : Nat → Int32) : (mW cy a i r rl).set 50 (a 50, .inl (cy 0, 6, .inl f)) = mW cy a i (va_up r 50 f) rl := rfl
theorem mS51 (cy : Nat → ClassId) (a : Nat → Nat) (i : Nat → Int32) (r : Nat → Nat → Int32) (rl : Nat → Int64) (f : Nat → Int32) : (mW cy a i r rl).set 51 (a 51, .inl (cy 0, 6, .inl f)) = mW cy a i (va_up r 51 f) rl := rfl
theorem mS52 (cy : Nat → ClassId) (a : Nat → Nat) (i : Nat → Int32) (r : Nat → Nat → Int32) (rl : Nat → Int64) (f : Nat → Int32) : (mW cy a i r rl).set 52 (a 52, .inl (cy 0, 40, .inl f)) = mW cy a i (va_up r 52 f) rl := rfl
theorem mS53 (cy : Nat → ClassId) (a : Nat → Nat) (i : Nat → Int32) (r : Nat → Nat → Int32) (rl : Nat → Int64) (f : Nat → Int32) : (mW cy a i r rl).set 53 (a 53, .inl (cy 0, 40, .inl f)) = mW cy a i (va_up r 53 f) rl := rfl
theorem mS54 (cy : Nat → ClassId) (a : Nat → Nat) (i : Nat → Int32) (r : Nat → Nat → Int32) (rl : Nat → Int64) (f : Nat → Int32) : (mW cy a i r rl).set 54 (a 54, .inl (cy 0, 40, .inl f)) = mW cy a i (va_up r 54 f) rl := rfl
theorem mS55 (cy : Nat → ClassId) (a : Nat → Nat) (i : Nat → Int32) (r : Nat → Nat → Int32) (rl : Nat → Int64) (f : Nat → Int32) : (mW cy a i r rl).set 55 (a 55, .inl (cy 0, 40, .inl f)) = mW cy a i (va_up r 55 f) rl := rfl
theorem mS56 (cy : Nat → ClassId) (a : Nat → Nat) (i : Nat → Int32) (r : Nat → Nat → Int32) (rl : Nat → Int64) (f : Nat → Int32) : (mW cy a i r rl).set 56 (a 56, .inl (cy 2, 36, .inl f)) = mW cy a i (va_up r 56 f) rl := rfl
theorem mS57 (cy : Nat → ClassId) (a : Nat → Nat) (i : Nat → Int32) (r : Nat → Nat → Int32) (rl : Nat → Int64) (f : Nat → Int32) : (mW cy a i r rl).set 57 (a 57, .inl (cy 0, 48, .inl f)) = mW cy a i (va_up r 57 f) rl := rfl
theorem mS58 (cy : Nat → ClassId) (a : Nat → Nat) (i : Nat → Int32) (r : Nat → Nat → Int32) (rl : Nat → Int64) (f : Nat → Int32) : (mW cy a i r rl).set 58 (a 58, .inl (cy 0, 30, .inl f)) = mW cy a i (va_up r 58 f) rl := rfl
theorem mS59 (cy : Nat → ClassId) (a : Nat → Nat) (i : Nat → Int32) (r : Nat → Nat → Int32) (rl : Nat → Int64) (f : Nat → Int32) : (mW cy a i r rl).set 59 (a 59, .inl (cy 0, 30, .inl f)) = mW cy a i (va_up r 59 f) rl := rfl
theorem mS60 (cy : Nat → ClassId) (a : Nat → Nat) (i : Nat → Int32) (r : Nat → Nat → Int32) (rl : Nat → Int64) (f : Nat → Int32) : (mW cy a i r rl).set 60 (a 60, .inl (cy 0, 30, .inl f)) = mW cy a i (va_up r 60 f) rl := rfl
theorem mS61 (cy : Nat → ClassId) (a : Nat → Nat) (i : Nat → Int32) (r : Nat → Nat → Int32) (rl : Nat → Int64) (f : Nat → Int32) : (mW cy a i r rl).set 61 (a 61, .inl (cy 0, 121, .inl f)) = mW cy a i (va_up r 61 f) rl := rfl
theorem mS62 (cy : Nat → ClassId) (a : Nat → Nat) (i : Nat → Int32) (r : Nat → Nat → Int32) (rl : Nat → Int64) (f : Nat → Int32) : (mW cy a i r rl).set 62 (a 62, .inl (cy 2, 30, .inl f)) = mW cy a i (va_up r 62 f) rl := rfl
theorem mS72 (cy : Nat → ClassId) (a : Nat → Nat) (i : Nat → Int32) (r : Nat → Nat → Int32) (rl : Nat → Int64) (f : Nat → Int32) : (mW cy a i r rl).set 72 (a 72, .inl (cy 2, 30, .inl f)) = mW cy a i (va_up r 72 f) rl := rfl
theorem mP0 (cy : Nat → ClassId) (a : Nat → Nat) (i : Nat → Int32) (r : Nat → Nat → Int32) (rl : Nat → Int64) (v : Int32) : (mW cy a i r rl).set 0 (a 0, .inr (12, (mF a i).set 0 (.int v))) = mW cy a (upd i 0 v) r rl := rfl
theorem mP1 (cy : Nat → ClassId) (a : Nat → Nat) (i : Nat → Int32) (r : Nat → Nat → Int32) (rl : Nat → Int64) (v : Int32) : (mW cy a i r rl).set 0 (a 0, .inr (12, (mF a i).set 1 (.int v))) = mW cy a (upd i 1 v) r rl := rfl
theorem mP22 (cy : Nat → ClassId) (a : Nat → Nat) (i : Nat → Int32) (r : Nat → Nat → Int32) (rl : Nat → Int64) (v : Int32) : (mW cy a i r rl).set 0 (a 0, .inr (12, (mF a i).set 22 (.int v))) = mW cy a (upd i 22 v) r rl := rfl
theorem mP23 (cy : Nat → ClassId) (a : Nat → Nat) (i : Nat → Int32) (r : Nat → Nat → Int32) (rl : Nat → Int64) (v : Int32) : (mW cy a i r rl).set 0 (a 0, .inr (12, (mF a i).set 23 (.int v))) = mW cy a (upd i 23 v) r rl := rfl
theorem mP24 (cy : Nat → ClassId) (a : Nat → Nat) (i : Nat → Int32) (r : Nat → Nat → Int32) (rl : Nat → Int64) (v : Int32) : (mW cy a i r rl).set 0 (a 0, .inr (12, (mF a i).set 24 (.int v))) = mW cy a (upd i 24 v) r rl := rfl
theorem mP25 (cy : Nat → ClassId) (a : Nat → Nat) (i : Nat → Int32) (r : Nat → Nat → Int32) (rl : Nat → Int64) (v : Int32) : (mW cy a i r rl).set 0 (a 0, .inr (12, (mF a i).set 25 (.int v))) = mW cy a (upd i 25 v) r rl := rfl
theorem mP26 (cy : Nat → ClassId) (a : Nat → Nat) (i : Nat → Int32) (r : Nat → Nat → Int32) (rl : Nat → Int64) (v : Int32) : (mW cy a i r rl).set 0 (a 0, .inr (12, (mF a i).set 26 (.int v))) = mW cy a (upd i 26 v) r rl := rfl
theorem mP27 (cy : Nat → ClassId) (a : Nat → Nat) (i : Nat → Int32) (r : Nat → Nat → Int32) (rl : Nat → Int64) (v : Int32) : (mW cy a i r rl).set 0 (a 0, .inr (12, (mF a i).set 27 (.int v))) = mW cy a (upd i 27 v) r rl := rfl
theorem mP28 (cy : Nat → ClassId) (a : Nat → Nat) (i : Nat → Int32) (r : Nat → Nat → Int32) (rl : Nat → Int64) (v : Int32) : (mW cy a i r rl).set 0 (a 0, .inr (12, (mF a i).set 28 (.int v))) = mW cy a (upd i 28 v) r rl := rfl
theorem mP29 (cy : Nat → ClassId) (a : Nat → Nat) (i : Nat → Int32) (r : Nat → Nat → Int32) (rl : Nat → Int64) (v : Int32) : (mW cy a i r rl).set 0 (a 0, .inr (12, (mF a i).set 29 (.int v))) = mW cy a (upd i 29 v) r rl := rfl
theorem mP30 (cy : Nat → ClassId) (a : Nat → Nat) (i : Nat → Int32) (r : Nat → Nat → Int32) (rl : Nat → Int64) (v : Int32) : (mW cy a i r rl).set 0 (a 0, .inr (12, (mF a i).set 30 (.int v))) = mW cy a (upd i 30 v) r rl := rfl
theorem mP31 (cy : Nat → ClassId) (a : Nat → Nat) (i : Nat → Int32) (r : Nat → Nat → Int32) (rl : Nat → Int64) (v : Int32) : (mW cy a i r rl).set 0 (a 0, .inr (12, (mF a i).set 31 (.int v))) = mW cy a (upd i 31 v) r rl := rfl
theorem mP51 (cy : Nat → ClassId) (a : Nat → Nat) (i : Nat → Int32) (r : Nat → Nat → Int32) (rl : Nat → Int64) (v : Int32) : (mW cy a i r rl).set 0 (a 0, .inr (12, (mF a i).set 51 (.int v))) = mW cy a (upd i 51 v) r rl := rfl
theorem mP60 (cy : Nat → ClassId) (a : Nat → Nat) (i : Nat → Int32) (r : Nat → Nat → Int32) (rl : Nat → Int64) (v : Int32) : (mW cy a i r rl).set 0 (a 0, .inr (12, (mF a i).set 60 (.int v))) = mW cy a (upd i 60 v) r rl := rfl
theorem mP63 (cy : Nat → ClassId) (a : Nat → Nat) (i : Nat → Int32) (r : Nat → Nat → Int32) (rl : Nat → Int64) (v : Int32) : (mW cy a i r rl).set 0 (a 0, .inr (12, (mF a i).set 63 (.int v))) = mW cy a (upd i 63 v) r rl := rfl
theorem mP72 (cy : Nat → ClassId) (a : Nat → Nat) (i : Nat → Int32) (r : Nat → Nat → Int32) (rl : Nat → Int64) (v : Int32) : (mW cy a i r rl).set 0 (a 0, .inr (12, (mF a i).set 72 (.int v))) = mW cy a (upd i 72 v) r rl := rfl
theorem mP78 (cy : Nat → ClassId) (a : Nat → Nat) (i : Nat → Int32) (r : Nat → Nat → Int32) (rl : Nat → Int64) (v : Int32) : (mW cy a i r rl).set 0 (a 0, .inr (12, (mF a i).set 78 (.int v))) = mW cy a (upd i 78 v) r rl := rfl
theorem mP79 (cy : Nat → ClassId) (a : Nat → Nat) (i : Nat → Int32) (r : Nat → Nat → Int32) (rl : Nat → Int64) (v : Int32) : (mW cy a i r rl).set 0 (a 0, .inr (12, (mF a i).set 79 (.int v))) = mW cy a (upd i 79 v) r rl := rfl
theorem mP80 (cy : Nat → ClassId) (a : Nat → Nat) (i : Nat → Int32) (r : Nat → Nat → Int32) (rl : Nat → Int64) (v : Int32) : (mW cy a i r rl).set 0 (a 0, .inr (12, (mF a i).set 80 (.int v))) = mW cy a (upd i 80 v) r rl := rfl
def dfs0 : List Value := [.null, .null]
theorem dfl0 : ∀ j, j < 2 → defaultValue (tyX0 j) = vp_V dfs0 j := fun j hj => match j, hj with | 0, _ => rfl | 1, _ => rfl | k + 2, h => absurd h (by omega)
def dfs1 : List Value := [.int 0, .null, .null, .null, .null, .null, .null, .null, .null, .null, .null, .int 0]
theorem dfl1 : ∀ j, j < 12 → defaultValue (tyX1 j) = vp_V dfs1 j := fun j hj => match j, hj with | 0, _ => rfl | 1, _ => rfl | 2, _ => rfl | 3, _ => rfl | 4, _ => rfl | 5, _ => rfl | 6, _ => rfl | 7, _ => rfl | 8, _ => rfl | 9, _ => rfl | 10, _ => rfl | 11, _ => rfl | k + 12, h => absurd h (by omega)
def dfs2 : List Value := [.int 0, .null, .null, .null]
theorem dfl2 : ∀ j, j < 4 → defaultValue (tyX2 j) = vp_V dfs2 j := fun j hj => match j, hj with | 0, _ => rfl | 1, _ => rfl | 2, _ => rfl | 3, _ => rfl | k + 4, h => absurd h (by omega)
def dfs3 : List Value := [.int 0, .int 0, .int 0, .int 0, .int 0, .int 0, .null, .null, .null, .null, .null, .null]
theorem dfl3 : ∀ j, j < 12 → defaultValue (tyX3 j) = vp_V dfs3 j := fun j hj => match j, hj with | 0, _ => rfl | 1, _ => rfl | 2, _ => rfl | 3, _ => rfl | 4, _ => rfl | 5, _ => rfl | 6, _ => rfl | 7, _ => rfl | 8, _ => rfl | 9, _ => rfl | 10, _ => rfl | 11, _ => rfl | k + 12, h => absurd h (by omega)
def dfs4 : List Value := [.null, .null]
theorem dfl4 : ∀ j, j < 2 → defaultValue (tyX4 j) = vp_V dfs4 j := fun j hj => match j, hj with | 0, _ => rfl | 1, _ => rfl | k + 2, h => absurd h (by omega)
def dfs5 : List Value := [.int 0, .int 0, .null, .null, .null, .null, .null, .null, .null]
theorem dfl5 : ∀ j, j < 9 → defaultValue (tyX5 j) = vp_V dfs5 j := fun j hj => match j, hj with | 0, _ => rfl | 1, _ => rfl | 2, _ => rfl | 3, _ => rfl | 4, _ => rfl | 5, _ => rfl | 6, _ => rfl | 7, _ => rfl | 8, _ => rfl | k + 9, h => absurd h (by omega)
def dfs6 : List Value := [.null, .null, .int 0, .int 0, .int 0]
theorem dfl6 : ∀ j, j < 5 → defaultValue (tyX6 j) = vp_V dfs6 j := fun j hj => match j, hj with | 0, _ => rfl | 1, _ => rfl | 2, _ => rfl | 3, _ => rfl | 4, _ => rfl | k + 5, h => absurd h (by omega)
def dfs7 : List Value := [.int 0, .int 0, .null, .null]
theorem dfl7 : ∀ j, j < 4 → defaultValue (tyX7 j) = vp_V dfs7 j := fun j hj => match j, hj with | 0, _ => rfl | 1, _ => rfl | 2, _ => rfl | 3, _ => rfl | k + 4, h => absurd h (by omega)
def dfs8 : List Value := [.null, .null]
theorem dfl8 : ∀ j, j < 2 → defaultValue (tyX8 j) = vp_V dfs8 j := fun j hj => match j, hj with | 0, _ => rfl | 1, _ => rfl | k + 2, h => absurd h (by omega)
def dfs9 : List Value := [.null, .int 0]
theorem dfl9 : ∀ j, j < 2 → defaultValue (tyX9 j) = vp_V dfs9 j := fun j hj => match j, hj with | 0, _ => rfl | 1, _ => rfl | k + 2, h => absurd h (by omega)
def dfs10 : List Value := [.int 0, .null, .null, .null, .null]
theorem dfl10 : ∀ j, j < 5 → defaultValue (tyX10 j) = vp_V dfs10 j := fun j hj => match j, hj with | 0, _ => rfl | 1, _ => rfl | 2, _ => rfl | 3, _ => rfl | 4, _ => rfl | k + 5, h => absurd h (by omega)
def dfs11 : List Value := [.null, .null, .int 0, .null, .null, .null, .null, .null, .null, .null, .int 0, .null, .null, .null]
theorem dfl11 : ∀ j, j < 14 → defaultValue (tyX11 j) = vp_V dfs11 j := fun j hj => match j, hj with | 0, _ => rfl | 1, _ => rfl | 2, _ => rfl | 3, _ => rfl | 4, _ => rfl | 5, _ => rfl | 6, _ => rfl | 7, _ => rfl | 8, _ => rfl | 9, _ => rfl | 10, _ => rfl | 11, _ => rfl | 12, _ => rfl | 13, _ => rfl | k + 14, h => absurd h (by omega)
def dfs12 : List Value := [.int 0, .int 0, .null, .null, .null, .null, .null, .null, .null, .null, .null, .null, .null, .null, .null, .null, .null, .null, .null, .null, .null, .null, .int 0, .int 0, .int 0, .int 0, .int 0, .int 0, .int 0, .int 0, .int 0, .int 0, .null, .null, .null, .null, .null, .null, .null, .null, .null, .null, .null, .null, .null, .null, .null, .null, .null, .null, .null, .int 0, .null, .null, .null, .null, .null, .null, .null, .null, .int 0, .null, .null, .int 0, .null, .null, .null, .null, .null, .null, .null, .null, .int 0, .null, .null, .null, .null, .null, .int 0, .int 0, .int 0, .null, .null, .null, .null, .null, .null, .null, .null, .null, .null]
theorem dfl12 : ∀ j, j < 91 → defaultValue (tyX12 j) = vp_V dfs12 j := fun j hj => match j, hj with | 0, _ => rfl | 1, _ => rfl | 2, _ => rfl | 3, _ => rfl | 4, _ => rfl | 5, _ => rfl | 6, _ => rfl | 7, _ => rfl | 8, _ => rfl | 9, _ => rfl | 10, _ => rfl | 11, _ => rfl | 12, _ => rfl | 13, _ => rfl | 14, _ => rfl | 15, _ => rfl | 16, _ => rfl | 17, _ => rfl | 18, _ => rfl | 19, _ => rfl | 20, _ => rfl | 21, _ => rfl | 22, _ => rfl | 23, _ => rfl | 24, _ => rfl | 25, _ => rfl | 26, _ => rfl | 27, _ => rfl | 28, _ => rfl | 29, _ => rfl | 30, _ => rfl | 31, _ => rfl | 32, _ => rfl | 33, _ => rfl | 34, _ => rfl | 35, _ => rfl | 36, _ => rfl | 37, _ => rfl | 38, _ => rfl | 39, _ => rfl | 40, _ => rfl | 41, _ => rfl | 42, _ => rfl | 43, _ => rfl | 44, _ => rfl | 45, _ => rfl | 46, _ => rfl | 47, _ => rfl | 48, _ => rfl | 49, _ => rfl | 50, _ => rfl | 51, _ => rfl | 52, _ => rfl | 53, _ => rfl | 54, _ => rfl | 55, _ => rfl | 56, _ => rfl | 57, _ => rfl | 58, _ => rfl | 59, _ => rfl | 60, _ => rfl | 61, _ => rfl | 62, _ => rfl | 63, _ => rfl | 64, _ => rfl | 65, _ => rfl | 66, _ => rfl | 67, _ => rfl | 68, _ => rfl | 69, _ => rfl | 70, _ => rfl | 71, _ => rfl | 72, _ => rfl | 73, _ => rfl | 74, _ => rfl | 75, _ => rfl | 76, _ => rfl | 77, _ => rfl | 78, _ => rfl | 79, _ => rfl | 80, _ => rfl | 81, _ => rfl | 82, _ => rfl | 83, _ => rfl | 84, _ => rfl | 85, _ => rfl | 86, _ => rfl | 87, _ => rfl | 88, _ => rfl | 89, _ => rfl | 90, _ => rfl | k + 91, h => absurd h (by omega)
theorem i_add {x y : Int32} {a b : Int} (hx : x.toInt = a) (hy : y.toInt = b) (h1 : -2147483648 ≤ a + b) (h2 : a + b < 2147483648) : (x + y).toInt = a + b := by
  rw [Int32.toInt_add, hx, hy]; exact Int.bmod_eq_of_le (by omega) (by omega)
theorem i_sub {x y : Int32} {a b : Int} (hx : x.toInt = a) (hy : y.toInt = b) (h1 : -2147483648 ≤ a - b) (h2 : a - b < 2147483648) : (x - y).toInt = a - b := by
  rw [Int32.toInt_sub, hx, hy]; exact Int.bmod_eq_of_le (by omega) (by omega)
theorem i_mul {x y : Int32} {a b : Int} (hx : x.toInt = a) (hy : y.toInt = b) (h1 : -2147483648 ≤ a * b) (h2 : a * b < 2147483648) : (x * y).toInt = a * b := by
  rw [Int32.toInt_mul, hx, hy]; exact Int.bmod_eq_of_le (by omega) (by omega)
theorem rF {A : Nat → Prop} {w : va_W} {H0 H : Heap} {locs : List Loc} (hD : va_D A w) (hS : va_S A H0 H locs) (hA : ∀ q, H0.size ≤ q → A q) : ∀ q, va_A w H.size q → A q := by
  rintro q (⟨k, e, h⟩ | h)
  · exact hD.2 k _ h
  · exact hA q (Nat.le_trans hS.1 h)
/-- a new reference's ints; a new class's ints and rows -/
def mZ (i : Nat → Int32) : Prop := (∀ k, k ≠ 1 → i k = 0) ∧ i 1 = 1
def xZ (i : Nat → Int32) : Prop := (∀ k, k ≠ 11 → k ≠ 13 → i k = 0) ∧ i 11 = 1 ∧ i 13 = 1
theorem b_rg (x : Int32) : -2147483648 ≤ x.toInt ∧ x.toInt ≤ 2147483647 := ⟨by have := Int32.le_toInt x; omega, by have := Int32.toInt_lt x; omega⟩
/-- a contract out of a walk whose end has a name -/
theorem Met.ofQ {l : Launch} {y : MethodName} {ws ws' : List Cond} {rm : Room} {Pc : Array Value → State → Prop} {Qc : Array Value → State → Outcome → State → Prop} {mc ms : Nat} {free : Addr → Prop} {cc : ByteArray} {maxL : Nat} {ret : Option FieldType}
    (hy : plainName y.cls = true) (hw : ws = Cond.code y cc maxL ret :: ws')
    (body : ∀ p e s m args below meth c s₁, BodyLoose p l y (headSpec ws rm) cc maxL ret e s m args below meth c s₁ → c.maxLocals = maxL → Pc args s → ∀ Q : State → Prop, Q = MQ below Qc args s mc ms free →
      W p l e rm s m args below meth c s.heap [] 0 0 Q (entryFrame m args maxL)) : Met l y ws rm Pc Qc mc ms free :=
  Met.ofW hy hw (fun p e s m args below meth c s₁ B hml hv => body p e s m args below meth c s₁ B hml hv _ rfl)
theorem r_newH {p : Program} {l : Launch} {e : Env} {R : Room} {s : State} {m : MethodId} {args : Array Value} {below : List Frame} {meth : Method} {c : Code} {H : Heap} {locs : List Loc} {cells slots : Nat} {Q : State → Prop} {cc : ByteArray} {pc : Nat} {ls : Array Slot} {rest : List Value} {D : va_G} {cl : List vw_C} {A : Nat → Prop} {ws : va_W} {H0 : Heap} {cy : Nat → ClassId} {own : String} {index : Nat}
    (hexec : p.tables.exec = Jvm.exec) (hb : c.code = cc) (hown : s.vm.findClass own = some m.cls) (hclink : (Cond.classLink own index RX3).before args s = true) (hover : va_AO "DepositJudge$Home" s) (hK : va_K D cl (vT cy) s) (hP : va_P D cl ws H) (hD : va_D A ws) (hS : va_S A H0 H locs) (hA : ∀ q, H0.size ≤ q → A q)
    {n : Int32} {N : Nat} (hn : ¬ n < 0) (hN : n.toNatClampNeg = N) (hbytes : N * 4 ≤ 536870912) (hcells : cells + 1 ≤ R.cells) (hslots : slots + N ≤ R.slots) (hdg : decode cc pc = .ok (.anewarray index, 3))
    (kk : ∀ (q : Nat) (H1 : Heap), va_P D cl (ws ++ [(q, .inl (cy 4, N, .inr (.inr (.inr (.inr (fun _ => none))))))]) H1 → va_D A (ws ++ [(q, .inl (cy 4, N, .inr (.inr (.inr (.inr (fun _ => none))))))]) → va_S A H0 H1 locs → W p l e R s m args below meth c H1 locs (cells + 1) (slots + N) Q (F0 m (pc + 3) ls (.ref q :: rest))) : W p l e R s m args below meth c H locs cells slots Q (F0 m pc ls (.int n :: rest)) := by
  refine va_newq (C := "DepositJudge$Home") hexec hb hown hclink hover hK hP hD hS hA hn hN hbytes hcells hslots hdg (fun q cA H1 hK1 hP1 hD1 hS1 => ?_)
  have e1 : cA = cy 4 := Option.some.inj ((va_nmO (hK1.2 5 (cA, .object "DepositJudge$Home") rfl).2 rfl).symm.trans (va_nmO (hK.2 4 (cy 4, .object "DepositJudge$Home") rfl).2 rfl))
  subst e1
  exact kk q H1 hP1 hD1 hS1
theorem nz {x : Int32} (h : x.toInt ≠ 0) : ¬ x = 0 := fun e => h (by rw [e]; rfl)
theorem b_and255 (x : Int32) : 0 ≤ (x &&& 255).toInt ∧ (x &&& 255).toInt ≤ 255 := by
  obtain ⟨j, hj, h⟩ := pk_andE x (m := 255) 8 (by decide)
  rw [h, nI_toInt (by omega)]; omega
