def dl_603 : List (Nat × (Instr × Nat)) := [(18, (.iload_n 3, 1)), (19, (.aload_n 0, 1)), (20, (.arraylength, 1)), (21, (.bipush 7, 2)), (23, (.isub, 1)), (24, (.if_icmp .gt 1507, 3)), (27, (.aload_n 0, 1)), (28, (.iload_n 3, 1)), (29, (.iaload, 1)), (30, (.bipush 63, 2)), (32, (.iand, 1)), (33, (.tableswitch 1492 0 32 #[147, 180, 223, 314, 357, 400, 463, 516, 579, 602, 645, 678, 721, 784, 817, 876, 919, 962, 1021, 1044, 1103, 1126, 1149, 1202, 1235, 1268, 1311, 1344, 1367, 1400, 1413, 1426, 1469], 147)), (1525, (.iinc 3 7, 3)), (1528, (.goto (-1510), 3)), (1531, (.iconst 1, 1)), (1532, (.ireturn, 1))]
theorem dh_603 : dchk cL_law dl_603 = true := by decide +kernel
theorem dL_law_18 : decode cL_law 18 = .ok (.iload_n 3, 1) := dget dh_603 (k := 0) rfl
theorem dL_law_19 : decode cL_law 19 = .ok (.aload_n 0, 1) := dget dh_603 (k := 1) rfl
theorem dL_law_20 : decode cL_law 20 = .ok (.arraylength, 1) := dget dh_603 (k := 2) rfl
theorem dL_law_21 : decode cL_law 21 = .ok (.bipush 7, 2) := dget dh_603 (k := 3) rfl
theorem dL_law_23 : decode cL_law 23 = .ok (.isub, 1) := dget dh_603 (k := 4) rfl
theorem dL_law_24 : decode cL_law 24 = .ok (.if_icmp .gt 1507, 3) := dget dh_603 (k := 5) rfl
theorem dL_law_27 : decode cL_law 27 = .ok (.aload_n 0, 1) := dget dh_603 (k := 6) rfl
theorem dL_law_28 : decode cL_law 28 = .ok (.iload_n 3, 1) := dget dh_603 (k := 7) rfl
theorem dL_law_29 : decode cL_law 29 = .ok (.iaload, 1) := dget dh_603 (k := 8) rfl
theorem dL_law_30 : decode cL_law 30 = .ok (.bipush 63, 2) := dget dh_603 (k := 9) rfl
theorem dL_law_32 : decode cL_law 32 = .ok (.iand, 1) := dget dh_603 (k := 10) rfl
theorem dL_law_33 : decode cL_law 33 = .ok (.tableswitch 1492 0 32 #[147, 180, 223, 314, 357, 400, 463, 516, 579, 602, 645, 678, 721, 784, 817, 876, 919, 962, 1021, 1044, 1103, 1126, 1149, 1202, 1235, 1268, 1311, 1344, 1367, 1400, 1413, 1426, 1469], 147) := dget dh_603 (k := 11) rfl
theorem dL_law_1525 : decode cL_law 1525 = .ok (.iinc 3 7, 3) := dget dh_603 (k := 12) rfl
theorem dL_law_1528 : decode cL_law 1528 = .ok (.goto (-1510), 3) := dget dh_603 (k := 13) rfl
theorem dL_law_1531 : decode cL_law 1531 = .ok (.iconst 1, 1) := dget dh_603 (k := 14) rfl
theorem dL_law_1532 : decode cL_law 1532 = .ok (.ireturn, 1) := dget dh_603 (k := 15) rfl
theorem row_eq {cA : ClassId} {n : Nat} {f g : Nat → Int32} (h : ∀ j, j < n → f j = g j) : vp_cell cA (n, .inl f) = vp_cell cA (n, .inl g) := by
  show arrV cA n (fun j => .int (f j)) = arrV cA n (fun j => .int (g j))
  unfold arrV
  have e : (fun j : Fin n => Value.int (f j.val)) = (fun j : Fin n => Value.int (g j.val)) := by funext j; rw [h j.val j.isLt]
  rw [e]
theorem vaP_row {D : va_G} {cl : List vw_C} {ws : va_W} {H : Heap} {k q n : Nat} {cA : ClassId} {f g : Nat → Int32} (hP : va_P D cl ws H) (hk : ws[k]? = some (q, .inl (cA, n, .inl f))) (h : ∀ j, j < n → f j = g j) : va_P D cl (ws.set k (q, .inl (cA, n, .inl g))) H := by
  intro j e he
  by_cases hj : k = j
  · subst hj
    rw [List.getElem?_set] at he
    simp only [if_true] at he
    split at he
    · obtain rfl := Option.some.inj he
      have h1 : H[q]? = some (vp_cell cA (n, .inl f)) := hP k _ hk
      show H[q]? = some (vp_cell cA (n, .inl g))
      rw [h1, row_eq h]
    · cases he
  · rw [List.getElem?_set_ne hj] at he
    exact hP j e he
theorem vaD_row {A : Nat → Prop} {ws : va_W} {k q : Nat} {e e2 : va_E} (hD : va_D A ws) (hk : ws[k]? = some (q, e)) : va_D A (ws.set k (q, e2)) := by
  refine vaD_fst ?_ hD
  rw [List.map_set]
  apply List.ext_getElem?
  intro j
  by_cases hj : k = j
  · subst hj
    rw [List.getElem?_set, List.getElem?_map, hk]
    simp only [if_true]
    split
    · rfl
    · rename_i hlt
      have : ws[k]? = none := List.getElem?_eq_none (by simpa using hlt)
      rw [this] at hk; cases hk
  · rw [List.getElem?_set_ne hj]
theorem ml_0 (k : Nat) : mlo k ≤ 0 ∧ 0 ≤ mhi k := by
  by_cases h : k < 91
  · have h1 : ∀ k, k < 91 → mlo k ≤ 0 ∧ 0 ≤ mhi k := by decide
    exact h1 k h
  · have e1 : mlo k = -2147483648 := by unfold mlo; exact gd_out (by simp only [List.length_cons, List.length_nil]; omega)
    have e2 : mhi k = 2147483647 := by unfold mhi; exact gd_out (by simp only [List.length_cons, List.length_nil]; omega)
    rw [e1, e2]; decide
theorem ql_0 (p : Nat) (hp : p ≠ 1) : qlo p ≤ 0 ∧ 0 ≤ qhi p := by
  by_cases h : p < 73
  · have h1 : ∀ p, p < 73 → p ≠ 1 → qlo p ≤ 0 ∧ 0 ≤ qhi p := by decide
    exact h1 p h hp
  · have e1 : qlo p = -2147483648 := by unfold qlo; exact gd_out (by simp only [List.length_cons, List.length_nil]; omega)
    have e2 : qhi p = 2147483647 := by unfold qhi; exact gd_out (by simp only [List.length_cons, List.length_nil]; omega)
    rw [e1, e2]; decide
theorem LM_new {i : Nat → Int32} {r : Nat → Nat → Int32} (hz : mZ i) (hr : mZR r) : LM i (va_up r 1 (fun _ => 120)) := by
  have h0 : i 0 = 0 := hz.1 0 (by decide)
  have h31 : i 31 = 0 := hz.1 31 (by decide)
  have h51 : i 51 = 0 := hz.1 51 (by decide)
  have h79 : i 79 = 0 := hz.1 79 (by decide)
  have z0 : (0 : Int32).toInt = 0 := rfl
  refine ⟨fun k => ?_, fun p j => ?_, fun h hh => ?_, fun h k _ hk => ?_, fun c hc => ?_, fun c hc => ?_, fun q hq => ?_⟩
  · by_cases e : k = 1
    · rw [e, hz.2]; decide
    · rw [hz.1 k e]; exact ml_0 k
  · unfold va_up
    by_cases e : p = 1
    · rw [if_pos e, e]; decide
    · rw [if_neg e, hr.2 p e]; exact ql_0 p e
  · rw [h0, z0] at hh; omega
  · have e : (va_up r 1 (fun _ => (120 : Int32))) 10 h = 0 := hr.2 10 (by decide) h
    rw [e, z0] at hk; omega
  · rw [h51, z0] at hc; omega
  · rw [h79, z0] at hc; omega
  · rw [h31, z0] at hq; omega
theorem LX_start {i : Nat → Int32} {r : Nat → Nat → Int32} {q : Nat → Option Nat} {gb : Nat → Nat → Nat} {gi : Nat → Nat → Int32} {gr : Nat → Nat → Nat → Int32} (hf : xZ i) (hg : xZR r) : LX (upd i 18 1) r q gb gi gr 0 := by
  refine ⟨⟨fun k => ?_, fun p j => ?_⟩, ?_, fun k hk => absurd hk (Nat.not_lt_zero k)⟩
  · unfold upd
    by_cases e : k = 18
    · rw [if_pos e, e]; decide
    rw [if_neg e]
    by_cases e1 : k = 11
    · rw [e1, hf.2.1]; decide
    by_cases e3 : k = 13
    · rw [e3, hf.2.2]; decide
    rw [hf.1 k e1 e3]; exact yi_0 k e
  · obtain ⟨g2, ⟨g38, g39⟩, ⟨g49, g50⟩, g60, g0⟩ := hg
    by_cases e38 : p = 38
    · rw [e38, g38]
      by_cases h6 : j < 6
      · rw [if_pos h6]; decide
      · rw [if_neg h6]; decide
    by_cases e39 : p = 39
    · rw [e39, g39]
      by_cases h6 : j < 6
      · rw [if_pos h6]; decide
      · rw [if_neg h6]; decide
    by_cases e49 : p = 49
    · rw [e49, g49]
      by_cases h6 : j < 6
      · rw [if_pos h6]; decide
      · rw [if_neg h6]; decide
    by_cases e50 : p = 50
    · rw [e50, g50]
      by_cases h6 : j < 6
      · rw [if_pos h6]; decide
      · rw [if_neg h6]; decide
    by_cases e2 : p = 2
    · rw [e2]; exact b_rg _
    by_cases e60 : p = 60
    · rw [e60]; exact b_rg _
    have hn : p ∉ [2, 38, 39, 49, 50, 60] := by
      intro hm
      simp only [List.mem_cons, List.not_mem_nil, or_false] at hm
      omega
    rw [g0 p hn j]; exact yr_0 p
  · have e : upd i 18 1 0 = 0 := hf.1 0 (by decide) (by decide)
    rw [e]; rfl
theorem LR_start {i im : Nat → Int32} {r rm : Nat → Nat → Int32} {gi : Nat → Nat → Int32} {gr : Nat → Nat → Nat → Int32} (hf : xZ i) (hg : xZR r) (hz : mZ im) (hr : mZR rm) : LR (upd i 18 1) r gi gr 0 im (va_up rm 1 (fun _ => 120)) := by
  have c0 : ∀ a b, a ≠ 1 → b ≠ 18 → b ≠ 11 → b ≠ 13 → RI1 a b im (upd i 18 1) := by
    intro a b ha h1 h2 h3
    unfold RI1
    have e : upd i 18 1 b = i b := if_neg h1
    rw [e, hf.1 b h2 h3, hz.1 a ha]
  have c1 : ∀ P k, P ≠ 1 → RHI P k (va_up rm 1 (fun _ => 120)) gi 0 := by
    intro P k hP h _
    have e : va_up rm 1 (fun _ => (120 : Int32)) P = rm P := if_neg hP
    rw [e, hr.2 P hP h, if_neg (Nat.not_lt_zero h)]
  have c2 : ∀ a P p, a ≠ 1 → Rcl a P p im (va_up rm 1 (fun _ => 120)) r := by
    intro a P p ha c hc
    rw [hz.1 a ha] at hc
    exact absurd hc (by have h9 : (0 : Int32).toInt = 0 := rfl; omega)
  have c3 : ∀ P p, P ≠ 1 → (∀ t, r p t = if t < 6 then (-1) else 0) → RO P p (va_up rm 1 (fun _ => 120)) r := by
    intro P p hP h9 h hh
    have e : va_up rm 1 (fun _ => (120 : Int32)) P = rm P := if_neg hP
    rw [e, hr.2 P hP h, h9 h, if_pos hh]; rfl
  have c4 : ∀ P p N ix, P ≠ 1 → RHR P p N ix (va_up rm 1 (fun _ => 120)) gr 0 := by
    intro P p N ix hP h j _ _
    have e : va_up rm 1 (fun _ => (120 : Int32)) P = rm P := if_neg hP
    rw [e, hr.2 P hP, if_neg (Nat.not_lt_zero h)]
  have cw : Rfw (upd i 18 1) := by
    unfold Rfw
    have e1 : upd i 18 1 16 = 0 := hf.1 16 (by decide) (by decide)
    have e2 : upd i 18 1 15 = 0 := hf.1 15 (by decide) (by decide)
    rw [e1, e2]; exact Int.le_refl _
  have sp0 : RSP im (va_up rm 1 (fun _ => 120)) r := by
    intro j hj
    rw [hz.1 63 (by decide), hg.2.2.2.2 55 (by decide), hg.2.2.2.2 56 (by decide), hg.2.2.2.2 57 (by decide)]
    exact ⟨rfl, rfl, rfl⟩
  have px0 : RPX im (va_up rm 1 (fun _ => 120)) (upd i 18 1) r := by
    have e72 : (im 72).toNatClampNeg = 0 := by rw [hz.1 72 (by decide)]; rfl
    have e16 : upd i 18 1 16 = 0 := hf.1 16 (by decide) (by decide)
    unfold RPX
    rw [e72, e16]
    refine ⟨?_, rfl, fun f hf9 => absurd hf9 (Nat.not_lt_zero f)⟩
    intro p q hp hq
    rw [hg.2.2.2.1 (11 * p + q) (by omega), show (11 * p + q) / 11 = p by omega, show (11 * p + q) % 11 = q by omega]
    show _ = Option.getD (if p = q then some 0 else none) _
    by_cases e : p = q
    · rw [if_pos e, if_pos e]; rfl
    · rw [if_neg e, if_neg e]; rfl
  have r1 : RR 1 2 8 (va_up rm 1 (fun _ => 120)) r := by
    intro j hj
    rw [hg.1 j, if_pos hj]; rfl
  have r2 : RR 2 3 32 (va_up rm 1 (fun _ => 120)) r := by
    intro j hj
    have e : va_up rm 1 (fun _ => (120 : Int32)) 2 = rm 2 := if_neg (by decide)
    rw [e, hr.2 2 (by decide), hg.2.2.2.2 3 (by decide)]
  exact ⟨⟨c0 0 0 (by decide) (by decide) (by decide) (by decide), c0 78 1 (by decide) (by decide) (by decide) (by decide), c4 _ _ _ _ (by decide), (hz.2.trans hf.2.1.symm : im 1 = i 11), (fun h9 => absurd (show (upd i 18 1 1).toInt = 0 from (congrArg Int32.toInt (hf.1 1 (by decide) (by decide) : i 1 = 0))) h9), trivial⟩, trivial, trivial⟩
set_option maxHeartbeats 4000000 in
set_option maxRecDepth 100000 in
theorem lz_exit {p : Program} {l : Launch} {e : Env} {s : State} {m : MethodId} {below : List Frame} {meth : Method} {c : Code} {b L : Nat} {xs : Nat → Int32} (C0 : lw_At p s m meth c b L xs) {A : Nat → Prop} (hbA : ¬ A b) (hAA : ∀ q, A q → s.heap.size ≤ q) {a0 a1 : Nat} {H : Heap} {locs : List Loc} (hS : va_S A s.heap H locs) {ls : Array Slot} {x : Int32} (hl : lv_has ls 4 [(0, .ref b), (1, .ref a0), (2, .ref a1), (3, .int x)]) {j : Nat} (hj : L < 7 * j + 7) (hj5 : j ≤ 512) (hL : L ≤ 3584) (hxj : x = nI (7 * j)) {ce sl : Nat} (hce : ce ≤ 600000) (hsl : sl ≤ 7302250) : W p l e room_1 s m #[Value.ref b] below meth c H locs ce sl (lw_Z below #[Value.ref b] s) (F0 m 18 ls []) := by
  obtain ⟨hx, hb, hr, hml, hown, hts, hX, hbl, hlocks, hgv⟩ := id C0
  have hT : ∀ w ∈ gT, w.before _ s = true := fun w h => hts w (gT_in w h)
  have hx0 : x.toInt = ((7 * j : Nat) : Int) := by rw [hxj]; exact nI_toInt (by omega)
  refine lv_iload_n hx hb dL_law_18 rfl (lv_at hl 3 rfl) ?_
  refine lv_aload_n hx hb dL_law_19 rfl (lv_at hl 0 rfl) ?_
  refine va_slen hx hb hX hbl hbA hS dL_law_20 ?_
  refine lv_topi (fun v_1 ev_1 => ?_)
  have hv_1 : v_1.toInt = (L : Int) := by rw [ev_1]; exact nI_toInt (by omega)
  refine lv_bipush (v := 7) hx hb dL_law_21 (by decide) ?_
  refine lv_isub hx hb dL_law_23 ?_
  refine lv_topi (fun v_2 ev_2 => ?_)
  have hv_2 : v_2.toInt = v_1.toInt - 7 := by rw [ev_2]; have := b_rg v_1; exact i_sub (a := v_1.toInt) (b := 7) rfl rfl (by omega) (by omega)
  refine lv_icmp_gt (tgt := 1531) hx hb dL_law_24 (by decide) (fun c_3 => ?_) (fun c_3 => by have c_3 : x.toInt ≤ v_2.toInt := b_nlt c_3; omega)
  have c_3 : v_2.toInt < x.toInt := b_lt c_3
  refine lv_iconst (v := 1) hx hb dL_law_1531 (by decide) ?_
  refine va_forget (fun q hq => hAA _ (hS.2.2 q hq)) ?_
  refine W.widen (k := 600000) (n := 7302250) hce hsl ?_
  exact lw_ret hx hb hr hlocks dL_law_1532
set_option maxHeartbeats 4000000 in
set_option maxRecDepth 100000 in
theorem lz_next {p : Program} {l : Launch} {e : Env} {s : State} {m : MethodId} {below : List Frame} {meth : Method} {c : Code} {b L : Nat} {xs : Nat → Int32} (C0 : lw_At p s m meth c b L xs) {a0 a1 : Nat} {H : Heap} {locs : List Loc} {ls : Array Slot} {x : Int32} (hl : lv_has ls 4 [(0, .ref b), (1, .ref a0), (2, .ref a1), (3, .int x)]) {j : Nat} (hxj : x = nI (7 * j)) {ce sl : Nat} (kn : ∀ (ls2 : Array Slot) (x2 : Int32), lv_has ls2 4 [(0, .ref b), (1, .ref a0), (2, .ref a1), (3, .int x2)] → x2 = nI (7 * (j + 1)) → W p l e room_1 s m #[Value.ref b] below meth c H locs ce sl (lw_Z below #[Value.ref b] s) (F0 m 18 ls2 [])) : W p l e room_1 s m #[Value.ref b] below meth c H locs ce sl (lw_Z below #[Value.ref b] s) (F0 m 1525 ls []) := by
  obtain ⟨hx, hb, hr, hml, hown, hts, hX, hbl, hlocks, hgv⟩ := id C0
  have hT : ∀ w ∈ gT, w.before _ s = true := fun w h => hts w (gT_in w h)
  obtain ⟨x_1, ex_1⟩ : ∃ y : Int32, y = x + 7 := ⟨_, rfl⟩
  refine lv_iinc (v := x_1) (lv' := [(3, .int x_1), (0, .ref b), (1, .ref a0), (2, .ref a1)]) hx hb dL_law_1525 hl (k := 3) rfl (by rw [ex_1]; rfl) (by decide) rfl (fun ls hl => ?_)
  refine lv_goto (tgt := 18) hx hb dL_law_1528 (by decide) ?_
  exact kn _ x_1 (lv_sub hl [1, 2, 3, 0] rfl) (by rw [ex_1, hxj]; exact nI_add (7 * j) 7)
set_option maxHeartbeats 4000000 in
set_option maxRecDepth 100000 in
theorem lz_turn {p : Program} {l : Launch} {e : Env} {s : State} {m : MethodId} {below : List Frame} {meth : Method} {c : Code} {b L : Nat} {xs : Nat → Int32} (C0 : lw_At p s m meth c b L xs) {D : va_G} {cy : Nat → ClassId} {kq vq : Nat} {A : Nat → Prop} (hA : ∀ q, s.heap.size ≤ q → A q) (hbA : ¬ A b) (hK : va_K D vwCl (vT cy) s) (hn : nw s) (hm0 : nm s) (hsk : vk_R RX6 101 "krsoamngcv" kq s ∧ sA kq vq A s s.heap) {a : Nat → Nat} {i : Nat → Int32} {r : Nat → Nat → Int32} {q : Nat → Option Nat} {gb : Nat → Nat → Nat} {gi : Nat → Nat → Int32} {gr : Nat → Nat → Nat → Int32} {nh : Nat} {am : Nat → Nat} {im : Nat → Int32} {rm : Nat → Nat → Int32} {lm : Nat → Int64} (hLX : LX i r q gb gi gr nh) (hLM : LM im rm) (hLR : LR i r gi gr nh im rm) {H : Heap} {locs : List Loc} (hP : va_P D vwCl (xW cy a i r q (a 20) (a 12) ++ (HL cy gb gi gr nh ++ (mW cy am im rm lm))) H) (hD : va_D A (xW cy a i r q (a 20) (a 12) ++ (HL cy gb gi gr nh ++ (mW cy am im rm lm)))) (hS : va_S A s.heap H locs) {ls : Array Slot} {x : Int32} (hl : lv_has ls 4 [(0, .ref b), (1, .ref (a 0)), (2, .ref (am 0)), (3, .int x)]) {j : Nat} (hj : 7 * j + 7 ≤ L) (hL : L ≤ 3584) (hxj : x = nI (7 * j)) {ce sl : Nat} (hce : ce + 15 ≤ 600000) (hsl : sl + 215 ≤ 7302250) (kk : ∀ (a2 : Nat → Nat) (i2 : Nat → Int32) (r2 : Nat → Nat → Int32) (q2 : Nat → Option Nat) (gb2 : Nat → Nat → Nat) (gi2 : Nat → Nat → Int32) (gr2 : Nat → Nat → Nat → Int32) (nh2 : Nat) (im2 : Nat → Int32) (rm2 : Nat → Nat → Int32) (lm2 : Nat → Int64) (H2 : Heap) (locs2 : List Loc) (ls2 : Array Slot), a2 0 = a 0 → LX i2 r2 q2 gb2 gi2 gr2 nh2 → LM im2 rm2 → LR i2 r2 gi2 gr2 nh2 im2 rm2 → va_P D vwCl (xW cy a2 i2 r2 q2 (a2 20) (a2 12) ++ (HL cy gb2 gi2 gr2 nh2 ++ (mW cy am im2 rm2 lm2))) H2 → va_D A (xW cy a2 i2 r2 q2 (a2 20) (a2 12) ++ (HL cy gb2 gi2 gr2 nh2 ++ (mW cy am im2 rm2 lm2))) → va_S A s.heap H2 locs2 → lv_has ls2 4 [(0, .ref b), (1, .ref (a 0)), (2, .ref (am 0)), (3, .int x)] → W p l e room_1 s m #[Value.ref b] below meth c H2 locs2 (ce + 15) (sl + 215) (lw_Z below #[Value.ref b] s) (F0 m 1525 ls2 [])) : W p l e room_1 s m #[Value.ref b] below meth c H locs ce sl (lw_Z below #[Value.ref b] s) (F0 m 18 ls []) := by
  obtain ⟨hx, hb, hr, hml, hown, hts, hX, hbl, hlocks, hgv⟩ := id C0
  have hT : ∀ w ∈ gT, w.before _ s = true := fun w h => hts w (gT_in w h)
  have hx0 : x.toInt = ((7 * j : Nat) : Int) := by rw [hxj]; exact nI_toInt (by omega)
  refine lv_iload_n hx hb dL_law_18 rfl (lv_at hl 3 rfl) ?_
  refine lv_aload_n hx hb dL_law_19 rfl (lv_at hl 0 rfl) ?_
  refine va_slen hx hb hX hbl hbA hS dL_law_20 ?_
  refine lv_topi (fun v_1 ev_1 => ?_)
  have hv_1 : v_1.toInt = (L : Int) := by rw [ev_1]; exact nI_toInt (by omega)
  refine lv_bipush (v := 7) hx hb dL_law_21 (by decide) ?_
  refine lv_isub hx hb dL_law_23 ?_
  refine lv_topi (fun v_2 ev_2 => ?_)
  have hv_2 : v_2.toInt = v_1.toInt - 7 := by rw [ev_2]; have := b_rg v_1; exact i_sub (a := v_1.toInt) (b := 7) rfl rfl (by omega) (by omega)
  refine lv_icmp_gt (tgt := 1531) hx hb dL_law_24 (by decide) (fun c_3 => by have c_3 : v_2.toInt < x.toInt := b_lt c_3; omega) (fun c_3 => ?_)
  have c_3 : x.toInt ≤ v_2.toInt := b_nlt c_3
  refine lv_aload_n hx hb dL_law_27 rfl (lv_at hl 0 rfl) ?_
  refine lv_iload_n hx hb dL_law_28 rfl (lv_at hl 3 rfl) ?_
  refine va_sld hx hb hX hbl hbA hS (vp_inI (by omega) (by omega)) dL_law_29 ?_
  refine lv_topi (fun v_4 ev_4 => ?_)
  obtain rfl : v_4 = xs (7 * j + 0) := ev_4.trans (congrArg xs (nI_ix hxj (by omega) (by omega)))
  refine lv_bipush (v := 63) hx hb dL_law_30 (by decide) ?_
  refine lv_iand hx hb dL_law_32 ?_
  refine lv_topi (fun v_5 ev_5 => ?_)
  obtain ⟨j9, hj9, hvj⟩ := pk_andE (xs (7 * j + 0)) (m := 63) 6 (by decide)
  have hv_5 : v_5.toInt = (j9 : Int) := by rw [ev_5, hvj]; exact nI_toInt (by omega)
  clear hT hts hX hgv
  rcases (show (v_5.toInt < 0 ∨ 32 < v_5.toInt) ∨ v_5.toInt = 0 ∨ v_5.toInt = 1 ∨ v_5.toInt = 2 ∨ v_5.toInt = 3 ∨ v_5.toInt = 4 ∨ v_5.toInt = 5 ∨ v_5.toInt = 6 ∨ v_5.toInt = 7 ∨ v_5.toInt = 8 ∨ v_5.toInt = 9 ∨ v_5.toInt = 10 ∨ v_5.toInt = 11 ∨ v_5.toInt = 12 ∨ v_5.toInt = 13 ∨ v_5.toInt = 14 ∨ v_5.toInt = 15 ∨ v_5.toInt = 16 ∨ v_5.toInt = 17 ∨ v_5.toInt = 18 ∨ v_5.toInt = 19 ∨ v_5.toInt = 20 ∨ v_5.toInt = 21 ∨ v_5.toInt = 22 ∨ v_5.toInt = 23 ∨ v_5.toInt = 24 ∨ v_5.toInt = 25 ∨ v_5.toInt = 26 ∨ v_5.toInt = 27 ∨ v_5.toInt = 28 ∨ v_5.toInt = 29 ∨ v_5.toInt = 30 ∨ v_5.toInt = 31 ∨ v_5.toInt = 32 by omega) with h_6 | h_6 | h_6 | h_6 | h_6 | h_6 | h_6 | h_6 | h_6 | h_6 | h_6 | h_6 | h_6 | h_6 | h_6 | h_6 | h_6 | h_6 | h_6 | h_6 | h_6 | h_6 | h_6 | h_6 | h_6 | h_6 | h_6 | h_6 | h_6 | h_6 | h_6 | h_6 | h_6 | h_6
  · refine lv_tableOut (tgt := 1525) hx hb dL_law_33 h_6 (by decide) ?_
    refine W.widen (k := ce + 15) (n := sl + 215) (by omega) (by omega) ?_
    exact kk a _ _ _ _ _ _ _ _ _ _ _ _ _ rfl hLX hLM hLR hP hD hS (lv_sub hl [0, 1, 2, 3] rfl)
  · refine lv_tableIn (off := 147) (tgt := 180) hx hb dL_law_33 (by omega) (by omega) (by rw [h_6]; rfl) (by decide) ?_
    exact lc_0 C0 hA hbA hK hn hm0 hsk hLX hLM hLR hP hD hS (lv_sub hl [0, 1, 2, 3] rfl) hj hL hxj hce hsl kk
  · refine lv_tableIn (off := 180) (tgt := 213) hx hb dL_law_33 (by omega) (by omega) (by rw [h_6]; rfl) (by decide) ?_
    exact lc_1 C0 hA hbA hK hn hm0 hsk hLX hLM hLR hP hD hS (lv_sub hl [0, 1, 2, 3] rfl) hj hL hxj hce hsl kk
  · refine lv_tableIn (off := 223) (tgt := 256) hx hb dL_law_33 (by omega) (by omega) (by rw [h_6]; rfl) (by decide) ?_
    exact lc_2 C0 hA hbA hK hn hm0 hsk hLX hLM hLR hP hD hS (lv_sub hl [0, 1, 2, 3] rfl) hj hL hxj hce hsl kk
  · refine lv_tableIn (off := 314) (tgt := 347) hx hb dL_law_33 (by omega) (by omega) (by rw [h_6]; rfl) (by decide) ?_
    exact lc_3 C0 hA hbA hK hn hm0 hsk hLX hLM hLR hP hD hS (lv_sub hl [0, 1, 2, 3] rfl) hj hL hxj hce hsl kk
  · refine lv_tableIn (off := 357) (tgt := 390) hx hb dL_law_33 (by omega) (by omega) (by rw [h_6]; rfl) (by decide) ?_
    exact lc_4 C0 hA hbA hK hn hm0 hsk hLX hLM hLR hP hD hS (lv_sub hl [0, 1, 2, 3] rfl) hj hL hxj hce hsl kk
  · refine lv_tableIn (off := 400) (tgt := 433) hx hb dL_law_33 (by omega) (by omega) (by rw [h_6]; rfl) (by decide) ?_
    exact lc_5 C0 hA hbA hK hn hm0 hsk hLX hLM hLR hP hD hS (lv_sub hl [0, 1, 2, 3] rfl) hj hL hxj hce hsl kk
  · refine lv_tableIn (off := 463) (tgt := 496) hx hb dL_law_33 (by omega) (by omega) (by rw [h_6]; rfl) (by decide) ?_
    exact lc_6 C0 hA hbA hK hn hm0 hsk hLX hLM hLR hP hD hS (lv_sub hl [0, 1, 2, 3] rfl) hj hL hxj hce hsl kk
  · refine lv_tableIn (off := 516) (tgt := 549) hx hb dL_law_33 (by omega) (by omega) (by rw [h_6]; rfl) (by decide) ?_
    exact lc_7 C0 hA hbA hK hn hm0 hsk hLX hLM hLR hP hD hS (lv_sub hl [0, 1, 2, 3] rfl) hj hL hxj hce hsl kk
  · refine lv_tableIn (off := 579) (tgt := 612) hx hb dL_law_33 (by omega) (by omega) (by rw [h_6]; rfl) (by decide) ?_
    exact lc_8 C0 hA hbA hK hn hm0 hsk hLX hLM hLR hP hD hS (lv_sub hl [0, 1, 2, 3] rfl) hj hL hxj hce hsl kk
  · refine lv_tableIn (off := 602) (tgt := 635) hx hb dL_law_33 (by omega) (by omega) (by rw [h_6]; rfl) (by decide) ?_
    exact lc_9 C0 hA hbA hK hn hm0 hsk hLX hLM hLR hP hD hS (lv_sub hl [0, 1, 2, 3] rfl) hj hL hxj hce hsl kk
  · refine lv_tableIn (off := 645) (tgt := 678) hx hb dL_law_33 (by omega) (by omega) (by rw [h_6]; rfl) (by decide) ?_
    exact lc_10 C0 hA hbA hK hn hm0 hsk hLX hLM hLR hP hD hS (lv_sub hl [0, 1, 2, 3] rfl) hj hL hxj hce hsl kk
  · refine lv_tableIn (off := 678) (tgt := 711) hx hb dL_law_33 (by omega) (by omega) (by rw [h_6]; rfl) (by decide) ?_
    exact lc_11 C0 hA hbA hK hn hm0 hsk hLX hLM hLR hP hD hS (lv_sub hl [0, 1, 2, 3] rfl) hj hL hxj hce hsl kk
  · refine lv_tableIn (off := 721) (tgt := 754) hx hb dL_law_33 (by omega) (by omega) (by rw [h_6]; rfl) (by decide) ?_
    exact lc_12 C0 hA hbA hK hn hm0 hsk hLX hLM hLR hP hD hS (lv_sub hl [0, 1, 2, 3] rfl) hj hL hxj hce hsl kk
  · refine lv_tableIn (off := 784) (tgt := 817) hx hb dL_law_33 (by omega) (by omega) (by rw [h_6]; rfl) (by decide) ?_
    exact lc_13 C0 hA hbA hK hn hm0 hsk hLX hLM hLR hP hD hS (lv_sub hl [0, 1, 2, 3] rfl) hj hL hxj hce hsl kk
  · refine lv_tableIn (off := 817) (tgt := 850) hx hb dL_law_33 (by omega) (by omega) (by rw [h_6]; rfl) (by decide) ?_
    exact lc_14 C0 hA hbA hK hn hm0 hsk hLX hLM hLR hP hD hS (lv_sub hl [0, 1, 2, 3] rfl) hj hL hxj hce hsl kk
  · refine lv_tableIn (off := 876) (tgt := 909) hx hb dL_law_33 (by omega) (by omega) (by rw [h_6]; rfl) (by decide) ?_
    exact lc_15 C0 hA hbA hK hn hm0 hsk hLX hLM hLR hP hD hS (lv_sub hl [0, 1, 2, 3] rfl) hj hL hxj hce hsl kk
  · refine lv_tableIn (off := 919) (tgt := 952) hx hb dL_law_33 (by omega) (by omega) (by rw [h_6]; rfl) (by decide) ?_
    exact lc_16 C0 hA hbA hK hn hm0 hsk hLX hLM hLR hP hD hS (lv_sub hl [0, 1, 2, 3] rfl) hj hL hxj hce hsl kk
  · refine lv_tableIn (off := 962) (tgt := 995) hx hb dL_law_33 (by omega) (by omega) (by rw [h_6]; rfl) (by decide) ?_
    exact lc_17 C0 hA hbA hK hn hm0 hsk hLX hLM hLR hP hD hS (lv_sub hl [0, 1, 2, 3] rfl) hj hL hxj hce hsl kk
  · refine lv_tableIn (off := 1021) (tgt := 1054) hx hb dL_law_33 (by omega) (by omega) (by rw [h_6]; rfl) (by decide) ?_
    exact lc_18 C0 hA hbA hK hn hm0 hsk hLX hLM hLR hP hD hS (lv_sub hl [0, 1, 2, 3] rfl) hj hL hxj hce hsl kk
  · refine lv_tableIn (off := 1044) (tgt := 1077) hx hb dL_law_33 (by omega) (by omega) (by rw [h_6]; rfl) (by decide) ?_
    exact lc_19 C0 hA hbA hK hn hm0 hsk hLX hLM hLR hP hD hS (lv_sub hl [0, 1, 2, 3] rfl) hj hL hxj hce hsl kk
  · refine lv_tableIn (off := 1103) (tgt := 1136) hx hb dL_law_33 (by omega) (by omega) (by rw [h_6]; rfl) (by decide) ?_
    exact lc_20 C0 hA hbA hK hn hm0 hsk hLX hLM hLR hP hD hS (lv_sub hl [0, 1, 2, 3] rfl) hj hL hxj hce hsl kk
  · refine lv_tableIn (off := 1126) (tgt := 1159) hx hb dL_law_33 (by omega) (by omega) (by rw [h_6]; rfl) (by decide) ?_
    exact lc_21 C0 hA hbA hK hn hm0 hsk hLX hLM hLR hP hD hS (lv_sub hl [0, 1, 2, 3] rfl) hj hL hxj hce hsl kk
  · refine lv_tableIn (off := 1149) (tgt := 1182) hx hb dL_law_33 (by omega) (by omega) (by rw [h_6]; rfl) (by decide) ?_
    exact lc_22 C0 hA hbA hK hn hm0 hsk hLX hLM hLR hP hD hS (lv_sub hl [0, 1, 2, 3] rfl) hj hL hxj hce hsl kk
  · refine lv_tableIn (off := 1202) (tgt := 1235) hx hb dL_law_33 (by omega) (by omega) (by rw [h_6]; rfl) (by decide) ?_
    exact lc_23 C0 hA hbA hK hn hm0 hsk hLX hLM hLR hP hD hS (lv_sub hl [0, 1, 2, 3] rfl) hj hL hxj hce hsl kk
  · refine lv_tableIn (off := 1235) (tgt := 1268) hx hb dL_law_33 (by omega) (by omega) (by rw [h_6]; rfl) (by decide) ?_
    exact lc_24 C0 hA hbA hK hn hm0 hsk hLX hLM hLR hP hD hS (lv_sub hl [0, 1, 2, 3] rfl) hj hL hxj hce hsl kk
  · refine lv_tableIn (off := 1268) (tgt := 1301) hx hb dL_law_33 (by omega) (by omega) (by rw [h_6]; rfl) (by decide) ?_
    exact lc_25 C0 hA hbA hK hn hm0 hsk hLX hLM hLR hP hD hS (lv_sub hl [0, 1, 2, 3] rfl) hj hL hxj hce hsl kk
  · refine lv_tableIn (off := 1311) (tgt := 1344) hx hb dL_law_33 (by omega) (by omega) (by rw [h_6]; rfl) (by decide) ?_
    exact lc_26 C0 hA hbA hK hn hm0 hsk hLX hLM hLR hP hD hS (lv_sub hl [0, 1, 2, 3] rfl) hj hL hxj hce hsl kk
  · refine lv_tableIn (off := 1344) (tgt := 1377) hx hb dL_law_33 (by omega) (by omega) (by rw [h_6]; rfl) (by decide) ?_
    exact lc_27 C0 hA hbA hK hn hm0 hsk hLX hLM hLR hP hD hS (lv_sub hl [0, 1, 2, 3] rfl) hj hL hxj hce hsl kk
  · refine lv_tableIn (off := 1367) (tgt := 1400) hx hb dL_law_33 (by omega) (by omega) (by rw [h_6]; rfl) (by decide) ?_
    exact lc_28 C0 hA hbA hK hn hm0 hsk hLX hLM hLR hP hD hS (lv_sub hl [0, 1, 2, 3] rfl) hj hL hxj hce hsl kk
  · refine lv_tableIn (off := 1400) (tgt := 1433) hx hb dL_law_33 (by omega) (by omega) (by rw [h_6]; rfl) (by decide) ?_
    exact lc_29 C0 hA hbA hK hn hm0 hsk hLX hLM hLR hP hD hS (lv_sub hl [0, 1, 2, 3] rfl) hj hL hxj hce hsl kk
  · refine lv_tableIn (off := 1413) (tgt := 1446) hx hb dL_law_33 (by omega) (by omega) (by rw [h_6]; rfl) (by decide) ?_
    exact lc_30 C0 hA hbA hK hn hm0 hsk hLX hLM hLR hP hD hS (lv_sub hl [0, 1, 2, 3] rfl) hj hL hxj hce hsl kk
  · refine lv_tableIn (off := 1426) (tgt := 1459) hx hb dL_law_33 (by omega) (by omega) (by rw [h_6]; rfl) (by decide) ?_
    exact lc_31 C0 hA hbA hK hn hm0 hsk hLX hLM hLR hP hD hS (lv_sub hl [0, 1, 2, 3] rfl) hj hL hxj hce hsl kk
  · refine lv_tableIn (off := 1469) (tgt := 1502) hx hb dL_law_33 (by omega) (by omega) (by rw [h_6]; rfl) (by decide) ?_
    exact lc_32 C0 hA hbA hK hn hm0 hsk hLX hLM hLR hP hD hS (lv_sub hl [0, 1, 2, 3] rfl) hj hL hxj hce hsl kk
set_option maxHeartbeats 4000000 in
set_option maxRecDepth 100000 in
theorem lz_loop {p : Program} {l : Launch} {e : Env} {s : State} {m : MethodId} {below : List Frame} {meth : Method} {c : Code} {b L : Nat} {xs : Nat → Int32} (C0 : lw_At p s m meth c b L xs) {D : va_G} {cy : Nat → ClassId} {kq vq : Nat} {A : Nat → Prop} (hA : ∀ q, s.heap.size ≤ q → A q) (hbA : ¬ A b) (hK : va_K D vwCl (vT cy) s) (hn : nw s) (hm0 : nm s) (hsk : vk_R RX6 101 "krsoamngcv" kq s ∧ sA kq vq A s s.heap) (hAA : ∀ q, A q → s.heap.size ≤ q) (hL : L ≤ 3584) {am : Nat → Nat} : ∀ (n j : Nat) (a : Nat → Nat) (i : Nat → Int32) (r : Nat → Nat → Int32) (q : Nat → Option Nat) (gb : Nat → Nat → Nat) (gi : Nat → Nat → Int32) (gr : Nat → Nat → Nat → Int32) (nh : Nat) (im : Nat → Int32) (rm : Nat → Nat → Int32) (lm : Nat → Int64) (H : Heap) (locs : List Loc) (ls : Array Slot) (x : Int32) (ce sl : Nat), L < 7 * (j + n) + 7 → j + n ≤ 512 → LX i r q gb gi gr nh → LM im rm → LR i r gi gr nh im rm → va_P D vwCl (xW cy a i r q (a 20) (a 12) ++ (HL cy gb gi gr nh ++ (mW cy am im rm lm))) H → va_D A (xW cy a i r q (a 20) (a 12) ++ (HL cy gb gi gr nh ++ (mW cy am im rm lm))) → va_S A s.heap H locs → lv_has ls 4 [(0, .ref b), (1, .ref (a 0)), (2, .ref (am 0)), (3, .int x)] → x = nI (7 * j) → ce + 15 * n ≤ 600000 → sl + 215 * n ≤ 7302250 → W p l e room_1 s m #[Value.ref b] below meth c H locs ce sl (lw_Z below #[Value.ref b] s) (F0 m 18 ls []) := by
  intro n
  induction n with
  | zero =>
    intro j a i r q gb gi gr nh im rm lm H locs ls x ce sl h1 h2 hLX hLM hLR hP hD hS hl hxj hce hsl
    exact lz_exit C0 hbA hAA hS hl (by omega) (by omega) hL hxj (by omega) (by omega)
  | succ n ih =>
    intro j a i r q gb gi gr nh im rm lm H locs ls x ce sl h1 h2 hLX hLM hLR hP hD hS hl hxj hce hsl
    rcases Nat.lt_or_ge L (7 * j + 7) with h7 | h7
    · exact lz_exit C0 hbA hAA hS hl h7 (by omega) hL hxj (by omega) (by omega)
    · refine lz_turn C0 hA hbA hK hn hm0 hsk hLX hLM hLR hP hD hS hl h7 hL hxj (by omega) (by omega) ?_
      intro a2 i2 r2 q2 gb2 gi2 gr2 nh2 im2 rm2 lm2 H2 locs2 ls2 ha2 hLX2 hLM2 hLR2 hP2 hD2 hS2 hl2
      rw [← ha2] at hl2
      exact lz_next C0 hl2 hxj (fun ls3 x3 hl3 hx3 => ih (j + 1) a2 i2 r2 q2 gb2 gi2 gr2 nh2 im2 rm2 lm2 H2 locs2 ls3 x3 (ce + 15) (sl + 215) (by omega) (by omega) hLX2 hLM2 hLR2 hP2 hD2 hS2 hl3 hx3 (by omega) (by omega))
