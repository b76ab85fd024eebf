theorem t_606 : Cond.instantiable RX11 14 ∈ gT := tm (List.mem_of_getElem? (i := 21) (by decide +kernel)) (by decide +kernel)
theorem t_607 : Cond.instantiable RX12 91 ∈ gT := tm (List.mem_of_getElem? (i := 912) (by decide +kernel)) (by decide +kernel)
theorem t_608 : Cond.classLink RL 7 RX11 ∈ gT := tm (List.mem_of_getElem? (i := 20) (by decide +kernel)) (by decide +kernel)
theorem t_609 : Cond.code yX11_init cX11_init 1 none ∈ gT := tm (List.mem_of_getElem? (i := 24) (by decide +kernel)) (by decide +kernel)
theorem t_610 : Cond.methodLink RL 9 yX11_init ∈ gT := tm (List.mem_of_getElem? (i := 22) (by decide +kernel)) (by decide +kernel)
theorem t_611 : Cond.instanceMethod yX11_init ∈ gT := tm (List.mem_of_getElem? (i := 23) (by decide +kernel)) (by decide +kernel)
theorem t_612 : Cond.classLink RL 10 RX12 ∈ gT := tm (List.mem_of_getElem? (i := 911) (by decide +kernel)) (by decide +kernel)
theorem t_613 : Cond.code yX12_init cX12_init 2 none ∈ gT := tm (List.mem_of_getElem? (i := 915) (by decide +kernel)) (by decide +kernel)
theorem t_614 : Cond.methodLink RL 12 yX12_init ∈ gT := tm (List.mem_of_getElem? (i := 913) (by decide +kernel)) (by decide +kernel)
theorem t_615 : Cond.instanceMethod yX12_init ∈ gT := tm (List.mem_of_getElem? (i := 914) (by decide +kernel)) (by decide +kernel)
theorem dL_law_0 : decode cL_law 0 = .ok (.new 7, 3) := by decide +kernel
theorem dL_law_3 : decode cL_law 3 = .ok (.dup, 1) := by decide +kernel
theorem dL_law_4 : decode cL_law 4 = .ok (.invokespecial 9, 3) := by decide +kernel
theorem dL_law_7 : decode cL_law 7 = .ok (.astore_n 1, 1) := by decide +kernel
theorem dL_law_8 : decode cL_law 8 = .ok (.new 10, 3) := by decide +kernel
theorem dL_law_11 : decode cL_law 11 = .ok (.dup, 1) := by decide +kernel
theorem dL_law_12 : decode cL_law 12 = .ok (.invokespecial 12, 3) := by decide +kernel
theorem dL_law_15 : decode cL_law 15 = .ok (.astore_n 2, 1) := by decide +kernel
theorem dL_law_16 : decode cL_law 16 = .ok (.iconst 0, 1) := by decide +kernel
theorem dL_law_17 : decode cL_law 17 = .ok (.istore_n 3, 1) := by decide +kernel
theorem dL_law_27 : decode cL_law 27 = .ok (.aload_n 0, 1) := by decide +kernel
theorem dL_law_28 : decode cL_law 28 = .ok (.iload_n 3, 1) := by decide +kernel
theorem dL_law_29 : decode cL_law 29 = .ok (.iaload, 1) := by decide +kernel
theorem dL_law_30 : decode cL_law 30 = .ok (.bipush 63, 2) := by decide +kernel
theorem dL_law_32 : decode cL_law 32 = .ok (.iand, 1) := by decide +kernel
theorem dL_law_33 : decode cL_law 33 = .ok (.tableswitch 1492 0 32 #[147, 180, 223, 314, 357, 400, 463, 516, 579, 602, 645, 678, 721, 784, 817, 876, 919, 962, 1021, 1044, 1103, 1126, 1149, 1202, 1235, 1268, 1311, 1344, 1367, 1400, 1413, 1426, 1469], 147) := by decide +kernel
set_option maxHeartbeats 8000000 in
set_option maxRecDepth 100000 in
theorem whole_start {p : Program} {e : Env} {s : State} {m : MethodId} {below : List Frame} {meth : Method} {c : Code} (l : Launch) {b L : Nat} {xs : Nat → Int32} (hL : L ≤ 7) (C0 : lw_At p s m meth c b L xs) : W p l e room_1 s m #[Value.ref b] below meth c s.heap [] 0 0 (lw_Z below #[Value.ref b] s) (entryFrame m ([Value.ref b] : List Value).toArray 4) := by
  obtain ⟨hx, hb, hr, hml, hown, hts, hX, hbl, hlocks, hgv⟩ := id C0
  have hT : ∀ w ∈ gT, w.before _ s = true := fun w h => hts w (gT_in w h)
  have hA : ∀ q : Nat, s.heap.size ≤ q → (fun q : Nat => s.heap.size ≤ q) q := fun _ h => h
  have hbA : ¬ (fun q : Nat => s.heap.size ≤ q) b := Nat.not_le.mpr hbl
  obtain ⟨c0, i0, hk0⟩ := u_known (C := RX0) (T := TX0) (N := 2) (n := 2) hT iX0 (hT _ t_328)
  obtain ⟨c1, i1, hk1⟩ := u_known (C := RX1) (T := TX1) (N := 12) (n := 12) hT iX1 (hT _ t_323)
  obtain ⟨c2, i2, hk2⟩ := u_known (C := RX2) (T := TX2) (N := 4) (n := 4) hT iX2 (hT _ t_334)
  obtain ⟨c3, i3, hk3⟩ := u_known (C := RX3) (T := TX3) (N := 12) (n := 12) hT iX3 (hT _ t_210)
  obtain ⟨c4, i4, hk4⟩ := u_known (C := RX4) (T := TX4) (N := 2) (n := 2) hT iX4 (hT _ t_305)
  obtain ⟨c5, i5, hk5⟩ := u_known (C := RX5) (T := TX5) (N := 9) (n := 9) hT iX5 (hT _ t_272)
  obtain ⟨c6, i6, hk6⟩ := u_known (C := RX6) (T := TX6) (N := 5) (n := 5) hT iX6 (hT _ t_315)
  obtain ⟨c7, i7, hk7⟩ := u_known (C := RX7) (T := TX7) (N := 4) (n := 4) hT iX7 (hT _ t_338)
  obtain ⟨c8, i8, hk8⟩ := u_known (C := RX8) (T := TX8) (N := 2) (n := 2) hT iX8 (hT _ t_299)
  obtain ⟨c9, i9, hk9⟩ := u_known (C := RX9) (T := TX9) (N := 2) (n := 2) hT iX9 (hT _ t_311)
  obtain ⟨c10, i10, hk10⟩ := u_known (C := RX10) (T := TX10) (N := 5) (n := 5) hT iX10 (hT _ t_195)
  obtain ⟨c11, i11, hk11⟩ := u_known (C := RX11) (T := TX11) (N := 14) (n := 14) hT iX11 (hT _ t_606)
  obtain ⟨c12, i12, hk12⟩ := u_known (C := RX12) (T := TX12) (N := 91) (n := 91) hT iX12 (hT _ t_607)
  obtain ⟨D, hDk⟩ : ∃ D : va_G, ∀ (k : Nat) (q : vw_C), vwCl[k]? = some q → u_Kn s q.1 q.2.1 q.2.2 (D.1 k) (D.2 k) := by
    refine ⟨(fun k => [c0, c1, c2, c3, c4, c5, c6, c7, c8, c9, c10, c11, c12].getD k c0, fun k => [i0, i1, i2, i3, i4, i5, i6, i7, i8, i9, i10, i11, i12].getD k i0), ?_⟩
    intro k q hq
    match k, hq with
    | 0, hq => cases hq; exact hk0
    | 1, hq => cases hq; exact hk1
    | 2, hq => cases hq; exact hk2
    | 3, hq => cases hq; exact hk3
    | 4, hq => cases hq; exact hk4
    | 5, hq => cases hq; exact hk5
    | 6, hq => cases hq; exact hk6
    | 7, hq => cases hq; exact hk7
    | 8, hq => cases hq; exact hk8
    | 9, hq => cases hq; exact hk9
    | 10, hq => cases hq; exact hk10
    | 11, hq => cases hq; exact hk11
    | 12, hq => cases hq; exact hk12
    | k + 13, hq => simp [vwCl] at hq
  obtain ⟨cI, kI, ooI, fI1, fI2, fI3⟩ := Cond.arrayClass_spec (hT _ t_184)
  obtain ⟨cB, kB, ooB, fB1, fB2, fB3⟩ := Cond.arrayClass_spec (hT _ t_227)
  obtain ⟨cZ, kZ, ooZ, fZ1, fZ2, fZ3⟩ := Cond.arrayClass_spec (hT _ t_192)
  obtain ⟨cJ, kJ, ooJ, fJ1, fJ2, fJ3⟩ := Cond.arrayClass_spec (hT _ t_247)
  have hAO : (Cond.arrayOver (.object "DepositJudge$Home")).before #[Value.ref b] s = true := hts _ (List.mem_append_right _ (List.mem_of_getElem? (i := 45) (by decide +kernel)))
  obtain ⟨mH, cH, kH, fH1, fH2, fH3, fH4, fH5⟩ := Cond.arrayOver_spec hAO
  obtain ⟨cy, hK⟩ : ∃ cy : Nat → ClassId, va_K D vwCl (vT cy) s := by
    refine ⟨fun k => [cI, cB, cZ, cJ, cH].getD k cI, hDk, ?_⟩
    intro k q hq
    match k, hq with
    | 0, hq => cases hq; exact ⟨fun n z => ⟨fun k h => (by cases h), kI, fI2, ooI, fI3⟩, fI1⟩
    | 1, hq => cases hq; exact ⟨fun n z => ⟨fun k h => (by cases h), kB, fB2, ooB, fB3⟩, fB1⟩
    | 2, hq => cases hq; exact ⟨fun n z => ⟨fun k h => (by cases h), kZ, fZ2, ooZ, fZ3⟩, fZ1⟩
    | 3, hq => cases hq; exact ⟨fun n z => ⟨fun k h => (by cases h), kJ, fJ2, ooJ, fJ3⟩, fJ1⟩
    | 4, hq => cases hq; exact ⟨fun n z => ⟨fun k h => (by cases h), kH, fH3, mH, fH4⟩, kH, mH, fH3, fH4, fH1, fH5⟩
    | k + 5, hq => simp [vT] at hq
  have hn : nw s := ⟨va_Nw.of rfl (hts (.methodLinkNest RX11 28 yX4_init RX11) (List.mem_append_right _ (List.mem_of_getElem? (i := 48) (by decide +kernel)))), va_Nw.of rfl (hts (.methodLinkNest RX11 35 yX9_init RX11) (List.mem_append_right _ (List.mem_of_getElem? (i := 62) (by decide +kernel)))), va_Nw.of rfl (hts (.methodLinkNest RX11 42 yX6_init RX11) (List.mem_append_right _ (List.mem_of_getElem? (i := 78) (by decide +kernel)))), va_Nw.of rfl (hts (.methodLinkNest RX6 11 yX5_init RX11) (List.mem_append_right _ (List.mem_of_getElem? (i := 84) (by decide +kernel)))), va_Nw.of rfl (hts (.methodLinkNest RX11 49 yX5_init RX11) (List.mem_append_right _ (List.mem_of_getElem? (i := 135) (by decide +kernel)))), va_Nw.of rfl (hts (.methodLinkNest RX11 74 yX0_init RX11) (List.mem_append_right _ (List.mem_of_getElem? (i := 193) (by decide +kernel)))), va_Nw.of rfl (hts (.methodLinkNest RX11 81 yX2_init RX11) (List.mem_append_right _ (List.mem_of_getElem? (i := 207) (by decide +kernel)))), va_Nw.of rfl (hts (.methodLinkNest RX3 24 yX10_init RX11) (List.mem_append_right _ (List.mem_of_getElem? (i := 318) (by decide +kernel)))), va_AO.of hAO⟩
  have hnw := hn
  have hS : va_S (fun q : Nat => s.heap.size ≤ q) s.heap s.heap [] := va_S.rf
  have hP : va_P D vwCl [] s.heap := fun k q h => by simp at h
  have hD : va_D (fun q : Nat => s.heap.size ≤ q) [] := ⟨fun i j p q h => by simp at h, fun k q h => by simp at h⟩
  have hl := lv_entry ([.ref b]) (n := 4) (Nat.le_of_ble_eq_true rfl)
  rw [lg_entry_eq]
  generalize (lg_sl ([.ref b]) ++ List.replicate (4 - (lg_sl ([.ref b])).length) Slot.unset).toArray = ls at hl ⊢
  have hl : lv_has ls 4 [(0, .ref b)] := hl
  refine va_new (ci := 11) (fs := [.null, .null, .int 0, .null, .null, .null, .null, .null, .null, .null, .int 0, .null, .null, .null]) (C := RX11) (T := TX11) (N := 14) hx hb hT iX11 tyX11 tyX11_ok hown (hT _ t_608) (hT _ t_606) (hT _ t_2) hK hP hD hS hA rfl (fun j hj => dfl11 j hj) (Nat.le_of_ble_eq_true rfl) (Nat.le_of_ble_eq_true rfl) dL_law_0 (fun q_1 H hP hD hS => ?_)
  have hP : va_P D vwCl [(q_1, .inr (11, [.null, .null, .int 0, .null, .null, .null, .null, .null, .null, .null, .int 0, .null, .null, .null]))] H := hP
  have hD : va_D (fun q : Nat => s.heap.size ≤ q) [(q_1, .inr (11, [.null, .null, .int 0, .null, .null, .null, .null, .null, .null, .null, .int 0, .null, .null, .null]))] := hD
  refine W.widen (k := 1) (n := 14) (Nat.le_of_ble_eq_true rfl) (Nat.le_of_ble_eq_true rfl) ?_
  refine lv_dup hx hb dL_law_3 rfl ?_
  have hF_2 := rF hD hS hA
  refine va_callv (va_runI (As := []) (rest := [.ref q_1]) ⟨hx, hb, hml, hown, hT⟩ (c_X11_init l D cy q_1 _) (cwI 0 hT (gI t_609) rfl rfl rfl (hT _ t_2) (hT _ t_610) (hT _ t_611) rfl (by decide +kernel) ⟨Nat.le_of_ble_eq_true rfl, Nat.le_of_ble_eq_true rfl⟩) (rN_s hnw hP hK hD) rfl rfl hl.1 rfl (lv_room (Nat.le_of_ble_eq_true rfl)) dL_law_4 ⟨Nat.le_of_ble_eq_true rfl, Nat.le_of_ble_eq_true rfl⟩) hS (fun q _ h => hF_2 q h) hF_2 (fun u_4 t H1 locs ht hvm hr_3 hB hz1 hk1 hS => ?_)
  obtain ⟨ax, ix, rx⟩ := u_4
  obtain ⟨hPX, hK1, hD1⟩ := hB
  rw [ht] at hPX
  have hDX := hD1.weaken (fun k q _ h => hF_2 q.1 h)
  obtain ⟨hq0, hf, hg⟩ := hr_3
  have hq0 : ax 0 = q_1 := hq0
  subst hq0
  have hP : va_P D vwCl (xW cy ax ix rx (fun _ => none) (ax 20) (ax 12)) H1 := hPX
  have hD : va_D (fun q : Nat => s.heap.size ≤ q) (xW cy ax ix rx (fun _ => none) (ax 20) (ax 12)) := hDX
  have hf : xZ ix := hf
  have hg : xZr rx := hg
  refine W.widen (k := 61) (n := 2576) (Nat.le_of_ble_eq_true rfl) (Nat.le_of_ble_eq_true rfl) ?_
  refine lv_astore_n (lv' := [(1, .ref (ax 0)), (0, .ref b)]) hx hb dL_law_7 rfl hl (by decide) rfl (fun ls hl => ?_)
  refine va_new (ci := 12) (fs := dfs12) (C := RX12) (T := TX12) (N := 91) hx hb hT iX12 tyX12 tyX12_ok hown (hT _ t_612) (hT _ t_607) (hT _ t_8) hK hP hD hS hA rfl (fun j hj => dfl12 j hj) (Nat.le_of_ble_eq_true rfl) (Nat.le_of_ble_eq_true rfl) dL_law_8 (fun qm H hP hD hS => ?_)
  refine W.widen (k := 62) (n := 2667) (Nat.le_of_ble_eq_true rfl) (Nat.le_of_ble_eq_true rfl) ?_
  refine lv_dup hx hb dL_law_11 rfl ?_
  have hPc := hP.sub (ws' := [(qm, .inr (12, [.int 0, .int 0, .null, .null, .null, .null, .null, .null, .null, .null, .null, .null, .null, .null, .null, .null, .null, .null, .null, .null, .null, .null, .int 0, .int 0, .int 0, .int 0, .int 0, .int 0, .int 0, .int 0, .int 0, .int 0, .null, .null, .null, .null, .null, .null, .null, .null, .null, .null, .null, .null, .null, .null, .null, .null, .null, .null, .null, .int 0, .null, .null, .null, .null, .null, .null, .null, .null, .int 0, .null, .null, .int 0, .null, .null, .null, .null, .null, .null, .null, .null, .int 0, .null, .null, .null, .null, .null, .int 0, .int 0, .int 0, .null, .null, .null, .null, .null, .null, .null, .null, .null, .null]))]) [61] rfl
  have hDc := hD.sub (ws' := [(qm, .inr (12, [.int 0, .int 0, .null, .null, .null, .null, .null, .null, .null, .null, .null, .null, .null, .null, .null, .null, .null, .null, .null, .null, .null, .null, .int 0, .int 0, .int 0, .int 0, .int 0, .int 0, .int 0, .int 0, .int 0, .int 0, .null, .null, .null, .null, .null, .null, .null, .null, .null, .null, .null, .null, .null, .null, .null, .null, .null, .null, .null, .int 0, .null, .null, .null, .null, .null, .null, .null, .null, .int 0, .null, .null, .int 0, .null, .null, .null, .null, .null, .null, .null, .null, .int 0, .null, .null, .null, .null, .null, .int 0, .int 0, .int 0, .null, .null, .null, .null, .null, .null, .null, .null, .null, .null]))]) [61] (by decide) rfl
  have hFc := va_free (wc := [(qm, .inr (12, [.int 0, .int 0, .null, .null, .null, .null, .null, .null, .null, .null, .null, .null, .null, .null, .null, .null, .null, .null, .null, .null, .null, .null, .int 0, .int 0, .int 0, .int 0, .int 0, .int 0, .int 0, .int 0, .int 0, .int 0, .null, .null, .null, .null, .null, .null, .null, .null, .null, .null, .null, .null, .null, .null, .null, .null, .null, .null, .null, .int 0, .null, .null, .null, .null, .null, .null, .null, .null, .int 0, .null, .null, .int 0, .null, .null, .null, .null, .null, .null, .null, .null, .int 0, .null, .null, .null, .null, .null, .int 0, .int 0, .int 0, .null, .null, .null, .null, .null, .null, .null, .null, .null, .null]))]) hD hS hA [61] rfl
  refine va_callv (va_runI (As := []) (rest := [.ref qm]) ⟨hx, hb, hml, hown, hT⟩ (c_X12_init l D cy qm _) (cwI 0 hT (gI t_613) rfl rfl rfl (hT _ t_8) (hT _ t_614) (hT _ t_615) rfl (by decide +kernel) ⟨Nat.le_of_ble_eq_true rfl, Nat.le_of_ble_eq_true rfl⟩) (rQ_s hPc hK hDc) rfl rfl hl.1 rfl (lv_room (Nat.le_of_ble_eq_true rfl)) dL_law_12 ⟨Nat.le_of_ble_eq_true rfl, Nat.le_of_ble_eq_true rfl⟩) hS (fun q _ h => hFc q h) hFc (fun u t H1 locs ht hvm hw hB hz1 hk1 hS => ?_)
  obtain ⟨am, im, rm, lm⟩ := u
  obtain ⟨hP1, hK1, hD1⟩ := hB
  rw [ht] at hP1
  obtain ⟨hqm, hz⟩ := hw
  have hqm : am 0 = qm := hqm
  subst hqm
  have hP1 : va_P D vwCl (mW cy am im rm lm) H1 := hP1
  have hz : mZ im := hz
  obtain ⟨hPj, hDj⟩ := va_join (wr := (xW cy ax ix rx (fun _ => none) (ax 20) (ax 12))) (w1 := (mW cy am im rm lm)) hP hD [61] [0, 1, 2, 3, 4, 5, 6, 7, 8, 9, 10, 11, 12, 13, 14, 15, 16, 17, 18, 19, 20, 21, 22, 23, 24, 25, 26, 27, 28, 29, 30, 31, 32, 33, 34, 35, 36, 37, 38, 39, 40, 41, 42, 43, 44, 45, 46, 47, 48, 49, 50, 51, 52, 53, 54, 55, 56, 57, 58, 59, 60] rfl rfl (by decide) (by decide) hk1 hFc hP1 hD1
  have hPx := vaP_l hPj
  have hPm := vaP_r hPj
  refine W.widen (k := 134) (n := 5936) (Nat.le_of_ble_eq_true rfl) (Nat.le_of_ble_eq_true rfl) ?_
  refine lv_astore_n (lv' := [(2, .ref (am 0)), (1, .ref (ax 0)), (0, .ref b)]) hx hb dL_law_15 rfl hl (by decide) rfl (fun ls hl => ?_)
  refine lv_iconst (v := 0) hx hb dL_law_16 (by decide) ?_
  refine lv_istore_n (lv' := [(3, .int 0), (2, .ref (am 0)), (1, .ref (ax 0)), (0, .ref b)]) hx hb dL_law_17 rfl hl (by decide) rfl (fun ls hl => ?_)
  rcases Nat.lt_or_ge L 7 with h7 | h7
  · skip
    refine lv_iload_n hx hb dL_law_18 rfl (lv_at hl 0 rfl) ?_
    refine lv_aload_n hx hb dL_law_19 rfl (lv_at hl 3 rfl) ?_
    refine va_slen hx hb hX hbl hbA hS dL_law_20 ?_
    refine lv_topi (fun v_5 ev_5 => ?_)
    have hv_5 : v_5.toInt = (L : Int) := by rw [ev_5]; exact nI_toInt (by omega)
    refine lv_bipush (v := 7) hx hb dL_law_21 (by decide) ?_
    refine lv_isub hx hb dL_law_23 ?_
    refine lv_topi (fun v_6 ev_6 => ?_)
    have hv_6 : v_6.toInt = v_5.toInt - 7 := by rw [ev_6]; have := b_rg v_5; exact i_sub (a := v_5.toInt) (b := 7) rfl rfl (by omega) (by omega)
    refine lv_icmp_gt (tgt := 1531) hx hb dL_law_24 (by decide) (fun c_7 => ?_) (fun c_7 => by have c_7 : 0 ≤ v_6.toInt := b_nlt c_7; omega)
    have c_7 : v_6.toInt < 0 := b_lt c_7
    refine lv_iconst (v := 1) hx hb dL_law_1531 (by decide) ?_
    refine va_forget (fun q hq => hS.2.2 q hq) ?_
    refine W.widen (k := 600000) (n := 7302249) (Nat.le_of_ble_eq_true rfl) (Nat.le_of_ble_eq_true rfl) ?_
    exact lw_ret hx hb hr hlocks dL_law_1532
  · obtain rfl : L = 7 := by omega
    refine lv_iload_n hx hb dL_law_18 rfl (lv_at hl 0 rfl) ?_
    refine lv_aload_n hx hb dL_law_19 rfl (lv_at hl 3 rfl) ?_
    refine va_slen hx hb hX hbl hbA hS dL_law_20 ?_
    refine lv_topi (fun v_8 ev_8 => ?_)
    obtain rfl : v_8 = 7 := ev_8
    refine lv_bipush (v := 7) hx hb dL_law_21 (by decide) ?_
    refine lv_isub hx hb dL_law_23 ?_
    refine lv_topi (fun v_9 ev_9 => ?_)
    obtain rfl : v_9 = 0 := ev_9.trans (by decide)
    refine lv_icmp_gt (tgt := 1531) hx hb dL_law_24 (by decide) (fun c_10 => absurd c_10 (by decide)) (fun c_10 => ?_)
    refine lv_aload_n hx hb dL_law_27 rfl (lv_at hl 3 rfl) ?_
    refine lv_iload_n hx hb dL_law_28 rfl (lv_at hl 0 rfl) ?_
    refine va_sld hx hb hX hbl hbA hS (vp_inI (by decide) (by decide)) dL_law_29 ?_
    refine lv_topi (fun v_11 ev_11 => ?_)
    obtain rfl : v_11 = xs 0 := ev_11
    refine lv_bipush (v := 63) hx hb dL_law_30 (by decide) ?_
    refine lv_iand hx hb dL_law_32 ?_
    refine lv_topi (fun v_12 ev_12 => ?_)
    obtain ⟨j, hj, hvj⟩ := pk_andE (xs 0) (m := 63) 6 (by decide)
    have hv_12 : v_12.toInt = (j : Int) := by rw [ev_12, hvj]; exact nI_toInt (by omega)
    rcases (show (v_12.toInt < 0 ∨ 32 < v_12.toInt) ∨ v_12.toInt = 0 ∨ v_12.toInt = 1 ∨ v_12.toInt = 2 ∨ v_12.toInt = 3 ∨ v_12.toInt = 4 ∨ v_12.toInt = 5 ∨ v_12.toInt = 6 ∨ v_12.toInt = 7 ∨ v_12.toInt = 8 ∨ v_12.toInt = 9 ∨ v_12.toInt = 10 ∨ v_12.toInt = 11 ∨ v_12.toInt = 12 ∨ v_12.toInt = 13 ∨ v_12.toInt = 14 ∨ v_12.toInt = 15 ∨ v_12.toInt = 16 ∨ v_12.toInt = 17 ∨ v_12.toInt = 18 ∨ v_12.toInt = 19 ∨ v_12.toInt = 20 ∨ v_12.toInt = 21 ∨ v_12.toInt = 22 ∨ v_12.toInt = 23 ∨ v_12.toInt = 24 ∨ v_12.toInt = 25 ∨ v_12.toInt = 26 ∨ v_12.toInt = 27 ∨ v_12.toInt = 28 ∨ v_12.toInt = 29 ∨ v_12.toInt = 30 ∨ v_12.toInt = 31 ∨ v_12.toInt = 32 by omega) with h_13 | h_13 | h_13 | h_13 | h_13 | h_13 | h_13 | h_13 | h_13 | h_13 | h_13 | h_13 | h_13 | h_13 | h_13 | h_13 | h_13 | h_13 | h_13 | h_13 | h_13 | h_13 | h_13 | h_13 | h_13 | h_13 | h_13 | h_13 | h_13 | h_13 | h_13 | h_13 | h_13 | h_13
    · refine lv_tableOut (tgt := 1525) hx hb dL_law_33 h_13 (by decide) ?_
      exact lc_end C0 hS (lv_sub hl [3, 0] rfl) (Nat.le_of_ble_eq_true rfl) (Nat.le_of_ble_eq_true rfl)
    · refine lv_tableIn (off := 147) (tgt := 180) hx hb dL_law_33 (by omega) (by omega) (by rw [h_13]; rfl) (by decide) ?_
      exact lc_0 C0 hf hg hz hn hK hPx hPm hDj hS (lv_sub hl [3, 2, 1, 0] rfl)
    · refine lv_tableIn (off := 180) (tgt := 213) hx hb dL_law_33 (by omega) (by omega) (by rw [h_13]; rfl) (by decide) ?_
      exact lc_1 C0 hf hg hz hn hK hPx hPm hDj hS (lv_sub hl [3, 2, 1, 0] rfl)
    · refine lv_tableIn (off := 223) (tgt := 256) hx hb dL_law_33 (by omega) (by omega) (by rw [h_13]; rfl) (by decide) ?_
      exact lc_2 C0 hf hg hz hn hK hPx hPm hDj hS (lv_sub hl [3, 2, 1, 0] rfl)
    · refine lv_tableIn (off := 314) (tgt := 347) hx hb dL_law_33 (by omega) (by omega) (by rw [h_13]; rfl) (by decide) ?_
      exact lc_3 C0 hf hg hz hn hK hPx hPm hDj hS (lv_sub hl [3, 2, 1, 0] rfl)
    · refine lv_tableIn (off := 357) (tgt := 390) hx hb dL_law_33 (by omega) (by omega) (by rw [h_13]; rfl) (by decide) ?_
      exact lc_4 C0 hf hg hz hn hK hPx hPm hDj hS (lv_sub hl [3, 2, 1, 0] rfl)
    · refine lv_tableIn (off := 400) (tgt := 433) hx hb dL_law_33 (by omega) (by omega) (by rw [h_13]; rfl) (by decide) ?_
      exact lc_5 C0 hf hg hz hn hK hPx hPm hDj hS (lv_sub hl [3, 2, 1, 0] rfl)
    · refine lv_tableIn (off := 463) (tgt := 496) hx hb dL_law_33 (by omega) (by omega) (by rw [h_13]; rfl) (by decide) ?_
      exact lc_6 C0 hf hg hz hn hK hPx hPm hDj hS (lv_sub hl [3, 2, 1, 0] rfl)
    · refine lv_tableIn (off := 516) (tgt := 549) hx hb dL_law_33 (by omega) (by omega) (by rw [h_13]; rfl) (by decide) ?_
      exact lc_7 C0 hf hg hz hn hK hPx hPm hDj hS (lv_sub hl [3, 2, 1, 0] rfl)
    · refine lv_tableIn (off := 579) (tgt := 612) hx hb dL_law_33 (by omega) (by omega) (by rw [h_13]; rfl) (by decide) ?_
      exact lc_8 C0 hf hg hz hn hK hPx hPm hDj hS (lv_sub hl [3, 2, 1, 0] rfl)
    · refine lv_tableIn (off := 602) (tgt := 635) hx hb dL_law_33 (by omega) (by omega) (by rw [h_13]; rfl) (by decide) ?_
      exact lc_9 C0 hf hg hz hn hK hPx hPm hDj hS (lv_sub hl [3, 2, 1, 0] rfl)
    · refine lv_tableIn (off := 645) (tgt := 678) hx hb dL_law_33 (by omega) (by omega) (by rw [h_13]; rfl) (by decide) ?_
      exact lc_10 C0 hf hg hz hn hK hPx hPm hDj hS (lv_sub hl [3, 2, 1, 0] rfl)
    · refine lv_tableIn (off := 678) (tgt := 711) hx hb dL_law_33 (by omega) (by omega) (by rw [h_13]; rfl) (by decide) ?_
      exact lc_11 C0 hf hg hz hn hK hPx hPm hDj hS (lv_sub hl [3, 2, 1, 0] rfl)
    · refine lv_tableIn (off := 721) (tgt := 754) hx hb dL_law_33 (by omega) (by omega) (by rw [h_13]; rfl) (by decide) ?_
      exact lc_12 C0 hf hg hz hn hK hPx hPm hDj hS (lv_sub hl [3, 2, 1, 0] rfl)
    · refine lv_tableIn (off := 784) (tgt := 817) hx hb dL_law_33 (by omega) (by omega) (by rw [h_13]; rfl) (by decide) ?_
      exact lc_13 C0 hf hg hz hn hK hPx hPm hDj hS (lv_sub hl [3, 2, 1, 0] rfl)
    · refine lv_tableIn (off := 817) (tgt := 850) hx hb dL_law_33 (by omega) (by omega) (by rw [h_13]; rfl) (by decide) ?_
      exact lc_14 C0 hf hg hz hn hK hPx hPm hDj hS (lv_sub hl [3, 2, 1, 0] rfl)
    · refine lv_tableIn (off := 876) (tgt := 909) hx hb dL_law_33 (by omega) (by omega) (by rw [h_13]; rfl) (by decide) ?_
      exact lc_15 C0 hf hg hz hn hK hPx hPm hDj hS (lv_sub hl [3, 2, 1, 0] rfl)
    · refine lv_tableIn (off := 919) (tgt := 952) hx hb dL_law_33 (by omega) (by omega) (by rw [h_13]; rfl) (by decide) ?_
      exact lc_16 C0 hf hg hz hn hK hPx hPm hDj hS (lv_sub hl [3, 2, 1, 0] rfl)
    · refine lv_tableIn (off := 962) (tgt := 995) hx hb dL_law_33 (by omega) (by omega) (by rw [h_13]; rfl) (by decide) ?_
      exact lc_17 C0 hf hg hz hn hK hPx hPm hDj hS (lv_sub hl [3, 2, 1, 0] rfl)
    · refine lv_tableIn (off := 1021) (tgt := 1054) hx hb dL_law_33 (by omega) (by omega) (by rw [h_13]; rfl) (by decide) ?_
      exact lc_18 C0 hf hg hz hn hK hPx hPm hDj hS (lv_sub hl [3, 2, 1, 0] rfl)
    · refine lv_tableIn (off := 1044) (tgt := 1077) hx hb dL_law_33 (by omega) (by omega) (by rw [h_13]; rfl) (by decide) ?_
      exact lc_19 C0 hf hg hz hn hK hPx hPm hDj hS (lv_sub hl [3, 2, 1, 0] rfl)
    · refine lv_tableIn (off := 1103) (tgt := 1136) hx hb dL_law_33 (by omega) (by omega) (by rw [h_13]; rfl) (by decide) ?_
      exact lc_20 C0 hf hg hz hn hK hPx hPm hDj hS (lv_sub hl [3, 2, 1, 0] rfl)
    · refine lv_tableIn (off := 1126) (tgt := 1159) hx hb dL_law_33 (by omega) (by omega) (by rw [h_13]; rfl) (by decide) ?_
      exact lc_21 C0 hf hg hz hn hK hPx hPm hDj hS (lv_sub hl [3, 2, 1, 0] rfl)
    · refine lv_tableIn (off := 1149) (tgt := 1182) hx hb dL_law_33 (by omega) (by omega) (by rw [h_13]; rfl) (by decide) ?_
      exact lc_22 C0 hf hg hz hn hK hPx hPm hDj hS (lv_sub hl [3, 2, 1, 0] rfl)
    · refine lv_tableIn (off := 1202) (tgt := 1235) hx hb dL_law_33 (by omega) (by omega) (by rw [h_13]; rfl) (by decide) ?_
      exact lc_23 C0 hf hg hz hn hK hPx hPm hDj hS (lv_sub hl [3, 2, 1, 0] rfl)
    · refine lv_tableIn (off := 1235) (tgt := 1268) hx hb dL_law_33 (by omega) (by omega) (by rw [h_13]; rfl) (by decide) ?_
      exact lc_24 C0 hf hg hz hn hK hPx hPm hDj hS (lv_sub hl [3, 2, 1, 0] rfl)
    · refine lv_tableIn (off := 1268) (tgt := 1301) hx hb dL_law_33 (by omega) (by omega) (by rw [h_13]; rfl) (by decide) ?_
      exact lc_25 C0 hf hg hz hn hK hPx hPm hDj hS (lv_sub hl [3, 2, 1, 0] rfl)
    · refine lv_tableIn (off := 1311) (tgt := 1344) hx hb dL_law_33 (by omega) (by omega) (by rw [h_13]; rfl) (by decide) ?_
      exact lc_26 C0 hf hg hz hn hK hPx hPm hDj hS (lv_sub hl [3, 2, 1, 0] rfl)
    · refine lv_tableIn (off := 1344) (tgt := 1377) hx hb dL_law_33 (by omega) (by omega) (by rw [h_13]; rfl) (by decide) ?_
      exact lc_27 C0 hf hg hz hn hK hPx hPm hDj hS (lv_sub hl [3, 2, 1, 0] rfl)
    · refine lv_tableIn (off := 1367) (tgt := 1400) hx hb dL_law_33 (by omega) (by omega) (by rw [h_13]; rfl) (by decide) ?_
      exact lc_28 C0 hf hg hz hn hK hPx hPm hDj hS (lv_sub hl [3, 2, 1, 0] rfl)
    · refine lv_tableIn (off := 1400) (tgt := 1433) hx hb dL_law_33 (by omega) (by omega) (by rw [h_13]; rfl) (by decide) ?_
      exact lc_29 C0 hf hg hz hn hK hPx hPm hDj hS (lv_sub hl [3, 2, 1, 0] rfl)
    · refine lv_tableIn (off := 1413) (tgt := 1446) hx hb dL_law_33 (by omega) (by omega) (by rw [h_13]; rfl) (by decide) ?_
      exact lc_30 C0 hf hg hz hn hK hPx hPm hDj hS (lv_sub hl [3, 2, 1, 0] rfl)
    · refine lv_tableIn (off := 1426) (tgt := 1459) hx hb dL_law_33 (by omega) (by omega) (by rw [h_13]; rfl) (by decide) ?_
      exact lc_31 C0 hf hg hz hn hK hPx hPm hDj hS (lv_sub hl [3, 2, 1, 0] rfl)
    · refine lv_tableIn (off := 1469) (tgt := 1502) hx hb dL_law_33 (by omega) (by omega) (by rw [h_13]; rfl) (by decide) ?_
      exact lc_32 C0 hf hg hz hn hK hPx hPm hDj hS (lv_sub hl [3, 2, 1, 0] rfl)
set_option maxHeartbeats 4000000 in
theorem lw_walk (l : Launch) (b : Addr) (xs : List Int32) : MetFree l x (headSpec (Jvm.Cond.code x code maxLocals ret :: tables_1) room_1) (lw_P b xs) (fun _ _ _ _ _ => True) lw_Q := by
  refine MetFree.of_bodyS (code := code) (maxLocals := maxLocals) (ret := ret) (by decide) ?_ ?_
  · intro args s m h hn
    obtain ⟨meth, c, h1, h2, h3, h4, h5, h6, -, -⟩ := Cond.code_spec hn (atoms_spec (ws := Jvm.Cond.code x code maxLocals ret :: tables_1) h _ List.mem_cons_self)
    exact ⟨meth, c, h1, h2, h3, h4, h5, h6⟩
  · intro p e s m args below meth c s₁ B hml0 hP _
    obtain ⟨rfl, hx, hbd, hgv⟩ := hP
    obtain ⟨scr, harrAt, hlist, hof, hsmall⟩ := hx
    obtain ⟨hcb, hkn, -, -⟩ := State.arrayAt?_spec harrAt
    have hown : s.vm.findClass R_law = some m.cls := findClass_of_methodNamed B.named
    have hts0 : ∀ c ∈ (Jvm.Cond.code x code maxLocals ret :: tables_1), c.before #[Value.ref b] s = true := atoms_spec (ws := Jvm.Cond.code x code maxLocals ret :: tables_1) B.pre
    have hts : ∀ w ∈ lw_tbl, w.before #[Value.ref b] s = true := k2_hts_sels lw_privs (fun w hw => hts0 w (List.mem_cons_of_mem _ hw)) lw_privs_ok
    have hml : c.maxLocals = 4 := B.maxLocals_eq (hts0 _ List.mem_cons_self)
    have X₀ : Stand p l e room_1 s m #[Value.ref b] below meth c s₁ [] 0 0 := Stand.of_body B
    have hh0 : s₁.heap = s.heap := by rw [B.state]; rfl
    have hsz : scr.slots.size = xs.length := by rw [← Array.length_toList, hlist, List.length_map]
    have hval : ∀ j : Nat, j < xs.length → scr.slots[j]? = some (.int (xs.getD j 0)) := fun j hj => by
      rw [← Array.getElem?_toList, hlist]
      simp [hj]
    have hbl : b < s.heap.size := (Array.getElem?_eq_some_iff.mp hcb).1
    have hX : va_X b xs.length (fun j => xs.getD j 0) s s.heap := ⟨scr, hcb, hof, hkn, hsz, hval⟩
    have K : W p l e room_1 s m #[Value.ref b] below meth c s₁.heap [] 0 0 (lw_Z below #[Value.ref b] s) (entryFrame m ([Value.ref b] : List Value).toArray 4) := by
      rw [hh0]
      exact whole_start l hbd ⟨B.exec, B.bytes, B.returns, hml, hown, hts, hX, hbl, B.notSynchronized, hgv⟩
    obtain ⟨t, a1, o, b1, b2, b3⟩ := K s₁ rfl X₀
    exact ⟨t, o, a1, b1, b2, b3⟩
theorem lw_pre_spec {args : Array Value} {s : State} (h : (Jvm.Cond.and given_1 narrow_1).before args s = true) (hr : rest_1_c.before args s = true) : ∃ (b : Addr) (xs : List Int32), lw_P b xs args s := by
  have hs := flat_of_before _ h
  have hq := flat_of_before _ hr
  have hc : (Cond.count 1).before args s = true := hs _ (by decide +kernel)
  have harr : (Cond.arrayOf (.arg 0) .int).before args s = true := hs _ (by decide +kernel)
  have hle : (Cond.le (.length (.arg 0)) (.int 7)).before args s = true := hs _ (by decide +kernel)
  have hlen : (Cond.isInt (.length (.arg 0))).before args s = true := hq _ (by decide +kernel)
  have hall : (Cond.all (.arg 0) (.isInt (.elem (.arg 0) (.index 0)))).before args s = true := hq _ (by decide +kernel)
  obtain ⟨b, xs, hb, hx⟩ := State.ints_of_pre rfl harr hlen hall
  have hsm : xs.length < 2 ^ 31 := hx.choose_spec.2.2.2
  have hev : (Term.length (.arg 0)).eval args s none [] s = some (.int xs.length.toInt32) := hx.length_eval hb
  have hv := Cond.le_ints hev (show (Term.int 7).eval args s none [] s = some (.int 7) from rfl)
  have hd : xs.length.toInt32 ≤ 7 := by
    simpa [Cond.before, Cond.holds, hv] using hle
  have hN : xs.length ≤ 7 := (Int32.ofNat_le_ofNat hsm (by decide)).mp (show Int32.ofNat xs.length ≤ Int32.ofNat 7 from hd)
  exact ⟨b, xs, Cond.one_arg hc (show args[0]? = some (.ref b) from hb), hx, hN, h⟩
theorem lw_comes (l : Launch) : Comes l x (Jvm.Cond.code x code maxLocals ret :: tables_1) room_1 (fun tb e args s => Calls_1 tb e args s ∧ rest_1 tb e args s ∧ Pre_1 tb e args s)
    (fun _ _ args s o t => lw_Q args s o t) := by
  intro p e ha hc hk s m args below hf hfit hheap happ hpre
  obtain ⟨b, xs, hP⟩ := lw_pre_spec hpre.2.2 hpre.2.1
  obtain ⟨k, o, h1, h2, h3, hQ⟩ := lw_walk l b xs p e ha hc hk s m args below hf ((Spec.applies_iff_loose hf).mp happ).1 hP trivial
  exact ⟨k, o, h1, h2, h3, hQ⟩
theorem lw_frame {s t : State} {o : Outcome} {args : Array Value} (h : Framed s o t [] 600000 7302249) :
    Framed s o t (fieldLocs frame_1_writes args s ++ arrayLocs frame_1_arrays args s ++ staticLocs frame_1_statics s) 600000 7302249 := h
theorem lw_limb (L : Cond) (hL : ∀ (args : Array Value) (s t : State), L.after args s (.returned (some (.int 1))) t = true) :
    ArmFor flags0 classFile x code maxLocals ret World_1 tables_1 room_1 Calls_1 rest_1 Pre_1
      (fun tb e a s o t => postC L tb e a s o t ∧ Framed s o t (fieldLocs frame_1_writes a s ++ arrayLocs frame_1_arrays a s ++ staticLocs frame_1_statics s) 600000 7302249) := by
  intro l _ _ _ p e ha hc hk s m args below hf hfit hheap happ hpre
  obtain ⟨k, o, h1, h2, h3, rfl, hF⟩ := lw_comes l p e ha hc hk s m args below hf hfit hheap happ hpre
  exact ⟨k, _, h1, h2, h3, hL args s _, lw_frame hF⟩
theorem i_vc : Claimed_1_1 ∧ Claimed_1_2 := ⟨lw_limb limb_1_1 (fun args s t => by simp [limb_1_1, Cond.after, Cond.holds, Cond.value]), lw_limb limb_1_2 (fun args s t => Cond.after_iff.mpr (by
  first | (rw [show limb_1_2 = Cond.eq .result (.int 1) from rfl, Cond.eq_ints (x := 1) (y := 1) rfl rfl]; simp; done) | (simp [limb_1_2, Cond.value, Term.eval]; done)))⟩

