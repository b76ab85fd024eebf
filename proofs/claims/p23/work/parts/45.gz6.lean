set_option maxRecDepth 100000 in
theorem t_1178 : Cond.instantiable RX11 14 ∈ gT := tm (tb1 (List.mem_of_getElem? (i := 21) (by rfl))) (by decide +kernel)
set_option maxRecDepth 100000 in
theorem t_1179 : Cond.instantiable RX12 91 ∈ gT := tm (tb4 (List.mem_of_getElem? (i := 192) (by rfl))) (by decide +kernel)
set_option maxRecDepth 100000 in
theorem t_1180 : Cond.classLink RL 7 RX11 ∈ gT := tm (tb1 (List.mem_of_getElem? (i := 20) (by rfl))) (by decide +kernel)
set_option maxRecDepth 100000 in
theorem t_1181 : Cond.code yX11_init cX11_init 1 none ∈ gT := tm (tb1 (List.mem_of_getElem? (i := 24) (by rfl))) (by decide +kernel)
set_option maxRecDepth 100000 in
theorem t_1182 : Cond.methodLink RL 9 yX11_init ∈ gT := tm (tb1 (List.mem_of_getElem? (i := 22) (by rfl))) (by decide +kernel)
set_option maxRecDepth 100000 in
theorem t_1183 : Cond.instanceMethod yX11_init ∈ gT := tm (tb1 (List.mem_of_getElem? (i := 23) (by rfl))) (by decide +kernel)
set_option maxRecDepth 100000 in
theorem t_1184 : Cond.classLink RL 10 RX12 ∈ gT := tm (tb4 (List.mem_of_getElem? (i := 191) (by rfl))) (by decide +kernel)
set_option maxRecDepth 100000 in
theorem t_1185 : Cond.code yX12_init cX12_init 2 none ∈ gT := tm (tb4 (List.mem_of_getElem? (i := 195) (by rfl))) (by decide +kernel)
set_option maxRecDepth 100000 in
theorem t_1186 : Cond.methodLink RL 12 yX12_init ∈ gT := tm (tb4 (List.mem_of_getElem? (i := 193) (by rfl))) (by decide +kernel)
set_option maxRecDepth 100000 in
theorem t_1187 : Cond.instanceMethod yX12_init ∈ gT := tm (tb4 (List.mem_of_getElem? (i := 194) (by rfl))) (by decide +kernel)
def dl_604 : List (Nat × (Instr × Nat)) := [(0, (.new 7, 3)), (3, (.dup, 1)), (4, (.invokespecial 9, 3)), (7, (.astore_n 1, 1)), (8, (.new 10, 3)), (11, (.dup, 1)), (12, (.invokespecial 12, 3)), (15, (.astore_n 2, 1)), (16, (.iconst 0, 1)), (17, (.istore_n 3, 1))]
theorem dh_604 : dchk cL_law dl_604 = true := by decide +kernel
theorem dL_law_0 : decode cL_law 0 = .ok (.new 7, 3) := dget dh_604 (k := 0) rfl
theorem dL_law_3 : decode cL_law 3 = .ok (.dup, 1) := dget dh_604 (k := 1) rfl
theorem dL_law_4 : decode cL_law 4 = .ok (.invokespecial 9, 3) := dget dh_604 (k := 2) rfl
theorem dL_law_7 : decode cL_law 7 = .ok (.astore_n 1, 1) := dget dh_604 (k := 3) rfl
theorem dL_law_8 : decode cL_law 8 = .ok (.new 10, 3) := dget dh_604 (k := 4) rfl
theorem dL_law_11 : decode cL_law 11 = .ok (.dup, 1) := dget dh_604 (k := 5) rfl
theorem dL_law_12 : decode cL_law 12 = .ok (.invokespecial 12, 3) := dget dh_604 (k := 6) rfl
theorem dL_law_15 : decode cL_law 15 = .ok (.astore_n 2, 1) := dget dh_604 (k := 7) rfl
theorem dL_law_16 : decode cL_law 16 = .ok (.iconst 0, 1) := dget dh_604 (k := 8) rfl
theorem dL_law_17 : decode cL_law 17 = .ok (.istore_n 3, 1) := dget dh_604 (k := 9) rfl
set_option maxHeartbeats 8000000 in
set_option maxRecDepth 100000 in
theorem whole_start {p : Program} {e : Env} {s : State} {m : MethodId} {below : List Frame} {meth : Method} {c : Code} (l : Launch) {b L : Nat} {xs : Nat → Int32} (hL : L ≤ 3584) (C0 : lw_At p s m meth c b L xs) : W p l e room_1 s m #[Value.ref b] below meth c s.heap [] 0 0 (lw_Z below #[Value.ref b] s) (entryFrame m ([Value.ref b] : List Value).toArray 4) := by
  obtain ⟨hx, hb, hr, hml, hown, hts, hX, hbl, hlocks, hgv⟩ := id C0
  have hT : ∀ w ∈ gT, w.before _ s = true := fun w h => hts w (gT_in w h)
  have hA : ∀ q : Nat, s.heap.size ≤ q → (fun q : Nat => s.heap.size ≤ q) q := fun _ h => h
  have hbA : ¬ (fun q : Nat => s.heap.size ≤ q) b := Nat.not_le.mpr hbl
  obtain ⟨c0, i0, hk0⟩ := u_known (C := RX0) (T := TX0) (N := 2) (n := 2) hT iX0 (hT _ t_775)
  obtain ⟨c1, i1, hk1⟩ := u_known (C := RX1) (T := TX1) (N := 12) (n := 12) hT iX1 (hT _ t_770)
  obtain ⟨c2, i2, hk2⟩ := u_known (C := RX2) (T := TX2) (N := 4) (n := 4) hT iX2 (hT _ t_779)
  obtain ⟨c3, i3, hk3⟩ := u_known (C := RX3) (T := TX3) (N := 12) (n := 12) hT iX3 (hT _ t_808)
  obtain ⟨c4, i4, hk4⟩ := u_known (C := RX4) (T := TX4) (N := 2) (n := 2) hT iX4 (hT _ t_756)
  obtain ⟨c5, i5, hk5⟩ := u_known (C := RX5) (T := TX5) (N := 9) (n := 9) hT iX5 (hT _ t_740)
  obtain ⟨c6, i6, hk6⟩ := u_known (C := RX6) (T := TX6) (N := 5) (n := 5) hT iX6 (hT _ t_764)
  obtain ⟨c7, i7, hk7⟩ := u_known (C := RX7) (T := TX7) (N := 4) (n := 4) hT iX7 (hT _ t_783)
  obtain ⟨c8, i8, hk8⟩ := u_known (C := RX8) (T := TX8) (N := 2) (n := 2) hT iX8 (hT _ t_750)
  obtain ⟨c9, i9, hk9⟩ := u_known (C := RX9) (T := TX9) (N := 2) (n := 2) hT iX9 (hT _ t_760)
  obtain ⟨c10, i10, hk10⟩ := u_known (C := RX10) (T := TX10) (N := 5) (n := 5) hT iX10 (hT _ t_801)
  obtain ⟨c11, i11, hk11⟩ := u_known (C := RX11) (T := TX11) (N := 14) (n := 14) hT iX11 (hT _ t_1178)
  obtain ⟨c12, i12, hk12⟩ := u_known (C := RX12) (T := TX12) (N := 91) (n := 91) hT iX12 (hT _ t_1179)
  obtain ⟨D, hDk⟩ : ∃ D : va_G, ∀ (k : Nat) (q : vw_C), vwCl[k]? = some q → u_Kn s q.1 q.2.1 q.2.2 (D.1 k) (D.2 k) := by
    refine ⟨(fun k => [c0, c1, c2, c3, c4, c5, c6, c7, c8, c9, c10, c11, c12].getD k c0, fun k => [i0, i1, i2, i3, i4, i5, i6, i7, i8, i9, i10, i11, i12].getD k i0), ?_⟩
    intro k q hq
    match k, hq with
    | 0, hq => cases hq; exact hk0
    | 1, hq => cases hq; exact hk1
    | 2, hq => cases hq; exact hk2
    | 3, hq => cases hq; exact hk3
    | 4, hq => cases hq; exact hk4
    | 5, hq => cases hq; exact hk5
    | 6, hq => cases hq; exact hk6
    | 7, hq => cases hq; exact hk7
    | 8, hq => cases hq; exact hk8
    | 9, hq => cases hq; exact hk9
    | 10, hq => cases hq; exact hk10
    | 11, hq => cases hq; exact hk11
    | 12, hq => cases hq; exact hk12
    | k + 13, hq => simp [vwCl] at hq
  obtain ⟨cI, kI, ooI, fI1, fI2, fI3⟩ := Cond.arrayClass_spec (hT _ t_732)
  obtain ⟨cB, kB, ooB, fB1, fB2, fB3⟩ := Cond.arrayClass_spec (hT _ t_736)
  obtain ⟨cZ, kZ, ooZ, fZ1, fZ2, fZ3⟩ := Cond.arrayClass_spec (hT _ t_734)
  obtain ⟨cJ, kJ, ooJ, fJ1, fJ2, fJ3⟩ := Cond.arrayClass_spec (hT _ t_794)
  have hAO : (Cond.arrayOver (.object "DepositJudge$Home")).before #[Value.ref b] s = true := hts _ (List.mem_append_right _ (List.mem_of_getElem? (i := 45) (by decide +kernel)))
  obtain ⟨mH, cH, kH, fH1, fH2, fH3, fH4, fH5⟩ := Cond.arrayOver_spec hAO
  obtain ⟨cy, hK⟩ : ∃ cy : Nat → ClassId, va_K D vwCl (vT cy) s := by
    refine ⟨fun k => [cI, cB, cZ, cJ, cH].getD k cI, hDk, ?_⟩
    intro k q hq
    match k, hq with
    | 0, hq => cases hq; exact ⟨fun n z => ⟨fun k h => (by cases h), kI, fI2, ooI, fI3⟩, fI1⟩
    | 1, hq => cases hq; exact ⟨fun n z => ⟨fun k h => (by cases h), kB, fB2, ooB, fB3⟩, fB1⟩
    | 2, hq => cases hq; exact ⟨fun n z => ⟨fun k h => (by cases h), kZ, fZ2, ooZ, fZ3⟩, fZ1⟩
    | 3, hq => cases hq; exact ⟨fun n z => ⟨fun k h => (by cases h), kJ, fJ2, ooJ, fJ3⟩, fJ1⟩
    | 4, hq => cases hq; exact ⟨fun n z => ⟨fun k h => (by cases h), kH, fH3, mH, fH4⟩, kH, mH, fH3, fH4, fH1, fH5⟩
    | k + 5, hq => simp [vT] at hq
  have hn : nw s := ⟨va_Nw.of rfl (hts (.methodLinkNest RX11 28 yX4_init RX11) (List.mem_append_right _ (List.mem_of_getElem? (i := 48) (by decide +kernel)))), va_Nw.of rfl (hts (.methodLinkNest RX11 35 yX9_init RX11) (List.mem_append_right _ (List.mem_of_getElem? (i := 62) (by decide +kernel)))), va_Nw.of rfl (hts (.methodLinkNest RX11 42 yX6_init RX11) (List.mem_append_right _ (List.mem_of_getElem? (i := 78) (by decide +kernel)))), va_Nw.of rfl (hts (.methodLinkNest RX6 11 yX5_init RX11) (List.mem_append_right _ (List.mem_of_getElem? (i := 84) (by decide +kernel)))), va_Nw.of rfl (hts (.methodLinkNest RX11 49 yX5_init RX11) (List.mem_append_right _ (List.mem_of_getElem? (i := 135) (by decide +kernel)))), va_Nw.of rfl (hts (.methodLinkNest RX11 74 yX0_init RX11) (List.mem_append_right _ (List.mem_of_getElem? (i := 193) (by decide +kernel)))), va_Nw.of rfl (hts (.methodLinkNest RX11 81 yX2_init RX11) (List.mem_append_right _ (List.mem_of_getElem? (i := 207) (by decide +kernel)))), va_Nw.of rfl (hts (.methodLinkNest RX3 24 yX10_init RX11) (List.mem_append_right _ (List.mem_of_getElem? (i := 318) (by decide +kernel)))), va_AO.of hAO⟩
  have hm0 : nm s := va_Nw.of rfl (hts (.methodLinkNest RX5 57 yX11_within RX11) (List.mem_append_right _ (List.mem_of_getElem? (i := 675) (by decide +kernel))))
  have hs9 := flat_of_before _ hgv
  have hA9 : ∀ a : Nat, a < s.heap.size → ¬ (fun q : Nat => s.heap.size ≤ q) a := fun a h h2 => absurd h2 (Nat.not_le.mpr h)
  have hex : (Cond.exactly (Term.string "DepositJudge$LawReader" 101) "java/lang/String").before #[Value.ref b] s = true := hs9 _ (by decide +kernel)
  have hco : (Cond.eq (.field (Term.string "DepositJudge$LawReader" 101) "java/lang/String" "coder" "B") (.int 0)).before #[Value.ref b] s = true := hs9 _ (by decide +kernel)
  have har : (Cond.arrayOf (.field (Term.string "DepositJudge$LawReader" 101) "java/lang/String" "value" "[B") .byte).before #[Value.ref b] s = true := hs9 _ (by decide +kernel)
  have hle : (Cond.eq (.length (.field (Term.string "DepositJudge$LawReader" 101) "java/lang/String" "value" "[B")) (.int 10)).before #[Value.ref b] s = true := hs9 _ (by decide +kernel)
  have he0 : (Cond.eq (.elem (.field (Term.string "DepositJudge$LawReader" 101) "java/lang/String" "value" "[B") (.int 0)) (.int 107)).before #[Value.ref b] s = true := hs9 _ (by decide +kernel)
  have he1 : (Cond.eq (.elem (.field (Term.string "DepositJudge$LawReader" 101) "java/lang/String" "value" "[B") (.int 1)) (.int 114)).before #[Value.ref b] s = true := hs9 _ (by decide +kernel)
  have he2 : (Cond.eq (.elem (.field (Term.string "DepositJudge$LawReader" 101) "java/lang/String" "value" "[B") (.int 2)) (.int 115)).before #[Value.ref b] s = true := hs9 _ (by decide +kernel)
  have he3 : (Cond.eq (.elem (.field (Term.string "DepositJudge$LawReader" 101) "java/lang/String" "value" "[B") (.int 3)) (.int 111)).before #[Value.ref b] s = true := hs9 _ (by decide +kernel)
  have he4 : (Cond.eq (.elem (.field (Term.string "DepositJudge$LawReader" 101) "java/lang/String" "value" "[B") (.int 4)) (.int 97)).before #[Value.ref b] s = true := hs9 _ (by decide +kernel)
  have he5 : (Cond.eq (.elem (.field (Term.string "DepositJudge$LawReader" 101) "java/lang/String" "value" "[B") (.int 5)) (.int 109)).before #[Value.ref b] s = true := hs9 _ (by decide +kernel)
  have he6 : (Cond.eq (.elem (.field (Term.string "DepositJudge$LawReader" 101) "java/lang/String" "value" "[B") (.int 6)) (.int 110)).before #[Value.ref b] s = true := hs9 _ (by decide +kernel)
  have he7 : (Cond.eq (.elem (.field (Term.string "DepositJudge$LawReader" 101) "java/lang/String" "value" "[B") (.int 7)) (.int 103)).before #[Value.ref b] s = true := hs9 _ (by decide +kernel)
  have he8 : (Cond.eq (.elem (.field (Term.string "DepositJudge$LawReader" 101) "java/lang/String" "value" "[B") (.int 8)) (.int 99)).before #[Value.ref b] s = true := hs9 _ (by decide +kernel)
  have he9 : (Cond.eq (.elem (.field (Term.string "DepositJudge$LawReader" 101) "java/lang/String" "value" "[B") (.int 9)) (.int 118)).before #[Value.ref b] s = true := hs9 _ (by decide +kernel)
  obtain ⟨adK, adV, hS9, hev⟩ := vk_Sof (args := #[Value.ref b]) (s := s) (N := 1) (tm := fun _ => (Term.string "DepositJudge$LawReader" 101)) (len := [10]) (byt := [bJ]) (A := (fun q : Nat => s.heap.size ≤ q)) (fun i hi => by obtain rfl : i = 0 := (by omega); decide) (fun i hi => hex) (fun i hi => hco) (fun i hi => har) (fun i hi => by obtain rfl : i = 0 := (by omega); exact hle)
    (fun i hi j hj => by
      obtain rfl : i = 0 := by omega
      have hj : j < 10 := hj
      match j, hj with
      | 0, _ => exact he0
      | 1, _ => exact he1
      | 2, _ => exact he2
      | 3, _ => exact he3
      | 4, _ => exact he4
      | 5, _ => exact he5
      | 6, _ => exact he6
      | 7, _ => exact he7
      | 8, _ => exact he8
      | 9, _ => exact he9
      | k + 10, h => exact absurd h (by omega))
    (fun i j hi hj h => absurd (by omega) h) hA9
  have hcs : va_Z "java/lang/String" "COMPACT_STRINGS" "Z" (.int 1) (fun q : Nat => s.heap.size ≤ q) s s.heap := va_Zof (args := #[Value.ref b]) (hts _ (List.mem_append_right _ (List.mem_of_getElem? (i := 535) (by decide +kernel)))) (hts _ (List.mem_append_right _ (List.mem_of_getElem? (i := 15) (by decide +kernel)))) (va_eqt (hs9 (.eq (.static "java/lang/String" "COMPACT_STRINGS" "Z") (.int 1)) (by decide +kernel))) hA9
  have hS0 := hS9.1 0 (by decide)
  have hsk : vk_R RX6 101 "krsoamngcv" (adK 0) s ∧ sA (adK 0) (adV 0) (fun q : Nat => s.heap.size ≤ q) s s.heap := ⟨vk_R.of (A := #[Value.ref b]) (hts (.stringRef RX6 101 "krsoamngcv") (List.mem_append_right _ (List.mem_of_getElem? (i := 521) (by decide +kernel)))) (hev 0 (by decide)), hS0.1, hS0.2.1, hS0.2.2.1, hS0.2.2.2, hcs⟩
  have hnw := hn
  have hS : va_S (fun q : Nat => s.heap.size ≤ q) s.heap s.heap [] := va_S.rf
  have hP : va_P D vwCl [] s.heap := fun k q h => by simp at h
  have hD : va_D (fun q : Nat => s.heap.size ≤ q) [] := ⟨fun i j p q h => by simp at h, fun k q h => by simp at h⟩
  have hl := lv_entry ([.ref b]) (n := 4) (Nat.le_of_ble_eq_true rfl)
  rw [lg_entry_eq]
  generalize (lg_sl ([.ref b]) ++ List.replicate (4 - (lg_sl ([.ref b])).length) Slot.unset).toArray = ls at hl ⊢
  have hl : lv_has ls 4 [(0, .ref b)] := hl
  refine va_new (ci := 11) (fs := [.null, .null, .int 0, .null, .null, .null, .null, .null, .null, .null, .int 0, .null, .null, .null]) (C := RX11) (T := TX11) (N := 14) hx hb hT iX11 tyX11 tyX11_ok hown (hT _ t_1180) (hT _ t_1178) (hT _ t_2) hK hP hD hS hA rfl (fun j hj => dfl11 j hj) (Nat.le_of_ble_eq_true rfl) (Nat.le_of_ble_eq_true rfl) dL_law_0 (fun q_1 H hP hD hS => ?_)
  have hP : va_P D vwCl [(q_1, .inr (11, [.null, .null, .int 0, .null, .null, .null, .null, .null, .null, .null, .int 0, .null, .null, .null]))] H := hP
  have hD : va_D (fun q : Nat => s.heap.size ≤ q) [(q_1, .inr (11, [.null, .null, .int 0, .null, .null, .null, .null, .null, .null, .null, .int 0, .null, .null, .null]))] := hD
  refine W.widen (k := 1) (n := 14) (Nat.le_of_ble_eq_true rfl) (Nat.le_of_ble_eq_true rfl) ?_
  refine lv_dup hx hb dL_law_3 rfl ?_
  have hP_2 := hP.sub (ws' := [(q_1, .inr (11, [.null, .null, .int 0, .null, .null, .null, .null, .null, .null, .null, .int 0, .null, .null, .null]))]) [0] rfl
  have hD_4 := hD.sub (ws' := [(q_1, .inr (11, [.null, .null, .int 0, .null, .null, .null, .null, .null, .null, .null, .int 0, .null, .null, .null]))]) [0] (by decide) rfl
  have hF_3 := va_free (wc := [(q_1, .inr (11, [.null, .null, .int 0, .null, .null, .null, .null, .null, .null, .null, .int 0, .null, .null, .null]))]) hD hS hA [0] rfl
  refine va_callv (va_runI (As := []) (rest := [.ref q_1]) ⟨hx, hb, hml, hown, hT⟩ (c_X11_init l D cy q_1 _) (cwI 0 hT (gI t_1181) rfl rfl rfl (hT _ t_2) (hT _ t_1182) (hT _ t_1183) rfl (by decide +kernel) ⟨Nat.le_of_ble_eq_true rfl, Nat.le_of_ble_eq_true rfl⟩) (rN_s hnw hP_2 hK hD_4) rfl rfl hl.1 rfl (lv_room (Nat.le_of_ble_eq_true rfl)) dL_law_4 ⟨Nat.le_of_ble_eq_true rfl, Nat.le_of_ble_eq_true rfl⟩) hS (fun q _ h => hF_3 q h) hF_3 (fun u_6 t H1 locs ht hvm hr_5 hB hz1 hk1 hS => ?_)
  obtain ⟨ax, ix, rx⟩ := u_6
  obtain ⟨hPX, hK1, hD1⟩ := hB
  rw [ht] at hPX
  have hDX := hD1.weaken (fun k q _ h => hF_3 q.1 h)
  obtain ⟨hq0, hf, hg⟩ := hr_5
  have hq0 : ax 0 = q_1 := hq0
  subst hq0
  have hP : va_P D vwCl (xW cy ax ix rx (fun _ => none) (ax 20) (ax 12)) H1 := hPX
  have hD : va_D (fun q : Nat => s.heap.size ≤ q) (xW cy ax ix rx (fun _ => none) (ax 20) (ax 12)) := hDX
  have hf : xZ ix := hf
  have hg : xZR rx := hg
  refine W.widen (k := 61) (n := 2576) (Nat.le_of_ble_eq_true rfl) (Nat.le_of_ble_eq_true rfl) ?_
  refine lv_astore_n (lv' := [(1, .ref (ax 0)), (0, .ref b)]) hx hb dL_law_7 rfl hl (by decide) rfl (fun ls hl => ?_)
  refine va_new (ci := 12) (fs := dfs12) (C := RX12) (T := TX12) (N := 91) hx hb hT iX12 tyX12 tyX12_ok hown (hT _ t_1184) (hT _ t_1179) (hT _ t_6) hK hP hD hS hA rfl (fun j hj => dfl12 j hj) (Nat.le_of_ble_eq_true rfl) (Nat.le_of_ble_eq_true rfl) dL_law_8 (fun qm H hP hD hS => ?_)
  refine W.widen (k := 62) (n := 2667) (Nat.le_of_ble_eq_true rfl) (Nat.le_of_ble_eq_true rfl) ?_
  refine lv_dup hx hb dL_law_11 rfl ?_
  have hPc := hP.sub (ws' := [(qm, .inr (12, [.int 0, .int 0, .null, .null, .null, .null, .null, .null, .null, .null, .null, .null, .null, .null, .null, .null, .null, .null, .null, .null, .null, .null, .int 0, .int 0, .int 0, .int 0, .int 0, .int 0, .int 0, .int 0, .int 0, .int 0, .null, .null, .null, .null, .null, .null, .null, .null, .null, .null, .null, .null, .null, .null, .null, .null, .null, .null, .null, .int 0, .null, .null, .null, .null, .null, .null, .null, .null, .int 0, .null, .null, .int 0, .null, .null, .null, .null, .null, .null, .null, .null, .int 0, .null, .null, .null, .null, .null, .int 0, .int 0, .int 0, .null, .null, .null, .null, .null, .null, .null, .null, .null, .null]))]) [61] rfl
  have hDc := hD.sub (ws' := [(qm, .inr (12, [.int 0, .int 0, .null, .null, .null, .null, .null, .null, .null, .null, .null, .null, .null, .null, .null, .null, .null, .null, .null, .null, .null, .null, .int 0, .int 0, .int 0, .int 0, .int 0, .int 0, .int 0, .int 0, .int 0, .int 0, .null, .null, .null, .null, .null, .null, .null, .null, .null, .null, .null, .null, .null, .null, .null, .null, .null, .null, .null, .int 0, .null, .null, .null, .null, .null, .null, .null, .null, .int 0, .null, .null, .int 0, .null, .null, .null, .null, .null, .null, .null, .null, .int 0, .null, .null, .null, .null, .null, .int 0, .int 0, .int 0, .null, .null, .null, .null, .null, .null, .null, .null, .null, .null]))]) [61] (by decide) rfl
  have hFc := va_free (wc := [(qm, .inr (12, [.int 0, .int 0, .null, .null, .null, .null, .null, .null, .null, .null, .null, .null, .null, .null, .null, .null, .null, .null, .null, .null, .null, .null, .int 0, .int 0, .int 0, .int 0, .int 0, .int 0, .int 0, .int 0, .int 0, .int 0, .null, .null, .null, .null, .null, .null, .null, .null, .null, .null, .null, .null, .null, .null, .null, .null, .null, .null, .null, .int 0, .null, .null, .null, .null, .null, .null, .null, .null, .int 0, .null, .null, .int 0, .null, .null, .null, .null, .null, .null, .null, .null, .int 0, .null, .null, .null, .null, .null, .int 0, .int 0, .int 0, .null, .null, .null, .null, .null, .null, .null, .null, .null, .null]))]) hD hS hA [61] rfl
  refine va_callv (va_runI (As := []) (rest := [.ref qm]) ⟨hx, hb, hml, hown, hT⟩ (c_X12_init l D cy qm _) (cwI 0 hT (gI t_1185) rfl rfl rfl (hT _ t_6) (hT _ t_1186) (hT _ t_1187) rfl (by decide +kernel) ⟨Nat.le_of_ble_eq_true rfl, Nat.le_of_ble_eq_true rfl⟩) (rQ_s hPc hK hDc) rfl rfl hl.1 rfl (lv_room (Nat.le_of_ble_eq_true rfl)) dL_law_12 ⟨Nat.le_of_ble_eq_true rfl, Nat.le_of_ble_eq_true rfl⟩) hS (fun q _ h => hFc q h) hFc (fun u t H1 locs ht hvm hw hB hz1 hk1 hS => ?_)
  obtain ⟨am, im, rm, lm⟩ := u
  obtain ⟨hP1, hK1, hD1⟩ := hB
  rw [ht] at hP1
  obtain ⟨hqm, hz, hzr⟩ := hw
  have hqm : am 0 = qm := hqm
  subst hqm
  have hP1 : va_P D vwCl (mW cy am im rm lm) H1 := hP1
  have hz : mZ im := hz
  have hzr : mZR rm := hzr
  obtain ⟨hP, hD⟩ := va_join (wr := (xW cy ax ix rx (fun _ => none) (ax 20) (ax 12))) (w1 := (mW cy am im rm lm)) hP hD [61] [0, 1, 2, 3, 4, 5, 6, 7, 8, 9, 10, 11, 12, 13, 14, 15, 16, 17, 18, 19, 20, 21, 22, 23, 24, 25, 26, 27, 28, 29, 30, 31, 32, 33, 34, 35, 36, 37, 38, 39, 40, 41, 42, 43, 44, 45, 46, 47, 48, 49, 50, 51, 52, 53, 54, 55, 56, 57, 58, 59, 60] rfl rfl (by decide) (by decide) hk1 hFc hP1 hD1
  have hrow : ∀ j, j < 8 → rm 1 j = (fun _ => (120 : Int32)) j := fun j hj => hzr.1 j hj
  have hP := vaP_row (k := 62) (g := fun _ => (120 : Int32)) hP rfl hrow
  have hD := vaD_row (k := 62) (e2 := .inl (cy 0, 8, .inl (fun _ => (120 : Int32)))) hD rfl
  have hP : va_P D vwCl (xW cy ax (upd ix 18 1) rx (fun _ => none) (ax 20) (ax 12) ++ (HL cy (fun _ _ => 0) (fun _ _ => 0) (fun _ _ _ => 0) 0 ++ mW cy am im (va_up rm 1 (fun _ => 120)) lm)) H1 := hP
  have hD : va_D (fun q : Nat => s.heap.size ≤ q) (xW cy ax (upd ix 18 1) rx (fun _ => none) (ax 20) (ax 12) ++ (HL cy (fun _ _ => 0) (fun _ _ => 0) (fun _ _ _ => 0) 0 ++ mW cy am im (va_up rm 1 (fun _ => 120)) lm)) := hD
  refine W.widen (k := 134) (n := 5936) (Nat.le_of_ble_eq_true rfl) (Nat.le_of_ble_eq_true rfl) ?_
  refine lv_astore_n (lv' := [(2, .ref (am 0)), (1, .ref (ax 0)), (0, .ref b)]) hx hb dL_law_15 rfl hl (by decide) rfl (fun ls hl => ?_)
  refine lv_iconst (v := 0) hx hb dL_law_16 (by decide) ?_
  refine lv_istore_n (lv' := [(3, .int 0), (2, .ref (am 0)), (1, .ref (ax 0)), (0, .ref b)]) hx hb dL_law_17 rfl hl (by decide) rfl (fun ls hl => ?_)
  exact lz_loop C0 hA hbA hK hn hm0 hsk (fun q h => h) hL 512 0 ax _ _ _ _ _ _ 0 _ _ _ _ _ _ _ 134 5936 (by omega) (by omega) (LX_start hf hg) (LM_new hz hzr) (LR_start hf hg hz hzr) hP hD hS (lv_sub hl [3, 2, 1, 0] rfl) rfl (by decide) (by decide)
