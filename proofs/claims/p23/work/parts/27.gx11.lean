def dl_477 : List (Nat × (Instr × Nat)) := [(0, (.iload_n 1, 1)), (1, (.iconst 0, 1)), (2, (.bipush 7, 2)), (4, (.invokestatic 93, 3)), (7, (.ifCond .eq 10, 3)), (10, (.iload_n 2, 1)), (11, (.invokestatic 186, 3)), (14, (.ifCond .ne 5, 3)), (17, (.iconst (-1), 1)), (18, (.ireturn, 1)), (19, (.iconst 0, 1)), (20, (.istore_n 3, 1)), (21, (.iconst 0, 1)), (22, (.istore 4, 2)), (24, (.iload 4, 2)), (26, (.aload_n 0, 1)), (27, (.getfield 61, 3)), (30, (.getfield 320, 3)), (33, (.if_icmp .ge 68, 3)), (36, (.aload_n 0, 1))]
theorem dh_477 : dchk cX11_byKind dl_477 = true := by decide +kernel
theorem dX11_byKind_0 : decode cX11_byKind 0 = .ok (.iload_n 1, 1) := dget dh_477 (k := 0) rfl
theorem dX11_byKind_1 : decode cX11_byKind 1 = .ok (.iconst 0, 1) := dget dh_477 (k := 1) rfl
theorem dX11_byKind_2 : decode cX11_byKind 2 = .ok (.bipush 7, 2) := dget dh_477 (k := 2) rfl
theorem dX11_byKind_4 : decode cX11_byKind 4 = .ok (.invokestatic 93, 3) := dget dh_477 (k := 3) rfl
theorem dX11_byKind_7 : decode cX11_byKind 7 = .ok (.ifCond .eq 10, 3) := dget dh_477 (k := 4) rfl
theorem dX11_byKind_10 : decode cX11_byKind 10 = .ok (.iload_n 2, 1) := dget dh_477 (k := 5) rfl
theorem dX11_byKind_11 : decode cX11_byKind 11 = .ok (.invokestatic 186, 3) := dget dh_477 (k := 6) rfl
theorem dX11_byKind_14 : decode cX11_byKind 14 = .ok (.ifCond .ne 5, 3) := dget dh_477 (k := 7) rfl
theorem dX11_byKind_17 : decode cX11_byKind 17 = .ok (.iconst (-1), 1) := dget dh_477 (k := 8) rfl
theorem dX11_byKind_18 : decode cX11_byKind 18 = .ok (.ireturn, 1) := dget dh_477 (k := 9) rfl
theorem dX11_byKind_19 : decode cX11_byKind 19 = .ok (.iconst 0, 1) := dget dh_477 (k := 10) rfl
theorem dX11_byKind_20 : decode cX11_byKind 20 = .ok (.istore_n 3, 1) := dget dh_477 (k := 11) rfl
theorem dX11_byKind_21 : decode cX11_byKind 21 = .ok (.iconst 0, 1) := dget dh_477 (k := 12) rfl
theorem dX11_byKind_22 : decode cX11_byKind 22 = .ok (.istore 4, 2) := dget dh_477 (k := 13) rfl
theorem dX11_byKind_24 : decode cX11_byKind 24 = .ok (.iload 4, 2) := dget dh_477 (k := 14) rfl
theorem dX11_byKind_26 : decode cX11_byKind 26 = .ok (.aload_n 0, 1) := dget dh_477 (k := 15) rfl
theorem dX11_byKind_27 : decode cX11_byKind 27 = .ok (.getfield 61, 3) := dget dh_477 (k := 16) rfl
theorem dX11_byKind_30 : decode cX11_byKind 30 = .ok (.getfield 320, 3) := dget dh_477 (k := 17) rfl
theorem dX11_byKind_33 : decode cX11_byKind 33 = .ok (.if_icmp .ge 68, 3) := dget dh_477 (k := 18) rfl
theorem dX11_byKind_36 : decode cX11_byKind 36 = .ok (.aload_n 0, 1) := dget dh_477 (k := 19) rfl
def dl_478 : List (Nat × (Instr × Nat)) := [(37, (.aload_n 0, 1)), (38, (.getfield 61, 3)), (41, (.getfield 212, 3)), (44, (.iload 4, 2)), (46, (.iaload, 1)), (47, (.invokevirtual 108, 3)), (50, (.astore 5, 2)), (52, (.aload 5, 2)), (54, (.ifnull 41, 3)), (57, (.aload 5, 2)), (59, (.getfield 124, 3)), (62, (.getfield 323, 3)), (65, (.aload_n 0, 1)), (66, (.getfield 61, 3)), (69, (.getfield 214, 3)), (72, (.iload 4, 2)), (74, (.iaload, 1)), (75, (.iaload, 1)), (76, (.iload_n 1, 1)), (77, (.if_icmp .ne 18, 3))]
theorem dh_478 : dchk cX11_byKind dl_478 = true := by decide +kernel
theorem dX11_byKind_37 : decode cX11_byKind 37 = .ok (.aload_n 0, 1) := dget dh_478 (k := 0) rfl
theorem dX11_byKind_38 : decode cX11_byKind 38 = .ok (.getfield 61, 3) := dget dh_478 (k := 1) rfl
theorem dX11_byKind_41 : decode cX11_byKind 41 = .ok (.getfield 212, 3) := dget dh_478 (k := 2) rfl
theorem dX11_byKind_44 : decode cX11_byKind 44 = .ok (.iload 4, 2) := dget dh_478 (k := 3) rfl
theorem dX11_byKind_46 : decode cX11_byKind 46 = .ok (.iaload, 1) := dget dh_478 (k := 4) rfl
theorem dX11_byKind_47 : decode cX11_byKind 47 = .ok (.invokevirtual 108, 3) := dget dh_478 (k := 5) rfl
theorem dX11_byKind_50 : decode cX11_byKind 50 = .ok (.astore 5, 2) := dget dh_478 (k := 6) rfl
theorem dX11_byKind_52 : decode cX11_byKind 52 = .ok (.aload 5, 2) := dget dh_478 (k := 7) rfl
theorem dX11_byKind_54 : decode cX11_byKind 54 = .ok (.ifnull 41, 3) := dget dh_478 (k := 8) rfl
theorem dX11_byKind_57 : decode cX11_byKind 57 = .ok (.aload 5, 2) := dget dh_478 (k := 9) rfl
theorem dX11_byKind_59 : decode cX11_byKind 59 = .ok (.getfield 124, 3) := dget dh_478 (k := 10) rfl
theorem dX11_byKind_62 : decode cX11_byKind 62 = .ok (.getfield 323, 3) := dget dh_478 (k := 11) rfl
theorem dX11_byKind_65 : decode cX11_byKind 65 = .ok (.aload_n 0, 1) := dget dh_478 (k := 12) rfl
theorem dX11_byKind_66 : decode cX11_byKind 66 = .ok (.getfield 61, 3) := dget dh_478 (k := 13) rfl
theorem dX11_byKind_69 : decode cX11_byKind 69 = .ok (.getfield 214, 3) := dget dh_478 (k := 14) rfl
theorem dX11_byKind_72 : decode cX11_byKind 72 = .ok (.iload 4, 2) := dget dh_478 (k := 15) rfl
theorem dX11_byKind_74 : decode cX11_byKind 74 = .ok (.iaload, 1) := dget dh_478 (k := 16) rfl
theorem dX11_byKind_75 : decode cX11_byKind 75 = .ok (.iaload, 1) := dget dh_478 (k := 17) rfl
theorem dX11_byKind_76 : decode cX11_byKind 76 = .ok (.iload_n 1, 1) := dget dh_478 (k := 18) rfl
theorem dX11_byKind_77 : decode cX11_byKind 77 = .ok (.if_icmp .ne 18, 3) := dget dh_478 (k := 19) rfl
def dl_479 : List (Nat × (Instr × Nat)) := [(80, (.iload_n 3, 1)), (81, (.iconst 0, 1)), (82, (.aload_n 0, 1)), (83, (.iload 4, 2)), (85, (.iload_n 2, 1)), (86, (.iconst 0, 1)), (87, (.invokevirtual 326, 3)), (90, (.invokestatic 329, 3)), (93, (.iadd, 1)), (94, (.istore_n 3, 1)), (95, (.iinc 4 1, 3)), (98, (.goto (-74), 3)), (101, (.iload_n 3, 1)), (102, (.ireturn, 1))]
theorem dh_479 : dchk cX11_byKind dl_479 = true := by decide +kernel
theorem dX11_byKind_80 : decode cX11_byKind 80 = .ok (.iload_n 3, 1) := dget dh_479 (k := 0) rfl
theorem dX11_byKind_81 : decode cX11_byKind 81 = .ok (.iconst 0, 1) := dget dh_479 (k := 1) rfl
theorem dX11_byKind_82 : decode cX11_byKind 82 = .ok (.aload_n 0, 1) := dget dh_479 (k := 2) rfl
theorem dX11_byKind_83 : decode cX11_byKind 83 = .ok (.iload 4, 2) := dget dh_479 (k := 3) rfl
theorem dX11_byKind_85 : decode cX11_byKind 85 = .ok (.iload_n 2, 1) := dget dh_479 (k := 4) rfl
theorem dX11_byKind_86 : decode cX11_byKind 86 = .ok (.iconst 0, 1) := dget dh_479 (k := 5) rfl
theorem dX11_byKind_87 : decode cX11_byKind 87 = .ok (.invokevirtual 326, 3) := dget dh_479 (k := 6) rfl
theorem dX11_byKind_90 : decode cX11_byKind 90 = .ok (.invokestatic 329, 3) := dget dh_479 (k := 7) rfl
theorem dX11_byKind_93 : decode cX11_byKind 93 = .ok (.iadd, 1) := dget dh_479 (k := 8) rfl
theorem dX11_byKind_94 : decode cX11_byKind 94 = .ok (.istore_n 3, 1) := dget dh_479 (k := 9) rfl
theorem dX11_byKind_95 : decode cX11_byKind 95 = .ok (.iinc 4 1, 3) := dget dh_479 (k := 10) rfl
theorem dX11_byKind_98 : decode cX11_byKind 98 = .ok (.goto (-74), 3) := dget dh_479 (k := 11) rfl
theorem dX11_byKind_101 : decode cX11_byKind 101 = .ok (.iload_n 3, 1) := dget dh_479 (k := 12) rfl
theorem dX11_byKind_102 : decode cX11_byKind 102 = .ok (.ireturn, 1) := dget dh_479 (k := 13) rfl
theorem mixR_E {T : List Nat} {r s R : Nat → Nat → Int32} (h : mEr T (mixR r s) R) : mEr T r (mixR R r) := by
  intro p hp
  have h1 := h p hp
  unfold mixR at h1 ⊢
  by_cases e : p < 61
  · rw [if_pos e] at h1 ⊢; exact h1
  · rw [if_neg e]
theorem unzoomS {cy : Nat → ClassId} {a : Nat → Nat} {i : Nat → Int32} {r R : Nat → Nat → Int32} {q : Nat → Option Nat} {gb : Nat → Nat → Nat} {gi : Nat → Nat → Int32} {gr : Nat → Nat → Nat → Int32} {n h : Nat} {tl : va_W} {T : List Nat} (hn : h < n) (hE : mEr T (mixR r (gr h)) R) (hT : T.all (fun t => Nat.blt t 61) = true) :
    (xW cy (mixA a (gb h)) (mixI i (gi h)) R q (mixA a (gb h) 20) (mixA a (gb h) 12) ++ (hW cy (mixA a (gb h)) (mixI i (gi h)) R ++ (HX cy gb gi gr h n ++ tl))).Perm (xW cy a i (mixR R r) q (a 20) (a 12) ++ (HL cy gb gi gr n ++ tl)) := by
  rw [hW_eqE (Ei_rf (T := [])) hE rfl hT]
  show (xW cy a i (mixR R r) q (a 20) (a 12) ++ (hW cy (gb h) (gi h) (gr h) ++ (HX cy gb gi gr h n ++ tl))).Perm (xW cy a i (mixR R r) q (a 20) (a 12) ++ (HL cy gb gi gr n ++ tl))
  refine List.Perm.append_left _ ?_
  rw [← List.append_assoc]
  exact (HL_perm n hn).symm.append_right _
set_option maxHeartbeats 4000000 in
set_option maxRecDepth 100000 in
theorem c_X11_byKind (l : Launch) (D : va_G) (cy : Nat → ClassId) (a : Nat → Nat) (i : Nat → Int32) (r : Nat → Nat → Int32) (q : Nat → Option Nat) (tl : va_W) (p0 p1 : Int32) (nh : Nat) (gb : Nat → Nat → Nat) (gi : Nat → Nat → Int32) (gr : Nat → Nat → Nat → Int32) (sz : Nat) (hRi : yRi i) (hRr : yRr r) (hn : (i 0).toInt = (nh : Int)) (hH : ∀ k, k < nh → q k = some (gb k 61) ∧ yRi (gi k) ∧ yRr (gr k)) : Met l yX11_byKind (Cond.code yX11_byKind cX11_byKind 6 (some .int) :: gT) { frames := 6, cells := 0, slots := 0, locals := 151 } (va_Pc [.ref (a 0), .int p0, .int p1] (rM D cy (xW cy a i r q (a 20) (a 12) ++ (HL cy gb gi gr nh ++ tl)) sz)) (va_Qi (fun (z : Int32) (u : Nat → Nat → Int32) => yRr u ∧ mEr [27, 28] r u ∧ True) (fun (u : Nat → Nat → Int32) t => va_P D vwCl (xW cy a i u q (a 20) (a 12) ++ (HL cy gb gi gr nh ++ tl)) t.heap ∧ va_K D vwCl (vT cy) t ∧ va_D (va_A (xW cy a i r q (a 20) (a 12) ++ (HL cy gb gi gr nh ++ tl)) sz) (xW cy a i u q (a 20) (a 12) ++ (HL cy gb gi gr nh ++ tl))) (va_A (xW cy a i r q (a 20) (a 12) ++ (HL cy gb gi gr nh ++ tl)) sz)) 0 0 (va_A (xW cy a i r q (a 20) (a 12) ++ (HL cy gb gi gr nh ++ tl)) sz) := by
  refine Met.ofQ (cc := cX11_byKind) (maxL := 6) (ret := (some .int)) (by decide) rfl ?_
  intro p e s m args below meth c s₁ B hml hv Q hQ
  obtain ⟨rfl, hnw, hsz, hP, hK, hD0⟩ := hv
  have hx := B.exec
  have hb := B.bytes
  have hr := B.returns
  have hlocks := B.notSynchronized
  have hT : ∀ w ∈ gT, w.before _ s = true := fun w h => atoms_spec (ws := (Cond.code yX11_byKind cX11_byKind 6 (some .int) :: gT)) B.pre w (List.mem_cons_of_mem _ h)
  have hown : s.vm.findClass RX11 = some m.cls := findClass_of_methodNamed B.named
  subst hsz
  have hD := hD0.self (sz := s.heap.size)
  generalize hAe : va_A (xW cy a i r q (a 20) (a 12) ++ (HL cy gb gi gr nh ++ tl)) s.heap.size = A at hD hQ
  have hA : ∀ q : Nat, s.heap.size ≤ q → A q := fun q h => by rw [← hAe]; exact Or.inr h
  have hS : va_S A s.heap s.heap [] := va_S.rf
  have hl := lv_entry ([.ref (a 0), .int p0, .int p1]) (n := 6) (Nat.le_of_ble_eq_true rfl)
  rw [lg_entry_eq]
  generalize (lg_sl ([.ref (a 0), .int p0, .int p1]) ++ List.replicate (6 - (lg_sl ([.ref (a 0), .int p0, .int p1])).length) Slot.unset).toArray = ls at hl ⊢
  have hl : lv_has ls 6 [(0, .ref (a 0)), (1, .int p0), (2, .int p1)] := hl
  have hEi : mEi [] i i := Ei_rf
  have hEr : mEr [27, 28] r r := Er_rf
  have hg10 : 0 ≤ (i 10).toInt ∧ (i 10).toInt ≤ 30 := hRi 10
  have hg0 : 0 ≤ (i 0).toInt ∧ (i 0).toInt ≤ 6 := hRi 0
  refine lv_iload_n hx hb dX11_byKind_0 rfl (lv_at hl 1 rfl) ?_
  refine lv_iconst (v := 0) hx hb dX11_byKind_1 (by decide) ?_
  refine lv_bipush (v := 7) hx hb dX11_byKind_2 (by decide) ?_
  refine vp_callSi (W.runS (As := [.int p0, .int 0, .int 7]) (rest := []) ⟨hx, hb, hml, hown, hT⟩ (c_X11_within l p0 0 7) (va_cwS 3 hT (gS t_1 t_3 t_4 t_2) rfl rfl rfl (by decide +kernel) ⟨Nat.le_of_ble_eq_true rfl, Nat.le_of_ble_eq_true rfl⟩) preT rfl rfl hl.1 rfl (lv_room (Nat.le_of_ble_eq_true rfl)) dX11_byKind_4 ⟨Nat.le_of_ble_eq_true rfl, Nat.le_of_ble_eq_true rfl⟩) (fun r_1 hr_1 => ?_)
  have hr_1 : BR r_1 (0 ≤ p0.toInt ∧ p0.toInt ≤ 7) 1 0 := hr_1
  rcases hr_1 with ⟨rfl, h_2⟩ | ⟨rfl, h_2⟩
  · skip
    refine lv_if_eq (tgt := 17) hx hb dX11_byKind_7 (by decide) (fun c_3 => absurd c_3 (by decide)) (fun c_3 => ?_)
    refine lv_iload_n hx hb dX11_byKind_10 rfl (lv_at hl 2 rfl) ?_
    refine vp_callSi (W.runS (As := [.int p1]) (rest := []) ⟨hx, hb, hml, hown, hT⟩ (c_X11_isDay l p1) (va_cwS 1 hT (gS t_279 t_280 t_281 t_2) rfl rfl rfl (by decide +kernel) ⟨Nat.le_of_ble_eq_true rfl, Nat.le_of_ble_eq_true rfl⟩) preT rfl rfl hl.1 rfl (lv_room (Nat.le_of_ble_eq_true rfl)) dX11_byKind_11 ⟨Nat.le_of_ble_eq_true rfl, Nat.le_of_ble_eq_true rfl⟩) (fun r_4 hr_4 => ?_)
    have hr_4 : BR r_4 (0 ≤ p1.toInt ∧ p1.toInt ≤ 9999) 1 0 := hr_4
    rcases hr_4 with ⟨rfl, h_5⟩ | ⟨rfl, h_5⟩
    · skip
      refine lv_if_ne (tgt := 19) hx hb dX11_byKind_14 (by decide) (fun c_6 => ?_) (fun c_6 => absurd c_6 (by decide))
      refine lv_iconst (v := 0) hx hb dX11_byKind_19 (by decide) ?_
      refine lv_istore_n (lv' := [(3, .int 0), (0, .ref (a 0)), (1, .int p0), (2, .int p1)]) hx hb dX11_byKind_20 rfl hl (by decide) rfl (fun ls hl => ?_)
      refine lv_iconst (v := 0) hx hb dX11_byKind_21 (by decide) ?_
      refine lv_istore (lv' := [(4, .int 0), (3, .int 0), (0, .ref (a 0)), (1, .int p0), (2, .int p1)]) hx hb dX11_byKind_22 hl (by decide) rfl (fun ls hl => ?_)
      have loop_7 : ∀ (n : Nat) (x7_4 : Int32) (x7_3 : Int32) (r7 : Nat → Nat → Int32) (H : Heap) (locs : List Loc) (ls : Array Slot), (30 - x7_4.toInt).toNat < n → (0 ≤ x7_4.toInt ∧ x7_4.toInt ≤ 30) → yRr r7 → mEr [27, 28] r r7 → va_P D vwCl (xW cy a i r7 q (a 20) (a 12) ++ (HL cy gb gi gr nh ++ tl)) H → va_D A (xW cy a i r7 q (a 20) (a 12) ++ (HL cy gb gi gr nh ++ tl)) → va_S A s.heap H locs → lv_has ls 6 [(4, .int x7_4), (3, .int x7_3), (0, .ref (a 0)), (1, .int p0), (2, .int p1)] → W p l e ({ frames := 6, cells := 0, slots := 0, locals := 151 } : Room) s m ([.ref (a 0), .int p0, .int p1] : List Value).toArray below meth c H locs 0 0 Q (F0 m 24 ls []) := by
        intro n
        induction n with
        | zero =>
          intro x7_4 x7_3 r7 H locs ls hm7 hf7_0 hRr hEr hP hD hS hl
          exact absurd hm7 (by omega)
        | succ n ih7 =>
          intro x7_4 x7_3 r7 H locs ls hm7 hf7_0 hRr hEr hP hD hS hl
          refine lv_iload hx hb dX11_byKind_24 (lv_at hl 0 rfl) ?_
          refine lv_aload_n hx hb dX11_byKind_26 rfl (lv_at hl 2 rfl) ?_
          refine va_get (D := D) (ci := 11) (v := .ref (a 29)) (C := RX11) (T := TX11) (N := 14) hx hb hT iX11 hown hK hP 0 rfl rfl 8 (by decide) (hT _ t_265) (fun _ h9 => h9) rfl dX11_byKind_27 ?_
          refine va_get (D := D) (ci := 1) (v := .int (i 10)) (C := RX1) (T := TX1) (N := 12) hx hb hT iX1 hown hK hP 29 rfl rfl 0 (by decide) (hT _ t_266) (fun _ h9 => h9) rfl dX11_byKind_30 ?_
          have hg_8 : 0 ≤ (i 10).toInt ∧ (i 10).toInt ≤ 30 := hRi 10
          refine lv_icmp_ge (tgt := 101) hx hb dX11_byKind_33 (by decide) (fun c_9 => ?_) (fun c_9 => ?_)
          · have c_9 : (i 10).toInt ≤ x7_4.toInt := b_le c_9
            refine lv_iload_n hx hb dX11_byKind_101 rfl (lv_at hl 1 rfl) ?_
            subst hQ
            exact W.iret (v := x7_3) hx hb hr (fun t ht hW => ⟨⟨_, r7, rfl, ⟨hRr, hEr, trivial⟩, by rw [ht]; exact hP, va_K.moved hW.alike hK, hD⟩, hS.F ht⟩) hS.2.2 dX11_byKind_102
          · have c_9 : x7_4.toInt < (i 10).toInt := b_nle c_9
            refine lv_aload_n hx hb dX11_byKind_36 rfl (lv_at hl 2 rfl) ?_
            refine lv_aload_n hx hb dX11_byKind_37 rfl (lv_at hl 2 rfl) ?_
            refine va_get (D := D) (ci := 11) (v := .ref (a 29)) (C := RX11) (T := TX11) (N := 14) hx hb hT iX11 hown hK hP 0 rfl rfl 8 (by decide) (hT _ t_265) (fun _ h9 => h9) rfl dX11_byKind_38 ?_
            refine va_get (D := D) (ci := 1) (v := .ref (a 30)) (C := RX1) (T := TX1) (N := 12) hx hb hT iX1 hown hK hP 29 rfl rfl 1 (by decide) (hT _ t_548) (fun _ h9 => h9) rfl dX11_byKind_41 ?_
            refine lv_iload hx hb dX11_byKind_44 (lv_at hl 0 rfl) ?_
            refine va_iald hx hb hK hP 30 0 rfl rfl (vp_inI (by omega) (by omega)) dX11_byKind_46 ?_
            refine lv_topi (fun v_10 ev_10 => ?_)
            have hgv_10 : 0 ≤ v_10.toInt ∧ v_10.toInt ≤ 5 := by rw [ev_10]; exact hRr 30 _
            refine va_csq (W.runV (As := [.int v_10]) (rest := []) ⟨hx, hb, hml, hown, hT⟩ (c_X11_homeAt l D cy a i r7 q (HL cy gb gi gr nh ++ tl) v_10 hRi hRr) (cwV 1 hT (gV t_443 t_444 t_445 t_446 t_2) rfl rfl rfl (by decide +kernel) ⟨Nat.le_of_ble_eq_true rfl, Nat.le_of_ble_eq_true rfl⟩) (rP_v hP hK (va_recv hK hP (ci := 11) (q0 := 0) rfl rfl)) rfl rfl hl.1 rfl (lv_room (Nat.le_of_ble_eq_true rfl)) dX11_byKind_47 ⟨Nat.le_of_ble_eq_true rfl, Nat.le_of_ble_eq_true rfl⟩) (fun r_11 hr_11 => ?_)
            by_cases hv9 : v_10.toInt < (i 0).toInt
            · obtain rfl : r_11 = some (gb v_10.toNatClampNeg 61) := (hr_11.1 (by omega)).trans (hH v_10.toNatClampNeg (by have h9 : v_10.toNatClampNeg = v_10.toInt.toNat := rfl; omega)).1
              refine W.eq (g2 := F0 m 50 ls [.ref (gb v_10.toNatClampNeg 61)]) rfl ?_
              refine lv_astore (lv' := [(5, .ref (gb v_10.toNatClampNeg 61)), (4, .int x7_4), (3, .int x7_3), (0, .ref (a 0)), (1, .int p0), (2, .int p1)]) hx hb dX11_byKind_50 hl (by decide) rfl (fun ls hl => ?_)
              refine lv_aload hx hb dX11_byKind_52 (lv_at hl 0 rfl) ?_
              refine lv_ifnull hx hb dX11_byKind_54 ?_
              have hlt : v_10.toNatClampNeg < nh := (by have h9 : v_10.toNatClampNeg = v_10.toInt.toNat := rfl; omega)
              have hz := zoom (cy := cy) (a := a) (i := i) (r := r7) (q := q) (hb := gb) (hi := gi) (hr := gr) (tl := tl) hlt
              have hP := vaP_perm hz hP
              have hD := vaD_perm hz hD
              have hRi0 := hRi
              have hRr0 := hRr
              have hEr0 := hEr
              have hRi := mix_Ri hRi (hH v_10.toNatClampNeg hlt).2.1
              have hRr := mix_Rr hRr (hH v_10.toNatClampNeg hlt).2.2
              obtain ⟨A2, hA2⟩ : ∃ z, z = mixA a (gb v_10.toNatClampNeg) := ⟨_, rfl⟩
              obtain ⟨I2, hI2⟩ : ∃ z, z = mixI i (gi v_10.toNatClampNeg) := ⟨_, rfl⟩
              obtain ⟨R2, hR2⟩ : ∃ z, z = mixR r7 (gr v_10.toNatClampNeg) := ⟨_, rfl⟩
              rw [← hA2, ← hI2, ← hR2] at hP hD
              rw [← hI2] at hRi
              rw [← hR2] at hRr
              have hEr : mEr [27, 28] R2 R2 := Er_rf
              have hEi : mEi [] I2 I2 := Ei_rf
              have h10 : I2 10 = i 10 := by rw [hI2]; rfl
              have h0 : I2 0 = i 0 := by rw [hI2]; rfl
              have h30 : R2 30 = r7 30 := by rw [hR2]; rfl
              have h61 : A2 61 = gb v_10.toNatClampNeg 61 := by rw [hA2]; rfl
              have hl : lv_has ls 6 [(5, .ref (A2 61)), (4, .int x7_4), (3, .int x7_3), (0, .ref (A2 0)), (1, .int p0), (2, .int p1)] := by rw [hA2]; exact hl
              refine lv_aload hx hb dX11_byKind_57 (lv_at hl 0 rfl) ?_
              refine va_get (D := D) (ci := 3) (v := .ref (A2 65)) (C := RX3) (T := TX3) (N := 12) hx hb hT iX3 hown hK hP 61 rfl rfl 9 (by decide) (hT _ t_453) (fun _ h9 => h9) rfl dX11_byKind_59 ?_
              refine va_get (D := D) (ci := 10) (v := .ref (A2 67)) (C := RX10) (T := TX10) (N := 5) hx hb hT iX10 hown hK hP 65 rfl rfl 2 (by decide) (hT _ t_492) (fun _ h9 => h9) rfl dX11_byKind_62 ?_
              refine lv_aload_n hx hb dX11_byKind_65 rfl (lv_at hl 3 rfl) ?_
              refine va_get (D := D) (ci := 11) (v := .ref (A2 29)) (C := RX11) (T := TX11) (N := 14) hx hb hT iX11 hown hK hP 0 rfl rfl 8 (by decide) (hT _ t_265) (fun _ h9 => h9) rfl dX11_byKind_66 ?_
              refine va_get (D := D) (ci := 1) (v := .ref (A2 31)) (C := RX1) (T := TX1) (N := 12) hx hb hT iX1 hown hK hP 29 rfl rfl 2 (by decide) (hT _ t_549) (fun _ h9 => h9) rfl dX11_byKind_69 ?_
              refine lv_iload hx hb dX11_byKind_72 (lv_at hl 1 rfl) ?_
              refine va_iald hx hb hK hP 31 0 rfl rfl (vp_inI (by omega) (by omega)) dX11_byKind_74 ?_
              refine lv_topi (fun v_12 ev_12 => ?_)
              have hgv_12 : 0 ≤ v_12.toInt ∧ v_12.toInt ≤ 19 := by rw [ev_12]; exact hRr 31 _
              refine va_iald hx hb hK hP 67 0 rfl rfl (vp_inI (by omega) (by omega)) dX11_byKind_75 ?_
              refine lv_topi (fun v_13 ev_13 => ?_)
              have hgv_13 : 0 ≤ v_13.toInt ∧ v_13.toInt ≤ 7 := by rw [ev_13]; exact hRr 67 _
              refine lv_iload_n hx hb dX11_byKind_76 rfl (lv_at hl 4 rfl) ?_
              refine lv_icmp_ne (tgt := 95) hx hb dX11_byKind_77 (by decide) (fun c_14 => ?_) (fun c_14 => ?_)
              · have c_14 : v_13.toInt ≠ p0.toInt := b_ne c_14
                rw [hA2, hI2] at hP hD
                have hEr : mEr [27, 28] (mixR r7 (gr v_10.toNatClampNeg)) R2 := by rw [hR2]; exact Er_rf
                have hz2 := unzoomS (cy := cy) (a := a) (i := i) (q := q) (gb := gb) (gi := gi) (tl := tl) hlt hEr rfl
                have hP := vaP_perm hz2 hP
                have hD := vaD_perm hz2 hD
                have hEr : mEr [27, 28] r (mixR R2 r7) := Er_tr hEr0 (mixR_E hEr) (fun _ h => h)
                have hRr : yRr (mixR R2 r7) := mix_Rr hRr hRr0
                have hRi := hRi0
                have hEi : mEi [] i i := Ei_rf
                have hl : lv_has ls 6 [(5, .ref (gb v_10.toNatClampNeg 61)), (4, .int x7_4), (3, .int x7_3), (0, .ref (a 0)), (1, .int p0), (2, .int p1)] := by rw [hA2] at hl; exact hl
                obtain ⟨x_15, ex_15⟩ : ∃ y : Int32, y = x7_4 + 1 := ⟨_, rfl⟩
                refine lv_iinc (v := x_15) (lv' := [(4, .int x_15), (5, .ref (gb v_10.toNatClampNeg 61)), (3, .int x7_3), (0, .ref (a 0)), (1, .int p0), (2, .int p1)]) hx hb dX11_byKind_95 hl (k := 1) rfl (by rw [ex_15]; rfl) (by decide) rfl (fun ls hl => ?_)
                have hx_15 : x_15.toInt = x7_4.toInt + 1 := by rw [ex_15]; have := b_rg x7_4; exact i_add (a := x7_4.toInt) (b := 1) rfl rfl (by omega) (by omega)
                refine lv_goto (tgt := 24) hx hb dX11_byKind_98 (by decide) ?_
                exact ih7 x_15 x7_3 (mixR R2 r7) _ _ _ (by first | omega | (simp only [Int.toNat]; omega)) (by first | omega | decide) hRr hEr  hP hD hS (lv_sub hl [0, 2, 3, 4, 5] rfl)
              · have c_14 : v_13.toInt = p0.toInt := b_nne c_14
                refine lv_iload_n hx hb dX11_byKind_80 rfl (lv_at hl 2 rfl) ?_
                refine lv_iconst (v := 0) hx hb dX11_byKind_81 (by decide) ?_
                refine lv_aload_n hx hb dX11_byKind_82 rfl (lv_at hl 3 rfl) ?_
                refine lv_iload hx hb dX11_byKind_83 (lv_at hl 1 rfl) ?_
                refine lv_iload_n hx hb dX11_byKind_85 rfl (lv_at hl 5 rfl) ?_
                refine lv_iconst (v := 0) hx hb dX11_byKind_86 (by decide) ?_
                have hF_16 := rF hD hS hA
                refine va_calli (va_runV (As := [.int x7_4, .int p1, .int 0]) (rest := [.int 0, .int x7_3]) ⟨hx, hb, hml, hown, hT⟩ (c_X11_award l D cy A2 I2 R2 q (HX cy gb gi gr v_10.toNatClampNeg nh ++ tl) x7_4 p1 0 _ hRi hRr (by rw [h10]; omega) (by rw [h30, h0, ← ev_10]; exact hv9) (by rw [h30, ← ev_10, h61]; exact (hH v_10.toNatClampNeg hlt).1)) (cwV 3 hT (gV t_559 t_560 t_561 t_562 t_2) rfl rfl rfl (by decide +kernel) ⟨Nat.le_of_ble_eq_true rfl, Nat.le_of_ble_eq_true rfl⟩) (rM_v hnw hP hK hD (va_recv hK hP (ci := 11) (q0 := 0) rfl rfl)) rfl rfl hl.1 rfl (lv_room (Nat.le_of_ble_eq_true rfl)) dX11_byKind_87 ⟨Nat.le_of_ble_eq_true rfl, Nat.le_of_ble_eq_true rfl⟩) hS (fun q _ h => hF_16 q h) hF_16 (fun r_17 u_18 t H1 locs ht hvm hr_17 hB hz1 hk1 hS => ?_)
                obtain ⟨r18, rfl⟩ : ∃ z, z = u_18 := ⟨_, rfl⟩
                obtain ⟨hP, hK1, hD1⟩ := hB
                rw [ht] at hP
                have hD := hD1.weaken (fun k q _ h => hF_16 q.1 h)
                obtain ⟨hRr, hE2, hr_17⟩ := hr_17
                have hRr : yRr r18 := hRr
                have hE2 : mEr [27, 28] R2 r18 := hE2
                have hP : va_P D vwCl (xW cy A2 I2 r18 q (A2 20) (A2 12) ++ (hW cy A2 I2 r18 ++ (HX cy gb gi gr v_10.toNatClampNeg nh ++ tl))) H1 := hP
                have hD : va_D A (xW cy A2 I2 r18 q (A2 20) (A2 12) ++ (hW cy A2 I2 r18 ++ (HX cy gb gi gr v_10.toNatClampNeg nh ++ tl))) := hD
                have hEr : mEr [27, 28] _ r18 := Er_tr hEr hE2 (by decide)
                refine va_mmax hx hb (by rw [hml]; exact hl.1.symm) hown (hT _ t_521) (hT _ t_307) (hT _ t_289) (hT _ t_308) (Nat.le_of_ble_eq_true rfl) (Nat.le_of_ble_eq_true rfl) (Nat.le_of_ble_eq_true rfl) (Nat.le_of_ble_eq_true rfl) dX11_byKind_90 ?_
                refine lv_topi (fun v_19 ev_19 => ?_)
                refine lv_iadd hx hb dX11_byKind_93 ?_
                refine lv_topi (fun v_20 ev_20 => ?_)
                refine lv_istore_n (lv' := [(3, .int v_20), (5, .ref (A2 61)), (4, .int x7_4), (0, .ref (A2 0)), (1, .int p0), (2, .int p1)]) hx hb dX11_byKind_94 rfl hl (by decide) rfl (fun ls hl => ?_)
                rw [hA2, hI2] at hP hD
                rw [hR2] at hEr
                have hz2 := unzoomS (cy := cy) (a := a) (i := i) (q := q) (gb := gb) (gi := gi) (tl := tl) hlt hEr rfl
                have hP := vaP_perm hz2 hP
                have hD := vaD_perm hz2 hD
                have hEr : mEr [27, 28] r (mixR r18 r7) := Er_tr hEr0 (mixR_E hEr) (fun _ h => h)
                have hRr : yRr (mixR r18 r7) := mix_Rr hRr hRr0
                have hRi := hRi0
                have hEi : mEi [] i i := Ei_rf
                have hl : lv_has ls 6 [(3, .int v_20), (5, .ref (gb v_10.toNatClampNeg 61)), (4, .int x7_4), (0, .ref (a 0)), (1, .int p0), (2, .int p1)] := by rw [hA2] at hl; exact hl
                obtain ⟨x_21, ex_21⟩ : ∃ y : Int32, y = x7_4 + 1 := ⟨_, rfl⟩
                refine lv_iinc (v := x_21) (lv' := [(4, .int x_21), (3, .int v_20), (5, .ref (gb v_10.toNatClampNeg 61)), (0, .ref (a 0)), (1, .int p0), (2, .int p1)]) hx hb dX11_byKind_95 hl (k := 2) rfl (by rw [ex_21]; rfl) (by decide) rfl (fun ls hl => ?_)
                have hx_21 : x_21.toInt = x7_4.toInt + 1 := by rw [ex_21]; have := b_rg x7_4; exact i_add (a := x7_4.toInt) (b := 1) rfl rfl (by omega) (by omega)
                refine lv_goto (tgt := 24) hx hb dX11_byKind_98 (by decide) ?_
                exact ih7 x_21 v_20 (mixR r18 r7) _ _ _ (by first | omega | (simp only [Int.toNat]; omega)) (by first | omega | decide) hRr hEr  hP hD hS (lv_sub hl [0, 1, 3, 4, 5] rfl)
            · obtain rfl : r_11 = none := hr_11.2 (by omega)
              refine W.eq (g2 := F0 m 50 ls [.null]) rfl ?_
              refine lv_astoreN (lv' := [(5, .null), (4, .int x7_4), (3, .int x7_3), (0, .ref (a 0)), (1, .int p0), (2, .int p1)]) hx hb dX11_byKind_50 hl (by decide) rfl (fun ls hl => ?_)
              refine lv_aloadN hx hb dX11_byKind_52 (lv_at hl 0 rfl) ?_
              refine lv_ifnullN (tgt := 95) hx hb dX11_byKind_54 (by decide) ?_
              obtain ⟨x_22, ex_22⟩ : ∃ y : Int32, y = x7_4 + 1 := ⟨_, rfl⟩
              refine lv_iinc (v := x_22) (lv' := [(4, .int x_22), (5, .null), (3, .int x7_3), (0, .ref (a 0)), (1, .int p0), (2, .int p1)]) hx hb dX11_byKind_95 hl (k := 1) rfl (by rw [ex_22]; rfl) (by decide) rfl (fun ls hl => ?_)
              have hx_22 : x_22.toInt = x7_4.toInt + 1 := by rw [ex_22]; have := b_rg x7_4; exact i_add (a := x7_4.toInt) (b := 1) rfl rfl (by omega) (by omega)
              refine lv_goto (tgt := 24) hx hb dX11_byKind_98 (by decide) ?_
              exact ih7 x_22 x7_3 r7 _ _ _ (by first | omega | (simp only [Int.toNat]; omega)) (by first | omega | decide) hRr hEr  hP hD hS (lv_sub hl [0, 2, 3, 4, 5] rfl)
      exact loop_7 _ 0 0 r _ _ _ (Nat.lt_succ_self _) (by first | omega | decide) hRr hEr  hP hD hS hl
    · skip
      refine lv_if_ne (tgt := 19) hx hb dX11_byKind_14 (by decide) (fun c_23 => absurd (by decide) c_23) (fun c_23 => ?_)
      refine lv_iconst (v := (-1)) hx hb dX11_byKind_17 (by decide) ?_
      subst hQ
      exact W.iret (v := (-1)) hx hb hr (fun t ht hW => ⟨⟨_, r, rfl, ⟨hRr, hEr, trivial⟩, by rw [ht]; exact hP, va_K.moved hW.alike hK, hD⟩, hS.F ht⟩) hS.2.2 dX11_byKind_18
  · skip
    refine lv_if_eq (tgt := 17) hx hb dX11_byKind_7 (by decide) (fun c_24 => ?_) (fun c_24 => absurd (by decide) c_24)
    refine lv_iconst (v := (-1)) hx hb dX11_byKind_17 (by decide) ?_
    subst hQ
    exact W.iret (v := (-1)) hx hb hr (fun t ht hW => ⟨⟨_, r, rfl, ⟨hRr, hEr, trivial⟩, by rw [ht]; exact hP, va_K.moved hW.alike hK, hD⟩, hS.F ht⟩) hS.2.2 dX11_byKind_18
