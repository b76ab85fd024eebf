def dl_477 : List (Nat × (Instr × Nat)) := [(0, (.iload_n 1, 1)), (1, (.iconst 0, 1)), (2, (.bipush 7, 2)), (4, (.invokestatic 93, 3)), (7, (.ifCond .eq 10, 3)), (10, (.iload_n 2, 1)), (11, (.invokestatic 186, 3)), (14, (.ifCond .ne 5, 3)), (17, (.iconst (-1), 1)), (18, (.ireturn, 1)), (19, (.iconst 0, 1)), (20, (.istore_n 3, 1)), (21, (.iconst 0, 1)), (22, (.istore 4, 2)), (24, (.iload 4, 2)), (26, (.aload_n 0, 1)), (27, (.getfield 61, 3)), (30, (.getfield 320, 3)), (33, (.if_icmp .ge 68, 3)), (36, (.aload_n 0, 1))]
theorem dh_477 : dchk cX11_byKind dl_477 = true := by decide +kernel
theorem dX11_byKind_0 : decode cX11_byKind 0 = .ok (.iload_n 1, 1) := dget dh_477 (k := 0) rfl
theorem dX11_byKind_1 : decode cX11_byKind 1 = .ok (.iconst 0, 1) := dget dh_477 (k := 1) rfl
theorem dX11_byKind_2 : decode cX11_byKind 2 = .ok (.bipush 7, 2) := dget dh_477 (k := 2) rfl
theorem dX11_byKind_4 : decode cX11_byKind 4 = .ok (.invokestatic 93, 3) := dget dh_477 (k := 3) rfl
theorem dX11_byKind_7 : decode cX11_byKind 7 = .ok (.ifCond .eq 10, 3) := dget dh_477 (k := 4) rfl
theorem dX11_byKind_10 : decode cX11_byKind 10 = .ok (.iload_n 2, 1) := dget dh_477 (k := 5) rfl
theorem dX11_byKind_11 : decode cX11_byKind 11 = .ok (.invokestatic 186, 3) := dget dh_477 (k := 6) rfl
theorem dX11_byKind_14 : decode cX11_byKind 14 = .ok (.ifCond .ne 5, 3) := dget dh_477 (k := 7) rfl
theorem dX11_byKind_17 : decode cX11_byKind 17 = .ok (.iconst (-1), 1) := dget dh_477 (k := 8) rfl
theorem dX11_byKind_18 : decode cX11_byKind 18 = .ok (.ireturn, 1) := dget dh_477 (k := 9) rfl
theorem dX11_byKind_19 : decode cX11_byKind 19 = .ok (.iconst 0, 1) := dget dh_477 (k := 10) rfl
theorem dX11_byKind_20 : decode cX11_byKind 20 = .ok (.istore_n 3, 1) := dget dh_477 (k := 11) rfl
theorem dX11_byKind_21 : decode cX11_byKind 21 = .ok (.iconst 0, 1) := dget dh_477 (k := 12) rfl
theorem dX11_byKind_22 : decode cX11_byKind 22 = .ok (.istore 4, 2) := dget dh_477 (k := 13) rfl
theorem dX11_byKind_24 : decode cX11_byKind 24 = .ok (.iload 4, 2) := dget dh_477 (k := 14) rfl
theorem dX11_byKind_26 : decode cX11_byKind 26 = .ok (.aload_n 0, 1) := dget dh_477 (k := 15) rfl
theorem dX11_byKind_27 : decode cX11_byKind 27 = .ok (.getfield 61, 3) := dget dh_477 (k := 16) rfl
theorem dX11_byKind_30 : decode cX11_byKind 30 = .ok (.getfield 320, 3) := dget dh_477 (k := 17) rfl
theorem dX11_byKind_33 : decode cX11_byKind 33 = .ok (.if_icmp .ge 68, 3) := dget dh_477 (k := 18) rfl
theorem dX11_byKind_36 : decode cX11_byKind 36 = .ok (.aload_n 0, 1) := dget dh_477 (k := 19) rfl
def dl_478 : List (Nat × (Instr × Nat)) := [(37, (.aload_n 0, 1)), (38, (.getfield 61, 3)), (41, (.getfield 212, 3)), (44, (.iload 4, 2)), (46, (.iaload, 1)), (47, (.invokevirtual 108, 3)), (50, (.astore 5, 2)), (52, (.aload 5, 2)), (54, (.ifnull 41, 3)), (57, (.aload 5, 2)), (59, (.getfield 124, 3)), (62, (.getfield 323, 3)), (65, (.aload_n 0, 1)), (66, (.getfield 61, 3)), (69, (.getfield 214, 3)), (72, (.iload 4, 2)), (74, (.iaload, 1)), (75, (.iaload, 1)), (76, (.iload_n 1, 1)), (77, (.if_icmp .ne 18, 3))]
theorem dh_478 : dchk cX11_byKind dl_478 = true := by decide +kernel
theorem dX11_byKind_37 : decode cX11_byKind 37 = .ok (.aload_n 0, 1) := dget dh_478 (k := 0) rfl
theorem dX11_byKind_38 : decode cX11_byKind 38 = .ok (.getfield 61, 3) := dget dh_478 (k := 1) rfl
theorem dX11_byKind_41 : decode cX11_byKind 41 = .ok (.getfield 212, 3) := dget dh_478 (k := 2) rfl
theorem dX11_byKind_44 : decode cX11_byKind 44 = .ok (.iload 4, 2) := dget dh_478 (k := 3) rfl
theorem dX11_byKind_46 : decode cX11_byKind 46 = .ok (.iaload, 1) := dget dh_478 (k := 4) rfl
theorem dX11_byKind_47 : decode cX11_byKind 47 = .ok (.invokevirtual 108, 3) := dget dh_478 (k := 5) rfl
theorem dX11_byKind_50 : decode cX11_byKind 50 = .ok (.astore 5, 2) := dget dh_478 (k := 6) rfl
theorem dX11_byKind_52 : decode cX11_byKind 52 = .ok (.aload 5, 2) := dget dh_478 (k := 7) rfl
theorem dX11_byKind_54 : decode cX11_byKind 54 = .ok (.ifnull 41, 3) := dget dh_478 (k := 8) rfl
theorem dX11_byKind_57 : decode cX11_byKind 57 = .ok (.aload 5, 2) := dget dh_478 (k := 9) rfl
theorem dX11_byKind_59 : decode cX11_byKind 59 = .ok (.getfield 124, 3) := dget dh_478 (k := 10) rfl
theorem dX11_byKind_62 : decode cX11_byKind 62 = .ok (.getfield 323, 3) := dget dh_478 (k := 11) rfl
theorem dX11_byKind_65 : decode cX11_byKind 65 = .ok (.aload_n 0, 1) := dget dh_478 (k := 12) rfl
theorem dX11_byKind_66 : decode cX11_byKind 66 = .ok (.getfield 61, 3) := dget dh_478 (k := 13) rfl
theorem dX11_byKind_69 : decode cX11_byKind 69 = .ok (.getfield 214, 3) := dget dh_478 (k := 14) rfl
theorem dX11_byKind_72 : decode cX11_byKind 72 = .ok (.iload 4, 2) := dget dh_478 (k := 15) rfl
theorem dX11_byKind_74 : decode cX11_byKind 74 = .ok (.iaload, 1) := dget dh_478 (k := 16) rfl
theorem dX11_byKind_75 : decode cX11_byKind 75 = .ok (.iaload, 1) := dget dh_478 (k := 17) rfl
theorem dX11_byKind_76 : decode cX11_byKind 76 = .ok (.iload_n 1, 1) := dget dh_478 (k := 18) rfl
theorem dX11_byKind_77 : decode cX11_byKind 77 = .ok (.if_icmp .ne 18, 3) := dget dh_478 (k := 19) rfl
def dl_479 : List (Nat × (Instr × Nat)) := [(80, (.iload_n 3, 1)), (81, (.iconst 0, 1)), (82, (.aload_n 0, 1)), (83, (.iload 4, 2)), (85, (.iload_n 2, 1)), (86, (.iconst 0, 1)), (87, (.invokevirtual 326, 3)), (90, (.invokestatic 329, 3)), (93, (.iadd, 1)), (94, (.istore_n 3, 1)), (95, (.iinc 4 1, 3)), (98, (.goto (-74), 3)), (101, (.iload_n 3, 1)), (102, (.ireturn, 1))]
theorem dh_479 : dchk cX11_byKind dl_479 = true := by decide +kernel
theorem dX11_byKind_80 : decode cX11_byKind 80 = .ok (.iload_n 3, 1) := dget dh_479 (k := 0) rfl
theorem dX11_byKind_81 : decode cX11_byKind 81 = .ok (.iconst 0, 1) := dget dh_479 (k := 1) rfl
theorem dX11_byKind_82 : decode cX11_byKind 82 = .ok (.aload_n 0, 1) := dget dh_479 (k := 2) rfl
theorem dX11_byKind_83 : decode cX11_byKind 83 = .ok (.iload 4, 2) := dget dh_479 (k := 3) rfl
theorem dX11_byKind_85 : decode cX11_byKind 85 = .ok (.iload_n 2, 1) := dget dh_479 (k := 4) rfl
theorem dX11_byKind_86 : decode cX11_byKind 86 = .ok (.iconst 0, 1) := dget dh_479 (k := 5) rfl
theorem dX11_byKind_87 : decode cX11_byKind 87 = .ok (.invokevirtual 326, 3) := dget dh_479 (k := 6) rfl
theorem dX11_byKind_90 : decode cX11_byKind 90 = .ok (.invokestatic 329, 3) := dget dh_479 (k := 7) rfl
theorem dX11_byKind_93 : decode cX11_byKind 93 = .ok (.iadd, 1) := dget dh_479 (k := 8) rfl
theorem dX11_byKind_94 : decode cX11_byKind 94 = .ok (.istore_n 3, 1) := dget dh_479 (k := 9) rfl
theorem dX11_byKind_95 : decode cX11_byKind 95 = .ok (.iinc 4 1, 3) := dget dh_479 (k := 10) rfl
theorem dX11_byKind_98 : decode cX11_byKind 98 = .ok (.goto (-74), 3) := dget dh_479 (k := 11) rfl
theorem dX11_byKind_101 : decode cX11_byKind 101 = .ok (.iload_n 3, 1) := dget dh_479 (k := 12) rfl
theorem dX11_byKind_102 : decode cX11_byKind 102 = .ok (.ireturn, 1) := dget dh_479 (k := 13) rfl
theorem mixR_E {T : List Nat} {r s R : Nat → Nat → Int32} (h : mEr T (mixR r s) R) : mEr T r (mixR R r) := by
  intro p hp
  have h1 := h p hp
  unfold mixR at h1 ⊢
  by_cases e : p < 61
  · rw [if_pos e] at h1 ⊢; exact h1
  · rw [if_neg e]
theorem unzoomS {cy : Nat → ClassId} {a : Nat → Nat} {i : Nat → Int32} {r R : Nat → Nat → Int32} {q : Nat → Option Nat} {gb : Nat → Nat → Nat} {gi : Nat → Nat → Int32} {gr : Nat → Nat → Nat → Int32} {n h : Nat} {tl : va_W} {T : List Nat} (hn : h < n) (hE : mEr T (mixR r (gr h)) R) (hT : T.all (fun t => Nat.blt t 61) = true) :
    (xW cy (mixA a (gb h)) (mixI i (gi h)) R q (mixA a (gb h) 20) (mixA a (gb h) 12) ++ (hW cy (mixA a (gb h)) (mixI i (gi h)) R ++ (HX cy gb gi gr h n ++ tl))).Perm (xW cy a i (mixR R r) q (a 20) (a 12) ++ (HL cy gb gi gr n ++ tl)) := by
  rw [hW_eqE (Ei_rf (T := [])) hE rfl hT]
  show (xW cy a i (mixR R r) q (a 20) (a 12) ++ (hW cy (gb h) (gi h) (gr h) ++ (HX cy gb gi gr h n ++ tl))).Perm (xW cy a i (mixR R r) q (a 20) (a 12) ++ (HL cy gb gi gr n ++ tl))
  refine List.Perm.append_left _ ?_
  rw [← List.append_assoc]
  exact (HL_perm n hn).symm.append_right _
