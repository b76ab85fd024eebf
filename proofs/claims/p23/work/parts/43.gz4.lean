set_option maxRecDepth 100000 in
theorem t_1170 : Cond.code yX11_home cX11_home 8 (some .int) ∈ gT := tm (tb2 (List.mem_of_getElem? (i := 69) (by rfl))) (by decide +kernel)
set_option maxRecDepth 100000 in
theorem t_1171 : Cond.methodLink RL 23 yX11_home ∈ gT := tm (tb2 (List.mem_of_getElem? (i := 66) (by rfl))) (by decide +kernel)
set_option maxRecDepth 100000 in
theorem t_1172 : Cond.instanceMethod yX11_home ∈ gT := tm (tb2 (List.mem_of_getElem? (i := 67) (by rfl))) (by decide +kernel)
set_option maxRecDepth 100000 in
theorem t_1173 : Cond.selects RX11 yX11_home yX11_home ∈ gT := tm (tb2 (List.mem_of_getElem? (i := 68) (by rfl))) (by decide +kernel)
set_option maxRecDepth 100000 in
theorem t_1174 : Cond.code yX12_home cX12_home 8 (some .int) ∈ gT := tm (tb6 (List.mem_of_getElem? (i := 10) (by rfl))) (by decide +kernel)
set_option maxRecDepth 100000 in
theorem t_1175 : Cond.methodLink RL 27 yX12_home ∈ gT := tm (tb6 (List.mem_of_getElem? (i := 7) (by rfl))) (by decide +kernel)
set_option maxRecDepth 100000 in
theorem t_1176 : Cond.instanceMethod yX12_home ∈ gT := tm (tb6 (List.mem_of_getElem? (i := 8) (by rfl))) (by decide +kernel)
set_option maxRecDepth 100000 in
theorem t_1177 : Cond.selects RX12 yX12_home yX12_home ∈ gT := tm (tb6 (List.mem_of_getElem? (i := 9) (by rfl))) (by decide +kernel)
def dl_599 : List (Nat × (Instr × Nat)) := [(256, (.aload_n 1, 1)), (257, (.aload_n 0, 1)), (258, (.iload_n 3, 1)), (259, (.iconst 1, 1)), (260, (.iadd, 1)), (261, (.iaload, 1)), (262, (.aload_n 0, 1)), (263, (.iload_n 3, 1)), (264, (.iconst 2, 1)), (265, (.iadd, 1)), (266, (.iaload, 1)), (267, (.aload_n 0, 1)), (268, (.iload_n 3, 1)), (269, (.iconst 3, 1)), (270, (.iadd, 1)), (271, (.iaload, 1)), (272, (.aload_n 0, 1)), (273, (.iload_n 3, 1)), (274, (.iconst 4, 1)), (275, (.iadd, 1))]
theorem dh_599 : dchk cL_law dl_599 = true := by decide +kernel
theorem dL_law_256 : decode cL_law 256 = .ok (.aload_n 1, 1) := dget dh_599 (k := 0) rfl
theorem dL_law_257 : decode cL_law 257 = .ok (.aload_n 0, 1) := dget dh_599 (k := 1) rfl
theorem dL_law_258 : decode cL_law 258 = .ok (.iload_n 3, 1) := dget dh_599 (k := 2) rfl
theorem dL_law_259 : decode cL_law 259 = .ok (.iconst 1, 1) := dget dh_599 (k := 3) rfl
theorem dL_law_260 : decode cL_law 260 = .ok (.iadd, 1) := dget dh_599 (k := 4) rfl
theorem dL_law_261 : decode cL_law 261 = .ok (.iaload, 1) := dget dh_599 (k := 5) rfl
theorem dL_law_262 : decode cL_law 262 = .ok (.aload_n 0, 1) := dget dh_599 (k := 6) rfl
theorem dL_law_263 : decode cL_law 263 = .ok (.iload_n 3, 1) := dget dh_599 (k := 7) rfl
theorem dL_law_264 : decode cL_law 264 = .ok (.iconst 2, 1) := dget dh_599 (k := 8) rfl
theorem dL_law_265 : decode cL_law 265 = .ok (.iadd, 1) := dget dh_599 (k := 9) rfl
theorem dL_law_266 : decode cL_law 266 = .ok (.iaload, 1) := dget dh_599 (k := 10) rfl
theorem dL_law_267 : decode cL_law 267 = .ok (.aload_n 0, 1) := dget dh_599 (k := 11) rfl
theorem dL_law_268 : decode cL_law 268 = .ok (.iload_n 3, 1) := dget dh_599 (k := 12) rfl
theorem dL_law_269 : decode cL_law 269 = .ok (.iconst 3, 1) := dget dh_599 (k := 13) rfl
theorem dL_law_270 : decode cL_law 270 = .ok (.iadd, 1) := dget dh_599 (k := 14) rfl
theorem dL_law_271 : decode cL_law 271 = .ok (.iaload, 1) := dget dh_599 (k := 15) rfl
theorem dL_law_272 : decode cL_law 272 = .ok (.aload_n 0, 1) := dget dh_599 (k := 16) rfl
theorem dL_law_273 : decode cL_law 273 = .ok (.iload_n 3, 1) := dget dh_599 (k := 17) rfl
theorem dL_law_274 : decode cL_law 274 = .ok (.iconst 4, 1) := dget dh_599 (k := 18) rfl
theorem dL_law_275 : decode cL_law 275 = .ok (.iadd, 1) := dget dh_599 (k := 19) rfl
def dl_600 : List (Nat × (Instr × Nat)) := [(276, (.iaload, 1)), (277, (.aload_n 0, 1)), (278, (.iload_n 3, 1)), (279, (.iconst 5, 1)), (280, (.iadd, 1)), (281, (.iaload, 1)), (282, (.aload_n 0, 1)), (283, (.iload_n 3, 1)), (284, (.bipush 6, 2)), (286, (.iadd, 1)), (287, (.iaload, 1)), (288, (.ifCond .eq 7, 3)), (291, (.iconst 1, 1)), (292, (.goto 4, 3)), (295, (.iconst 0, 1)), (296, (.invokevirtual 23, 3)), (299, (.pop, 1)), (300, (.aload_n 2, 1)), (301, (.aload_n 0, 1)), (302, (.iload_n 3, 1))]
theorem dh_600 : dchk cL_law dl_600 = true := by decide +kernel
theorem dL_law_276 : decode cL_law 276 = .ok (.iaload, 1) := dget dh_600 (k := 0) rfl
theorem dL_law_277 : decode cL_law 277 = .ok (.aload_n 0, 1) := dget dh_600 (k := 1) rfl
theorem dL_law_278 : decode cL_law 278 = .ok (.iload_n 3, 1) := dget dh_600 (k := 2) rfl
theorem dL_law_279 : decode cL_law 279 = .ok (.iconst 5, 1) := dget dh_600 (k := 3) rfl
theorem dL_law_280 : decode cL_law 280 = .ok (.iadd, 1) := dget dh_600 (k := 4) rfl
theorem dL_law_281 : decode cL_law 281 = .ok (.iaload, 1) := dget dh_600 (k := 5) rfl
theorem dL_law_282 : decode cL_law 282 = .ok (.aload_n 0, 1) := dget dh_600 (k := 6) rfl
theorem dL_law_283 : decode cL_law 283 = .ok (.iload_n 3, 1) := dget dh_600 (k := 7) rfl
theorem dL_law_284 : decode cL_law 284 = .ok (.bipush 6, 2) := dget dh_600 (k := 8) rfl
theorem dL_law_286 : decode cL_law 286 = .ok (.iadd, 1) := dget dh_600 (k := 9) rfl
theorem dL_law_287 : decode cL_law 287 = .ok (.iaload, 1) := dget dh_600 (k := 10) rfl
theorem dL_law_288 : decode cL_law 288 = .ok (.ifCond .eq 7, 3) := dget dh_600 (k := 11) rfl
theorem dL_law_291 : decode cL_law 291 = .ok (.iconst 1, 1) := dget dh_600 (k := 12) rfl
theorem dL_law_292 : decode cL_law 292 = .ok (.goto 4, 3) := dget dh_600 (k := 13) rfl
theorem dL_law_295 : decode cL_law 295 = .ok (.iconst 0, 1) := dget dh_600 (k := 14) rfl
theorem dL_law_296 : decode cL_law 296 = .ok (.invokevirtual 23, 3) := dget dh_600 (k := 15) rfl
theorem dL_law_299 : decode cL_law 299 = .ok (.pop, 1) := dget dh_600 (k := 16) rfl
theorem dL_law_300 : decode cL_law 300 = .ok (.aload_n 2, 1) := dget dh_600 (k := 17) rfl
theorem dL_law_301 : decode cL_law 301 = .ok (.aload_n 0, 1) := dget dh_600 (k := 18) rfl
theorem dL_law_302 : decode cL_law 302 = .ok (.iload_n 3, 1) := dget dh_600 (k := 19) rfl
def dl_601 : List (Nat × (Instr × Nat)) := [(303, (.iconst 1, 1)), (304, (.iadd, 1)), (305, (.iaload, 1)), (306, (.aload_n 0, 1)), (307, (.iload_n 3, 1)), (308, (.iconst 2, 1)), (309, (.iadd, 1)), (310, (.iaload, 1)), (311, (.aload_n 0, 1)), (312, (.iload_n 3, 1)), (313, (.iconst 3, 1)), (314, (.iadd, 1)), (315, (.iaload, 1)), (316, (.aload_n 0, 1)), (317, (.iload_n 3, 1)), (318, (.iconst 4, 1)), (319, (.iadd, 1)), (320, (.iaload, 1)), (321, (.aload_n 0, 1)), (322, (.iload_n 3, 1))]
theorem dh_601 : dchk cL_law dl_601 = true := by decide +kernel
theorem dL_law_303 : decode cL_law 303 = .ok (.iconst 1, 1) := dget dh_601 (k := 0) rfl
theorem dL_law_304 : decode cL_law 304 = .ok (.iadd, 1) := dget dh_601 (k := 1) rfl
theorem dL_law_305 : decode cL_law 305 = .ok (.iaload, 1) := dget dh_601 (k := 2) rfl
theorem dL_law_306 : decode cL_law 306 = .ok (.aload_n 0, 1) := dget dh_601 (k := 3) rfl
theorem dL_law_307 : decode cL_law 307 = .ok (.iload_n 3, 1) := dget dh_601 (k := 4) rfl
theorem dL_law_308 : decode cL_law 308 = .ok (.iconst 2, 1) := dget dh_601 (k := 5) rfl
theorem dL_law_309 : decode cL_law 309 = .ok (.iadd, 1) := dget dh_601 (k := 6) rfl
theorem dL_law_310 : decode cL_law 310 = .ok (.iaload, 1) := dget dh_601 (k := 7) rfl
theorem dL_law_311 : decode cL_law 311 = .ok (.aload_n 0, 1) := dget dh_601 (k := 8) rfl
theorem dL_law_312 : decode cL_law 312 = .ok (.iload_n 3, 1) := dget dh_601 (k := 9) rfl
theorem dL_law_313 : decode cL_law 313 = .ok (.iconst 3, 1) := dget dh_601 (k := 10) rfl
theorem dL_law_314 : decode cL_law 314 = .ok (.iadd, 1) := dget dh_601 (k := 11) rfl
theorem dL_law_315 : decode cL_law 315 = .ok (.iaload, 1) := dget dh_601 (k := 12) rfl
theorem dL_law_316 : decode cL_law 316 = .ok (.aload_n 0, 1) := dget dh_601 (k := 13) rfl
theorem dL_law_317 : decode cL_law 317 = .ok (.iload_n 3, 1) := dget dh_601 (k := 14) rfl
theorem dL_law_318 : decode cL_law 318 = .ok (.iconst 4, 1) := dget dh_601 (k := 15) rfl
theorem dL_law_319 : decode cL_law 319 = .ok (.iadd, 1) := dget dh_601 (k := 16) rfl
theorem dL_law_320 : decode cL_law 320 = .ok (.iaload, 1) := dget dh_601 (k := 17) rfl
theorem dL_law_321 : decode cL_law 321 = .ok (.aload_n 0, 1) := dget dh_601 (k := 18) rfl
theorem dL_law_322 : decode cL_law 322 = .ok (.iload_n 3, 1) := dget dh_601 (k := 19) rfl
def dl_602 : List (Nat × (Instr × Nat)) := [(323, (.iconst 5, 1)), (324, (.iadd, 1)), (325, (.iaload, 1)), (326, (.aload_n 0, 1)), (327, (.iload_n 3, 1)), (328, (.bipush 6, 2)), (330, (.iadd, 1)), (331, (.iaload, 1)), (332, (.ifCond .eq 7, 3)), (335, (.iconst 1, 1)), (336, (.goto 4, 3)), (339, (.iconst 0, 1)), (340, (.invokevirtual 27, 3)), (343, (.pop, 1)), (344, (.goto 1181, 3))]
theorem dh_602 : dchk cL_law dl_602 = true := by decide +kernel
theorem dL_law_323 : decode cL_law 323 = .ok (.iconst 5, 1) := dget dh_602 (k := 0) rfl
theorem dL_law_324 : decode cL_law 324 = .ok (.iadd, 1) := dget dh_602 (k := 1) rfl
theorem dL_law_325 : decode cL_law 325 = .ok (.iaload, 1) := dget dh_602 (k := 2) rfl
theorem dL_law_326 : decode cL_law 326 = .ok (.aload_n 0, 1) := dget dh_602 (k := 3) rfl
theorem dL_law_327 : decode cL_law 327 = .ok (.iload_n 3, 1) := dget dh_602 (k := 4) rfl
theorem dL_law_328 : decode cL_law 328 = .ok (.bipush 6, 2) := dget dh_602 (k := 5) rfl
theorem dL_law_330 : decode cL_law 330 = .ok (.iadd, 1) := dget dh_602 (k := 6) rfl
theorem dL_law_331 : decode cL_law 331 = .ok (.iaload, 1) := dget dh_602 (k := 7) rfl
theorem dL_law_332 : decode cL_law 332 = .ok (.ifCond .eq 7, 3) := dget dh_602 (k := 8) rfl
theorem dL_law_335 : decode cL_law 335 = .ok (.iconst 1, 1) := dget dh_602 (k := 9) rfl
theorem dL_law_336 : decode cL_law 336 = .ok (.goto 4, 3) := dget dh_602 (k := 10) rfl
theorem dL_law_339 : decode cL_law 339 = .ok (.iconst 0, 1) := dget dh_602 (k := 11) rfl
theorem dL_law_340 : decode cL_law 340 = .ok (.invokevirtual 27, 3) := dget dh_602 (k := 12) rfl
theorem dL_law_343 : decode cL_law 343 = .ok (.pop, 1) := dget dh_602 (k := 13) rfl
theorem dL_law_344 : decode cL_law 344 = .ok (.goto 1181, 3) := dget dh_602 (k := 14) rfl
theorem gd_out {l : List Int} {k : Nat} {d : Int} (h : l.length ≤ k) : l.getD k d = d := by rw [List.getD_eq_getElem?_getD, List.getElem?_eq_none h]; rfl
theorem HL_new {cy : Nat → ClassId} {gb : Nat → Nat → Nat} {gi : Nat → Nat → Int32} {gr : Nat → Nat → Nat → Int32} {nh : Nat} {X M : va_W} {b : Nat → Nat} {i : Nat → Int32} {r : Nat → Nat → Int32} : ((X ++ (HL cy gb gi gr nh ++ M)) ++ hW cy b i r).Perm (X ++ (HL cy (uf gb nh b) (uf gi nh i) (uf gr nh r) (nh + 1) ++ M)) := by
  show ((X ++ (HL cy gb gi gr nh ++ M)) ++ hW cy b i r).Perm (X ++ ((HL cy (uf gb nh b) (uf gi nh i) (uf gr nh r) nh ++ hW cy (uf gb nh b nh) (uf gi nh i nh) (uf gr nh r nh)) ++ M))
  rw [HL_uf nh (Nat.le_refl nh)]
  have e1 : uf gb nh b nh = b := if_pos rfl
  have e2 : uf gi nh i nh = i := if_pos rfl
  have e3 : uf gr nh r nh = r := if_pos rfl
  rw [e1, e2, e3, List.append_assoc, List.append_assoc, List.append_assoc]
  exact List.Perm.append_left _ (List.Perm.append_left _ List.perm_append_comm)
theorem yi_0 (k : Nat) (hk : k ≠ 18) : yilo k ≤ 0 ∧ 0 ≤ yihi k := by
  by_cases h : k < 25
  · have h1 : ∀ k, k < 25 → k ≠ 18 → yilo k ≤ 0 ∧ 0 ≤ yihi k := by decide
    exact h1 k h hk
  · have e1 : yilo k = -2147483648 := by unfold yilo; exact gd_out (by simp only [List.length_cons, List.length_nil]; omega)
    have e2 : yihi k = 2147483647 := by unfold yihi; exact gd_out (by simp only [List.length_cons, List.length_nil]; omega)
    rw [e1, e2]; decide
theorem yr_0 (p : Nat) : yrlo p ≤ 0 ∧ 0 ≤ yrhi p := by
  by_cases h : p < 76
  · have h1 : ∀ p, p < 76 → yrlo p ≤ 0 ∧ 0 ≤ yrhi p := by decide
    exact h1 p h
  · have e1 : yrlo p = -2147483648 := by unfold yrlo; exact gd_out (by simp only [List.length_cons, List.length_nil]; omega)
    have e2 : yrhi p = 2147483647 := by unfold yrhi; exact gd_out (by simp only [List.length_cons, List.length_nil]; omega)
    rw [e1, e2]; decide
theorem hJ_Ri {p0 p1 p2 p3 p4 p5 : Int32} (hc : (0 ≤ p0.toInt ∧ p0.toInt ≤ 3) ∧ (1 ≤ p1.toInt ∧ p1.toInt ≤ 4) ∧ (0 ≤ p2.toInt ∧ p2.toInt ≤ 999999) ∧ (0 ≤ p3.toInt ∧ p3.toInt ≤ 999) ∧ p3.toInt ≤ p4.toInt ∧ p4.toInt ≤ 999) (hk : p5 = 0 ∨ p5 = 1) : yRi (hJ p0 p1 p2 p3 p4 p5) := by
  intro k
  unfold hJ
  by_cases h17 : k = 17
  · rw [if_pos h17, h17]; exact ⟨hc.1.1, hc.1.2⟩
  rw [if_neg h17]
  by_cases h18 : k = 18
  · rw [if_pos h18, h18]; exact ⟨hc.2.1.1, hc.2.1.2⟩
  rw [if_neg h18]
  by_cases h19 : k = 19
  · rw [if_pos h19, h19]; exact ⟨hc.2.2.1.1, hc.2.2.1.2⟩
  rw [if_neg h19]
  by_cases h20 : k = 20
  · rw [if_pos h20, h20]; exact ⟨hc.2.2.2.1.1, hc.2.2.2.1.2⟩
  rw [if_neg h20]
  by_cases h21 : k = 21
  · rw [if_pos h21, h21]; exact ⟨by show (0 : Int) ≤ p4.toInt; omega, hc.2.2.2.2.2⟩
  rw [if_neg h21]
  by_cases h22 : k = 22
  · rw [if_pos h22, h22]; rcases hk with rfl | rfl <;> decide
  rw [if_neg h22]
  exact yi_0 k h18
theorem hRw_Rr {f : Nat → Int32} (hf : ∀ t, f t = if t < 4 then 1 else 0) : yRr (hRw f) := by
  intro p j
  unfold hRw
  by_cases h : p = 62
  · rw [if_pos h, hf, h]
    by_cases h4 : j < 4
    · rw [if_pos h4]; decide
    · rw [if_neg h4]; decide
  · rw [if_neg h]; exact yr_0 p
theorem LX_new {i : Nat → Int32} {r : Nat → Nat → Int32} {q : Nat → Option Nat} {gb : Nat → Nat → Nat} {gi : Nat → Nat → Int32} {gr : Nat → Nat → Nat → Int32} {nh : Nat} {b : Nat → Nat} {f : Nat → Int32} {v p0 p1 p2 p3 p4 p5 : Int32} (h : LX i r q gb gi gr nh) (hc : (0 ≤ p0.toInt ∧ p0.toInt ≤ 3) ∧ (1 ≤ p1.toInt ∧ p1.toInt ≤ 4) ∧ (0 ≤ p2.toInt ∧ p2.toInt ≤ 999999) ∧ (0 ≤ p3.toInt ∧ p3.toInt ≤ 999) ∧ p3.toInt ≤ p4.toInt ∧ p4.toInt ≤ 999) (h5 : (i 0).toInt ≤ 5) (hk : p5 = 0 ∨ p5 = 1) (hv : v.toInt = (i 0).toInt + 1) (hf : ∀ t, f t = if t < 4 then 1 else 0) : LX (upd i 0 v) r (va_up q (i 0).toNatClampNeg (some (b 61))) (uf gb nh b) (uf gi nh (hJ p0 p1 p2 p3 p4 p5)) (uf gr nh (hRw f)) (nh + 1) := by
  have hn := h.2.1
  have hK : (i 0).toNatClampNeg = nh := by show (i 0).toInt.toNat = nh; omega
  refine ⟨⟨Yi_upd h.1.1 0 v ⟨by show (0 : Int) ≤ v.toInt; omega, by show v.toInt ≤ (6 : Int); omega⟩, h.1.2⟩, ?_, fun k hk9 => ?_⟩
  · have e : upd i 0 v 0 = v := if_pos rfl
    rw [e]; omega
  · rw [hK]
    by_cases e : k = nh
    · refine ⟨?_, ?_, ?_⟩
      · unfold va_up uf; rw [if_pos e, if_pos e]
      · unfold uf; rw [if_pos e]; exact hJ_Ri hc hk
      · unfold uf; rw [if_pos e]; exact hRw_Rr hf
    · have h9 := h.2.2 k (by omega)
      refine ⟨?_, ?_, ?_⟩
      · unfold va_up uf; rw [if_neg e, if_neg e]; exact h9.1
      · unfold uf; rw [if_neg e]; exact h9.2.1
      · unfold uf; rw [if_neg e]; exact h9.2.2
set_option maxHeartbeats 4000000 in
set_option maxRecDepth 100000 in
theorem lc_2 {p : Program} {l : Launch} {e : Env} {s : State} {m : MethodId} {below : List Frame} {meth : Method} {c : Code} {b L : Nat} {xs : Nat → Int32} (C0 : lw_At p s m meth c b L xs) {D : va_G} {cy : Nat → ClassId} {kq vq : Nat} {A : Nat → Prop} (hA : ∀ q, s.heap.size ≤ q → A q) (hbA : ¬ A b) (hK : va_K D vwCl (vT cy) s) (hn : nw s) (hm0 : nm s) (hsk : vk_R RX6 101 "krsoamngcv" kq s ∧ sA kq vq A s s.heap) {a : Nat → Nat} {i : Nat → Int32} {r : Nat → Nat → Int32} {q : Nat → Option Nat} {gb : Nat → Nat → Nat} {gi : Nat → Nat → Int32} {gr : Nat → Nat → Nat → Int32} {nh : Nat} {am : Nat → Nat} {im : Nat → Int32} {rm : Nat → Nat → Int32} {lm : Nat → Int64} (hLX : LX i r q gb gi gr nh) (hLM : LM im rm) (hLR : LR i r gi gr nh im rm) {H : Heap} {locs : List Loc} (hP : va_P D vwCl (xW cy a i r q (a 20) (a 12) ++ (HL cy gb gi gr nh ++ (mW cy am im rm lm))) H) (hD : va_D A (xW cy a i r q (a 20) (a 12) ++ (HL cy gb gi gr nh ++ (mW cy am im rm lm)))) (hS : va_S A s.heap H locs) {ls : Array Slot} {x : Int32} (hl : lv_has ls 4 [(0, .ref b), (1, .ref (a 0)), (2, .ref (am 0)), (3, .int x)]) {j : Nat} (hj : 7 * j + 7 ≤ L) (hL : L ≤ 3584) (hxj : x = nI (7 * j)) {ce sl : Nat} (hce : ce + 15 ≤ 600000) (hsl : sl + 215 ≤ 7302250) (kk : ∀ (a2 : Nat → Nat) (i2 : Nat → Int32) (r2 : Nat → Nat → Int32) (q2 : Nat → Option Nat) (gb2 : Nat → Nat → Nat) (gi2 : Nat → Nat → Int32) (gr2 : Nat → Nat → Nat → Int32) (nh2 : Nat) (im2 : Nat → Int32) (rm2 : Nat → Nat → Int32) (lm2 : Nat → Int64) (H2 : Heap) (locs2 : List Loc) (ls2 : Array Slot), a2 0 = a 0 → LX i2 r2 q2 gb2 gi2 gr2 nh2 → LM im2 rm2 → LR i2 r2 gi2 gr2 nh2 im2 rm2 → va_P D vwCl (xW cy a2 i2 r2 q2 (a2 20) (a2 12) ++ (HL cy gb2 gi2 gr2 nh2 ++ (mW cy am im2 rm2 lm2))) H2 → va_D A (xW cy a2 i2 r2 q2 (a2 20) (a2 12) ++ (HL cy gb2 gi2 gr2 nh2 ++ (mW cy am im2 rm2 lm2))) → va_S A s.heap H2 locs2 → lv_has ls2 4 [(0, .ref b), (1, .ref (a 0)), (2, .ref (am 0)), (3, .int x)] → W p l e room_1 s m #[Value.ref b] below meth c H2 locs2 (ce + 15) (sl + 215) (lw_Z below #[Value.ref b] s) (F0 m 1525 ls2 [])) : W p l e room_1 s m #[Value.ref b] below meth c H locs ce sl (lw_Z below #[Value.ref b] s) (F0 m 256 ls []) := by
  obtain ⟨hx, hb, hr, hml, hown, hts, hX, hbl, hlocks, hgv⟩ := id C0
  have hT : ∀ w ∈ gT, w.before _ s = true := fun w h => hts w (gT_in w h)
  have hx0 : x.toInt = ((7 * j : Nat) : Int) := by rw [hxj]; exact nI_toInt (by omega)
  have hLX0 := hLX
  have hLM0 := hLM
  refine lv_aload_n hx hb dL_law_256 rfl (lv_at hl 1 rfl) ?_
  refine lv_aload_n hx hb dL_law_257 rfl (lv_at hl 0 rfl) ?_
  refine lv_iload_n hx hb dL_law_258 rfl (lv_at hl 3 rfl) ?_
  refine lv_iconst (v := 1) hx hb dL_law_259 (by decide) ?_
  refine lv_iadd hx hb dL_law_260 ?_
  refine lv_topi (fun v_1 ev_1 => ?_)
  have hv_1 : v_1.toInt = x.toInt + 1 := by rw [ev_1]; have := b_rg x; exact i_add (a := x.toInt) (b := 1) rfl rfl (by omega) (by omega)
  refine va_sld hx hb hX hbl hbA hS (vp_inI (by omega) (by omega)) dL_law_261 ?_
  refine lv_topi (fun v_2 ev_2 => ?_)
  obtain rfl : v_2 = xs (7 * j + 1) := ev_2.trans (congrArg xs (nI_ix hxj (by omega) (by omega)))
  refine lv_aload_n hx hb dL_law_262 rfl (lv_at hl 0 rfl) ?_
  refine lv_iload_n hx hb dL_law_263 rfl (lv_at hl 3 rfl) ?_
  refine lv_iconst (v := 2) hx hb dL_law_264 (by decide) ?_
  refine lv_iadd hx hb dL_law_265 ?_
  refine lv_topi (fun v_3 ev_3 => ?_)
  have hv_3 : v_3.toInt = x.toInt + 2 := by rw [ev_3]; have := b_rg x; exact i_add (a := x.toInt) (b := 2) rfl rfl (by omega) (by omega)
  refine va_sld hx hb hX hbl hbA hS (vp_inI (by omega) (by omega)) dL_law_266 ?_
  refine lv_topi (fun v_4 ev_4 => ?_)
  obtain rfl : v_4 = xs (7 * j + 2) := ev_4.trans (congrArg xs (nI_ix hxj (by omega) (by omega)))
  refine lv_aload_n hx hb dL_law_267 rfl (lv_at hl 0 rfl) ?_
  refine lv_iload_n hx hb dL_law_268 rfl (lv_at hl 3 rfl) ?_
  refine lv_iconst (v := 3) hx hb dL_law_269 (by decide) ?_
  refine lv_iadd hx hb dL_law_270 ?_
  refine lv_topi (fun v_5 ev_5 => ?_)
  have hv_5 : v_5.toInt = x.toInt + 3 := by rw [ev_5]; have := b_rg x; exact i_add (a := x.toInt) (b := 3) rfl rfl (by omega) (by omega)
  refine va_sld hx hb hX hbl hbA hS (vp_inI (by omega) (by omega)) dL_law_271 ?_
  refine lv_topi (fun v_6 ev_6 => ?_)
  obtain rfl : v_6 = xs (7 * j + 3) := ev_6.trans (congrArg xs (nI_ix hxj (by omega) (by omega)))
  refine lv_aload_n hx hb dL_law_272 rfl (lv_at hl 0 rfl) ?_
  refine lv_iload_n hx hb dL_law_273 rfl (lv_at hl 3 rfl) ?_
  refine lv_iconst (v := 4) hx hb dL_law_274 (by decide) ?_
  refine lv_iadd hx hb dL_law_275 ?_
  refine lv_topi (fun v_7 ev_7 => ?_)
  have hv_7 : v_7.toInt = x.toInt + 4 := by rw [ev_7]; have := b_rg x; exact i_add (a := x.toInt) (b := 4) rfl rfl (by omega) (by omega)
  refine va_sld hx hb hX hbl hbA hS (vp_inI (by omega) (by omega)) dL_law_276 ?_
  refine lv_topi (fun v_8 ev_8 => ?_)
  obtain rfl : v_8 = xs (7 * j + 4) := ev_8.trans (congrArg xs (nI_ix hxj (by omega) (by omega)))
  refine lv_aload_n hx hb dL_law_277 rfl (lv_at hl 0 rfl) ?_
  refine lv_iload_n hx hb dL_law_278 rfl (lv_at hl 3 rfl) ?_
  refine lv_iconst (v := 5) hx hb dL_law_279 (by decide) ?_
  refine lv_iadd hx hb dL_law_280 ?_
  refine lv_topi (fun v_9 ev_9 => ?_)
  have hv_9 : v_9.toInt = x.toInt + 5 := by rw [ev_9]; have := b_rg x; exact i_add (a := x.toInt) (b := 5) rfl rfl (by omega) (by omega)
  refine va_sld hx hb hX hbl hbA hS (vp_inI (by omega) (by omega)) dL_law_281 ?_
  refine lv_topi (fun v_10 ev_10 => ?_)
  obtain rfl : v_10 = xs (7 * j + 5) := ev_10.trans (congrArg xs (nI_ix hxj (by omega) (by omega)))
  refine lv_aload_n hx hb dL_law_282 rfl (lv_at hl 0 rfl) ?_
  refine lv_iload_n hx hb dL_law_283 rfl (lv_at hl 3 rfl) ?_
  refine lv_bipush (v := 6) hx hb dL_law_284 (by decide) ?_
  refine lv_iadd hx hb dL_law_286 ?_
  refine lv_topi (fun v_11 ev_11 => ?_)
  have hv_11 : v_11.toInt = x.toInt + 6 := by rw [ev_11]; have := b_rg x; exact i_add (a := x.toInt) (b := 6) rfl rfl (by omega) (by omega)
  refine va_sld hx hb hX hbl hbA hS (vp_inI (by omega) (by omega)) dL_law_287 ?_
  refine lv_topi (fun v_12 ev_12 => ?_)
  obtain rfl : v_12 = xs (7 * j + 6) := ev_12.trans (congrArg xs (nI_ix hxj (by omega) (by omega)))
  refine lv_if_eq (tgt := 295) hx hb dL_law_288 (by decide) (fun c_13 => ?_) (fun c_13 => ?_)
  · have c_13 : (xs (7 * j + 6)).toInt = 0 := b_eq c_13
    refine lv_iconst (v := 0) hx hb dL_law_295 (by decide) ?_
    by_cases hv : ((0 ≤ (xs (7 * j + 1)).toInt ∧ (xs (7 * j + 1)).toInt ≤ 3) ∧ (1 ≤ (xs (7 * j + 2)).toInt ∧ (xs (7 * j + 2)).toInt ≤ 4) ∧ (0 ≤ (xs (7 * j + 3)).toInt ∧ (xs (7 * j + 3)).toInt ≤ 999999) ∧ (0 ≤ (xs (7 * j + 4)).toInt ∧ (xs (7 * j + 4)).toInt ≤ 999) ∧ (xs (7 * j + 4)).toInt ≤ (xs (7 * j + 5)).toInt ∧ (xs (7 * j + 5)).toInt ≤ 999) ∧ (i 0).toInt ≤ 5
    · have hnw := hn
      have hA9 : ∀ q : Nat, H.size ≤ q → A q := fun q h => hA q (Nat.le_trans hS.1 h)
      have hP_14 := hP.sub (ws' := [(a 0, .inr (11, [.ref (a 1), .ref (a 4), .int (i 0), .ref (a 5), .ref (a 8), .ref (a 10), .ref (a 20), .ref (a 28), .ref (a 29), .ref (a 40), .int (i 1), .ref (a 51), .ref (a 54), .ref (a 58)])), (a 4, .inl (cy 4, 6, .inr (.inr (.inr (.inr q)))))]) [0, 4] rfl
      have hD_16 := hD.sub (ws' := [(a 0, .inr (11, [.ref (a 1), .ref (a 4), .int (i 0), .ref (a 5), .ref (a 8), .ref (a 10), .ref (a 20), .ref (a 28), .ref (a 29), .ref (a 40), .int (i 1), .ref (a 51), .ref (a 54), .ref (a 58)])), (a 4, .inl (cy 4, 6, .inr (.inr (.inr (.inr q)))))]) [0, 4] (by decide) rfl
      have hF_15 := va_free (wc := [(a 0, .inr (11, [.ref (a 1), .ref (a 4), .int (i 0), .ref (a 5), .ref (a 8), .ref (a 10), .ref (a 20), .ref (a 28), .ref (a 29), .ref (a 40), .int (i 1), .ref (a 51), .ref (a 54), .ref (a 58)])), (a 4, .inl (cy 4, 6, .inr (.inr (.inr (.inr q)))))]) hD hS hA [0, 4] rfl
      refine va_calli (va_runV (As := [.int (xs (7 * j + 1)), .int (xs (7 * j + 2)), .int (xs (7 * j + 3)), .int (xs (7 * j + 4)), .int (xs (7 * j + 5)), .int 0]) (rest := []) ⟨hx, hb, hml, hown, hT⟩ (c_X11_home_ok l D cy (a 0) (a 1) (a 4) (i 0) (a 5) (a 8) (a 10) (a 20) (a 28) (a 29) (a 40) (i 1) (a 51) (a 54) (a 58) q (xs (7 * j + 1)) (xs (7 * j + 2)) (xs (7 * j + 3)) (xs (7 * j + 4)) (xs (7 * j + 5)) 0 _ hv.1 (⟨(hLX.1.1 0).1, hv.2⟩) (Or.inl rfl)) (cwV 6 hT (gV t_1170 t_1171 t_1172 t_1173 t_2) rfl rfl rfl (by decide +kernel) ⟨Nat.le_of_ble_eq_true rfl, Nat.le_of_ble_eq_true rfl⟩) (rN_v hnw hP_14 hK hD_16 (va_recv hK hP_14 (ci := 11) (q0 := 0) rfl rfl)) rfl rfl hl.1 rfl (lv_room (Nat.le_of_ble_eq_true rfl)) dL_law_296 ⟨by show _ ≤ (600000 : Nat); omega, by show _ ≤ (7302250 : Nat); omega⟩) hS (fun q _ h => hF_15 q h) hF_15 (fun r_17 u_18 t H1 locs ht hvm hr_17 hB hz1 hk1 hS => ?_)
      obtain ⟨b9, f9, v9⟩ := u_18
      obtain ⟨hP1, hK1, hD1⟩ := hB
      rw [ht] at hP1
      obtain ⟨hz9, hv9, hf9⟩ := hr_17
      have hP1 : va_P D vwCl ([(a 0, .inr (11, [.ref (a 1), .ref (a 4), .int v9, .ref (a 5), .ref (a 8), .ref (a 10), .ref (a 20), .ref (a 28), .ref (a 29), .ref (a 40), .int (i 1), .ref (a 51), .ref (a 54), .ref (a 58)])), (a 4, .inl (cy 4, 6, .inr (.inr (.inr (.inr (va_up q (i 0).toNatClampNeg (some (b9 61))))))))] ++ hW cy b9 (hJ (xs (7 * j + 1)) (xs (7 * j + 2)) (xs (7 * j + 3)) (xs (7 * j + 4)) (xs (7 * j + 5)) 0) (hRw f9)) H1 := hP1
      have hD1 : va_D (va_A [(a 0, .inr (11, [.ref (a 1), .ref (a 4), .int (i 0), .ref (a 5), .ref (a 8), .ref (a 10), .ref (a 20), .ref (a 28), .ref (a 29), .ref (a 40), .int (i 1), .ref (a 51), .ref (a 54), .ref (a 58)])), (a 4, .inl (cy 4, 6, .inr (.inr (.inr (.inr q)))))] H.size) ([(a 0, .inr (11, [.ref (a 1), .ref (a 4), .int v9, .ref (a 5), .ref (a 8), .ref (a 10), .ref (a 20), .ref (a 28), .ref (a 29), .ref (a 40), .int (i 1), .ref (a 51), .ref (a 54), .ref (a 58)])), (a 4, .inl (cy 4, 6, .inr (.inr (.inr (.inr (va_up q (i 0).toNatClampNeg (some (b9 61))))))))] ++ hW cy b9 (hJ (xs (7 * j + 1)) (xs (7 * j + 2)) (xs (7 * j + 3)) (xs (7 * j + 4)) (xs (7 * j + 5)) 0) (hRw f9)) := hD1
      have hv9 : v9.toInt = (i 0).toInt + 1 := hv9
      have hf9 : ∀ t, f9 t = if t < 4 then 1 else 0 := hf9
      obtain ⟨hP, hD⟩ := joinN (w2 := [(a 0, .inr (11, [.ref (a 1), .ref (a 4), .int (i 0), .ref (a 5), .ref (a 8), .ref (a 10), .ref (a 20), .ref (a 28), .ref (a 29), .ref (a 40), .int (i 1), .ref (a 51), .ref (a 54), .ref (a 58)])), (a 4, .inl (cy 4, 6, .inr (.inr (.inr (.inr q)))))]) (w3 := [(a 0, .inr (11, [.ref (a 1), .ref (a 4), .int v9, .ref (a 5), .ref (a 8), .ref (a 10), .ref (a 20), .ref (a 28), .ref (a 29), .ref (a 40), .int (i 1), .ref (a 51), .ref (a 54), .ref (a 58)])), (a 4, .inl (cy 4, 6, .inr (.inr (.inr (.inr (va_up q (i 0).toNatClampNeg (some (b9 61))))))))]) (wn := hW cy b9 (hJ (xs (7 * j + 1)) (xs (7 * j + 2)) (xs (7 * j + 3)) (xs (7 * j + 4)) (xs (7 * j + 5)) 0) (hRw f9)) hP hD [0, 4] rfl rfl hk1 hP1 hD1 hA9
      have hP : va_P D vwCl ((xW cy a (upd i 0 v9) r (va_up q (i 0).toNatClampNeg (some (b9 61))) (a 20) (a 12) ++ (HL cy gb gi gr nh ++ (mW cy am im rm lm))) ++ hW cy b9 (hJ (xs (7 * j + 1)) (xs (7 * j + 2)) (xs (7 * j + 3)) (xs (7 * j + 4)) (xs (7 * j + 5)) 0) (hRw f9)) H1 := hP
      have hD : va_D A ((xW cy a (upd i 0 v9) r (va_up q (i 0).toNatClampNeg (some (b9 61))) (a 20) (a 12) ++ (HL cy gb gi gr nh ++ (mW cy am im rm lm))) ++ hW cy b9 (hJ (xs (7 * j + 1)) (xs (7 * j + 2)) (xs (7 * j + 3)) (xs (7 * j + 4)) (xs (7 * j + 5)) 0) (hRw f9)) := hD
      have hP := vaP_perm HL_new hP
      have hD := vaD_perm HL_new hD
      have hCX := CX_home (nh := nh) (i := i) (r := r) (gi := gi) (gr := gr) (v := v9) (J := (hJ (xs (7 * j + 1)) (xs (7 * j + 2)) (xs (7 * j + 3)) (xs (7 * j + 4)) (xs (7 * j + 5)) 0)) (Jr := hRw f9)
      have hN0 := hLX.2.1
      have hLX := LX_new (b := b9) hLX hv.1 hv.2 (Or.inl rfl) hv9 hf9
      refine lv_pop hx hb dL_law_299 rfl ?_
      refine lv_aload_n hx hb dL_law_300 rfl (lv_at hl 2 rfl) ?_
      refine lv_aload_n hx hb dL_law_301 rfl (lv_at hl 0 rfl) ?_
      refine lv_iload_n hx hb dL_law_302 rfl (lv_at hl 3 rfl) ?_
      refine lv_iconst (v := 1) hx hb dL_law_303 (by decide) ?_
      refine lv_iadd hx hb dL_law_304 ?_
      refine lv_topi (fun v_19 ev_19 => ?_)
      have hv_19 : v_19.toInt = x.toInt + 1 := by rw [ev_19]; have := b_rg x; exact i_add (a := x.toInt) (b := 1) rfl rfl (by omega) (by omega)
      refine va_sld hx hb hX hbl hbA hS (vp_inI (by omega) (by omega)) dL_law_305 ?_
      refine lv_topi (fun v_20 ev_20 => ?_)
      obtain rfl : v_20 = xs (7 * j + 1) := ev_20.trans (congrArg xs (nI_ix hxj (by omega) (by omega)))
      refine lv_aload_n hx hb dL_law_306 rfl (lv_at hl 0 rfl) ?_
      refine lv_iload_n hx hb dL_law_307 rfl (lv_at hl 3 rfl) ?_
      refine lv_iconst (v := 2) hx hb dL_law_308 (by decide) ?_
      refine lv_iadd hx hb dL_law_309 ?_
      refine lv_topi (fun v_21 ev_21 => ?_)
      have hv_21 : v_21.toInt = x.toInt + 2 := by rw [ev_21]; have := b_rg x; exact i_add (a := x.toInt) (b := 2) rfl rfl (by omega) (by omega)
      refine va_sld hx hb hX hbl hbA hS (vp_inI (by omega) (by omega)) dL_law_310 ?_
      refine lv_topi (fun v_22 ev_22 => ?_)
      obtain rfl : v_22 = xs (7 * j + 2) := ev_22.trans (congrArg xs (nI_ix hxj (by omega) (by omega)))
      refine lv_aload_n hx hb dL_law_311 rfl (lv_at hl 0 rfl) ?_
      refine lv_iload_n hx hb dL_law_312 rfl (lv_at hl 3 rfl) ?_
      refine lv_iconst (v := 3) hx hb dL_law_313 (by decide) ?_
      refine lv_iadd hx hb dL_law_314 ?_
      refine lv_topi (fun v_23 ev_23 => ?_)
      have hv_23 : v_23.toInt = x.toInt + 3 := by rw [ev_23]; have := b_rg x; exact i_add (a := x.toInt) (b := 3) rfl rfl (by omega) (by omega)
      refine va_sld hx hb hX hbl hbA hS (vp_inI (by omega) (by omega)) dL_law_315 ?_
      refine lv_topi (fun v_24 ev_24 => ?_)
      obtain rfl : v_24 = xs (7 * j + 3) := ev_24.trans (congrArg xs (nI_ix hxj (by omega) (by omega)))
      refine lv_aload_n hx hb dL_law_316 rfl (lv_at hl 0 rfl) ?_
      refine lv_iload_n hx hb dL_law_317 rfl (lv_at hl 3 rfl) ?_
      refine lv_iconst (v := 4) hx hb dL_law_318 (by decide) ?_
      refine lv_iadd hx hb dL_law_319 ?_
      refine lv_topi (fun v_25 ev_25 => ?_)
      have hv_25 : v_25.toInt = x.toInt + 4 := by rw [ev_25]; have := b_rg x; exact i_add (a := x.toInt) (b := 4) rfl rfl (by omega) (by omega)
      refine va_sld hx hb hX hbl hbA hS (vp_inI (by omega) (by omega)) dL_law_320 ?_
      refine lv_topi (fun v_26 ev_26 => ?_)
      obtain rfl : v_26 = xs (7 * j + 4) := ev_26.trans (congrArg xs (nI_ix hxj (by omega) (by omega)))
      refine lv_aload_n hx hb dL_law_321 rfl (lv_at hl 0 rfl) ?_
      refine lv_iload_n hx hb dL_law_322 rfl (lv_at hl 3 rfl) ?_
      refine lv_iconst (v := 5) hx hb dL_law_323 (by decide) ?_
      refine lv_iadd hx hb dL_law_324 ?_
      refine lv_topi (fun v_27 ev_27 => ?_)
      have hv_27 : v_27.toInt = x.toInt + 5 := by rw [ev_27]; have := b_rg x; exact i_add (a := x.toInt) (b := 5) rfl rfl (by omega) (by omega)
      refine va_sld hx hb hX hbl hbA hS (vp_inI (by omega) (by omega)) dL_law_325 ?_
      refine lv_topi (fun v_28 ev_28 => ?_)
      obtain rfl : v_28 = xs (7 * j + 5) := ev_28.trans (congrArg xs (nI_ix hxj (by omega) (by omega)))
      refine lv_aload_n hx hb dL_law_326 rfl (lv_at hl 0 rfl) ?_
      refine lv_iload_n hx hb dL_law_327 rfl (lv_at hl 3 rfl) ?_
      refine lv_bipush (v := 6) hx hb dL_law_328 (by decide) ?_
      refine lv_iadd hx hb dL_law_330 ?_
      refine lv_topi (fun v_29 ev_29 => ?_)
      have hv_29 : v_29.toInt = x.toInt + 6 := by rw [ev_29]; have := b_rg x; exact i_add (a := x.toInt) (b := 6) rfl rfl (by omega) (by omega)
      refine va_sld hx hb hX hbl hbA hS (vp_inI (by omega) (by omega)) dL_law_331 ?_
      refine lv_topi (fun v_30 ev_30 => ?_)
      obtain rfl : v_30 = xs (7 * j + 6) := ev_30.trans (congrArg xs (nI_ix hxj (by omega) (by omega)))
      refine lv_if_eq (tgt := 339) hx hb dL_law_332 (by decide) (fun c_31 => ?_) (fun c_31 => by have c_31 : (xs (7 * j + 6)).toInt ≠ 0 := b_ne c_31; omega)
      have c_31 : (xs (7 * j + 6)).toInt = 0 := b_eq c_31
      refine lv_iconst (v := 0) hx hb dL_law_339 (by decide) ?_
      have hPa := hP
      have hDa := hD
      have hP := vaP_r (vaP_r hPa)
      have hD := vaD_r (vaD_r hDa)
      have hRi := hLM.1
      have hRr := hLM.2.1
      have hE := hLM.2.2
      have hF_32 := rF hD hS hA
      refine va_calli (va_runV (As := [.int (xs (7 * j + 1)), .int (xs (7 * j + 2)), .int (xs (7 * j + 3)), .int (xs (7 * j + 4)), .int (xs (7 * j + 5)), .int 0]) (rest := []) ⟨hx, hb, hml, hown, hT⟩ (c_X12_home9 l D cy am im rm lm (xs (7 * j + 1)) (xs (7 * j + 2)) (xs (7 * j + 3)) (xs (7 * j + 4)) (xs (7 * j + 5)) 0 _ hRi hRr hE) (cwV 6 hT (gV t_1174 t_1175 t_1176 t_1177 t_6) rfl rfl rfl (by decide +kernel) ⟨Nat.le_of_ble_eq_true rfl, Nat.le_of_ble_eq_true rfl⟩) (rQ_v hP hK hD (va_recv hK hP (ci := 12) (q0 := 0) rfl rfl)) rfl rfl hl.1 rfl (lv_room (Nat.le_of_ble_eq_true rfl)) dL_law_340 ⟨by show _ ≤ (600000 : Nat); omega, by show _ ≤ (7302250 : Nat); omega⟩) hS (fun q _ h => hF_32 q h) hF_32 (fun r_33 u_34 t H1 locs ht hvm hr_33 hB hz1 hk1 hS => ?_)
      obtain ⟨i34, r34⟩ := u_34
      obtain ⟨hP, hK1, hD1⟩ := hB
      rw [ht] at hP
      have hD := hD1.weaken (fun k q _ h => hF_32 q.1 h)
      have hP : va_P D vwCl (mW cy am i34 r34 lm) H1 := hP
      have hD : va_D A (mW cy am i34 r34 lm) := hD
      obtain ⟨hRi, hRr, hE1, hE2, hr_33⟩ := hr_33
      have hRi : mRi i34 := hRi
      have hRr : mRr r34 := hRr
      obtain ⟨hP, hD⟩ := joinM hPa hDa hk1 hP rfl
      obtain ⟨hmE, hr_33⟩ := hr_33
      have hLM : LM i34 r34 := ⟨hRi, hRr, hmE⟩
      have hMI : mEi [0] im i34 := hE1
      have hMR : mEr [3, 4, 5, 6, 7, 8, 19] rm r34 := hE2
      obtain ⟨hL1, hL2, hL3⟩ := id hLR
      obtain ⟨kH, kK, kN, kX, kY, _⟩ := id hL1
      have hmr : (((0 ≤ (xs (7 * j + 1)).toInt ∧ (xs (7 * j + 1)).toInt ≤ 3) ∧ (1 ≤ (xs (7 * j + 2)).toInt ∧ (xs (7 * j + 2)).toInt ≤ 4) ∧ (0 ≤ (xs (7 * j + 3)).toInt ∧ (xs (7 * j + 3)).toInt ≤ 999999) ∧ (0 ≤ (xs (7 * j + 4)).toInt ∧ (xs (7 * j + 4)).toInt ≤ 999) ∧ (xs (7 * j + 4)).toInt ≤ (xs (7 * j + 5)).toInt ∧ (xs (7 * j + 5)).toInt ≤ 999 ∧ (im 0).toInt ≤ 5) → r_33.toInt = (im 0).toInt ∧ (i34 0).toInt = (im 0).toInt + 1 ∧ (r34) 3 = upd (rm 3) (im 0).toNatClampNeg (xs (7 * j + 1)) ∧ (r34) 4 = upd (rm 4) (im 0).toNatClampNeg (xs (7 * j + 2)) ∧ (r34) 5 = upd (rm 5) (im 0).toNatClampNeg (xs (7 * j + 3)) ∧ (r34) 6 = upd (rm 6) (im 0).toNatClampNeg (xs (7 * j + 4)) ∧ (r34) 7 = upd (rm 7) (im 0).toNatClampNeg (xs (7 * j + 5)) ∧ (r34) 19 = upd (rm 19) (im 0).toNatClampNeg (vp_nar .boolean (0 : Int32)) ∧ (∀ t, t < 4 → (r34) 8 (4 * (im 0).toNatClampNeg + t) = 1) ∧ ∀ j, ¬ (4 * (im 0).toNatClampNeg ≤ j ∧ j < 4 * (im 0).toNatClampNeg + 4) → (r34) 8 j = rm 8 j) ∧ (¬ ((0 ≤ (xs (7 * j + 1)).toInt ∧ (xs (7 * j + 1)).toInt ≤ 3) ∧ (1 ≤ (xs (7 * j + 2)).toInt ∧ (xs (7 * j + 2)).toInt ≤ 4) ∧ (0 ≤ (xs (7 * j + 3)).toInt ∧ (xs (7 * j + 3)).toInt ≤ 999999) ∧ (0 ≤ (xs (7 * j + 4)).toInt ∧ (xs (7 * j + 4)).toInt ≤ 999) ∧ (xs (7 * j + 4)).toInt ≤ (xs (7 * j + 5)).toInt ∧ (xs (7 * j + 5)).toInt ≤ 999 ∧ (im 0).toInt ≤ 5) → r_33 = -1 ∧ mEi [] im i34 ∧ mEr [] rm r34) := hr_33
      have e0 : im 0 = i 0 := kH
      rw [e0] at hmr
      obtain ⟨b1, b2, b3, b4, b5, b6, b7, b19, b8, b8n⟩ := hmr.1 ⟨hv.1.1, hv.1.2.1, hv.1.2.2.1, hv.1.2.2.2.1, hv.1.2.2.2.2.1, hv.1.2.2.2.2.2, hv.2⟩
      have hEQ : r_17 = r_33 := Int32.toInt_inj.mp (by rw [b1, (hz9 : r_17 = i 0)])
      have hNc : (i 0).toNatClampNeg = nh := by show (i 0).toInt.toNat = _; omega
      rw [hNc] at b3 b4 b5 b6 b7 b19 b8 b8n
      have hLR : LR (upd i 0 v9) r (uf gi nh (hJ (xs (7 * j + 1)) (xs (7 * j + 2)) (xs (7 * j + 3)) (xs (7 * j + 4)) (xs (7 * j + 5)) 0)) (uf gr nh (hRw f9)) (nh + 1) i34 r34 := ⟨⟨(Int32.toInt_inj.mp (b2.trans hv9.symm) : i34 0 = (upd i 0 v9) 0), RI1_same kK hMI (by decide) hCX (by decide) (by decide), RHR_home0 kN hMR (by decide) (fun _ => rfl), RI1_same kX hMI (by decide) hCX (by decide) (by decide), RIK_same kY hMI (by decide) hCX (by decide) (by decide), trivial⟩, trivial, trivial⟩
      refine lv_pop hx hb dL_law_343 rfl ?_
      refine lv_goto (tgt := 1525) hx hb dL_law_344 (by decide) ?_
      refine W.widen (k := ce + 15) (n := sl + 215) (by omega) (by omega) ?_
      exact kk a _ _ _ _ _ _ _ _ _ _ _ _ _ rfl hLX hLM hLR hP hD hS (lv_sub hl [0, 1, 2, 3] rfl)
    · skip
      have hRi := hLX.1.1
      have hRr := hLX.1.2
      refine vp_callSi (W.runV (As := [.int (xs (7 * j + 1)), .int (xs (7 * j + 2)), .int (xs (7 * j + 3)), .int (xs (7 * j + 4)), .int (xs (7 * j + 5)), .int 0]) (rest := []) ⟨hx, hb, hml, hown, hT⟩ (c_X11_home.b l D cy a i r q (HL cy gb gi gr nh ++ (mW cy am im rm lm)) (xs (7 * j + 1)) (xs (7 * j + 2)) (xs (7 * j + 3)) (xs (7 * j + 4)) (xs (7 * j + 5)) 0 hRi hRr hv) (cwV 6 hT (gV t_1170 t_1171 t_1172 t_1173 t_2) rfl rfl rfl (by decide +kernel) ⟨Nat.le_of_ble_eq_true rfl, Nat.le_of_ble_eq_true rfl⟩) (rP_v hP hK (va_recv hK hP (ci := 11) (q0 := 0) rfl rfl)) rfl rfl hl.1 rfl (lv_room (Nat.le_of_ble_eq_true rfl)) dL_law_296 ⟨by show _ ≤ (600000 : Nat); omega, by show _ ≤ (7302250 : Nat); omega⟩) (fun r_35 hr_35 => ?_)
      have hCX := CX_rf (i := i) (r := r) (gi := gi) (gr := gr) (nh := nh)
      refine lv_pop hx hb dL_law_299 rfl ?_
      refine lv_aload_n hx hb dL_law_300 rfl (lv_at hl 2 rfl) ?_
      refine lv_aload_n hx hb dL_law_301 rfl (lv_at hl 0 rfl) ?_
      refine lv_iload_n hx hb dL_law_302 rfl (lv_at hl 3 rfl) ?_
      refine lv_iconst (v := 1) hx hb dL_law_303 (by decide) ?_
      refine lv_iadd hx hb dL_law_304 ?_
      refine lv_topi (fun v_36 ev_36 => ?_)
      have hv_36 : v_36.toInt = x.toInt + 1 := by rw [ev_36]; have := b_rg x; exact i_add (a := x.toInt) (b := 1) rfl rfl (by omega) (by omega)
      refine va_sld hx hb hX hbl hbA hS (vp_inI (by omega) (by omega)) dL_law_305 ?_
      refine lv_topi (fun v_37 ev_37 => ?_)
      obtain rfl : v_37 = xs (7 * j + 1) := ev_37.trans (congrArg xs (nI_ix hxj (by omega) (by omega)))
      refine lv_aload_n hx hb dL_law_306 rfl (lv_at hl 0 rfl) ?_
      refine lv_iload_n hx hb dL_law_307 rfl (lv_at hl 3 rfl) ?_
      refine lv_iconst (v := 2) hx hb dL_law_308 (by decide) ?_
      refine lv_iadd hx hb dL_law_309 ?_
      refine lv_topi (fun v_38 ev_38 => ?_)
      have hv_38 : v_38.toInt = x.toInt + 2 := by rw [ev_38]; have := b_rg x; exact i_add (a := x.toInt) (b := 2) rfl rfl (by omega) (by omega)
      refine va_sld hx hb hX hbl hbA hS (vp_inI (by omega) (by omega)) dL_law_310 ?_
      refine lv_topi (fun v_39 ev_39 => ?_)
      obtain rfl : v_39 = xs (7 * j + 2) := ev_39.trans (congrArg xs (nI_ix hxj (by omega) (by omega)))
      refine lv_aload_n hx hb dL_law_311 rfl (lv_at hl 0 rfl) ?_
      refine lv_iload_n hx hb dL_law_312 rfl (lv_at hl 3 rfl) ?_
      refine lv_iconst (v := 3) hx hb dL_law_313 (by decide) ?_
      refine lv_iadd hx hb dL_law_314 ?_
      refine lv_topi (fun v_40 ev_40 => ?_)
      have hv_40 : v_40.toInt = x.toInt + 3 := by rw [ev_40]; have := b_rg x; exact i_add (a := x.toInt) (b := 3) rfl rfl (by omega) (by omega)
      refine va_sld hx hb hX hbl hbA hS (vp_inI (by omega) (by omega)) dL_law_315 ?_
      refine lv_topi (fun v_41 ev_41 => ?_)
      obtain rfl : v_41 = xs (7 * j + 3) := ev_41.trans (congrArg xs (nI_ix hxj (by omega) (by omega)))
      refine lv_aload_n hx hb dL_law_316 rfl (lv_at hl 0 rfl) ?_
      refine lv_iload_n hx hb dL_law_317 rfl (lv_at hl 3 rfl) ?_
      refine lv_iconst (v := 4) hx hb dL_law_318 (by decide) ?_
      refine lv_iadd hx hb dL_law_319 ?_
      refine lv_topi (fun v_42 ev_42 => ?_)
      have hv_42 : v_42.toInt = x.toInt + 4 := by rw [ev_42]; have := b_rg x; exact i_add (a := x.toInt) (b := 4) rfl rfl (by omega) (by omega)
      refine va_sld hx hb hX hbl hbA hS (vp_inI (by omega) (by omega)) dL_law_320 ?_
      refine lv_topi (fun v_43 ev_43 => ?_)
      obtain rfl : v_43 = xs (7 * j + 4) := ev_43.trans (congrArg xs (nI_ix hxj (by omega) (by omega)))
      refine lv_aload_n hx hb dL_law_321 rfl (lv_at hl 0 rfl) ?_
      refine lv_iload_n hx hb dL_law_322 rfl (lv_at hl 3 rfl) ?_
      refine lv_iconst (v := 5) hx hb dL_law_323 (by decide) ?_
      refine lv_iadd hx hb dL_law_324 ?_
      refine lv_topi (fun v_44 ev_44 => ?_)
      have hv_44 : v_44.toInt = x.toInt + 5 := by rw [ev_44]; have := b_rg x; exact i_add (a := x.toInt) (b := 5) rfl rfl (by omega) (by omega)
      refine va_sld hx hb hX hbl hbA hS (vp_inI (by omega) (by omega)) dL_law_325 ?_
      refine lv_topi (fun v_45 ev_45 => ?_)
      obtain rfl : v_45 = xs (7 * j + 5) := ev_45.trans (congrArg xs (nI_ix hxj (by omega) (by omega)))
      refine lv_aload_n hx hb dL_law_326 rfl (lv_at hl 0 rfl) ?_
      refine lv_iload_n hx hb dL_law_327 rfl (lv_at hl 3 rfl) ?_
      refine lv_bipush (v := 6) hx hb dL_law_328 (by decide) ?_
      refine lv_iadd hx hb dL_law_330 ?_
      refine lv_topi (fun v_46 ev_46 => ?_)
      have hv_46 : v_46.toInt = x.toInt + 6 := by rw [ev_46]; have := b_rg x; exact i_add (a := x.toInt) (b := 6) rfl rfl (by omega) (by omega)
      refine va_sld hx hb hX hbl hbA hS (vp_inI (by omega) (by omega)) dL_law_331 ?_
      refine lv_topi (fun v_47 ev_47 => ?_)
      obtain rfl : v_47 = xs (7 * j + 6) := ev_47.trans (congrArg xs (nI_ix hxj (by omega) (by omega)))
      refine lv_if_eq (tgt := 339) hx hb dL_law_332 (by decide) (fun c_48 => ?_) (fun c_48 => by have c_48 : (xs (7 * j + 6)).toInt ≠ 0 := b_ne c_48; omega)
      have c_48 : (xs (7 * j + 6)).toInt = 0 := b_eq c_48
      refine lv_iconst (v := 0) hx hb dL_law_339 (by decide) ?_
      have hPa := hP
      have hDa := hD
      have hP := vaP_r (vaP_r hPa)
      have hD := vaD_r (vaD_r hDa)
      have hRi := hLM.1
      have hRr := hLM.2.1
      have hE := hLM.2.2
      have hF_49 := rF hD hS hA
      refine va_calli (va_runV (As := [.int (xs (7 * j + 1)), .int (xs (7 * j + 2)), .int (xs (7 * j + 3)), .int (xs (7 * j + 4)), .int (xs (7 * j + 5)), .int 0]) (rest := []) ⟨hx, hb, hml, hown, hT⟩ (c_X12_home9 l D cy am im rm lm (xs (7 * j + 1)) (xs (7 * j + 2)) (xs (7 * j + 3)) (xs (7 * j + 4)) (xs (7 * j + 5)) 0 _ hRi hRr hE) (cwV 6 hT (gV t_1174 t_1175 t_1176 t_1177 t_6) rfl rfl rfl (by decide +kernel) ⟨Nat.le_of_ble_eq_true rfl, Nat.le_of_ble_eq_true rfl⟩) (rQ_v hP hK hD (va_recv hK hP (ci := 12) (q0 := 0) rfl rfl)) rfl rfl hl.1 rfl (lv_room (Nat.le_of_ble_eq_true rfl)) dL_law_340 ⟨by show _ ≤ (600000 : Nat); omega, by show _ ≤ (7302250 : Nat); omega⟩) hS (fun q _ h => hF_49 q h) hF_49 (fun r_50 u_51 t H1 locs ht hvm hr_50 hB hz1 hk1 hS => ?_)
      obtain ⟨i51, r51⟩ := u_51
      obtain ⟨hP, hK1, hD1⟩ := hB
      rw [ht] at hP
      have hD := hD1.weaken (fun k q _ h => hF_49 q.1 h)
      have hP : va_P D vwCl (mW cy am i51 r51 lm) H1 := hP
      have hD : va_D A (mW cy am i51 r51 lm) := hD
      obtain ⟨hRi, hRr, hE1, hE2, hr_50⟩ := hr_50
      have hRi : mRi i51 := hRi
      have hRr : mRr r51 := hRr
      obtain ⟨hP, hD⟩ := joinM hPa hDa hk1 hP rfl
      obtain ⟨hmE, hr_50⟩ := hr_50
      have hLM : LM i51 r51 := ⟨hRi, hRr, hmE⟩
      have hMI : mEi [0] im i51 := hE1
      have hMR : mEr [3, 4, 5, 6, 7, 8, 19] rm r51 := hE2
      obtain ⟨hL1, hL2, hL3⟩ := id hLR
      obtain ⟨kH, kK, kN, kX, kY, _⟩ := id hL1
      have hmr : (((0 ≤ (xs (7 * j + 1)).toInt ∧ (xs (7 * j + 1)).toInt ≤ 3) ∧ (1 ≤ (xs (7 * j + 2)).toInt ∧ (xs (7 * j + 2)).toInt ≤ 4) ∧ (0 ≤ (xs (7 * j + 3)).toInt ∧ (xs (7 * j + 3)).toInt ≤ 999999) ∧ (0 ≤ (xs (7 * j + 4)).toInt ∧ (xs (7 * j + 4)).toInt ≤ 999) ∧ (xs (7 * j + 4)).toInt ≤ (xs (7 * j + 5)).toInt ∧ (xs (7 * j + 5)).toInt ≤ 999 ∧ (im 0).toInt ≤ 5) → r_50.toInt = (im 0).toInt ∧ (i51 0).toInt = (im 0).toInt + 1 ∧ (r51) 3 = upd (rm 3) (im 0).toNatClampNeg (xs (7 * j + 1)) ∧ (r51) 4 = upd (rm 4) (im 0).toNatClampNeg (xs (7 * j + 2)) ∧ (r51) 5 = upd (rm 5) (im 0).toNatClampNeg (xs (7 * j + 3)) ∧ (r51) 6 = upd (rm 6) (im 0).toNatClampNeg (xs (7 * j + 4)) ∧ (r51) 7 = upd (rm 7) (im 0).toNatClampNeg (xs (7 * j + 5)) ∧ (r51) 19 = upd (rm 19) (im 0).toNatClampNeg (vp_nar .boolean (0 : Int32)) ∧ (∀ t, t < 4 → (r51) 8 (4 * (im 0).toNatClampNeg + t) = 1) ∧ ∀ j, ¬ (4 * (im 0).toNatClampNeg ≤ j ∧ j < 4 * (im 0).toNatClampNeg + 4) → (r51) 8 j = rm 8 j) ∧ (¬ ((0 ≤ (xs (7 * j + 1)).toInt ∧ (xs (7 * j + 1)).toInt ≤ 3) ∧ (1 ≤ (xs (7 * j + 2)).toInt ∧ (xs (7 * j + 2)).toInt ≤ 4) ∧ (0 ≤ (xs (7 * j + 3)).toInt ∧ (xs (7 * j + 3)).toInt ≤ 999999) ∧ (0 ≤ (xs (7 * j + 4)).toInt ∧ (xs (7 * j + 4)).toInt ≤ 999) ∧ (xs (7 * j + 4)).toInt ≤ (xs (7 * j + 5)).toInt ∧ (xs (7 * j + 5)).toInt ≤ 999 ∧ (im 0).toInt ≤ 5) → r_50 = -1 ∧ mEi [] im i51 ∧ mEr [] rm r51) := hr_50
      have e0 : im 0 = i 0 := kH
      rw [e0] at hmr
      obtain ⟨b1, b2, b3⟩ := hmr.2 (fun h9 => hv ⟨⟨h9.1, h9.2.1, h9.2.2.1, h9.2.2.2.1, h9.2.2.2.2.1, h9.2.2.2.2.2.1⟩, h9.2.2.2.2.2.2⟩)
      have hEQ : r_35 = r_50 := hr_35.trans b1.symm
      have hLR : LR i r gi gr nh i51 r51 := ⟨LR1_same hL1 b2 b3 hCX (by decide) (by decide) (by decide) (by decide), LR2_same hL2 b2 b3 hCX (by decide) (by decide) (by decide) (by decide), LR3_same hL3 b2 b3 hCX (by decide) (by decide) (by decide) (by decide)⟩
      refine lv_pop hx hb dL_law_343 rfl ?_
      refine lv_goto (tgt := 1525) hx hb dL_law_344 (by decide) ?_
      refine W.widen (k := ce + 15) (n := sl + 215) (by omega) (by omega) ?_
      exact kk a _ _ _ _ _ _ _ _ _ _ _ _ _ rfl hLX hLM hLR hP hD hS (lv_sub hl [0, 1, 2, 3] rfl)
  · have c_13 : (xs (7 * j + 6)).toInt ≠ 0 := b_ne c_13
    refine lv_iconst (v := 1) hx hb dL_law_291 (by decide) ?_
    refine lv_goto (tgt := 296) hx hb dL_law_292 (by decide) ?_
    by_cases hv : ((0 ≤ (xs (7 * j + 1)).toInt ∧ (xs (7 * j + 1)).toInt ≤ 3) ∧ (1 ≤ (xs (7 * j + 2)).toInt ∧ (xs (7 * j + 2)).toInt ≤ 4) ∧ (0 ≤ (xs (7 * j + 3)).toInt ∧ (xs (7 * j + 3)).toInt ≤ 999999) ∧ (0 ≤ (xs (7 * j + 4)).toInt ∧ (xs (7 * j + 4)).toInt ≤ 999) ∧ (xs (7 * j + 4)).toInt ≤ (xs (7 * j + 5)).toInt ∧ (xs (7 * j + 5)).toInt ≤ 999) ∧ (i 0).toInt ≤ 5
    · have hnw := hn
      have hA9 : ∀ q : Nat, H.size ≤ q → A q := fun q h => hA q (Nat.le_trans hS.1 h)
      have hP_52 := hP.sub (ws' := [(a 0, .inr (11, [.ref (a 1), .ref (a 4), .int (i 0), .ref (a 5), .ref (a 8), .ref (a 10), .ref (a 20), .ref (a 28), .ref (a 29), .ref (a 40), .int (i 1), .ref (a 51), .ref (a 54), .ref (a 58)])), (a 4, .inl (cy 4, 6, .inr (.inr (.inr (.inr q)))))]) [0, 4] rfl
      have hD_54 := hD.sub (ws' := [(a 0, .inr (11, [.ref (a 1), .ref (a 4), .int (i 0), .ref (a 5), .ref (a 8), .ref (a 10), .ref (a 20), .ref (a 28), .ref (a 29), .ref (a 40), .int (i 1), .ref (a 51), .ref (a 54), .ref (a 58)])), (a 4, .inl (cy 4, 6, .inr (.inr (.inr (.inr q)))))]) [0, 4] (by decide) rfl
      have hF_53 := va_free (wc := [(a 0, .inr (11, [.ref (a 1), .ref (a 4), .int (i 0), .ref (a 5), .ref (a 8), .ref (a 10), .ref (a 20), .ref (a 28), .ref (a 29), .ref (a 40), .int (i 1), .ref (a 51), .ref (a 54), .ref (a 58)])), (a 4, .inl (cy 4, 6, .inr (.inr (.inr (.inr q)))))]) hD hS hA [0, 4] rfl
      refine va_calli (va_runV (As := [.int (xs (7 * j + 1)), .int (xs (7 * j + 2)), .int (xs (7 * j + 3)), .int (xs (7 * j + 4)), .int (xs (7 * j + 5)), .int 1]) (rest := []) ⟨hx, hb, hml, hown, hT⟩ (c_X11_home_ok l D cy (a 0) (a 1) (a 4) (i 0) (a 5) (a 8) (a 10) (a 20) (a 28) (a 29) (a 40) (i 1) (a 51) (a 54) (a 58) q (xs (7 * j + 1)) (xs (7 * j + 2)) (xs (7 * j + 3)) (xs (7 * j + 4)) (xs (7 * j + 5)) 1 _ hv.1 (⟨(hLX.1.1 0).1, hv.2⟩) (Or.inr rfl)) (cwV 6 hT (gV t_1170 t_1171 t_1172 t_1173 t_2) rfl rfl rfl (by decide +kernel) ⟨Nat.le_of_ble_eq_true rfl, Nat.le_of_ble_eq_true rfl⟩) (rN_v hnw hP_52 hK hD_54 (va_recv hK hP_52 (ci := 11) (q0 := 0) rfl rfl)) rfl rfl hl.1 rfl (lv_room (Nat.le_of_ble_eq_true rfl)) dL_law_296 ⟨by show _ ≤ (600000 : Nat); omega, by show _ ≤ (7302250 : Nat); omega⟩) hS (fun q _ h => hF_53 q h) hF_53 (fun r_55 u_56 t H1 locs ht hvm hr_55 hB hz1 hk1 hS => ?_)
      obtain ⟨b9, f9, v9⟩ := u_56
      obtain ⟨hP1, hK1, hD1⟩ := hB
      rw [ht] at hP1
      obtain ⟨hz9, hv9, hf9⟩ := hr_55
      have hP1 : va_P D vwCl ([(a 0, .inr (11, [.ref (a 1), .ref (a 4), .int v9, .ref (a 5), .ref (a 8), .ref (a 10), .ref (a 20), .ref (a 28), .ref (a 29), .ref (a 40), .int (i 1), .ref (a 51), .ref (a 54), .ref (a 58)])), (a 4, .inl (cy 4, 6, .inr (.inr (.inr (.inr (va_up q (i 0).toNatClampNeg (some (b9 61))))))))] ++ hW cy b9 (hJ (xs (7 * j + 1)) (xs (7 * j + 2)) (xs (7 * j + 3)) (xs (7 * j + 4)) (xs (7 * j + 5)) 1) (hRw f9)) H1 := hP1
      have hD1 : va_D (va_A [(a 0, .inr (11, [.ref (a 1), .ref (a 4), .int (i 0), .ref (a 5), .ref (a 8), .ref (a 10), .ref (a 20), .ref (a 28), .ref (a 29), .ref (a 40), .int (i 1), .ref (a 51), .ref (a 54), .ref (a 58)])), (a 4, .inl (cy 4, 6, .inr (.inr (.inr (.inr q)))))] H.size) ([(a 0, .inr (11, [.ref (a 1), .ref (a 4), .int v9, .ref (a 5), .ref (a 8), .ref (a 10), .ref (a 20), .ref (a 28), .ref (a 29), .ref (a 40), .int (i 1), .ref (a 51), .ref (a 54), .ref (a 58)])), (a 4, .inl (cy 4, 6, .inr (.inr (.inr (.inr (va_up q (i 0).toNatClampNeg (some (b9 61))))))))] ++ hW cy b9 (hJ (xs (7 * j + 1)) (xs (7 * j + 2)) (xs (7 * j + 3)) (xs (7 * j + 4)) (xs (7 * j + 5)) 1) (hRw f9)) := hD1
      have hv9 : v9.toInt = (i 0).toInt + 1 := hv9
      have hf9 : ∀ t, f9 t = if t < 4 then 1 else 0 := hf9
      obtain ⟨hP, hD⟩ := joinN (w2 := [(a 0, .inr (11, [.ref (a 1), .ref (a 4), .int (i 0), .ref (a 5), .ref (a 8), .ref (a 10), .ref (a 20), .ref (a 28), .ref (a 29), .ref (a 40), .int (i 1), .ref (a 51), .ref (a 54), .ref (a 58)])), (a 4, .inl (cy 4, 6, .inr (.inr (.inr (.inr q)))))]) (w3 := [(a 0, .inr (11, [.ref (a 1), .ref (a 4), .int v9, .ref (a 5), .ref (a 8), .ref (a 10), .ref (a 20), .ref (a 28), .ref (a 29), .ref (a 40), .int (i 1), .ref (a 51), .ref (a 54), .ref (a 58)])), (a 4, .inl (cy 4, 6, .inr (.inr (.inr (.inr (va_up q (i 0).toNatClampNeg (some (b9 61))))))))]) (wn := hW cy b9 (hJ (xs (7 * j + 1)) (xs (7 * j + 2)) (xs (7 * j + 3)) (xs (7 * j + 4)) (xs (7 * j + 5)) 1) (hRw f9)) hP hD [0, 4] rfl rfl hk1 hP1 hD1 hA9
      have hP : va_P D vwCl ((xW cy a (upd i 0 v9) r (va_up q (i 0).toNatClampNeg (some (b9 61))) (a 20) (a 12) ++ (HL cy gb gi gr nh ++ (mW cy am im rm lm))) ++ hW cy b9 (hJ (xs (7 * j + 1)) (xs (7 * j + 2)) (xs (7 * j + 3)) (xs (7 * j + 4)) (xs (7 * j + 5)) 1) (hRw f9)) H1 := hP
      have hD : va_D A ((xW cy a (upd i 0 v9) r (va_up q (i 0).toNatClampNeg (some (b9 61))) (a 20) (a 12) ++ (HL cy gb gi gr nh ++ (mW cy am im rm lm))) ++ hW cy b9 (hJ (xs (7 * j + 1)) (xs (7 * j + 2)) (xs (7 * j + 3)) (xs (7 * j + 4)) (xs (7 * j + 5)) 1) (hRw f9)) := hD
      have hP := vaP_perm HL_new hP
      have hD := vaD_perm HL_new hD
      have hCX := CX_home (nh := nh) (i := i) (r := r) (gi := gi) (gr := gr) (v := v9) (J := (hJ (xs (7 * j + 1)) (xs (7 * j + 2)) (xs (7 * j + 3)) (xs (7 * j + 4)) (xs (7 * j + 5)) 1)) (Jr := hRw f9)
      have hN0 := hLX.2.1
      have hLX := LX_new (b := b9) hLX hv.1 hv.2 (Or.inr rfl) hv9 hf9
      refine lv_pop hx hb dL_law_299 rfl ?_
      refine lv_aload_n hx hb dL_law_300 rfl (lv_at hl 2 rfl) ?_
      refine lv_aload_n hx hb dL_law_301 rfl (lv_at hl 0 rfl) ?_
      refine lv_iload_n hx hb dL_law_302 rfl (lv_at hl 3 rfl) ?_
      refine lv_iconst (v := 1) hx hb dL_law_303 (by decide) ?_
      refine lv_iadd hx hb dL_law_304 ?_
      refine lv_topi (fun v_57 ev_57 => ?_)
      have hv_57 : v_57.toInt = x.toInt + 1 := by rw [ev_57]; have := b_rg x; exact i_add (a := x.toInt) (b := 1) rfl rfl (by omega) (by omega)
      refine va_sld hx hb hX hbl hbA hS (vp_inI (by omega) (by omega)) dL_law_305 ?_
      refine lv_topi (fun v_58 ev_58 => ?_)
      obtain rfl : v_58 = xs (7 * j + 1) := ev_58.trans (congrArg xs (nI_ix hxj (by omega) (by omega)))
      refine lv_aload_n hx hb dL_law_306 rfl (lv_at hl 0 rfl) ?_
      refine lv_iload_n hx hb dL_law_307 rfl (lv_at hl 3 rfl) ?_
      refine lv_iconst (v := 2) hx hb dL_law_308 (by decide) ?_
      refine lv_iadd hx hb dL_law_309 ?_
      refine lv_topi (fun v_59 ev_59 => ?_)
      have hv_59 : v_59.toInt = x.toInt + 2 := by rw [ev_59]; have := b_rg x; exact i_add (a := x.toInt) (b := 2) rfl rfl (by omega) (by omega)
      refine va_sld hx hb hX hbl hbA hS (vp_inI (by omega) (by omega)) dL_law_310 ?_
      refine lv_topi (fun v_60 ev_60 => ?_)
      obtain rfl : v_60 = xs (7 * j + 2) := ev_60.trans (congrArg xs (nI_ix hxj (by omega) (by omega)))
      refine lv_aload_n hx hb dL_law_311 rfl (lv_at hl 0 rfl) ?_
      refine lv_iload_n hx hb dL_law_312 rfl (lv_at hl 3 rfl) ?_
      refine lv_iconst (v := 3) hx hb dL_law_313 (by decide) ?_
      refine lv_iadd hx hb dL_law_314 ?_
      refine lv_topi (fun v_61 ev_61 => ?_)
      have hv_61 : v_61.toInt = x.toInt + 3 := by rw [ev_61]; have := b_rg x; exact i_add (a := x.toInt) (b := 3) rfl rfl (by omega) (by omega)
      refine va_sld hx hb hX hbl hbA hS (vp_inI (by omega) (by omega)) dL_law_315 ?_
      refine lv_topi (fun v_62 ev_62 => ?_)
      obtain rfl : v_62 = xs (7 * j + 3) := ev_62.trans (congrArg xs (nI_ix hxj (by omega) (by omega)))
      refine lv_aload_n hx hb dL_law_316 rfl (lv_at hl 0 rfl) ?_
      refine lv_iload_n hx hb dL_law_317 rfl (lv_at hl 3 rfl) ?_
      refine lv_iconst (v := 4) hx hb dL_law_318 (by decide) ?_
      refine lv_iadd hx hb dL_law_319 ?_
      refine lv_topi (fun v_63 ev_63 => ?_)
      have hv_63 : v_63.toInt = x.toInt + 4 := by rw [ev_63]; have := b_rg x; exact i_add (a := x.toInt) (b := 4) rfl rfl (by omega) (by omega)
      refine va_sld hx hb hX hbl hbA hS (vp_inI (by omega) (by omega)) dL_law_320 ?_
      refine lv_topi (fun v_64 ev_64 => ?_)
      obtain rfl : v_64 = xs (7 * j + 4) := ev_64.trans (congrArg xs (nI_ix hxj (by omega) (by omega)))
      refine lv_aload_n hx hb dL_law_321 rfl (lv_at hl 0 rfl) ?_
      refine lv_iload_n hx hb dL_law_322 rfl (lv_at hl 3 rfl) ?_
      refine lv_iconst (v := 5) hx hb dL_law_323 (by decide) ?_
      refine lv_iadd hx hb dL_law_324 ?_
      refine lv_topi (fun v_65 ev_65 => ?_)
      have hv_65 : v_65.toInt = x.toInt + 5 := by rw [ev_65]; have := b_rg x; exact i_add (a := x.toInt) (b := 5) rfl rfl (by omega) (by omega)
      refine va_sld hx hb hX hbl hbA hS (vp_inI (by omega) (by omega)) dL_law_325 ?_
      refine lv_topi (fun v_66 ev_66 => ?_)
      obtain rfl : v_66 = xs (7 * j + 5) := ev_66.trans (congrArg xs (nI_ix hxj (by omega) (by omega)))
      refine lv_aload_n hx hb dL_law_326 rfl (lv_at hl 0 rfl) ?_
      refine lv_iload_n hx hb dL_law_327 rfl (lv_at hl 3 rfl) ?_
      refine lv_bipush (v := 6) hx hb dL_law_328 (by decide) ?_
      refine lv_iadd hx hb dL_law_330 ?_
      refine lv_topi (fun v_67 ev_67 => ?_)
      have hv_67 : v_67.toInt = x.toInt + 6 := by rw [ev_67]; have := b_rg x; exact i_add (a := x.toInt) (b := 6) rfl rfl (by omega) (by omega)
      refine va_sld hx hb hX hbl hbA hS (vp_inI (by omega) (by omega)) dL_law_331 ?_
      refine lv_topi (fun v_68 ev_68 => ?_)
      obtain rfl : v_68 = xs (7 * j + 6) := ev_68.trans (congrArg xs (nI_ix hxj (by omega) (by omega)))
      refine lv_if_eq (tgt := 339) hx hb dL_law_332 (by decide) (fun c_69 => absurd (show (xs (7 * j + 6)).toInt = 0 from b_eq c_69) c_13) (fun c_69 => ?_)
      refine lv_iconst (v := 1) hx hb dL_law_335 (by decide) ?_
      refine lv_goto (tgt := 340) hx hb dL_law_336 (by decide) ?_
      have hPa := hP
      have hDa := hD
      have hP := vaP_r (vaP_r hPa)
      have hD := vaD_r (vaD_r hDa)
      have hRi := hLM.1
      have hRr := hLM.2.1
      have hE := hLM.2.2
      have hF_70 := rF hD hS hA
      refine va_calli (va_runV (As := [.int (xs (7 * j + 1)), .int (xs (7 * j + 2)), .int (xs (7 * j + 3)), .int (xs (7 * j + 4)), .int (xs (7 * j + 5)), .int 1]) (rest := []) ⟨hx, hb, hml, hown, hT⟩ (c_X12_home9 l D cy am im rm lm (xs (7 * j + 1)) (xs (7 * j + 2)) (xs (7 * j + 3)) (xs (7 * j + 4)) (xs (7 * j + 5)) 1 _ hRi hRr hE) (cwV 6 hT (gV t_1174 t_1175 t_1176 t_1177 t_6) rfl rfl rfl (by decide +kernel) ⟨Nat.le_of_ble_eq_true rfl, Nat.le_of_ble_eq_true rfl⟩) (rQ_v hP hK hD (va_recv hK hP (ci := 12) (q0 := 0) rfl rfl)) rfl rfl hl.1 rfl (lv_room (Nat.le_of_ble_eq_true rfl)) dL_law_340 ⟨by show _ ≤ (600000 : Nat); omega, by show _ ≤ (7302250 : Nat); omega⟩) hS (fun q _ h => hF_70 q h) hF_70 (fun r_71 u_72 t H1 locs ht hvm hr_71 hB hz1 hk1 hS => ?_)
      obtain ⟨i72, r72⟩ := u_72
      obtain ⟨hP, hK1, hD1⟩ := hB
      rw [ht] at hP
      have hD := hD1.weaken (fun k q _ h => hF_70 q.1 h)
      have hP : va_P D vwCl (mW cy am i72 r72 lm) H1 := hP
      have hD : va_D A (mW cy am i72 r72 lm) := hD
      obtain ⟨hRi, hRr, hE1, hE2, hr_71⟩ := hr_71
      have hRi : mRi i72 := hRi
      have hRr : mRr r72 := hRr
      obtain ⟨hP, hD⟩ := joinM hPa hDa hk1 hP rfl
      obtain ⟨hmE, hr_71⟩ := hr_71
      have hLM : LM i72 r72 := ⟨hRi, hRr, hmE⟩
      have hMI : mEi [0] im i72 := hE1
      have hMR : mEr [3, 4, 5, 6, 7, 8, 19] rm r72 := hE2
      obtain ⟨hL1, hL2, hL3⟩ := id hLR
      obtain ⟨kH, kK, kN, kX, kY, _⟩ := id hL1
      have hmr : (((0 ≤ (xs (7 * j + 1)).toInt ∧ (xs (7 * j + 1)).toInt ≤ 3) ∧ (1 ≤ (xs (7 * j + 2)).toInt ∧ (xs (7 * j + 2)).toInt ≤ 4) ∧ (0 ≤ (xs (7 * j + 3)).toInt ∧ (xs (7 * j + 3)).toInt ≤ 999999) ∧ (0 ≤ (xs (7 * j + 4)).toInt ∧ (xs (7 * j + 4)).toInt ≤ 999) ∧ (xs (7 * j + 4)).toInt ≤ (xs (7 * j + 5)).toInt ∧ (xs (7 * j + 5)).toInt ≤ 999 ∧ (im 0).toInt ≤ 5) → r_71.toInt = (im 0).toInt ∧ (i72 0).toInt = (im 0).toInt + 1 ∧ (r72) 3 = upd (rm 3) (im 0).toNatClampNeg (xs (7 * j + 1)) ∧ (r72) 4 = upd (rm 4) (im 0).toNatClampNeg (xs (7 * j + 2)) ∧ (r72) 5 = upd (rm 5) (im 0).toNatClampNeg (xs (7 * j + 3)) ∧ (r72) 6 = upd (rm 6) (im 0).toNatClampNeg (xs (7 * j + 4)) ∧ (r72) 7 = upd (rm 7) (im 0).toNatClampNeg (xs (7 * j + 5)) ∧ (r72) 19 = upd (rm 19) (im 0).toNatClampNeg (vp_nar .boolean (1 : Int32)) ∧ (∀ t, t < 4 → (r72) 8 (4 * (im 0).toNatClampNeg + t) = 1) ∧ ∀ j, ¬ (4 * (im 0).toNatClampNeg ≤ j ∧ j < 4 * (im 0).toNatClampNeg + 4) → (r72) 8 j = rm 8 j) ∧ (¬ ((0 ≤ (xs (7 * j + 1)).toInt ∧ (xs (7 * j + 1)).toInt ≤ 3) ∧ (1 ≤ (xs (7 * j + 2)).toInt ∧ (xs (7 * j + 2)).toInt ≤ 4) ∧ (0 ≤ (xs (7 * j + 3)).toInt ∧ (xs (7 * j + 3)).toInt ≤ 999999) ∧ (0 ≤ (xs (7 * j + 4)).toInt ∧ (xs (7 * j + 4)).toInt ≤ 999) ∧ (xs (7 * j + 4)).toInt ≤ (xs (7 * j + 5)).toInt ∧ (xs (7 * j + 5)).toInt ≤ 999 ∧ (im 0).toInt ≤ 5) → r_71 = -1 ∧ mEi [] im i72 ∧ mEr [] rm r72) := hr_71
      have e0 : im 0 = i 0 := kH
      rw [e0] at hmr
      obtain ⟨b1, b2, b3, b4, b5, b6, b7, b19, b8, b8n⟩ := hmr.1 ⟨hv.1.1, hv.1.2.1, hv.1.2.2.1, hv.1.2.2.2.1, hv.1.2.2.2.2.1, hv.1.2.2.2.2.2, hv.2⟩
      have hEQ : r_55 = r_71 := Int32.toInt_inj.mp (by rw [b1, (hz9 : r_55 = i 0)])
      have hNc : (i 0).toNatClampNeg = nh := by show (i 0).toInt.toNat = _; omega
      rw [hNc] at b3 b4 b5 b6 b7 b19 b8 b8n
      have hLR : LR (upd i 0 v9) r (uf gi nh (hJ (xs (7 * j + 1)) (xs (7 * j + 2)) (xs (7 * j + 3)) (xs (7 * j + 4)) (xs (7 * j + 5)) 1)) (uf gr nh (hRw f9)) (nh + 1) i72 r72 := ⟨⟨(Int32.toInt_inj.mp (b2.trans hv9.symm) : i72 0 = (upd i 0 v9) 0), RI1_same kK hMI (by decide) hCX (by decide) (by decide), RHR_home0 kN hMR (by decide) (fun _ => rfl), RI1_same kX hMI (by decide) hCX (by decide) (by decide), RIK_same kY hMI (by decide) hCX (by decide) (by decide), trivial⟩, trivial, trivial⟩
      refine lv_pop hx hb dL_law_343 rfl ?_
      refine lv_goto (tgt := 1525) hx hb dL_law_344 (by decide) ?_
      refine W.widen (k := ce + 15) (n := sl + 215) (by omega) (by omega) ?_
      exact kk a _ _ _ _ _ _ _ _ _ _ _ _ _ rfl hLX hLM hLR hP hD hS (lv_sub hl [0, 1, 2, 3] rfl)
    · skip
      have hRi := hLX.1.1
      have hRr := hLX.1.2
      refine vp_callSi (W.runV (As := [.int (xs (7 * j + 1)), .int (xs (7 * j + 2)), .int (xs (7 * j + 3)), .int (xs (7 * j + 4)), .int (xs (7 * j + 5)), .int 1]) (rest := []) ⟨hx, hb, hml, hown, hT⟩ (c_X11_home.b l D cy a i r q (HL cy gb gi gr nh ++ (mW cy am im rm lm)) (xs (7 * j + 1)) (xs (7 * j + 2)) (xs (7 * j + 3)) (xs (7 * j + 4)) (xs (7 * j + 5)) 1 hRi hRr hv) (cwV 6 hT (gV t_1170 t_1171 t_1172 t_1173 t_2) rfl rfl rfl (by decide +kernel) ⟨Nat.le_of_ble_eq_true rfl, Nat.le_of_ble_eq_true rfl⟩) (rP_v hP hK (va_recv hK hP (ci := 11) (q0 := 0) rfl rfl)) rfl rfl hl.1 rfl (lv_room (Nat.le_of_ble_eq_true rfl)) dL_law_296 ⟨by show _ ≤ (600000 : Nat); omega, by show _ ≤ (7302250 : Nat); omega⟩) (fun r_73 hr_73 => ?_)
      have hCX := CX_rf (i := i) (r := r) (gi := gi) (gr := gr) (nh := nh)
      refine lv_pop hx hb dL_law_299 rfl ?_
      refine lv_aload_n hx hb dL_law_300 rfl (lv_at hl 2 rfl) ?_
      refine lv_aload_n hx hb dL_law_301 rfl (lv_at hl 0 rfl) ?_
      refine lv_iload_n hx hb dL_law_302 rfl (lv_at hl 3 rfl) ?_
      refine lv_iconst (v := 1) hx hb dL_law_303 (by decide) ?_
      refine lv_iadd hx hb dL_law_304 ?_
      refine lv_topi (fun v_74 ev_74 => ?_)
      have hv_74 : v_74.toInt = x.toInt + 1 := by rw [ev_74]; have := b_rg x; exact i_add (a := x.toInt) (b := 1) rfl rfl (by omega) (by omega)
      refine va_sld hx hb hX hbl hbA hS (vp_inI (by omega) (by omega)) dL_law_305 ?_
      refine lv_topi (fun v_75 ev_75 => ?_)
      obtain rfl : v_75 = xs (7 * j + 1) := ev_75.trans (congrArg xs (nI_ix hxj (by omega) (by omega)))
      refine lv_aload_n hx hb dL_law_306 rfl (lv_at hl 0 rfl) ?_
      refine lv_iload_n hx hb dL_law_307 rfl (lv_at hl 3 rfl) ?_
      refine lv_iconst (v := 2) hx hb dL_law_308 (by decide) ?_
      refine lv_iadd hx hb dL_law_309 ?_
      refine lv_topi (fun v_76 ev_76 => ?_)
      have hv_76 : v_76.toInt = x.toInt + 2 := by rw [ev_76]; have := b_rg x; exact i_add (a := x.toInt) (b := 2) rfl rfl (by omega) (by omega)
      refine va_sld hx hb hX hbl hbA hS (vp_inI (by omega) (by omega)) dL_law_310 ?_
      refine lv_topi (fun v_77 ev_77 => ?_)
      obtain rfl : v_77 = xs (7 * j + 2) := ev_77.trans (congrArg xs (nI_ix hxj (by omega) (by omega)))
      refine lv_aload_n hx hb dL_law_311 rfl (lv_at hl 0 rfl) ?_
      refine lv_iload_n hx hb dL_law_312 rfl (lv_at hl 3 rfl) ?_
      refine lv_iconst (v := 3) hx hb dL_law_313 (by decide) ?_
      refine lv_iadd hx hb dL_law_314 ?_
      refine lv_topi (fun v_78 ev_78 => ?_)
      have hv_78 : v_78.toInt = x.toInt + 3 := by rw [ev_78]; have := b_rg x; exact i_add (a := x.toInt) (b := 3) rfl rfl (by omega) (by omega)
      refine va_sld hx hb hX hbl hbA hS (vp_inI (by omega) (by omega)) dL_law_315 ?_
      refine lv_topi (fun v_79 ev_79 => ?_)
      obtain rfl : v_79 = xs (7 * j + 3) := ev_79.trans (congrArg xs (nI_ix hxj (by omega) (by omega)))
      refine lv_aload_n hx hb dL_law_316 rfl (lv_at hl 0 rfl) ?_
      refine lv_iload_n hx hb dL_law_317 rfl (lv_at hl 3 rfl) ?_
      refine lv_iconst (v := 4) hx hb dL_law_318 (by decide) ?_
      refine lv_iadd hx hb dL_law_319 ?_
      refine lv_topi (fun v_80 ev_80 => ?_)
      have hv_80 : v_80.toInt = x.toInt + 4 := by rw [ev_80]; have := b_rg x; exact i_add (a := x.toInt) (b := 4) rfl rfl (by omega) (by omega)
      refine va_sld hx hb hX hbl hbA hS (vp_inI (by omega) (by omega)) dL_law_320 ?_
      refine lv_topi (fun v_81 ev_81 => ?_)
      obtain rfl : v_81 = xs (7 * j + 4) := ev_81.trans (congrArg xs (nI_ix hxj (by omega) (by omega)))
      refine lv_aload_n hx hb dL_law_321 rfl (lv_at hl 0 rfl) ?_
      refine lv_iload_n hx hb dL_law_322 rfl (lv_at hl 3 rfl) ?_
      refine lv_iconst (v := 5) hx hb dL_law_323 (by decide) ?_
      refine lv_iadd hx hb dL_law_324 ?_
      refine lv_topi (fun v_82 ev_82 => ?_)
      have hv_82 : v_82.toInt = x.toInt + 5 := by rw [ev_82]; have := b_rg x; exact i_add (a := x.toInt) (b := 5) rfl rfl (by omega) (by omega)
      refine va_sld hx hb hX hbl hbA hS (vp_inI (by omega) (by omega)) dL_law_325 ?_
      refine lv_topi (fun v_83 ev_83 => ?_)
      obtain rfl : v_83 = xs (7 * j + 5) := ev_83.trans (congrArg xs (nI_ix hxj (by omega) (by omega)))
      refine lv_aload_n hx hb dL_law_326 rfl (lv_at hl 0 rfl) ?_
      refine lv_iload_n hx hb dL_law_327 rfl (lv_at hl 3 rfl) ?_
      refine lv_bipush (v := 6) hx hb dL_law_328 (by decide) ?_
      refine lv_iadd hx hb dL_law_330 ?_
      refine lv_topi (fun v_84 ev_84 => ?_)
      have hv_84 : v_84.toInt = x.toInt + 6 := by rw [ev_84]; have := b_rg x; exact i_add (a := x.toInt) (b := 6) rfl rfl (by omega) (by omega)
      refine va_sld hx hb hX hbl hbA hS (vp_inI (by omega) (by omega)) dL_law_331 ?_
      refine lv_topi (fun v_85 ev_85 => ?_)
      obtain rfl : v_85 = xs (7 * j + 6) := ev_85.trans (congrArg xs (nI_ix hxj (by omega) (by omega)))
      refine lv_if_eq (tgt := 339) hx hb dL_law_332 (by decide) (fun c_86 => absurd (show (xs (7 * j + 6)).toInt = 0 from b_eq c_86) c_13) (fun c_86 => ?_)
      refine lv_iconst (v := 1) hx hb dL_law_335 (by decide) ?_
      refine lv_goto (tgt := 340) hx hb dL_law_336 (by decide) ?_
      have hPa := hP
      have hDa := hD
      have hP := vaP_r (vaP_r hPa)
      have hD := vaD_r (vaD_r hDa)
      have hRi := hLM.1
      have hRr := hLM.2.1
      have hE := hLM.2.2
      have hF_87 := rF hD hS hA
      refine va_calli (va_runV (As := [.int (xs (7 * j + 1)), .int (xs (7 * j + 2)), .int (xs (7 * j + 3)), .int (xs (7 * j + 4)), .int (xs (7 * j + 5)), .int 1]) (rest := []) ⟨hx, hb, hml, hown, hT⟩ (c_X12_home9 l D cy am im rm lm (xs (7 * j + 1)) (xs (7 * j + 2)) (xs (7 * j + 3)) (xs (7 * j + 4)) (xs (7 * j + 5)) 1 _ hRi hRr hE) (cwV 6 hT (gV t_1174 t_1175 t_1176 t_1177 t_6) rfl rfl rfl (by decide +kernel) ⟨Nat.le_of_ble_eq_true rfl, Nat.le_of_ble_eq_true rfl⟩) (rQ_v hP hK hD (va_recv hK hP (ci := 12) (q0 := 0) rfl rfl)) rfl rfl hl.1 rfl (lv_room (Nat.le_of_ble_eq_true rfl)) dL_law_340 ⟨by show _ ≤ (600000 : Nat); omega, by show _ ≤ (7302250 : Nat); omega⟩) hS (fun q _ h => hF_87 q h) hF_87 (fun r_88 u_89 t H1 locs ht hvm hr_88 hB hz1 hk1 hS => ?_)
      obtain ⟨i89, r89⟩ := u_89
      obtain ⟨hP, hK1, hD1⟩ := hB
      rw [ht] at hP
      have hD := hD1.weaken (fun k q _ h => hF_87 q.1 h)
      have hP : va_P D vwCl (mW cy am i89 r89 lm) H1 := hP
      have hD : va_D A (mW cy am i89 r89 lm) := hD
      obtain ⟨hRi, hRr, hE1, hE2, hr_88⟩ := hr_88
      have hRi : mRi i89 := hRi
      have hRr : mRr r89 := hRr
      obtain ⟨hP, hD⟩ := joinM hPa hDa hk1 hP rfl
      obtain ⟨hmE, hr_88⟩ := hr_88
      have hLM : LM i89 r89 := ⟨hRi, hRr, hmE⟩
      have hMI : mEi [0] im i89 := hE1
      have hMR : mEr [3, 4, 5, 6, 7, 8, 19] rm r89 := hE2
      obtain ⟨hL1, hL2, hL3⟩ := id hLR
      obtain ⟨kH, kK, kN, kX, kY, _⟩ := id hL1
      have hmr : (((0 ≤ (xs (7 * j + 1)).toInt ∧ (xs (7 * j + 1)).toInt ≤ 3) ∧ (1 ≤ (xs (7 * j + 2)).toInt ∧ (xs (7 * j + 2)).toInt ≤ 4) ∧ (0 ≤ (xs (7 * j + 3)).toInt ∧ (xs (7 * j + 3)).toInt ≤ 999999) ∧ (0 ≤ (xs (7 * j + 4)).toInt ∧ (xs (7 * j + 4)).toInt ≤ 999) ∧ (xs (7 * j + 4)).toInt ≤ (xs (7 * j + 5)).toInt ∧ (xs (7 * j + 5)).toInt ≤ 999 ∧ (im 0).toInt ≤ 5) → r_88.toInt = (im 0).toInt ∧ (i89 0).toInt = (im 0).toInt + 1 ∧ (r89) 3 = upd (rm 3) (im 0).toNatClampNeg (xs (7 * j + 1)) ∧ (r89) 4 = upd (rm 4) (im 0).toNatClampNeg (xs (7 * j + 2)) ∧ (r89) 5 = upd (rm 5) (im 0).toNatClampNeg (xs (7 * j + 3)) ∧ (r89) 6 = upd (rm 6) (im 0).toNatClampNeg (xs (7 * j + 4)) ∧ (r89) 7 = upd (rm 7) (im 0).toNatClampNeg (xs (7 * j + 5)) ∧ (r89) 19 = upd (rm 19) (im 0).toNatClampNeg (vp_nar .boolean (1 : Int32)) ∧ (∀ t, t < 4 → (r89) 8 (4 * (im 0).toNatClampNeg + t) = 1) ∧ ∀ j, ¬ (4 * (im 0).toNatClampNeg ≤ j ∧ j < 4 * (im 0).toNatClampNeg + 4) → (r89) 8 j = rm 8 j) ∧ (¬ ((0 ≤ (xs (7 * j + 1)).toInt ∧ (xs (7 * j + 1)).toInt ≤ 3) ∧ (1 ≤ (xs (7 * j + 2)).toInt ∧ (xs (7 * j + 2)).toInt ≤ 4) ∧ (0 ≤ (xs (7 * j + 3)).toInt ∧ (xs (7 * j + 3)).toInt ≤ 999999) ∧ (0 ≤ (xs (7 * j + 4)).toInt ∧ (xs (7 * j + 4)).toInt ≤ 999) ∧ (xs (7 * j + 4)).toInt ≤ (xs (7 * j + 5)).toInt ∧ (xs (7 * j + 5)).toInt ≤ 999 ∧ (im 0).toInt ≤ 5) → r_88 = -1 ∧ mEi [] im i89 ∧ mEr [] rm r89) := hr_88
      have e0 : im 0 = i 0 := kH
      rw [e0] at hmr
      obtain ⟨b1, b2, b3⟩ := hmr.2 (fun h9 => hv ⟨⟨h9.1, h9.2.1, h9.2.2.1, h9.2.2.2.1, h9.2.2.2.2.1, h9.2.2.2.2.2.1⟩, h9.2.2.2.2.2.2⟩)
      have hEQ : r_73 = r_88 := hr_73.trans b1.symm
      have hLR : LR i r gi gr nh i89 r89 := ⟨LR1_same hL1 b2 b3 hCX (by decide) (by decide) (by decide) (by decide), LR2_same hL2 b2 b3 hCX (by decide) (by decide) (by decide) (by decide), LR3_same hL3 b2 b3 hCX (by decide) (by decide) (by decide) (by decide)⟩
      refine lv_pop hx hb dL_law_343 rfl ?_
      refine lv_goto (tgt := 1525) hx hb dL_law_344 (by decide) ?_
      refine W.widen (k := ce + 15) (n := sl + 215) (by omega) (by omega) ?_
      exact kk a _ _ _ _ _ _ _ _ _ _ _ _ _ rfl hLX hLM hLR hP hD hS (lv_sub hl [0, 1, 2, 3] rfl)
