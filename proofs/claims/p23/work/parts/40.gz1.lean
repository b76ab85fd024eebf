set_option maxRecDepth 100000 in
theorem t_917 : Cond.code yX11_life cX11_life 3 (some .boolean) ∈ gT := tm (tb2 (List.mem_of_getElem? (i := 57) (by rfl))) (by decide +kernel)
set_option maxRecDepth 100000 in
theorem t_918 : Cond.methodLink RL 13 yX11_life ∈ gT := tm (tb2 (List.mem_of_getElem? (i := 54) (by rfl))) (by decide +kernel)
set_option maxRecDepth 100000 in
theorem t_919 : Cond.instanceMethod yX11_life ∈ gT := tm (tb2 (List.mem_of_getElem? (i := 55) (by rfl))) (by decide +kernel)
set_option maxRecDepth 100000 in
theorem t_920 : Cond.selects RX11 yX11_life yX11_life ∈ gT := tm (tb2 (List.mem_of_getElem? (i := 56) (by rfl))) (by decide +kernel)
set_option maxRecDepth 100000 in
theorem t_921 : Cond.code yX12_life cX12_life 3 (some .boolean) ∈ gT := tm (tb5 (List.mem_of_getElem? (i := 235) (by rfl))) (by decide +kernel)
set_option maxRecDepth 100000 in
theorem t_922 : Cond.methodLink RL 17 yX12_life ∈ gT := tm (tb5 (List.mem_of_getElem? (i := 232) (by rfl))) (by decide +kernel)
set_option maxRecDepth 100000 in
theorem t_923 : Cond.instanceMethod yX12_life ∈ gT := tm (tb5 (List.mem_of_getElem? (i := 233) (by rfl))) (by decide +kernel)
set_option maxRecDepth 100000 in
theorem t_924 : Cond.selects RX12 yX12_life yX12_life ∈ gT := tm (tb5 (List.mem_of_getElem? (i := 234) (by rfl))) (by decide +kernel)
set_option maxRecDepth 100000 in
theorem t_925 : Cond.code yX11_price cX11_price 4 (some .boolean) ∈ gT := tm (tb2 (List.mem_of_getElem? (i := 64) (by rfl))) (by decide +kernel)
set_option maxRecDepth 100000 in
theorem t_926 : Cond.methodLink RL 18 yX11_price ∈ gT := tm (tb2 (List.mem_of_getElem? (i := 61) (by rfl))) (by decide +kernel)
set_option maxRecDepth 100000 in
theorem t_927 : Cond.instanceMethod yX11_price ∈ gT := tm (tb2 (List.mem_of_getElem? (i := 62) (by rfl))) (by decide +kernel)
set_option maxRecDepth 100000 in
theorem t_928 : Cond.selects RX11 yX11_price yX11_price ∈ gT := tm (tb2 (List.mem_of_getElem? (i := 63) (by rfl))) (by decide +kernel)
set_option maxRecDepth 100000 in
theorem t_929 : Cond.code yX12_price cX12_price 4 (some .boolean) ∈ gT := tm (tb6 (List.mem_of_getElem? (i := 5) (by rfl))) (by decide +kernel)
set_option maxRecDepth 100000 in
theorem t_930 : Cond.methodLink RL 22 yX12_price ∈ gT := tm (tb6 (List.mem_of_getElem? (i := 2) (by rfl))) (by decide +kernel)
set_option maxRecDepth 100000 in
theorem t_931 : Cond.instanceMethod yX12_price ∈ gT := tm (tb6 (List.mem_of_getElem? (i := 3) (by rfl))) (by decide +kernel)
set_option maxRecDepth 100000 in
theorem t_932 : Cond.selects RX12 yX12_price yX12_price ∈ gT := tm (tb6 (List.mem_of_getElem? (i := 4) (by rfl))) (by decide +kernel)
def dl_545 : List (Nat × (Instr × Nat)) := [(180, (.aload_n 1, 1)), (181, (.aload_n 0, 1)), (182, (.iload_n 3, 1)), (183, (.iconst 1, 1)), (184, (.iadd, 1)), (185, (.iaload, 1)), (186, (.aload_n 0, 1)), (187, (.iload_n 3, 1)), (188, (.iconst 2, 1)), (189, (.iadd, 1)), (190, (.iaload, 1)), (191, (.invokevirtual 13, 3)), (194, (.pop, 1)), (195, (.aload_n 2, 1)), (196, (.aload_n 0, 1)), (197, (.iload_n 3, 1)), (198, (.iconst 1, 1)), (199, (.iadd, 1)), (200, (.iaload, 1)), (201, (.aload_n 0, 1))]
theorem dh_545 : dchk cL_law dl_545 = true := by decide +kernel
theorem dL_law_180 : decode cL_law 180 = .ok (.aload_n 1, 1) := dget dh_545 (k := 0) rfl
theorem dL_law_181 : decode cL_law 181 = .ok (.aload_n 0, 1) := dget dh_545 (k := 1) rfl
theorem dL_law_182 : decode cL_law 182 = .ok (.iload_n 3, 1) := dget dh_545 (k := 2) rfl
theorem dL_law_183 : decode cL_law 183 = .ok (.iconst 1, 1) := dget dh_545 (k := 3) rfl
theorem dL_law_184 : decode cL_law 184 = .ok (.iadd, 1) := dget dh_545 (k := 4) rfl
theorem dL_law_185 : decode cL_law 185 = .ok (.iaload, 1) := dget dh_545 (k := 5) rfl
theorem dL_law_186 : decode cL_law 186 = .ok (.aload_n 0, 1) := dget dh_545 (k := 6) rfl
theorem dL_law_187 : decode cL_law 187 = .ok (.iload_n 3, 1) := dget dh_545 (k := 7) rfl
theorem dL_law_188 : decode cL_law 188 = .ok (.iconst 2, 1) := dget dh_545 (k := 8) rfl
theorem dL_law_189 : decode cL_law 189 = .ok (.iadd, 1) := dget dh_545 (k := 9) rfl
theorem dL_law_190 : decode cL_law 190 = .ok (.iaload, 1) := dget dh_545 (k := 10) rfl
theorem dL_law_191 : decode cL_law 191 = .ok (.invokevirtual 13, 3) := dget dh_545 (k := 11) rfl
theorem dL_law_194 : decode cL_law 194 = .ok (.pop, 1) := dget dh_545 (k := 12) rfl
theorem dL_law_195 : decode cL_law 195 = .ok (.aload_n 2, 1) := dget dh_545 (k := 13) rfl
theorem dL_law_196 : decode cL_law 196 = .ok (.aload_n 0, 1) := dget dh_545 (k := 14) rfl
theorem dL_law_197 : decode cL_law 197 = .ok (.iload_n 3, 1) := dget dh_545 (k := 15) rfl
theorem dL_law_198 : decode cL_law 198 = .ok (.iconst 1, 1) := dget dh_545 (k := 16) rfl
theorem dL_law_199 : decode cL_law 199 = .ok (.iadd, 1) := dget dh_545 (k := 17) rfl
theorem dL_law_200 : decode cL_law 200 = .ok (.iaload, 1) := dget dh_545 (k := 18) rfl
theorem dL_law_201 : decode cL_law 201 = .ok (.aload_n 0, 1) := dget dh_545 (k := 19) rfl
def dl_546 : List (Nat × (Instr × Nat)) := [(202, (.iload_n 3, 1)), (203, (.iconst 2, 1)), (204, (.iadd, 1)), (205, (.iaload, 1)), (206, (.invokevirtual 17, 3)), (209, (.pop, 1)), (210, (.goto 1315, 3)), (213, (.aload_n 1, 1)), (214, (.aload_n 0, 1)), (215, (.iload_n 3, 1)), (216, (.iconst 1, 1)), (217, (.iadd, 1)), (218, (.iaload, 1)), (219, (.aload_n 0, 1)), (220, (.iload_n 3, 1)), (221, (.iconst 2, 1)), (222, (.iadd, 1)), (223, (.iaload, 1)), (224, (.aload_n 0, 1)), (225, (.iload_n 3, 1))]
theorem dh_546 : dchk cL_law dl_546 = true := by decide +kernel
theorem dL_law_202 : decode cL_law 202 = .ok (.iload_n 3, 1) := dget dh_546 (k := 0) rfl
theorem dL_law_203 : decode cL_law 203 = .ok (.iconst 2, 1) := dget dh_546 (k := 1) rfl
theorem dL_law_204 : decode cL_law 204 = .ok (.iadd, 1) := dget dh_546 (k := 2) rfl
theorem dL_law_205 : decode cL_law 205 = .ok (.iaload, 1) := dget dh_546 (k := 3) rfl
theorem dL_law_206 : decode cL_law 206 = .ok (.invokevirtual 17, 3) := dget dh_546 (k := 4) rfl
theorem dL_law_209 : decode cL_law 209 = .ok (.pop, 1) := dget dh_546 (k := 5) rfl
theorem dL_law_210 : decode cL_law 210 = .ok (.goto 1315, 3) := dget dh_546 (k := 6) rfl
theorem dL_law_213 : decode cL_law 213 = .ok (.aload_n 1, 1) := dget dh_546 (k := 7) rfl
theorem dL_law_214 : decode cL_law 214 = .ok (.aload_n 0, 1) := dget dh_546 (k := 8) rfl
theorem dL_law_215 : decode cL_law 215 = .ok (.iload_n 3, 1) := dget dh_546 (k := 9) rfl
theorem dL_law_216 : decode cL_law 216 = .ok (.iconst 1, 1) := dget dh_546 (k := 10) rfl
theorem dL_law_217 : decode cL_law 217 = .ok (.iadd, 1) := dget dh_546 (k := 11) rfl
theorem dL_law_218 : decode cL_law 218 = .ok (.iaload, 1) := dget dh_546 (k := 12) rfl
theorem dL_law_219 : decode cL_law 219 = .ok (.aload_n 0, 1) := dget dh_546 (k := 13) rfl
theorem dL_law_220 : decode cL_law 220 = .ok (.iload_n 3, 1) := dget dh_546 (k := 14) rfl
theorem dL_law_221 : decode cL_law 221 = .ok (.iconst 2, 1) := dget dh_546 (k := 15) rfl
theorem dL_law_222 : decode cL_law 222 = .ok (.iadd, 1) := dget dh_546 (k := 16) rfl
theorem dL_law_223 : decode cL_law 223 = .ok (.iaload, 1) := dget dh_546 (k := 17) rfl
theorem dL_law_224 : decode cL_law 224 = .ok (.aload_n 0, 1) := dget dh_546 (k := 18) rfl
theorem dL_law_225 : decode cL_law 225 = .ok (.iload_n 3, 1) := dget dh_546 (k := 19) rfl
def dl_547 : List (Nat × (Instr × Nat)) := [(226, (.iconst 3, 1)), (227, (.iadd, 1)), (228, (.iaload, 1)), (229, (.invokevirtual 18, 3)), (232, (.pop, 1)), (233, (.aload_n 2, 1)), (234, (.aload_n 0, 1)), (235, (.iload_n 3, 1)), (236, (.iconst 1, 1)), (237, (.iadd, 1)), (238, (.iaload, 1)), (239, (.aload_n 0, 1)), (240, (.iload_n 3, 1)), (241, (.iconst 2, 1)), (242, (.iadd, 1)), (243, (.iaload, 1)), (244, (.aload_n 0, 1)), (245, (.iload_n 3, 1)), (246, (.iconst 3, 1)), (247, (.iadd, 1))]
theorem dh_547 : dchk cL_law dl_547 = true := by decide +kernel
theorem dL_law_226 : decode cL_law 226 = .ok (.iconst 3, 1) := dget dh_547 (k := 0) rfl
theorem dL_law_227 : decode cL_law 227 = .ok (.iadd, 1) := dget dh_547 (k := 1) rfl
theorem dL_law_228 : decode cL_law 228 = .ok (.iaload, 1) := dget dh_547 (k := 2) rfl
theorem dL_law_229 : decode cL_law 229 = .ok (.invokevirtual 18, 3) := dget dh_547 (k := 3) rfl
theorem dL_law_232 : decode cL_law 232 = .ok (.pop, 1) := dget dh_547 (k := 4) rfl
theorem dL_law_233 : decode cL_law 233 = .ok (.aload_n 2, 1) := dget dh_547 (k := 5) rfl
theorem dL_law_234 : decode cL_law 234 = .ok (.aload_n 0, 1) := dget dh_547 (k := 6) rfl
theorem dL_law_235 : decode cL_law 235 = .ok (.iload_n 3, 1) := dget dh_547 (k := 7) rfl
theorem dL_law_236 : decode cL_law 236 = .ok (.iconst 1, 1) := dget dh_547 (k := 8) rfl
theorem dL_law_237 : decode cL_law 237 = .ok (.iadd, 1) := dget dh_547 (k := 9) rfl
theorem dL_law_238 : decode cL_law 238 = .ok (.iaload, 1) := dget dh_547 (k := 10) rfl
theorem dL_law_239 : decode cL_law 239 = .ok (.aload_n 0, 1) := dget dh_547 (k := 11) rfl
theorem dL_law_240 : decode cL_law 240 = .ok (.iload_n 3, 1) := dget dh_547 (k := 12) rfl
theorem dL_law_241 : decode cL_law 241 = .ok (.iconst 2, 1) := dget dh_547 (k := 13) rfl
theorem dL_law_242 : decode cL_law 242 = .ok (.iadd, 1) := dget dh_547 (k := 14) rfl
theorem dL_law_243 : decode cL_law 243 = .ok (.iaload, 1) := dget dh_547 (k := 15) rfl
theorem dL_law_244 : decode cL_law 244 = .ok (.aload_n 0, 1) := dget dh_547 (k := 16) rfl
theorem dL_law_245 : decode cL_law 245 = .ok (.iload_n 3, 1) := dget dh_547 (k := 17) rfl
theorem dL_law_246 : decode cL_law 246 = .ok (.iconst 3, 1) := dget dh_547 (k := 18) rfl
theorem dL_law_247 : decode cL_law 247 = .ok (.iadd, 1) := dget dh_547 (k := 19) rfl
def dl_548 : List (Nat × (Instr × Nat)) := [(248, (.iaload, 1)), (249, (.invokevirtual 22, 3)), (252, (.pop, 1)), (253, (.goto 1272, 3))]
theorem dh_548 : dchk cL_law dl_548 = true := by decide +kernel
theorem dL_law_248 : decode cL_law 248 = .ok (.iaload, 1) := dget dh_548 (k := 0) rfl
theorem dL_law_249 : decode cL_law 249 = .ok (.invokevirtual 22, 3) := dget dh_548 (k := 1) rfl
theorem dL_law_252 : decode cL_law 252 = .ok (.pop, 1) := dget dh_548 (k := 2) rfl
theorem dL_law_253 : decode cL_law 253 = .ok (.goto 1272, 3) := dget dh_548 (k := 3) rfl
/-! THE CLAIM OUT OF ONE WALK OF THE LAW'S BODY. Your part is whole_start (and what it stands on); all else here is the same for every law, but numbers. -/
def R_law : String := "DepositJudgeLaw"
def lw_P (b : Addr) (xs : List Int32) (args : Array Value) (s : State) : Prop := args = #[.ref b] ∧ s.IntsAt b xs ∧ xs.length ≤ 3584 ∧ (Jvm.Cond.and given_1 narrow_1).before args s = true
def lw_Q (_ : Array Value) (s : State) (o : Outcome) (t : State) : Prop := o = .returned (some (.int 1)) ∧ Framed s o t [] 600000 7302250
def lw_Z (below : List Frame) (a : Array Value) (s : State) : State → Prop := fun t => ∃ o, t.status = .running ∧ Ended t below o ∧ lw_Q a s o t
/-- the law's own end, with 1 on the stack, nothing written that was there before, its room as the claim has it -/
theorem lw_ret {p : Program} {l : Launch} {e : Env} {s : State} {m : MethodId} {below : List Frame} {meth : Method} {c : Code} {b : Nat} (hx : p.tables.exec = Jvm.exec) (hb : c.code = code) (hr : meth.sig.returnType = ret) (hlocks : meth.locks = false) {pc : Nat} {H : Heap} {ls : Array Slot} (hdg : decode code pc = .ok (.ireturn, 1)) : W p l e room_1 s m #[Value.ref b] below meth c H [] 600000 7302250 (lw_Z below #[Value.ref b] s) (F0 m pc ls [.int 1]) := by
  intro T hT X
  obtain ⟨fs, hret, hrun, hended, hW, hframe⟩ := X.leave (v := some (.int 1)) (hlocks := hlocks) (fun h => by rw [hr] at h; cases h)
  have hmeth' : T.vm.method? m = some meth := X.method'
  refine ⟨T.setFrames fs, ?_, .returned (some (.int 1)), hrun, hended, rfl, ⟨_, rfl⟩, hW, hframe⟩
  jvm_step X.here [X.here.top, hx, hb, hdg, hmeth', hr, ret, narrow_b1]
  (try refine ⟨rfl, ?_⟩); (try refine ⟨rfl, ?_⟩)
  first | (intro acts; rw [hret _ acts rfl rfl rfl]) | rw [hret _ _ rfl rfl rfl]
  exact Steps.refl _
/-- what holds at the law's entry: the machine, the code, the tables' words (any of lw_tbl by 'hts w (by decide +kernel)'), the script of L ints xs at the cell b, what the Statement gives of the start (any of its parts by flat_of_before) -/
def lw_At (p : Program) (s : State) (m : MethodId) (meth : Method) (c : Code) (b L : Nat) (xs : Nat → Int32) : Prop :=
  p.tables.exec = Jvm.exec ∧ c.code = code ∧ meth.sig.returnType = ret ∧ c.maxLocals = 4 ∧ s.vm.findClass R_law = some m.cls ∧ (∀ w ∈ lw_tbl, w.before #[Value.ref b] s = true) ∧ va_X b L xs s s.heap ∧ b < s.heap.size ∧ meth.locks = false ∧ (Jvm.Cond.and given_1 narrow_1).before #[Value.ref b] s = true
/-- what a call of the class leaves as it was -/
def CX (TI T : List Nat) (nh : Nat) (i : Nat → Int32) (r : Nat → Nat → Int32) (gi : Nat → Nat → Int32) (gr : Nat → Nat → Nat → Int32) (i2 : Nat → Int32) (r2 : Nat → Nat → Int32) (gi2 : Nat → Nat → Int32) (gr2 : Nat → Nat → Nat → Int32) : Prop :=
  (∀ k, k < 17 → k ∉ TI → i2 k = i k) ∧ (∀ p, p < 61 → p ∉ T → r2 p = r p) ∧ (∀ h k, h < nh → 17 ≤ k → k ∉ TI → gi2 h k = gi h k) ∧ (∀ h p, h < nh → 61 ≤ p → p ∉ T → gr2 h p = gr h p)
section REL
variable {TI T TM TR : List Nat} {nh K : Nat} {i i2 I2 im im2 : Nat → Int32} {r r2 R2 rm rm2 : Nat → Nat → Int32} {gi gi2 : Nat → Nat → Int32} {gr gr2 : Nat → Nat → Nat → Int32}
theorem CX_rf : CX [] [] nh i r gi gr i r gi gr := ⟨fun _ _ _ => rfl, fun _ _ _ => rfl, fun _ _ _ _ _ => rfl, fun _ _ _ _ _ => rfl⟩
theorem CX_rfT : CX TI T nh i r gi gr i r gi gr := ⟨fun _ _ _ => rfl, fun _ _ _ => rfl, fun _ _ _ _ _ => rfl, fun _ _ _ _ _ => rfl⟩
theorem CX_x (h1 : mEi TI i i2) (h2 : mEr T r r2) : CX TI T nh i r gi gr i2 r2 gi gr := ⟨fun k _ h => h1 k h, fun p _ h => h2 p h, fun _ _ _ _ _ => rfl, fun _ _ _ _ _ => rfl⟩
theorem CX_y (eI : I2 = mixI i (gi K)) (eR : R2 = mixR r (gr K)) (h1 : mEi TI I2 i2) (h2 : mEr T R2 r2) : CX TI T nh i r gi gr i2 r2 (uf gi K i2) (uf gr K r2) := by
  subst eI; subst eR
  refine ⟨fun k hk hn => ?_, fun p hp hn => ?_, fun h k _ hk hn => ?_, fun h p _ hp hn => ?_⟩
  · rw [h1 k hn]; exact if_pos hk
  · rw [h2 p hn]; exact if_pos hp
  · unfold uf
    by_cases e : h = K
    · rw [if_pos e, h1 k hn, e]; exact if_neg (by omega)
    · rw [if_neg e]
  · unfold uf
    by_cases e : h = K
    · rw [if_pos e, h2 p hn, e]; exact if_neg (by omega)
    · rw [if_neg e]
theorem CX_home {v : Int32} {J : Nat → Int32} {Jr : Nat → Nat → Int32} : CX [0] [] nh i r gi gr (upd i 0 v) r (uf gi nh J) (uf gr nh Jr) := by
  refine ⟨fun k _ hn => ?_, fun _ _ _ => rfl, fun h k hh _ _ => ?_, fun h p hh _ _ => ?_⟩
  · exact if_neg (fun e => hn (by rw [e]; exact List.mem_cons_self))
  · unfold uf; rw [if_neg (by omega)]
  · unfold uf; rw [if_neg (by omega)]
/-- an int of the reference and one of the class are the same -/
def RI1 (a b : Nat) (im i : Nat → Int32) : Prop := im a = i b
theorem RI1_same {a b : Nat} (h : RI1 a b im i) (hm : mEi TM im im2) (ha : a ∉ TM) (hx : CX TI T nh i r gi gr i2 r2 gi2 gr2) (hb : b < 17) (hb2 : b ∉ TI) : RI1 a b im2 i2 := by
  unfold RI1; rw [hm a ha, hx.1 b hb hb2]; exact h
def Rfw (i : Nat → Int32) : Prop := (i 16).toInt ≤ (i 15).toInt
/-- the number that was kept, once it was kept -/
def RIK (im i : Nat → Int32) : Prop := (i 1).toInt ≠ 0 → im 80 = i 13
theorem RIK_same (h : RIK im i) (hm : mEi TM im im2) (ha : 80 ∉ TM) (hx : CX TI T nh i r gi gr i2 r2 gi2 gr2) (h1 : 1 ∉ TI) (h2 : 13 ∉ TI) : RIK im2 i2 := by
  unfold RIK; rw [hm 80 ha, hx.1 1 (by decide) h1, hx.1 13 (by decide) h2]; exact h
/-- a row of the reference by homes and an int of each home -/
def RHI (P k : Nat) (rm : Nat → Nat → Int32) (gi : Nat → Nat → Int32) (nh : Nat) : Prop := ∀ h, h < 6 → rm P h = if h < nh then gi h k else 0
/-- a row of the reference by homes and numbers and a row of each home -/
def RHR (P p N : Nat) (ix : Nat → Nat → Nat) (rm : Nat → Nat → Int32) (gr : Nat → Nat → Nat → Int32) (nh : Nat) : Prop := ∀ h j, h < 6 → j < N → rm P (ix h j) = if h < nh then gr h p j else 0
theorem RHR_same {P p N : Nat} {ix : Nat → Nat → Nat} (h : RHR P p N ix rm gr nh) (hm : mEr TR rm rm2) (hP : P ∉ TR) (hx : CX TI T nh i r gi gr i2 r2 gi2 gr2) (hp : 61 ≤ p) (hp2 : p ∉ T) : RHR P p N ix rm2 gr2 nh := by
  intro g j hg hj
  rw [hm P hP, h g j hg hj]
  by_cases e : g < nh
  · rw [if_pos e, if_pos e, hx.2.2.2 g p e hp hp2]
  · rw [if_neg e, if_neg e]
theorem RHR_home0 {P p N : Nat} {ix : Nat → Nat → Nat} {Jr : Nat → Nat → Int32} (h : RHR P p N ix rm gr nh) (hm : mEr TR rm rm2) (hP : P ∉ TR) (eJ : ∀ j, Jr p j = 0) : RHR P p N ix rm2 (uf gr nh Jr) (nh + 1) := by
  intro g j hg hj
  rw [hm P hP, h g j hg hj]; unfold uf
  by_cases e1 : g = nh
  · rw [if_neg (by omega), if_pos (by omega), if_pos e1, eJ]
  · rw [if_neg e1]
    by_cases e2 : g < nh
    · rw [if_pos e2, if_pos (by omega)]
    · rw [if_neg e2, if_neg (by omega)]
theorem RHR_upd {P p N : Nat} {ix : Nat → Nat → Nat} {J : Nat} {v : Int32} (h : RHR P p N ix rm gr nh) (hK : K < nh) (e : rm2 P = upd (rm P) (ix K J) v) (e2 : r2 p = upd (gr K p) J v) (inj : ∀ g j, g < 6 → j < N → ix g j = ix K J → g = K ∧ j = J) : RHR P p N ix rm2 (uf gr K r2) nh := by
  intro g j hg hj
  rw [e]; unfold uf
  by_cases e1 : ix g j = ix K J
  · obtain ⟨a, b⟩ := inj g j hg hj e1
    rw [a, b, upd_s, if_pos hK, if_pos rfl, e2, upd_s]
  · have e0 : upd (rm P) (ix K J) v (ix g j) = rm P (ix g j) := if_neg e1
    rw [e0, h g j hg hj]
    by_cases eg : g = K
    · have ej : ¬ j = J := fun ej => e1 (by rw [eg, ej])
      have e3 : upd (gr K p) J v j = gr K p j := if_neg ej
      rw [if_pos eg, e2, e3, eg]
    · rw [if_neg eg]
/-- the first rows of claims are the same -/
def Rcl (a P p : Nat) (im : Nat → Int32) (rm r : Nat → Nat → Int32) : Prop := CP (im a).toInt (rm P) (r p)
/-- offers: the reference's are one more, and 0 where there is none -/
def RO (P p : Nat) (rm r : Nat → Nat → Int32) : Prop := ∀ h, h < 6 → (rm P h).toInt = (r p h).toInt + 1
/-- two rows are the same -/
def RR (P p N : Nat) (rm r : Nat → Nat → Int32) : Prop := ∀ j, j < N → rm P j = r p j
def kix (h j : Nat) : Nat := 6 * j + h
def LR1 (i : Nat → Int32) (r : Nat → Nat → Int32) (gi : Nat → Nat → Int32) (gr : Nat → Nat → Nat → Int32) (nh : Nat) (im : Nat → Int32) (rm : Nat → Nat → Int32) : Prop := RI1 0 0 im i ∧ RI1 78 1 im i ∧ RHR 56 64 6 kix rm gr nh ∧ RI1 1 11 im i ∧ RIK im i ∧ True
theorem LR1_same (h : LR1 i r gi gr nh im rm) (hmi : mEi TM im im2) (hmr : mEr TR rm rm2) (hx : CX TI T nh i r gi gr i2 r2 gi2 gr2) (d1 : ∀ a ∈ ([0, 1, 78, 80] : List Nat), a ∉ TM) (d2 : ∀ a ∈ ([56] : List Nat), a ∉ TR) (d3 : ∀ a ∈ ([0, 1, 11, 13] : List Nat), a ∉ TI) (d4 : ∀ a ∈ ([64] : List Nat), a ∉ T) : LR1 i2 r2 gi2 gr2 nh im2 rm2 := by
  obtain ⟨kH, kK, kN, kX, kY, _⟩ := h
  exact ⟨RI1_same kH hmi (d1 0 (by decide)) hx (by decide) (d3 0 (by decide)), RI1_same kK hmi (d1 78 (by decide)) hx (by decide) (d3 1 (by decide)), RHR_same kN hmr (d2 56 (by decide)) hx (by decide) (d4 64 (by decide)), RI1_same kX hmi (d1 1 (by decide)) hx (by decide) (d3 11 (by decide)), RIK_same kY hmi (d1 80 (by decide)) hx (d3 1 (by decide)) (d3 13 (by decide)), trivial⟩
def LR2 (i : Nat → Int32) (r : Nat → Nat → Int32) (gi : Nat → Nat → Int32) (gr : Nat → Nat → Nat → Int32) (nh : Nat) (im : Nat → Int32) (rm : Nat → Nat → Int32) : Prop := True
theorem LR2_same (h : LR2 i r gi gr nh im rm) (hmi : mEi TM im im2) (hmr : mEr TR rm rm2) (hx : CX TI T nh i r gi gr i2 r2 gi2 gr2) (d1 : ∀ a ∈ ([] : List Nat), a ∉ TM) (d2 : ∀ a ∈ ([] : List Nat), a ∉ TR) (d3 : ∀ a ∈ ([] : List Nat), a ∉ TI) (d4 : ∀ a ∈ ([] : List Nat), a ∉ T) : LR2 i2 r2 gi2 gr2 nh im2 rm2 := by
  skip
  exact trivial
def LR3 (i : Nat → Int32) (r : Nat → Nat → Int32) (gi : Nat → Nat → Int32) (gr : Nat → Nat → Nat → Int32) (nh : Nat) (im : Nat → Int32) (rm : Nat → Nat → Int32) : Prop := True
theorem LR3_same (h : LR3 i r gi gr nh im rm) (hmi : mEi TM im im2) (hmr : mEr TR rm rm2) (hx : CX TI T nh i r gi gr i2 r2 gi2 gr2) (d1 : ∀ a ∈ ([] : List Nat), a ∉ TM) (d2 : ∀ a ∈ ([] : List Nat), a ∉ TR) (d3 : ∀ a ∈ ([] : List Nat), a ∉ TI) (d4 : ∀ a ∈ ([] : List Nat), a ∉ T) : LR3 i2 r2 gi2 gr2 nh im2 rm2 := by
  skip
  exact trivial
def LR (i : Nat → Int32) (r : Nat → Nat → Int32) (gi : Nat → Nat → Int32) (gr : Nat → Nat → Nat → Int32) (nh : Nat) (im : Nat → Int32) (rm : Nat → Nat → Int32) : Prop := LR1 i r gi gr nh im rm ∧ LR2 i r gi gr nh im rm ∧ LR3 i r gi gr nh im rm
end REL
/-- what holds of the class between two calls; of the reference -/
def LX (i : Nat → Int32) (r : Nat → Nat → Int32) (q : Nat → Option Nat) (gb : Nat → Nat → Nat) (gi : Nat → Nat → Int32) (gr : Nat → Nat → Nat → Int32) (nh : Nat) : Prop := (yRi i ∧ yRr r) ∧ (i 0).toInt = (nh : Int) ∧ ∀ k, k < nh → q k = some (gb k 61) ∧ yRi (gi k) ∧ yRr (gr k)
def LM (i : Nat → Int32) (r : Nat → Nat → Int32) : Prop := mRi i ∧ mRr r ∧ mE i r
theorem LX_x {i i2 : Nat → Int32} {r r2 : Nat → Nat → Int32} {q : Nat → Option Nat} {gb : Nat → Nat → Nat} {gi : Nat → Nat → Int32} {gr : Nat → Nat → Nat → Int32} {nh : Nat} (h : LX i r q gb gi gr nh) (h1 : yRi i2) (h2 : yRr r2) (e0 : i2 0 = i 0) : LX i2 r2 q gb gi gr nh := ⟨⟨h1, h2⟩, by rw [e0]; exact h.2.1, h.2.2⟩
theorem LX_y {i i2 : Nat → Int32} {r r2 : Nat → Nat → Int32} {q : Nat → Option Nat} {gb : Nat → Nat → Nat} {gi : Nat → Nat → Int32} {gr : Nat → Nat → Nat → Int32} {nh K : Nat} (h : LX i r q gb gi gr nh) (h1 : yRi i2) (h2 : yRr r2) (e0 : i2 0 = i 0) : LX i2 r2 q gb (uf gi K i2) (uf gr K r2) nh := by
  refine ⟨⟨h1, h2⟩, by rw [e0]; exact h.2.1, fun k hk => ⟨(h.2.2 k hk).1, ?_, ?_⟩⟩
  · unfold uf
    by_cases e : k = K
    · rw [if_pos e]; exact h1
    · rw [if_neg e]; exact (h.2.2 k hk).2.1
  · unfold uf
    by_cases e : k = K
    · rw [if_pos e]; exact h2
    · rw [if_neg e]; exact (h.2.2 k hk).2.2
theorem joinM {A : Nat → Prop} {D : va_G} {cl : List vw_C} {X Y M M2 : va_W} {H H1 : Heap} (hP : va_P D cl (X ++ (Y ++ M)) H) (hD : va_D A (X ++ (Y ++ M))) (hk : ∀ q : Nat, q < H.size → ¬ va_A M H.size q → H1[q]? = H[q]?) (hP1 : va_P D cl M2 H1) (hF : M2.map Prod.fst = M.map Prod.fst) : va_P D cl (X ++ (Y ++ M2)) H1 ∧ va_D A (X ++ (Y ++ M2)) := by
  rw [← List.append_assoc] at hP hD ⊢
  exact joinR hP hD hk hP1 hF
theorem nI_ix {j k : Nat} {x v : Int32} (hx : x = nI (7 * j)) (hv : v.toInt = x.toInt + k) (h : 7 * j + k < 3584) : v.toNatClampNeg = 7 * j + k := by
  have h1 : x.toInt = ((7 * j : Nat) : Int) := by rw [hx]; exact nI_toInt (by omega)
  show v.toInt.toNat = _
  omega
set_option maxHeartbeats 4000000 in
set_option maxRecDepth 100000 in
theorem lc_0 {p : Program} {l : Launch} {e : Env} {s : State} {m : MethodId} {below : List Frame} {meth : Method} {c : Code} {b L : Nat} {xs : Nat → Int32} (C0 : lw_At p s m meth c b L xs) {D : va_G} {cy : Nat → ClassId} {kq vq : Nat} {A : Nat → Prop} (hA : ∀ q, s.heap.size ≤ q → A q) (hbA : ¬ A b) (hK : va_K D vwCl (vT cy) s) (hn : nw s) (hm0 : nm s) (hsk : vk_R RX6 101 "krsoamngcv" kq s ∧ sA kq vq A s s.heap) {a : Nat → Nat} {i : Nat → Int32} {r : Nat → Nat → Int32} {q : Nat → Option Nat} {gb : Nat → Nat → Nat} {gi : Nat → Nat → Int32} {gr : Nat → Nat → Nat → Int32} {nh : Nat} {am : Nat → Nat} {im : Nat → Int32} {rm : Nat → Nat → Int32} {lm : Nat → Int64} (hLX : LX i r q gb gi gr nh) (hLM : LM im rm) (hLR : LR i r gi gr nh im rm) {H : Heap} {locs : List Loc} (hP : va_P D vwCl (xW cy a i r q (a 20) (a 12) ++ (HL cy gb gi gr nh ++ (mW cy am im rm lm))) H) (hD : va_D A (xW cy a i r q (a 20) (a 12) ++ (HL cy gb gi gr nh ++ (mW cy am im rm lm)))) (hS : va_S A s.heap H locs) {ls : Array Slot} {x : Int32} (hl : lv_has ls 4 [(0, .ref b), (1, .ref (a 0)), (2, .ref (am 0)), (3, .int x)]) {j : Nat} (hj : 7 * j + 7 ≤ L) (hL : L ≤ 3584) (hxj : x = nI (7 * j)) {ce sl : Nat} (hce : ce + 15 ≤ 600000) (hsl : sl + 215 ≤ 7302250) (kk : ∀ (a2 : Nat → Nat) (i2 : Nat → Int32) (r2 : Nat → Nat → Int32) (q2 : Nat → Option Nat) (gb2 : Nat → Nat → Nat) (gi2 : Nat → Nat → Int32) (gr2 : Nat → Nat → Nat → Int32) (nh2 : Nat) (im2 : Nat → Int32) (rm2 : Nat → Nat → Int32) (lm2 : Nat → Int64) (H2 : Heap) (locs2 : List Loc) (ls2 : Array Slot), a2 0 = a 0 → LX i2 r2 q2 gb2 gi2 gr2 nh2 → LM im2 rm2 → LR i2 r2 gi2 gr2 nh2 im2 rm2 → va_P D vwCl (xW cy a2 i2 r2 q2 (a2 20) (a2 12) ++ (HL cy gb2 gi2 gr2 nh2 ++ (mW cy am im2 rm2 lm2))) H2 → va_D A (xW cy a2 i2 r2 q2 (a2 20) (a2 12) ++ (HL cy gb2 gi2 gr2 nh2 ++ (mW cy am im2 rm2 lm2))) → va_S A s.heap H2 locs2 → lv_has ls2 4 [(0, .ref b), (1, .ref (a 0)), (2, .ref (am 0)), (3, .int x)] → W p l e room_1 s m #[Value.ref b] below meth c H2 locs2 (ce + 15) (sl + 215) (lw_Z below #[Value.ref b] s) (F0 m 1525 ls2 [])) : W p l e room_1 s m #[Value.ref b] below meth c H locs ce sl (lw_Z below #[Value.ref b] s) (F0 m 180 ls []) := by
  obtain ⟨hx, hb, hr, hml, hown, hts, hX, hbl, hlocks, hgv⟩ := id C0
  have hT : ∀ w ∈ gT, w.before _ s = true := fun w h => hts w (gT_in w h)
  have hx0 : x.toInt = ((7 * j : Nat) : Int) := by rw [hxj]; exact nI_toInt (by omega)
  have hLX0 := hLX
  have hLM0 := hLM
  refine lv_aload_n hx hb dL_law_180 rfl (lv_at hl 1 rfl) ?_
  refine lv_aload_n hx hb dL_law_181 rfl (lv_at hl 0 rfl) ?_
  refine lv_iload_n hx hb dL_law_182 rfl (lv_at hl 3 rfl) ?_
  refine lv_iconst (v := 1) hx hb dL_law_183 (by decide) ?_
  refine lv_iadd hx hb dL_law_184 ?_
  refine lv_topi (fun v_1 ev_1 => ?_)
  have hv_1 : v_1.toInt = x.toInt + 1 := by rw [ev_1]; have := b_rg x; exact i_add (a := x.toInt) (b := 1) rfl rfl (by omega) (by omega)
  refine va_sld hx hb hX hbl hbA hS (vp_inI (by omega) (by omega)) dL_law_185 ?_
  refine lv_topi (fun v_2 ev_2 => ?_)
  obtain rfl : v_2 = xs (7 * j + 1) := ev_2.trans (congrArg xs (nI_ix hxj (by omega) (by omega)))
  refine lv_aload_n hx hb dL_law_186 rfl (lv_at hl 0 rfl) ?_
  refine lv_iload_n hx hb dL_law_187 rfl (lv_at hl 3 rfl) ?_
  refine lv_iconst (v := 2) hx hb dL_law_188 (by decide) ?_
  refine lv_iadd hx hb dL_law_189 ?_
  refine lv_topi (fun v_3 ev_3 => ?_)
  have hv_3 : v_3.toInt = x.toInt + 2 := by rw [ev_3]; have := b_rg x; exact i_add (a := x.toInt) (b := 2) rfl rfl (by omega) (by omega)
  refine va_sld hx hb hX hbl hbA hS (vp_inI (by omega) (by omega)) dL_law_190 ?_
  refine lv_topi (fun v_4 ev_4 => ?_)
  obtain rfl : v_4 = xs (7 * j + 2) := ev_4.trans (congrArg xs (nI_ix hxj (by omega) (by omega)))
  have hRi := hLX.1.1
  have hRr := hLX.1.2
  have hF_5 := rF hD hS hA
  refine va_calli (va_runV (As := [.int (xs (7 * j + 1)), .int (xs (7 * j + 2))]) (rest := []) ⟨hx, hb, hml, hown, hT⟩ (c_X11_life l D cy a i r q (HL cy gb gi gr nh ++ (mW cy am im rm lm)) (xs (7 * j + 1)) (xs (7 * j + 2)) _ hRi hRr) (cwV 2 hT (gV t_917 t_918 t_919 t_920 t_2) rfl rfl rfl (by decide +kernel) ⟨Nat.le_of_ble_eq_true rfl, Nat.le_of_ble_eq_true rfl⟩) (rQ_v hP hK hD (va_recv hK hP (ci := 11) (q0 := 0) rfl rfl)) rfl rfl hl.1 rfl (lv_room (Nat.le_of_ble_eq_true rfl)) dL_law_191 ⟨by show _ ≤ (600000 : Nat); omega, by show _ ≤ (7302250 : Nat); omega⟩) hS (fun q _ h => hF_5 q h) hF_5 (fun r_6 u_7 t H1 locs ht hvm hr_6 hB hz1 hk1 hS => ?_)
  obtain ⟨r7, rfl⟩ : ∃ z, z = u_7 := ⟨_, rfl⟩
  obtain ⟨hP, hK1, hD1⟩ := hB
  rw [ht] at hP
  have hD := hD1.weaken (fun k q _ h => hF_5 q.1 h)
  obtain ⟨hRr, hE2, hr_6⟩ := hr_6
  have hRr : yRr r7 := hRr
  have hE2 : mEr [2] r r7 := hE2
  have hP : va_P D vwCl (xW cy a i r7 q (a 20) (a 12) ++ (HL cy gb gi gr nh ++ (mW cy am im rm lm))) H1 := hP
  have hD : va_D A (xW cy a i r7 q (a 20) (a 12) ++ (HL cy gb gi gr nh ++ (mW cy am im rm lm))) := hD
  have hLX := LX_x hLX hRi hRr rfl
  have hCX := CX_x (gi := gi) (gr := gr) (nh := nh) (Ei_rf (T := []) (i := i)) hE2
  refine lv_pop hx hb dL_law_194 rfl ?_
  refine lv_aload_n hx hb dL_law_195 rfl (lv_at hl 2 rfl) ?_
  refine lv_aload_n hx hb dL_law_196 rfl (lv_at hl 0 rfl) ?_
  refine lv_iload_n hx hb dL_law_197 rfl (lv_at hl 3 rfl) ?_
  refine lv_iconst (v := 1) hx hb dL_law_198 (by decide) ?_
  refine lv_iadd hx hb dL_law_199 ?_
  refine lv_topi (fun v_8 ev_8 => ?_)
  have hv_8 : v_8.toInt = x.toInt + 1 := by rw [ev_8]; have := b_rg x; exact i_add (a := x.toInt) (b := 1) rfl rfl (by omega) (by omega)
  refine va_sld hx hb hX hbl hbA hS (vp_inI (by omega) (by omega)) dL_law_200 ?_
  refine lv_topi (fun v_9 ev_9 => ?_)
  obtain rfl : v_9 = xs (7 * j + 1) := ev_9.trans (congrArg xs (nI_ix hxj (by omega) (by omega)))
  refine lv_aload_n hx hb dL_law_201 rfl (lv_at hl 0 rfl) ?_
  refine lv_iload_n hx hb dL_law_202 rfl (lv_at hl 3 rfl) ?_
  refine lv_iconst (v := 2) hx hb dL_law_203 (by decide) ?_
  refine lv_iadd hx hb dL_law_204 ?_
  refine lv_topi (fun v_10 ev_10 => ?_)
  have hv_10 : v_10.toInt = x.toInt + 2 := by rw [ev_10]; have := b_rg x; exact i_add (a := x.toInt) (b := 2) rfl rfl (by omega) (by omega)
  refine va_sld hx hb hX hbl hbA hS (vp_inI (by omega) (by omega)) dL_law_205 ?_
  refine lv_topi (fun v_11 ev_11 => ?_)
  obtain rfl : v_11 = xs (7 * j + 2) := ev_11.trans (congrArg xs (nI_ix hxj (by omega) (by omega)))
  have hPa := hP
  have hDa := hD
  have hP := vaP_r (vaP_r hPa)
  have hD := vaD_r (vaD_r hDa)
  have hRi := hLM.1
  have hRr := hLM.2.1
  have hE := hLM.2.2
  have hF_12 := rF hD hS hA
  refine va_calli (va_runV (As := [.int (xs (7 * j + 1)), .int (xs (7 * j + 2))]) (rest := []) ⟨hx, hb, hml, hown, hT⟩ (c_X12_life l D cy am im rm lm (xs (7 * j + 1)) (xs (7 * j + 2)) _ hRi hRr) (cwV 2 hT (gV t_921 t_922 t_923 t_924 t_6) rfl rfl rfl (by decide +kernel) ⟨Nat.le_of_ble_eq_true rfl, Nat.le_of_ble_eq_true rfl⟩) (rQ_v hP hK hD (va_recv hK hP (ci := 12) (q0 := 0) rfl rfl)) rfl rfl hl.1 rfl (lv_room (Nat.le_of_ble_eq_true rfl)) dL_law_206 ⟨by show _ ≤ (600000 : Nat); omega, by show _ ≤ (7302250 : Nat); omega⟩) hS (fun q _ h => hF_12 q h) hF_12 (fun r_13 u_14 t H1 locs ht hvm hr_13 hB hz1 hk1 hS => ?_)
  obtain ⟨r14, rfl⟩ : ∃ z, z = u_14 := ⟨_, rfl⟩
  obtain ⟨hP, hK1, hD1⟩ := hB
  rw [ht] at hP
  have hD := hD1.weaken (fun k q _ h => hF_12 q.1 h)
  have hP : va_P D vwCl (mW cy am im r14 lm) H1 := hP
  have hD : va_D A (mW cy am im r14 lm) := hD
  obtain ⟨hRr, hE2, hr_13⟩ := hr_13
  have hRr : mRr r14 := hRr
  obtain ⟨hP, hD⟩ := joinM hPa hDa hk1 hP rfl
  have hLM : LM im r14 := ⟨hRi, hRr, (mE_same (Ei_rf (T := [])) hE2 (by decide) (by decide) hE)⟩
  have hMI : mEi [] im im := Ei_rf
  have hMR : mEr [1] rm r14 := hE2
  obtain ⟨hL1, hL2, hL3⟩ := id hLR
  obtain ⟨kH, kK, kN, kX, kY, _⟩ := id hL1
  have hLR : LR i r7 gi gr nh im r14 := ⟨LR1_same hL1 hMI hMR hCX (by decide) (by decide) (by decide) (by decide), LR2_same hL2 hMI hMR hCX (by decide) (by decide) (by decide) (by decide), LR3_same hL3 hMI hMR hCX (by decide) (by decide) (by decide) (by decide)⟩
  refine lv_pop hx hb dL_law_209 rfl ?_
  refine lv_goto (tgt := 1525) hx hb dL_law_210 (by decide) ?_
  refine W.widen (k := ce + 15) (n := sl + 215) (by omega) (by omega) ?_
  exact kk a _ _ _ _ _ _ _ _ _ _ _ _ _ rfl hLX hLM hLR hP hD hS (lv_sub hl [0, 1, 2, 3] rfl)
set_option maxHeartbeats 4000000 in
set_option maxRecDepth 100000 in
theorem lc_1 {p : Program} {l : Launch} {e : Env} {s : State} {m : MethodId} {below : List Frame} {meth : Method} {c : Code} {b L : Nat} {xs : Nat → Int32} (C0 : lw_At p s m meth c b L xs) {D : va_G} {cy : Nat → ClassId} {kq vq : Nat} {A : Nat → Prop} (hA : ∀ q, s.heap.size ≤ q → A q) (hbA : ¬ A b) (hK : va_K D vwCl (vT cy) s) (hn : nw s) (hm0 : nm s) (hsk : vk_R RX6 101 "krsoamngcv" kq s ∧ sA kq vq A s s.heap) {a : Nat → Nat} {i : Nat → Int32} {r : Nat → Nat → Int32} {q : Nat → Option Nat} {gb : Nat → Nat → Nat} {gi : Nat → Nat → Int32} {gr : Nat → Nat → Nat → Int32} {nh : Nat} {am : Nat → Nat} {im : Nat → Int32} {rm : Nat → Nat → Int32} {lm : Nat → Int64} (hLX : LX i r q gb gi gr nh) (hLM : LM im rm) (hLR : LR i r gi gr nh im rm) {H : Heap} {locs : List Loc} (hP : va_P D vwCl (xW cy a i r q (a 20) (a 12) ++ (HL cy gb gi gr nh ++ (mW cy am im rm lm))) H) (hD : va_D A (xW cy a i r q (a 20) (a 12) ++ (HL cy gb gi gr nh ++ (mW cy am im rm lm)))) (hS : va_S A s.heap H locs) {ls : Array Slot} {x : Int32} (hl : lv_has ls 4 [(0, .ref b), (1, .ref (a 0)), (2, .ref (am 0)), (3, .int x)]) {j : Nat} (hj : 7 * j + 7 ≤ L) (hL : L ≤ 3584) (hxj : x = nI (7 * j)) {ce sl : Nat} (hce : ce + 15 ≤ 600000) (hsl : sl + 215 ≤ 7302250) (kk : ∀ (a2 : Nat → Nat) (i2 : Nat → Int32) (r2 : Nat → Nat → Int32) (q2 : Nat → Option Nat) (gb2 : Nat → Nat → Nat) (gi2 : Nat → Nat → Int32) (gr2 : Nat → Nat → Nat → Int32) (nh2 : Nat) (im2 : Nat → Int32) (rm2 : Nat → Nat → Int32) (lm2 : Nat → Int64) (H2 : Heap) (locs2 : List Loc) (ls2 : Array Slot), a2 0 = a 0 → LX i2 r2 q2 gb2 gi2 gr2 nh2 → LM im2 rm2 → LR i2 r2 gi2 gr2 nh2 im2 rm2 → va_P D vwCl (xW cy a2 i2 r2 q2 (a2 20) (a2 12) ++ (HL cy gb2 gi2 gr2 nh2 ++ (mW cy am im2 rm2 lm2))) H2 → va_D A (xW cy a2 i2 r2 q2 (a2 20) (a2 12) ++ (HL cy gb2 gi2 gr2 nh2 ++ (mW cy am im2 rm2 lm2))) → va_S A s.heap H2 locs2 → lv_has ls2 4 [(0, .ref b), (1, .ref (a 0)), (2, .ref (am 0)), (3, .int x)] → W p l e room_1 s m #[Value.ref b] below meth c H2 locs2 (ce + 15) (sl + 215) (lw_Z below #[Value.ref b] s) (F0 m 1525 ls2 [])) : W p l e room_1 s m #[Value.ref b] below meth c H locs ce sl (lw_Z below #[Value.ref b] s) (F0 m 213 ls []) := by
  obtain ⟨hx, hb, hr, hml, hown, hts, hX, hbl, hlocks, hgv⟩ := id C0
  have hT : ∀ w ∈ gT, w.before _ s = true := fun w h => hts w (gT_in w h)
  have hx0 : x.toInt = ((7 * j : Nat) : Int) := by rw [hxj]; exact nI_toInt (by omega)
  have hLX0 := hLX
  have hLM0 := hLM
  refine lv_aload_n hx hb dL_law_213 rfl (lv_at hl 1 rfl) ?_
  refine lv_aload_n hx hb dL_law_214 rfl (lv_at hl 0 rfl) ?_
  refine lv_iload_n hx hb dL_law_215 rfl (lv_at hl 3 rfl) ?_
  refine lv_iconst (v := 1) hx hb dL_law_216 (by decide) ?_
  refine lv_iadd hx hb dL_law_217 ?_
  refine lv_topi (fun v_1 ev_1 => ?_)
  have hv_1 : v_1.toInt = x.toInt + 1 := by rw [ev_1]; have := b_rg x; exact i_add (a := x.toInt) (b := 1) rfl rfl (by omega) (by omega)
  refine va_sld hx hb hX hbl hbA hS (vp_inI (by omega) (by omega)) dL_law_218 ?_
  refine lv_topi (fun v_2 ev_2 => ?_)
  obtain rfl : v_2 = xs (7 * j + 1) := ev_2.trans (congrArg xs (nI_ix hxj (by omega) (by omega)))
  refine lv_aload_n hx hb dL_law_219 rfl (lv_at hl 0 rfl) ?_
  refine lv_iload_n hx hb dL_law_220 rfl (lv_at hl 3 rfl) ?_
  refine lv_iconst (v := 2) hx hb dL_law_221 (by decide) ?_
  refine lv_iadd hx hb dL_law_222 ?_
  refine lv_topi (fun v_3 ev_3 => ?_)
  have hv_3 : v_3.toInt = x.toInt + 2 := by rw [ev_3]; have := b_rg x; exact i_add (a := x.toInt) (b := 2) rfl rfl (by omega) (by omega)
  refine va_sld hx hb hX hbl hbA hS (vp_inI (by omega) (by omega)) dL_law_223 ?_
  refine lv_topi (fun v_4 ev_4 => ?_)
  obtain rfl : v_4 = xs (7 * j + 2) := ev_4.trans (congrArg xs (nI_ix hxj (by omega) (by omega)))
  refine lv_aload_n hx hb dL_law_224 rfl (lv_at hl 0 rfl) ?_
  refine lv_iload_n hx hb dL_law_225 rfl (lv_at hl 3 rfl) ?_
  refine lv_iconst (v := 3) hx hb dL_law_226 (by decide) ?_
  refine lv_iadd hx hb dL_law_227 ?_
  refine lv_topi (fun v_5 ev_5 => ?_)
  have hv_5 : v_5.toInt = x.toInt + 3 := by rw [ev_5]; have := b_rg x; exact i_add (a := x.toInt) (b := 3) rfl rfl (by omega) (by omega)
  refine va_sld hx hb hX hbl hbA hS (vp_inI (by omega) (by omega)) dL_law_228 ?_
  refine lv_topi (fun v_6 ev_6 => ?_)
  obtain rfl : v_6 = xs (7 * j + 3) := ev_6.trans (congrArg xs (nI_ix hxj (by omega) (by omega)))
  have hRi := hLX.1.1
  have hRr := hLX.1.2
  have hF_7 := rF hD hS hA
  refine va_calli (va_runV (As := [.int (xs (7 * j + 1)), .int (xs (7 * j + 2)), .int (xs (7 * j + 3))]) (rest := []) ⟨hx, hb, hml, hown, hT⟩ (c_X11_price l D cy a i r q (HL cy gb gi gr nh ++ (mW cy am im rm lm)) (xs (7 * j + 1)) (xs (7 * j + 2)) (xs (7 * j + 3)) _ hRi hRr) (cwV 3 hT (gV t_925 t_926 t_927 t_928 t_2) rfl rfl rfl (by decide +kernel) ⟨Nat.le_of_ble_eq_true rfl, Nat.le_of_ble_eq_true rfl⟩) (rQ_v hP hK hD (va_recv hK hP (ci := 11) (q0 := 0) rfl rfl)) rfl rfl hl.1 rfl (lv_room (Nat.le_of_ble_eq_true rfl)) dL_law_229 ⟨by show _ ≤ (600000 : Nat); omega, by show _ ≤ (7302250 : Nat); omega⟩) hS (fun q _ h => hF_7 q h) hF_7 (fun r_8 u_9 t H1 locs ht hvm hr_8 hB hz1 hk1 hS => ?_)
  obtain ⟨r9, rfl⟩ : ∃ z, z = u_9 := ⟨_, rfl⟩
  obtain ⟨hP, hK1, hD1⟩ := hB
  rw [ht] at hP
  have hD := hD1.weaken (fun k q _ h => hF_7 q.1 h)
  obtain ⟨hRr, hE2, hr_8⟩ := hr_8
  have hRr : yRr r9 := hRr
  have hE2 : mEr [3] r r9 := hE2
  have hP : va_P D vwCl (xW cy a i r9 q (a 20) (a 12) ++ (HL cy gb gi gr nh ++ (mW cy am im rm lm))) H1 := hP
  have hD : va_D A (xW cy a i r9 q (a 20) (a 12) ++ (HL cy gb gi gr nh ++ (mW cy am im rm lm))) := hD
  have hLX := LX_x hLX hRi hRr rfl
  have hCX := CX_x (gi := gi) (gr := gr) (nh := nh) (Ei_rf (T := []) (i := i)) hE2
  refine lv_pop hx hb dL_law_232 rfl ?_
  refine lv_aload_n hx hb dL_law_233 rfl (lv_at hl 2 rfl) ?_
  refine lv_aload_n hx hb dL_law_234 rfl (lv_at hl 0 rfl) ?_
  refine lv_iload_n hx hb dL_law_235 rfl (lv_at hl 3 rfl) ?_
  refine lv_iconst (v := 1) hx hb dL_law_236 (by decide) ?_
  refine lv_iadd hx hb dL_law_237 ?_
  refine lv_topi (fun v_10 ev_10 => ?_)
  have hv_10 : v_10.toInt = x.toInt + 1 := by rw [ev_10]; have := b_rg x; exact i_add (a := x.toInt) (b := 1) rfl rfl (by omega) (by omega)
  refine va_sld hx hb hX hbl hbA hS (vp_inI (by omega) (by omega)) dL_law_238 ?_
  refine lv_topi (fun v_11 ev_11 => ?_)
  obtain rfl : v_11 = xs (7 * j + 1) := ev_11.trans (congrArg xs (nI_ix hxj (by omega) (by omega)))
  refine lv_aload_n hx hb dL_law_239 rfl (lv_at hl 0 rfl) ?_
  refine lv_iload_n hx hb dL_law_240 rfl (lv_at hl 3 rfl) ?_
  refine lv_iconst (v := 2) hx hb dL_law_241 (by decide) ?_
  refine lv_iadd hx hb dL_law_242 ?_
  refine lv_topi (fun v_12 ev_12 => ?_)
  have hv_12 : v_12.toInt = x.toInt + 2 := by rw [ev_12]; have := b_rg x; exact i_add (a := x.toInt) (b := 2) rfl rfl (by omega) (by omega)
  refine va_sld hx hb hX hbl hbA hS (vp_inI (by omega) (by omega)) dL_law_243 ?_
  refine lv_topi (fun v_13 ev_13 => ?_)
  obtain rfl : v_13 = xs (7 * j + 2) := ev_13.trans (congrArg xs (nI_ix hxj (by omega) (by omega)))
  refine lv_aload_n hx hb dL_law_244 rfl (lv_at hl 0 rfl) ?_
  refine lv_iload_n hx hb dL_law_245 rfl (lv_at hl 3 rfl) ?_
  refine lv_iconst (v := 3) hx hb dL_law_246 (by decide) ?_
  refine lv_iadd hx hb dL_law_247 ?_
  refine lv_topi (fun v_14 ev_14 => ?_)
  have hv_14 : v_14.toInt = x.toInt + 3 := by rw [ev_14]; have := b_rg x; exact i_add (a := x.toInt) (b := 3) rfl rfl (by omega) (by omega)
  refine va_sld hx hb hX hbl hbA hS (vp_inI (by omega) (by omega)) dL_law_248 ?_
  refine lv_topi (fun v_15 ev_15 => ?_)
  obtain rfl : v_15 = xs (7 * j + 3) := ev_15.trans (congrArg xs (nI_ix hxj (by omega) (by omega)))
  have hPa := hP
  have hDa := hD
  have hP := vaP_r (vaP_r hPa)
  have hD := vaD_r (vaD_r hDa)
  have hRi := hLM.1
  have hRr := hLM.2.1
  have hE := hLM.2.2
  have hF_16 := rF hD hS hA
  refine va_calli (va_runV (As := [.int (xs (7 * j + 1)), .int (xs (7 * j + 2)), .int (xs (7 * j + 3))]) (rest := []) ⟨hx, hb, hml, hown, hT⟩ (c_X12_price l D cy am im rm lm (xs (7 * j + 1)) (xs (7 * j + 2)) (xs (7 * j + 3)) _ hRi hRr) (cwV 3 hT (gV t_929 t_930 t_931 t_932 t_6) rfl rfl rfl (by decide +kernel) ⟨Nat.le_of_ble_eq_true rfl, Nat.le_of_ble_eq_true rfl⟩) (rQ_v hP hK hD (va_recv hK hP (ci := 12) (q0 := 0) rfl rfl)) rfl rfl hl.1 rfl (lv_room (Nat.le_of_ble_eq_true rfl)) dL_law_249 ⟨by show _ ≤ (600000 : Nat); omega, by show _ ≤ (7302250 : Nat); omega⟩) hS (fun q _ h => hF_16 q h) hF_16 (fun r_17 u_18 t H1 locs ht hvm hr_17 hB hz1 hk1 hS => ?_)
  obtain ⟨r18, rfl⟩ : ∃ z, z = u_18 := ⟨_, rfl⟩
  obtain ⟨hP, hK1, hD1⟩ := hB
  rw [ht] at hP
  have hD := hD1.weaken (fun k q _ h => hF_16 q.1 h)
  have hP : va_P D vwCl (mW cy am im r18 lm) H1 := hP
  have hD : va_D A (mW cy am im r18 lm) := hD
  obtain ⟨hRr, hE2, hr_17⟩ := hr_17
  have hRr : mRr r18 := hRr
  obtain ⟨hP, hD⟩ := joinM hPa hDa hk1 hP rfl
  have hLM : LM im r18 := ⟨hRi, hRr, (mE_same (Ei_rf (T := [])) hE2 (by decide) (by decide) hE)⟩
  have hMI : mEi [] im im := Ei_rf
  have hMR : mEr [2] rm r18 := hE2
  obtain ⟨hL1, hL2, hL3⟩ := id hLR
  obtain ⟨kH, kK, kN, kX, kY, _⟩ := id hL1
  have hLR : LR i r9 gi gr nh im r18 := ⟨LR1_same hL1 hMI hMR hCX (by decide) (by decide) (by decide) (by decide), LR2_same hL2 hMI hMR hCX (by decide) (by decide) (by decide) (by decide), LR3_same hL3 hMI hMR hCX (by decide) (by decide) (by decide) (by decide)⟩
  refine lv_pop hx hb dL_law_252 rfl ?_
  refine lv_goto (tgt := 1525) hx hb dL_law_253 (by decide) ?_
  refine W.widen (k := ce + 15) (n := sl + 215) (by omega) (by omega) ?_
  exact kk a _ _ _ _ _ _ _ _ _ _ _ _ _ rfl hLX hLM hLR hP hD hS (lv_sub hl [0, 1, 2, 3] rfl)
