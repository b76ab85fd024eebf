set_option maxRecDepth 100000 in
theorem t_263 : Cond.fieldLink RX11 22 "DepositJudge" "homeCount" "I" ∈ gT := tm (tb2 (List.mem_of_getElem? (i := 13) (by rfl))) (by decide +kernel)
set_option maxRecDepth 100000 in
theorem t_264 : Cond.fieldLink RX11 18 "DepositJudge" "homes" "[LDepositJudge$Home;" ∈ gT := tm (tb2 (List.mem_of_getElem? (i := 12) (by rfl))) (by decide +kernel)
set_option maxRecDepth 100000 in
theorem t_265 : Cond.fieldLink RX11 61 "DepositJudge" "docket" "LDepositJudge$Docket;" ∈ gT := tm (tb2 (List.mem_of_getElem? (i := 19) (by rfl))) (by decide +kernel)
set_option maxRecDepth 100000 in
theorem t_266 : Cond.fieldLink RX11 320 "DepositJudge$Docket" "claims" "I" ∈ gT := tm (tb1 (List.mem_of_getElem? (i := 143) (by rfl))) (by decide +kernel)
set_option maxRecDepth 100000 in
theorem t_267 : Cond.fieldLink RX11 10 "DepositJudge" "prices" "LDepositJudge$PriceList;" ∈ gT := tm (tb2 (List.mem_of_getElem? (i := 11) (by rfl))) (by decide +kernel)
set_option maxRecDepth 100000 in
theorem t_268 : Cond.fieldLink RX11 97 "DepositJudge$PriceList" "lives" "[I" ∈ gT := tm (tb1 (List.mem_of_getElem? (i := 35) (by rfl))) (by decide +kernel)
set_option maxRecDepth 100000 in
theorem t_269 : Cond.constant RX11 100 (99999) ∈ gT := tm (tb2 (List.mem_of_getElem? (i := 65) (by rfl))) (by decide +kernel)
set_option maxRecDepth 100000 in
theorem t_270 : Cond.fieldLink RX11 101 "DepositJudge$PriceList" "pence" "[I" ∈ gT := tm (tb1 (List.mem_of_getElem? (i := 37) (by rfl))) (by decide +kernel)
set_option maxRecDepth 100000 in
theorem t_271 : Cond.constant RX11 273 (65535) ∈ gT := tm (tb4 (List.mem_of_getElem? (i := 91) (by rfl))) (by decide +kernel)
set_option maxRecDepth 100000 in
theorem t_272 : Cond.fieldLink RX11 274 "DepositJudge$Docket" "x" "I" ∈ gT := tm (tb1 (List.mem_of_getElem? (i := 165) (by rfl))) (by decide +kernel)
set_option maxRecDepth 100000 in
theorem t_273 : Cond.code yX11_isClaim cX11_isClaim 2 (some .boolean) ∈ gT := tm (tb4 (List.mem_of_getElem? (i := 8) (by rfl))) (by decide +kernel)
set_option maxRecDepth 100000 in
theorem t_274 : Cond.methodLink RX11 196 yX11_isClaim ∈ gT := tm (tb4 (List.mem_of_getElem? (i := 5) (by rfl))) (by decide +kernel)
set_option maxRecDepth 100000 in
theorem t_275 : Cond.instanceMethod yX11_isClaim ∈ gT := tm (tb4 (List.mem_of_getElem? (i := 7) (by rfl))) (by decide +kernel)
theorem t_276 : Cond.selects RX11 yX11_isClaim yX11_isClaim ∈ gT := tmp (List.mem_of_getElem? (i := 23) (by decide +kernel)) (by decide +kernel)
set_option maxRecDepth 100000 in
theorem t_277 : Cond.constant RX11 104 (999999) ∈ gT := tm (tb2 (List.mem_of_getElem? (i := 70) (by rfl))) (by decide +kernel)
set_option maxRecDepth 100000 in
theorem t_278 : Cond.fieldLink RX11 199 "DepositJudge$Docket" "agreed" "[I" ∈ gT := tm (tb1 (List.mem_of_getElem? (i := 155) (by rfl))) (by decide +kernel)
def dl_202 : List (Nat × (Instr × Nat)) := [(0, (.aload_n 0, 1)), (1, (.iload_n 1, 1)), (2, (.invokevirtual 196, 3)), (5, (.ifCond .eq 13, 3)), (8, (.iload_n 2, 1)), (9, (.iconst 0, 1)), (10, (.ldc 104, 2)), (12, (.invokestatic 93, 3)), (15, (.ifCond .ne 5, 3)), (18, (.iconst 0, 1)), (19, (.ireturn, 1)), (20, (.aload_n 0, 1)), (21, (.getfield 61, 3)), (24, (.getfield 199, 3)), (27, (.iload_n 1, 1)), (28, (.iload_n 2, 1)), (29, (.iastore, 1)), (30, (.iconst 1, 1)), (31, (.ireturn, 1))]
theorem dh_202 : dchk cX11_agree dl_202 = true := by decide +kernel
theorem dX11_agree_0 : decode cX11_agree 0 = .ok (.aload_n 0, 1) := dget dh_202 (k := 0) rfl
theorem dX11_agree_1 : decode cX11_agree 1 = .ok (.iload_n 1, 1) := dget dh_202 (k := 1) rfl
theorem dX11_agree_2 : decode cX11_agree 2 = .ok (.invokevirtual 196, 3) := dget dh_202 (k := 2) rfl
theorem dX11_agree_5 : decode cX11_agree 5 = .ok (.ifCond .eq 13, 3) := dget dh_202 (k := 3) rfl
theorem dX11_agree_8 : decode cX11_agree 8 = .ok (.iload_n 2, 1) := dget dh_202 (k := 4) rfl
theorem dX11_agree_9 : decode cX11_agree 9 = .ok (.iconst 0, 1) := dget dh_202 (k := 5) rfl
theorem dX11_agree_10 : decode cX11_agree 10 = .ok (.ldc 104, 2) := dget dh_202 (k := 6) rfl
theorem dX11_agree_12 : decode cX11_agree 12 = .ok (.invokestatic 93, 3) := dget dh_202 (k := 7) rfl
theorem dX11_agree_15 : decode cX11_agree 15 = .ok (.ifCond .ne 5, 3) := dget dh_202 (k := 8) rfl
theorem dX11_agree_18 : decode cX11_agree 18 = .ok (.iconst 0, 1) := dget dh_202 (k := 9) rfl
theorem dX11_agree_19 : decode cX11_agree 19 = .ok (.ireturn, 1) := dget dh_202 (k := 10) rfl
theorem dX11_agree_20 : decode cX11_agree 20 = .ok (.aload_n 0, 1) := dget dh_202 (k := 11) rfl
theorem dX11_agree_21 : decode cX11_agree 21 = .ok (.getfield 61, 3) := dget dh_202 (k := 12) rfl
theorem dX11_agree_24 : decode cX11_agree 24 = .ok (.getfield 199, 3) := dget dh_202 (k := 13) rfl
theorem dX11_agree_27 : decode cX11_agree 27 = .ok (.iload_n 1, 1) := dget dh_202 (k := 14) rfl
theorem dX11_agree_28 : decode cX11_agree 28 = .ok (.iload_n 2, 1) := dget dh_202 (k := 15) rfl
theorem dX11_agree_29 : decode cX11_agree 29 = .ok (.iastore, 1) := dget dh_202 (k := 16) rfl
theorem dX11_agree_30 : decode cX11_agree 30 = .ok (.iconst 1, 1) := dget dh_202 (k := 17) rfl
theorem dX11_agree_31 : decode cX11_agree 31 = .ok (.ireturn, 1) := dget dh_202 (k := 18) rfl
def dl_203 : List (Nat × (Instr × Nat)) := [(0, (.iload_n 1, 1)), (1, (.iconst 0, 1)), (2, (.aload_n 0, 1)), (3, (.getfield 22, 3)), (6, (.iconst 1, 1)), (7, (.isub, 1)), (8, (.invokestatic 93, 3)), (11, (.ifCond .eq 12, 3)), (14, (.aload_n 0, 1)), (15, (.getfield 18, 3)), (18, (.iload_n 1, 1)), (19, (.aaload, 1)), (20, (.goto 4, 3)), (23, (.aconst_null, 1)), (24, (.areturn, 1))]
theorem dh_203 : dchk cX11_homeAt dl_203 = true := by decide +kernel
theorem dX11_homeAt_0 : decode cX11_homeAt 0 = .ok (.iload_n 1, 1) := dget dh_203 (k := 0) rfl
theorem dX11_homeAt_1 : decode cX11_homeAt 1 = .ok (.iconst 0, 1) := dget dh_203 (k := 1) rfl
theorem dX11_homeAt_2 : decode cX11_homeAt 2 = .ok (.aload_n 0, 1) := dget dh_203 (k := 2) rfl
theorem dX11_homeAt_3 : decode cX11_homeAt 3 = .ok (.getfield 22, 3) := dget dh_203 (k := 3) rfl
theorem dX11_homeAt_6 : decode cX11_homeAt 6 = .ok (.iconst 1, 1) := dget dh_203 (k := 4) rfl
theorem dX11_homeAt_7 : decode cX11_homeAt 7 = .ok (.isub, 1) := dget dh_203 (k := 5) rfl
theorem dX11_homeAt_8 : decode cX11_homeAt 8 = .ok (.invokestatic 93, 3) := dget dh_203 (k := 6) rfl
theorem dX11_homeAt_11 : decode cX11_homeAt 11 = .ok (.ifCond .eq 12, 3) := dget dh_203 (k := 7) rfl
theorem dX11_homeAt_14 : decode cX11_homeAt 14 = .ok (.aload_n 0, 1) := dget dh_203 (k := 8) rfl
theorem dX11_homeAt_15 : decode cX11_homeAt 15 = .ok (.getfield 18, 3) := dget dh_203 (k := 9) rfl
theorem dX11_homeAt_18 : decode cX11_homeAt 18 = .ok (.iload_n 1, 1) := dget dh_203 (k := 10) rfl
theorem dX11_homeAt_19 : decode cX11_homeAt 19 = .ok (.aaload, 1) := dget dh_203 (k := 11) rfl
theorem dX11_homeAt_20 : decode cX11_homeAt 20 = .ok (.goto 4, 3) := dget dh_203 (k := 12) rfl
theorem dX11_homeAt_23 : decode cX11_homeAt 23 = .ok (.aconst_null, 1) := dget dh_203 (k := 13) rfl
theorem dX11_homeAt_24 : decode cX11_homeAt 24 = .ok (.areturn, 1) := dget dh_203 (k := 14) rfl
def dl_204 : List (Nat × (Instr × Nat)) := [(0, (.iload_n 1, 1)), (1, (.iconst 0, 1)), (2, (.aload_n 0, 1)), (3, (.getfield 61, 3)), (6, (.getfield 320, 3)), (9, (.iconst 1, 1)), (10, (.isub, 1)), (11, (.invokestatic 93, 3)), (14, (.ireturn, 1))]
theorem dh_204 : dchk cX11_isClaim dl_204 = true := by decide +kernel
theorem dX11_isClaim_0 : decode cX11_isClaim 0 = .ok (.iload_n 1, 1) := dget dh_204 (k := 0) rfl
theorem dX11_isClaim_1 : decode cX11_isClaim 1 = .ok (.iconst 0, 1) := dget dh_204 (k := 1) rfl
theorem dX11_isClaim_2 : decode cX11_isClaim 2 = .ok (.aload_n 0, 1) := dget dh_204 (k := 2) rfl
theorem dX11_isClaim_3 : decode cX11_isClaim 3 = .ok (.getfield 61, 3) := dget dh_204 (k := 3) rfl
theorem dX11_isClaim_6 : decode cX11_isClaim 6 = .ok (.getfield 320, 3) := dget dh_204 (k := 4) rfl
theorem dX11_isClaim_9 : decode cX11_isClaim 9 = .ok (.iconst 1, 1) := dget dh_204 (k := 5) rfl
theorem dX11_isClaim_10 : decode cX11_isClaim 10 = .ok (.isub, 1) := dget dh_204 (k := 6) rfl
theorem dX11_isClaim_11 : decode cX11_isClaim 11 = .ok (.invokestatic 93, 3) := dget dh_204 (k := 7) rfl
theorem dX11_isClaim_14 : decode cX11_isClaim 14 = .ok (.ireturn, 1) := dget dh_204 (k := 8) rfl
def dl_205 : List (Nat × (Instr × Nat)) := [(0, (.iload_n 0, 1)), (1, (.iconst 0, 1)), (2, (.bipush 9, 2)), (4, (.invokestatic 93, 3)), (7, (.ifCond .eq 27, 3)), (10, (.iload_n 1, 1)), (11, (.iconst 0, 1)), (12, (.bipush 7, 2)), (14, (.invokestatic 93, 3)), (17, (.ifCond .eq 17, 3)), (20, (.iload_n 2, 1)), (21, (.iconst 1, 1)), (22, (.bipush 9, 2)), (24, (.invokestatic 93, 3)), (27, (.ifCond .eq 7, 3)), (30, (.iconst 1, 1)), (31, (.goto 4, 3)), (34, (.iconst 0, 1)), (35, (.ireturn, 1))]
theorem dh_205 : dchk cX11_isThing dl_205 = true := by decide +kernel
theorem dX11_isThing_0 : decode cX11_isThing 0 = .ok (.iload_n 0, 1) := dget dh_205 (k := 0) rfl
theorem dX11_isThing_1 : decode cX11_isThing 1 = .ok (.iconst 0, 1) := dget dh_205 (k := 1) rfl
theorem dX11_isThing_2 : decode cX11_isThing 2 = .ok (.bipush 9, 2) := dget dh_205 (k := 2) rfl
theorem dX11_isThing_4 : decode cX11_isThing 4 = .ok (.invokestatic 93, 3) := dget dh_205 (k := 3) rfl
theorem dX11_isThing_7 : decode cX11_isThing 7 = .ok (.ifCond .eq 27, 3) := dget dh_205 (k := 4) rfl
theorem dX11_isThing_10 : decode cX11_isThing 10 = .ok (.iload_n 1, 1) := dget dh_205 (k := 5) rfl
theorem dX11_isThing_11 : decode cX11_isThing 11 = .ok (.iconst 0, 1) := dget dh_205 (k := 6) rfl
theorem dX11_isThing_12 : decode cX11_isThing 12 = .ok (.bipush 7, 2) := dget dh_205 (k := 7) rfl
theorem dX11_isThing_14 : decode cX11_isThing 14 = .ok (.invokestatic 93, 3) := dget dh_205 (k := 8) rfl
theorem dX11_isThing_17 : decode cX11_isThing 17 = .ok (.ifCond .eq 17, 3) := dget dh_205 (k := 9) rfl
theorem dX11_isThing_20 : decode cX11_isThing 20 = .ok (.iload_n 2, 1) := dget dh_205 (k := 10) rfl
theorem dX11_isThing_21 : decode cX11_isThing 21 = .ok (.iconst 1, 1) := dget dh_205 (k := 11) rfl
theorem dX11_isThing_22 : decode cX11_isThing 22 = .ok (.bipush 9, 2) := dget dh_205 (k := 12) rfl
theorem dX11_isThing_24 : decode cX11_isThing 24 = .ok (.invokestatic 93, 3) := dget dh_205 (k := 13) rfl
theorem dX11_isThing_27 : decode cX11_isThing 27 = .ok (.ifCond .eq 7, 3) := dget dh_205 (k := 14) rfl
theorem dX11_isThing_30 : decode cX11_isThing 30 = .ok (.iconst 1, 1) := dget dh_205 (k := 15) rfl
theorem dX11_isThing_31 : decode cX11_isThing 31 = .ok (.goto 4, 3) := dget dh_205 (k := 16) rfl
theorem dX11_isThing_34 : decode cX11_isThing 34 = .ok (.iconst 0, 1) := dget dh_205 (k := 17) rfl
theorem dX11_isThing_35 : decode cX11_isThing 35 = .ok (.ireturn, 1) := dget dh_205 (k := 18) rfl
def dl_206 : List (Nat × (Instr × Nat)) := [(0, (.iload_n 1, 1)), (1, (.iconst 0, 1)), (2, (.bipush 7, 2)), (4, (.invokestatic 93, 3)), (7, (.ifCond .eq 14, 3)), (10, (.iload_n 2, 1)), (11, (.iconst 1, 1)), (12, (.sipush 360, 3)), (15, (.invokestatic 93, 3)), (18, (.ifCond .ne 5, 3)), (21, (.iconst 0, 1)), (22, (.ireturn, 1)), (23, (.aload_n 0, 1)), (24, (.getfield 10, 3)), (27, (.getfield 97, 3)), (30, (.iload_n 1, 1)), (31, (.iload_n 2, 1)), (32, (.iastore, 1)), (33, (.iconst 1, 1)), (34, (.ireturn, 1))]
theorem dh_206 : dchk cX11_life dl_206 = true := by decide +kernel
theorem dX11_life_0 : decode cX11_life 0 = .ok (.iload_n 1, 1) := dget dh_206 (k := 0) rfl
theorem dX11_life_1 : decode cX11_life 1 = .ok (.iconst 0, 1) := dget dh_206 (k := 1) rfl
theorem dX11_life_2 : decode cX11_life 2 = .ok (.bipush 7, 2) := dget dh_206 (k := 2) rfl
theorem dX11_life_4 : decode cX11_life 4 = .ok (.invokestatic 93, 3) := dget dh_206 (k := 3) rfl
theorem dX11_life_7 : decode cX11_life 7 = .ok (.ifCond .eq 14, 3) := dget dh_206 (k := 4) rfl
theorem dX11_life_10 : decode cX11_life 10 = .ok (.iload_n 2, 1) := dget dh_206 (k := 5) rfl
theorem dX11_life_11 : decode cX11_life 11 = .ok (.iconst 1, 1) := dget dh_206 (k := 6) rfl
theorem dX11_life_12 : decode cX11_life 12 = .ok (.sipush 360, 3) := dget dh_206 (k := 7) rfl
theorem dX11_life_15 : decode cX11_life 15 = .ok (.invokestatic 93, 3) := dget dh_206 (k := 8) rfl
theorem dX11_life_18 : decode cX11_life 18 = .ok (.ifCond .ne 5, 3) := dget dh_206 (k := 9) rfl
theorem dX11_life_21 : decode cX11_life 21 = .ok (.iconst 0, 1) := dget dh_206 (k := 10) rfl
theorem dX11_life_22 : decode cX11_life 22 = .ok (.ireturn, 1) := dget dh_206 (k := 11) rfl
theorem dX11_life_23 : decode cX11_life 23 = .ok (.aload_n 0, 1) := dget dh_206 (k := 12) rfl
theorem dX11_life_24 : decode cX11_life 24 = .ok (.getfield 10, 3) := dget dh_206 (k := 13) rfl
theorem dX11_life_27 : decode cX11_life 27 = .ok (.getfield 97, 3) := dget dh_206 (k := 14) rfl
theorem dX11_life_30 : decode cX11_life 30 = .ok (.iload_n 1, 1) := dget dh_206 (k := 15) rfl
theorem dX11_life_31 : decode cX11_life 31 = .ok (.iload_n 2, 1) := dget dh_206 (k := 16) rfl
theorem dX11_life_32 : decode cX11_life 32 = .ok (.iastore, 1) := dget dh_206 (k := 17) rfl
theorem dX11_life_33 : decode cX11_life 33 = .ok (.iconst 1, 1) := dget dh_206 (k := 18) rfl
theorem dX11_life_34 : decode cX11_life 34 = .ok (.ireturn, 1) := dget dh_206 (k := 19) rfl
def dl_207 : List (Nat × (Instr × Nat)) := [(0, (.iload_n 1, 1)), (1, (.iconst 0, 1)), (2, (.bipush 7, 2)), (4, (.invokestatic 93, 3)), (7, (.ifCond .eq 22, 3)), (10, (.iload_n 2, 1)), (11, (.iconst 0, 1)), (12, (.iconst 3, 1)), (13, (.invokestatic 93, 3)), (16, (.ifCond .eq 13, 3)), (19, (.iload_n 3, 1)), (20, (.iconst 0, 1)), (21, (.ldc 100, 2)), (23, (.invokestatic 93, 3)), (26, (.ifCond .ne 5, 3)), (29, (.iconst 0, 1)), (30, (.ireturn, 1)), (31, (.aload_n 0, 1)), (32, (.getfield 10, 3)), (35, (.getfield 101, 3))]
theorem dh_207 : dchk cX11_price dl_207 = true := by decide +kernel
theorem dX11_price_0 : decode cX11_price 0 = .ok (.iload_n 1, 1) := dget dh_207 (k := 0) rfl
theorem dX11_price_1 : decode cX11_price 1 = .ok (.iconst 0, 1) := dget dh_207 (k := 1) rfl
theorem dX11_price_2 : decode cX11_price 2 = .ok (.bipush 7, 2) := dget dh_207 (k := 2) rfl
theorem dX11_price_4 : decode cX11_price 4 = .ok (.invokestatic 93, 3) := dget dh_207 (k := 3) rfl
theorem dX11_price_7 : decode cX11_price 7 = .ok (.ifCond .eq 22, 3) := dget dh_207 (k := 4) rfl
theorem dX11_price_10 : decode cX11_price 10 = .ok (.iload_n 2, 1) := dget dh_207 (k := 5) rfl
theorem dX11_price_11 : decode cX11_price 11 = .ok (.iconst 0, 1) := dget dh_207 (k := 6) rfl
theorem dX11_price_12 : decode cX11_price 12 = .ok (.iconst 3, 1) := dget dh_207 (k := 7) rfl
theorem dX11_price_13 : decode cX11_price 13 = .ok (.invokestatic 93, 3) := dget dh_207 (k := 8) rfl
theorem dX11_price_16 : decode cX11_price 16 = .ok (.ifCond .eq 13, 3) := dget dh_207 (k := 9) rfl
theorem dX11_price_19 : decode cX11_price 19 = .ok (.iload_n 3, 1) := dget dh_207 (k := 10) rfl
theorem dX11_price_20 : decode cX11_price 20 = .ok (.iconst 0, 1) := dget dh_207 (k := 11) rfl
theorem dX11_price_21 : decode cX11_price 21 = .ok (.ldc 100, 2) := dget dh_207 (k := 12) rfl
theorem dX11_price_23 : decode cX11_price 23 = .ok (.invokestatic 93, 3) := dget dh_207 (k := 13) rfl
theorem dX11_price_26 : decode cX11_price 26 = .ok (.ifCond .ne 5, 3) := dget dh_207 (k := 14) rfl
theorem dX11_price_29 : decode cX11_price 29 = .ok (.iconst 0, 1) := dget dh_207 (k := 15) rfl
theorem dX11_price_30 : decode cX11_price 30 = .ok (.ireturn, 1) := dget dh_207 (k := 16) rfl
theorem dX11_price_31 : decode cX11_price 31 = .ok (.aload_n 0, 1) := dget dh_207 (k := 17) rfl
theorem dX11_price_32 : decode cX11_price 32 = .ok (.getfield 10, 3) := dget dh_207 (k := 18) rfl
theorem dX11_price_35 : decode cX11_price 35 = .ok (.getfield 101, 3) := dget dh_207 (k := 19) rfl
def dl_208 : List (Nat × (Instr × Nat)) := [(38, (.iload_n 1, 1)), (39, (.iconst 4, 1)), (40, (.imul, 1)), (41, (.iload_n 2, 1)), (42, (.iadd, 1)), (43, (.iload_n 3, 1)), (44, (.iastore, 1)), (45, (.iconst 1, 1)), (46, (.ireturn, 1))]
theorem dh_208 : dchk cX11_price dl_208 = true := by decide +kernel
theorem dX11_price_38 : decode cX11_price 38 = .ok (.iload_n 1, 1) := dget dh_208 (k := 0) rfl
theorem dX11_price_39 : decode cX11_price 39 = .ok (.iconst 4, 1) := dget dh_208 (k := 1) rfl
theorem dX11_price_40 : decode cX11_price 40 = .ok (.imul, 1) := dget dh_208 (k := 2) rfl
theorem dX11_price_41 : decode cX11_price 41 = .ok (.iload_n 2, 1) := dget dh_208 (k := 3) rfl
theorem dX11_price_42 : decode cX11_price 42 = .ok (.iadd, 1) := dget dh_208 (k := 4) rfl
theorem dX11_price_43 : decode cX11_price 43 = .ok (.iload_n 3, 1) := dget dh_208 (k := 5) rfl
theorem dX11_price_44 : decode cX11_price 44 = .ok (.iastore, 1) := dget dh_208 (k := 6) rfl
theorem dX11_price_45 : decode cX11_price 45 = .ok (.iconst 1, 1) := dget dh_208 (k := 7) rfl
theorem dX11_price_46 : decode cX11_price 46 = .ok (.ireturn, 1) := dget dh_208 (k := 8) rfl
def dl_209 : List (Nat × (Instr × Nat)) := [(0, (.iload_n 1, 1)), (1, (.iconst 0, 1)), (2, (.ldc_w 273, 3)), (5, (.invokestatic 93, 3)), (8, (.ifCond .ne 5, 3)), (11, (.iconst 0, 1)), (12, (.ireturn, 1)), (13, (.aload_n 0, 1)), (14, (.getfield 61, 3)), (17, (.iload_n 1, 1)), (18, (.putfield 274, 3)), (21, (.iconst 1, 1)), (22, (.ireturn, 1))]
theorem dh_209 : dchk cX11_seed dl_209 = true := by decide +kernel
theorem dX11_seed_0 : decode cX11_seed 0 = .ok (.iload_n 1, 1) := dget dh_209 (k := 0) rfl
theorem dX11_seed_1 : decode cX11_seed 1 = .ok (.iconst 0, 1) := dget dh_209 (k := 1) rfl
theorem dX11_seed_2 : decode cX11_seed 2 = .ok (.ldc_w 273, 3) := dget dh_209 (k := 2) rfl
theorem dX11_seed_5 : decode cX11_seed 5 = .ok (.invokestatic 93, 3) := dget dh_209 (k := 3) rfl
theorem dX11_seed_8 : decode cX11_seed 8 = .ok (.ifCond .ne 5, 3) := dget dh_209 (k := 4) rfl
theorem dX11_seed_11 : decode cX11_seed 11 = .ok (.iconst 0, 1) := dget dh_209 (k := 5) rfl
theorem dX11_seed_12 : decode cX11_seed 12 = .ok (.ireturn, 1) := dget dh_209 (k := 6) rfl
theorem dX11_seed_13 : decode cX11_seed 13 = .ok (.aload_n 0, 1) := dget dh_209 (k := 7) rfl
theorem dX11_seed_14 : decode cX11_seed 14 = .ok (.getfield 61, 3) := dget dh_209 (k := 8) rfl
theorem dX11_seed_17 : decode cX11_seed 17 = .ok (.iload_n 1, 1) := dget dh_209 (k := 9) rfl
theorem dX11_seed_18 : decode cX11_seed 18 = .ok (.putfield 274, 3) := dget dh_209 (k := 10) rfl
theorem dX11_seed_21 : decode cX11_seed 21 = .ok (.iconst 1, 1) := dget dh_209 (k := 11) rfl
theorem dX11_seed_22 : decode cX11_seed 22 = .ok (.ireturn, 1) := dget dh_209 (k := 12) rfl
set_option maxHeartbeats 4000000 in
set_option maxRecDepth 100000 in
theorem c_X11_isThing (l : Launch) (p0 p1 p2 : Int32) : Met l yX11_isThing (Cond.code yX11_isThing cX11_isThing 3 (some .boolean) :: gT) { frames := 2, cells := 0, slots := 0, locals := 46 } (va_Pc [.int p0, .int p1, .int p2] (fun _ => True)) (vp_Si (fun z => BR z ((0 ≤ p0.toInt ∧ p0.toInt ≤ 9) ∧ (0 ≤ p1.toInt ∧ p1.toInt ≤ 7) ∧ (1 ≤ p2.toInt ∧ p2.toInt ≤ 9)) 1 0)) 0 0 (fun _ => False) := by
  refine Met.ofQ (cc := cX11_isThing) (maxL := 3) (ret := (some .boolean)) (by decide) rfl ?_
  intro p e s m args below meth c s₁ B hml hv Q hQ
  obtain ⟨rfl, -⟩ := hv
  have hx := B.exec
  have hb := B.bytes
  have hr := B.returns
  have hlocks := B.notSynchronized
  have hT : ∀ w ∈ gT, w.before _ s = true := fun w h => atoms_spec (ws := (Cond.code yX11_isThing cX11_isThing 3 (some .boolean) :: gT)) B.pre w (List.mem_cons_of_mem _ h)
  have hown : s.vm.findClass RX11 = some m.cls := findClass_of_methodNamed B.named
  have hl := lv_entry ([.int p0, .int p1, .int p2]) (n := 3) (Nat.le_of_ble_eq_true rfl)
  rw [lg_entry_eq]
  generalize (lg_sl ([.int p0, .int p1, .int p2]) ++ List.replicate (3 - (lg_sl ([.int p0, .int p1, .int p2])).length) Slot.unset).toArray = ls at hl ⊢
  have hl : lv_has ls 3 [(0, .int p0), (1, .int p1), (2, .int p2)] := hl
  refine lv_iload_n hx hb dX11_isThing_0 rfl (lv_at hl 0 rfl) ?_
  refine lv_iconst (v := 0) hx hb dX11_isThing_1 (by decide) ?_
  refine lv_bipush (v := 9) hx hb dX11_isThing_2 (by decide) ?_
  refine vp_callSi (W.runS (As := [.int p0, .int 0, .int 9]) (rest := []) ⟨hx, hb, hml, hown, hT⟩ (c_X11_within l p0 0 9) (va_cwS 3 hT (gS t_1 t_3 t_4 t_2) rfl rfl rfl (by decide +kernel) ⟨Nat.le_of_ble_eq_true rfl, Nat.le_of_ble_eq_true rfl⟩) preT rfl rfl hl.1 rfl (lv_room (Nat.le_of_ble_eq_true rfl)) dX11_isThing_4 ⟨Nat.le_of_ble_eq_true rfl, Nat.le_of_ble_eq_true rfl⟩) (fun r_1 hr_1 => ?_)
  have hr_1 : BR r_1 (0 ≤ p0.toInt ∧ p0.toInt ≤ 9) 1 0 := hr_1
  rcases hr_1 with ⟨rfl, h_2⟩ | ⟨rfl, h_2⟩
  · skip
    refine lv_if_eq (tgt := 34) hx hb dX11_isThing_7 (by decide) (fun c_3 => absurd c_3 (by decide)) (fun c_3 => ?_)
    refine lv_iload_n hx hb dX11_isThing_10 rfl (lv_at hl 1 rfl) ?_
    refine lv_iconst (v := 0) hx hb dX11_isThing_11 (by decide) ?_
    refine lv_bipush (v := 7) hx hb dX11_isThing_12 (by decide) ?_
    refine vp_callSi (W.runS (As := [.int p1, .int 0, .int 7]) (rest := []) ⟨hx, hb, hml, hown, hT⟩ (c_X11_within l p1 0 7) (va_cwS 3 hT (gS t_1 t_3 t_4 t_2) rfl rfl rfl (by decide +kernel) ⟨Nat.le_of_ble_eq_true rfl, Nat.le_of_ble_eq_true rfl⟩) preT rfl rfl hl.1 rfl (lv_room (Nat.le_of_ble_eq_true rfl)) dX11_isThing_14 ⟨Nat.le_of_ble_eq_true rfl, Nat.le_of_ble_eq_true rfl⟩) (fun r_4 hr_4 => ?_)
    have hr_4 : BR r_4 (0 ≤ p1.toInt ∧ p1.toInt ≤ 7) 1 0 := hr_4
    rcases hr_4 with ⟨rfl, h_5⟩ | ⟨rfl, h_5⟩
    · skip
      refine lv_if_eq (tgt := 34) hx hb dX11_isThing_17 (by decide) (fun c_6 => absurd c_6 (by decide)) (fun c_6 => ?_)
      refine lv_iload_n hx hb dX11_isThing_20 rfl (lv_at hl 2 rfl) ?_
      refine lv_iconst (v := 1) hx hb dX11_isThing_21 (by decide) ?_
      refine lv_bipush (v := 9) hx hb dX11_isThing_22 (by decide) ?_
      refine vp_callSi (W.runS (As := [.int p2, .int 1, .int 9]) (rest := []) ⟨hx, hb, hml, hown, hT⟩ (c_X11_within l p2 1 9) (va_cwS 3 hT (gS t_1 t_3 t_4 t_2) rfl rfl rfl (by decide +kernel) ⟨Nat.le_of_ble_eq_true rfl, Nat.le_of_ble_eq_true rfl⟩) preT rfl rfl hl.1 rfl (lv_room (Nat.le_of_ble_eq_true rfl)) dX11_isThing_24 ⟨Nat.le_of_ble_eq_true rfl, Nat.le_of_ble_eq_true rfl⟩) (fun r_7 hr_7 => ?_)
      have hr_7 : BR r_7 (1 ≤ p2.toInt ∧ p2.toInt ≤ 9) 1 0 := hr_7
      rcases hr_7 with ⟨rfl, h_8⟩ | ⟨rfl, h_8⟩
      · skip
        refine lv_if_eq (tgt := 34) hx hb dX11_isThing_27 (by decide) (fun c_9 => absurd c_9 (by decide)) (fun c_9 => ?_)
        refine lv_iconst (v := 1) hx hb dX11_isThing_30 (by decide) ?_
        refine lv_goto (tgt := 35) hx hb dX11_isThing_31 (by decide) ?_
        subst hQ
        exact W.zret hx hb hr rfl (fun t ht hW => ⟨_, rfl, Or.inl ⟨rfl, by omega⟩, ht⟩) (fun q hq => absurd hq List.not_mem_nil) dX11_isThing_35
      · skip
        refine lv_if_eq (tgt := 34) hx hb dX11_isThing_27 (by decide) (fun c_10 => ?_) (fun c_10 => absurd (by decide) c_10)
        refine lv_iconst (v := 0) hx hb dX11_isThing_34 (by decide) ?_
        subst hQ
        exact W.zret hx hb hr rfl (fun t ht hW => ⟨_, rfl, Or.inr ⟨rfl, by omega⟩, ht⟩) (fun q hq => absurd hq List.not_mem_nil) dX11_isThing_35
    · skip
      refine lv_if_eq (tgt := 34) hx hb dX11_isThing_17 (by decide) (fun c_11 => ?_) (fun c_11 => absurd (by decide) c_11)
      refine lv_iconst (v := 0) hx hb dX11_isThing_34 (by decide) ?_
      subst hQ
      exact W.zret hx hb hr rfl (fun t ht hW => ⟨_, rfl, Or.inr ⟨rfl, by omega⟩, ht⟩) (fun q hq => absurd hq List.not_mem_nil) dX11_isThing_35
  · skip
    refine lv_if_eq (tgt := 34) hx hb dX11_isThing_7 (by decide) (fun c_12 => ?_) (fun c_12 => absurd (by decide) c_12)
    refine lv_iconst (v := 0) hx hb dX11_isThing_34 (by decide) ?_
    subst hQ
    exact W.zret hx hb hr rfl (fun t ht hW => ⟨_, rfl, Or.inr ⟨rfl, by omega⟩, ht⟩) (fun q hq => absurd hq List.not_mem_nil) dX11_isThing_35
set_option maxHeartbeats 4000000 in
set_option maxRecDepth 100000 in
theorem c_X11_homeAt (l : Launch) (D : va_G) (cy : Nat → ClassId) (a : Nat → Nat) (i : Nat → Int32) (r : Nat → Nat → Int32) (q : Nat → Option Nat) (tl : va_W) (p0 : Int32) (hRi : yRi i) (hRr : yRr r) : Met l yX11_homeAt (Cond.code yX11_homeAt cX11_homeAt 2 (some (.object "DepositJudge$Home")) :: gT) { frames := 2, cells := 0, slots := 0, locals := 46 } (va_Pc [.ref (a 0), .int p0] (rP D cy (xW cy a i r q (a 20) (a 12) ++ tl))) (va_Sq (fun z => ((0 ≤ p0.toInt ∧ p0.toInt < (i 0).toInt) → z = q p0.toNatClampNeg) ∧ (¬ (0 ≤ p0.toInt ∧ p0.toInt < (i 0).toInt) → z = none))) 0 0 (fun _ => False) := by
  refine Met.ofQ (cc := cX11_homeAt) (maxL := 2) (ret := (some (.object "DepositJudge$Home"))) (by decide) rfl ?_
  intro p e s m args below meth c s₁ B hml hv Q hQ
  obtain ⟨rfl, hP, hK⟩ := hv
  have hx := B.exec
  have hb := B.bytes
  have hr := B.returns
  have hlocks := B.notSynchronized
  have hT : ∀ w ∈ gT, w.before _ s = true := fun w h => atoms_spec (ws := (Cond.code yX11_homeAt cX11_homeAt 2 (some (.object "DepositJudge$Home")) :: gT)) B.pre w (List.mem_cons_of_mem _ h)
  have hown : s.vm.findClass RX11 = some m.cls := findClass_of_methodNamed B.named
  have hl := lv_entry ([.ref (a 0), .int p0]) (n := 2) (Nat.le_of_ble_eq_true rfl)
  rw [lg_entry_eq]
  generalize (lg_sl ([.ref (a 0), .int p0]) ++ List.replicate (2 - (lg_sl ([.ref (a 0), .int p0])).length) Slot.unset).toArray = ls at hl ⊢
  have hl : lv_has ls 2 [(0, .ref (a 0)), (1, .int p0)] := hl
  have hEi : mEi [] i i := Ei_rf
  have hEr : mEr [] r r := Er_rf
  have hg0 : 0 ≤ (i 0).toInt ∧ (i 0).toInt ≤ 6 := hRi 0
  refine lv_iload_n hx hb dX11_homeAt_0 rfl (lv_at hl 1 rfl) ?_
  refine lv_iconst (v := 0) hx hb dX11_homeAt_1 (by decide) ?_
  refine lv_aload_n hx hb dX11_homeAt_2 rfl (lv_at hl 0 rfl) ?_
  refine va_get (D := D) (ci := 11) (v := .int (i 0)) (C := RX11) (T := TX11) (N := 14) hx hb hT iX11 hown hK hP 0 rfl rfl 2 (by decide) (hT _ t_263) (fun _ h9 => h9) rfl dX11_homeAt_3 ?_
  have hg_1 : 0 ≤ (i 0).toInt ∧ (i 0).toInt ≤ 6 := hRi 0
  refine lv_iconst (v := 1) hx hb dX11_homeAt_6 (by decide) ?_
  refine lv_isub hx hb dX11_homeAt_7 ?_
  refine lv_topi (fun v_2 ev_2 => ?_)
  have hv_2 : v_2.toInt = (i 0).toInt - 1 := by rw [ev_2]; have := b_rg (i 0); exact i_sub (a := (i 0).toInt) (b := 1) rfl rfl (by omega) (by omega)
  refine vp_callSi (W.runS (As := [.int p0, .int 0, .int v_2]) (rest := []) ⟨hx, hb, hml, hown, hT⟩ (c_X11_within l p0 0 v_2) (va_cwS 3 hT (gS t_1 t_3 t_4 t_2) rfl rfl rfl (by decide +kernel) ⟨Nat.le_of_ble_eq_true rfl, Nat.le_of_ble_eq_true rfl⟩) preT rfl rfl hl.1 rfl (lv_room (Nat.le_of_ble_eq_true rfl)) dX11_homeAt_8 ⟨Nat.le_of_ble_eq_true rfl, Nat.le_of_ble_eq_true rfl⟩) (fun r_3 hr_3 => ?_)
  have hr_3 : BR r_3 (0 ≤ p0.toInt ∧ p0.toInt ≤ v_2.toInt) 1 0 := hr_3
  rcases hr_3 with ⟨rfl, h_4⟩ | ⟨rfl, h_4⟩
  · skip
    refine lv_if_eq (tgt := 23) hx hb dX11_homeAt_11 (by decide) (fun c_5 => absurd c_5 (by decide)) (fun c_5 => ?_)
    refine lv_aload_n hx hb dX11_homeAt_14 rfl (lv_at hl 0 rfl) ?_
    refine va_get (D := D) (ci := 11) (v := .ref (a 4)) (C := RX11) (T := TX11) (N := 14) hx hb hT iX11 hown hK hP 0 rfl rfl 1 (by decide) (hT _ t_264) (fun _ h9 => h9) rfl dX11_homeAt_15 ?_
    refine lv_iload_n hx hb dX11_homeAt_18 rfl (lv_at hl 1 rfl) ?_
    refine va_aldq hx hb hK hP 4 4 rfl rfl (vp_inI (by omega) (by omega)) dX11_homeAt_19 ?_
    refine lv_goto (tgt := 24) hx hb dX11_homeAt_20 (by decide) ?_
    subst hQ
    exact W.aret (v := va_rf (q p0.toNatClampNeg)) (rt := .object "DepositJudge$Home") hx hb hr (Or.inl ⟨_, rfl⟩) (rf_or _) (fun t ht hW => ⟨q p0.toNatClampNeg, rfl, ⟨fun _ => rfl, fun h9 => absurd h9 (by omega)⟩, ht⟩) (fun q hq => absurd hq List.not_mem_nil) dX11_homeAt_24
  · skip
    refine lv_if_eq (tgt := 23) hx hb dX11_homeAt_11 (by decide) (fun c_6 => ?_) (fun c_6 => absurd (by decide) c_6)
    refine lv_null hx hb dX11_homeAt_23 ?_
    subst hQ
    exact W.aret (v := .null) (rt := .object "DepositJudge$Home") hx hb hr (Or.inl ⟨_, rfl⟩) (Or.inl rfl) (fun t ht hW => ⟨none, rfl, ⟨fun h9 => absurd h9 (by omega), fun _ => rfl⟩, ht⟩) (fun q hq => absurd hq List.not_mem_nil) dX11_homeAt_24
set_option maxHeartbeats 4000000 in
set_option maxRecDepth 100000 in
theorem c_X11_isClaim (l : Launch) (D : va_G) (cy : Nat → ClassId) (a : Nat → Nat) (i : Nat → Int32) (r : Nat → Nat → Int32) (q : Nat → Option Nat) (tl : va_W) (p0 : Int32) (hRi : yRi i) (hRr : yRr r) : Met l yX11_isClaim (Cond.code yX11_isClaim cX11_isClaim 2 (some .boolean) :: gT) { frames := 2, cells := 0, slots := 0, locals := 46 } (va_Pc [.ref (a 0), .int p0] (rP D cy (xW cy a i r q (a 20) (a 12) ++ tl))) (vp_Si (fun z => BR z (0 ≤ p0.toInt ∧ p0.toInt < (i 10).toInt) 1 0)) 0 0 (fun _ => False) := by
  refine Met.ofQ (cc := cX11_isClaim) (maxL := 2) (ret := (some .boolean)) (by decide) rfl ?_
  intro p e s m args below meth c s₁ B hml hv Q hQ
  obtain ⟨rfl, hP, hK⟩ := hv
  have hx := B.exec
  have hb := B.bytes
  have hr := B.returns
  have hlocks := B.notSynchronized
  have hT : ∀ w ∈ gT, w.before _ s = true := fun w h => atoms_spec (ws := (Cond.code yX11_isClaim cX11_isClaim 2 (some .boolean) :: gT)) B.pre w (List.mem_cons_of_mem _ h)
  have hown : s.vm.findClass RX11 = some m.cls := findClass_of_methodNamed B.named
  have hl := lv_entry ([.ref (a 0), .int p0]) (n := 2) (Nat.le_of_ble_eq_true rfl)
  rw [lg_entry_eq]
  generalize (lg_sl ([.ref (a 0), .int p0]) ++ List.replicate (2 - (lg_sl ([.ref (a 0), .int p0])).length) Slot.unset).toArray = ls at hl ⊢
  have hl : lv_has ls 2 [(0, .ref (a 0)), (1, .int p0)] := hl
  have hEi : mEi [] i i := Ei_rf
  have hEr : mEr [] r r := Er_rf
  refine lv_iload_n hx hb dX11_isClaim_0 rfl (lv_at hl 1 rfl) ?_
  refine lv_iconst (v := 0) hx hb dX11_isClaim_1 (by decide) ?_
  refine lv_aload_n hx hb dX11_isClaim_2 rfl (lv_at hl 0 rfl) ?_
  refine va_get (D := D) (ci := 11) (v := .ref (a 29)) (C := RX11) (T := TX11) (N := 14) hx hb hT iX11 hown hK hP 0 rfl rfl 8 (by decide) (hT _ t_265) (fun _ h9 => h9) rfl dX11_isClaim_3 ?_
  refine va_get (D := D) (ci := 1) (v := .int (i 10)) (C := RX1) (T := TX1) (N := 12) hx hb hT iX1 hown hK hP 29 rfl rfl 0 (by decide) (hT _ t_266) (fun _ h9 => h9) rfl dX11_isClaim_6 ?_
  have hg_1 : 0 ≤ (i 10).toInt ∧ (i 10).toInt ≤ 30 := hRi 10
  refine lv_iconst (v := 1) hx hb dX11_isClaim_9 (by decide) ?_
  refine lv_isub hx hb dX11_isClaim_10 ?_
  refine lv_topi (fun v_2 ev_2 => ?_)
  have hv_2 : v_2.toInt = (i 10).toInt - 1 := by rw [ev_2]; have := b_rg (i 10); exact i_sub (a := (i 10).toInt) (b := 1) rfl rfl (by omega) (by omega)
  refine vp_callSi (W.runS (As := [.int p0, .int 0, .int v_2]) (rest := []) ⟨hx, hb, hml, hown, hT⟩ (c_X11_within l p0 0 v_2) (va_cwS 3 hT (gS t_1 t_3 t_4 t_2) rfl rfl rfl (by decide +kernel) ⟨Nat.le_of_ble_eq_true rfl, Nat.le_of_ble_eq_true rfl⟩) preT rfl rfl hl.1 rfl (lv_room (Nat.le_of_ble_eq_true rfl)) dX11_isClaim_11 ⟨Nat.le_of_ble_eq_true rfl, Nat.le_of_ble_eq_true rfl⟩) (fun r_3 hr_3 => ?_)
  have hr_3 : BR r_3 (0 ≤ p0.toInt ∧ p0.toInt ≤ v_2.toInt) 1 0 := hr_3
  rcases hr_3 with ⟨rfl, h_4⟩ | ⟨rfl, h_4⟩
  · skip
    subst hQ
    exact W.zret hx hb hr rfl (fun t ht hW => ⟨_, rfl, Or.inl ⟨rfl, by omega⟩, ht⟩) (fun q hq => absurd hq List.not_mem_nil) dX11_isClaim_14
  · skip
    subst hQ
    exact W.zret hx hb hr rfl (fun t ht hW => ⟨_, rfl, Or.inr ⟨rfl, by omega⟩, ht⟩) (fun q hq => absurd hq List.not_mem_nil) dX11_isClaim_14
set_option maxHeartbeats 4000000 in
set_option maxRecDepth 100000 in
theorem c_X11_life (l : Launch) (D : va_G) (cy : Nat → ClassId) (a : Nat → Nat) (i : Nat → Int32) (r : Nat → Nat → Int32) (q : Nat → Option Nat) (tl : va_W) (p0 p1 : Int32) (sz : Nat) (hRi : yRi i) (hRr : yRr r) : Met l yX11_life (Cond.code yX11_life cX11_life 3 (some .boolean) :: gT) { frames := 2, cells := 0, slots := 0, locals := 46 } (va_Pc [.ref (a 0), .int p0, .int p1] (rQ D cy (xW cy a i r q (a 20) (a 12) ++ tl) sz)) (va_Qi (fun (z : Int32) (u : Nat → Nat → Int32) => yRr u ∧ mEr [2] r u ∧ (BR z ((0 ≤ p0.toInt ∧ p0.toInt ≤ 7) ∧ (1 ≤ p1.toInt ∧ p1.toInt ≤ 360)) 1 0)) (fun (u : Nat → Nat → Int32) t => va_P D vwCl (xW cy a i u q (a 20) (a 12) ++ tl) t.heap ∧ va_K D vwCl (vT cy) t ∧ va_D (va_A (xW cy a i r q (a 20) (a 12) ++ tl) sz) (xW cy a i u q (a 20) (a 12) ++ tl)) (va_A (xW cy a i r q (a 20) (a 12) ++ tl) sz)) 0 0 (va_A (xW cy a i r q (a 20) (a 12) ++ tl) sz) := by
  refine Met.ofQ (cc := cX11_life) (maxL := 3) (ret := (some .boolean)) (by decide) rfl ?_
  intro p e s m args below meth c s₁ B hml hv Q hQ
  obtain ⟨rfl, hsz, hP, hK, hD0⟩ := hv
  have hx := B.exec
  have hb := B.bytes
  have hr := B.returns
  have hlocks := B.notSynchronized
  have hT : ∀ w ∈ gT, w.before _ s = true := fun w h => atoms_spec (ws := (Cond.code yX11_life cX11_life 3 (some .boolean) :: gT)) B.pre w (List.mem_cons_of_mem _ h)
  have hown : s.vm.findClass RX11 = some m.cls := findClass_of_methodNamed B.named
  subst hsz
  have hD := hD0.self (sz := s.heap.size)
  generalize hAe : va_A (xW cy a i r q (a 20) (a 12) ++ tl) s.heap.size = A at hD hQ
  have hA : ∀ q : Nat, s.heap.size ≤ q → A q := fun q h => by rw [← hAe]; exact Or.inr h
  have hS : va_S A s.heap s.heap [] := va_S.rf
  have hl := lv_entry ([.ref (a 0), .int p0, .int p1]) (n := 3) (Nat.le_of_ble_eq_true rfl)
  rw [lg_entry_eq]
  generalize (lg_sl ([.ref (a 0), .int p0, .int p1]) ++ List.replicate (3 - (lg_sl ([.ref (a 0), .int p0, .int p1])).length) Slot.unset).toArray = ls at hl ⊢
  have hl : lv_has ls 3 [(0, .ref (a 0)), (1, .int p0), (2, .int p1)] := hl
  have hEi : mEi [] i i := Ei_rf
  have hEr : mEr [2] r r := Er_rf
  refine lv_iload_n hx hb dX11_life_0 rfl (lv_at hl 1 rfl) ?_
  refine lv_iconst (v := 0) hx hb dX11_life_1 (by decide) ?_
  refine lv_bipush (v := 7) hx hb dX11_life_2 (by decide) ?_
  refine vp_callSi (W.runS (As := [.int p0, .int 0, .int 7]) (rest := []) ⟨hx, hb, hml, hown, hT⟩ (c_X11_within l p0 0 7) (va_cwS 3 hT (gS t_1 t_3 t_4 t_2) rfl rfl rfl (by decide +kernel) ⟨Nat.le_of_ble_eq_true rfl, Nat.le_of_ble_eq_true rfl⟩) preT rfl rfl hl.1 rfl (lv_room (Nat.le_of_ble_eq_true rfl)) dX11_life_4 ⟨Nat.le_of_ble_eq_true rfl, Nat.le_of_ble_eq_true rfl⟩) (fun r_1 hr_1 => ?_)
  have hr_1 : BR r_1 (0 ≤ p0.toInt ∧ p0.toInt ≤ 7) 1 0 := hr_1
  rcases hr_1 with ⟨rfl, h_2⟩ | ⟨rfl, h_2⟩
  · skip
    refine lv_if_eq (tgt := 21) hx hb dX11_life_7 (by decide) (fun c_3 => absurd c_3 (by decide)) (fun c_3 => ?_)
    refine lv_iload_n hx hb dX11_life_10 rfl (lv_at hl 2 rfl) ?_
    refine lv_iconst (v := 1) hx hb dX11_life_11 (by decide) ?_
    refine lv_sipush (v := 360) hx hb dX11_life_12 (by decide) ?_
    refine vp_callSi (W.runS (As := [.int p1, .int 1, .int 360]) (rest := []) ⟨hx, hb, hml, hown, hT⟩ (c_X11_within l p1 1 360) (va_cwS 3 hT (gS t_1 t_3 t_4 t_2) rfl rfl rfl (by decide +kernel) ⟨Nat.le_of_ble_eq_true rfl, Nat.le_of_ble_eq_true rfl⟩) preT rfl rfl hl.1 rfl (lv_room (Nat.le_of_ble_eq_true rfl)) dX11_life_15 ⟨Nat.le_of_ble_eq_true rfl, Nat.le_of_ble_eq_true rfl⟩) (fun r_4 hr_4 => ?_)
    have hr_4 : BR r_4 (1 ≤ p1.toInt ∧ p1.toInt ≤ 360) 1 0 := hr_4
    rcases hr_4 with ⟨rfl, h_5⟩ | ⟨rfl, h_5⟩
    · skip
      refine lv_if_ne (tgt := 23) hx hb dX11_life_18 (by decide) (fun c_6 => ?_) (fun c_6 => absurd c_6 (by decide))
      refine lv_aload_n hx hb dX11_life_23 rfl (lv_at hl 0 rfl) ?_
      refine va_get (D := D) (ci := 11) (v := .ref (a 1)) (C := RX11) (T := TX11) (N := 14) hx hb hT iX11 hown hK hP 0 rfl rfl 0 (by decide) (hT _ t_267) (fun _ h9 => h9) rfl dX11_life_24 ?_
      refine va_get (D := D) (ci := 8) (v := .ref (a 2)) (C := RX8) (T := TX8) (N := 2) hx hb hT iX8 hown hK hP 1 rfl rfl 0 (by decide) (hT _ t_268) (fun _ h9 => h9) rfl dX11_life_27 ?_
      refine lv_iload_n hx hb dX11_life_30 rfl (lv_at hl 1 rfl) ?_
      refine lv_iload_n hx hb dX11_life_31 rfl (lv_at hl 2 rfl) ?_
      refine va_iast hx hb hK hP hD hS 2 0 rfl rfl (vp_inI (by omega) (by omega)) dX11_life_32 (fun H locs hP hD hS => ?_)
      rw [zS2] at hP hD
      have hRr : yRr (va_up r 2 (upd (r 2) p0.toNatClampNeg p1)) := Yr_upd hRr 2 (p0.toNatClampNeg) p1 (b_rg _)
      have hEr : mEr [2] _ (va_up r 2 (upd (r 2) p0.toNatClampNeg p1)) := Er_up hEr 2 _ (by decide)
      refine lv_iconst (v := 1) hx hb dX11_life_33 (by decide) ?_
      subst hQ
      exact W.zret hx hb hr rfl (fun t ht hW => ⟨⟨_, (va_up r 2 (upd (r 2) p0.toNatClampNeg p1)), rfl, ⟨hRr, hEr, Or.inl ⟨rfl, by omega⟩⟩, by rw [ht]; exact hP, va_K.moved hW.alike hK, hD⟩, hS.F ht⟩) hS.2.2 dX11_life_34
    · skip
      refine lv_if_ne (tgt := 23) hx hb dX11_life_18 (by decide) (fun c_7 => absurd (by decide) c_7) (fun c_7 => ?_)
      refine lv_iconst (v := 0) hx hb dX11_life_21 (by decide) ?_
      subst hQ
      exact W.zret hx hb hr rfl (fun t ht hW => ⟨⟨_, r, rfl, ⟨hRr, hEr, Or.inr ⟨rfl, by omega⟩⟩, by rw [ht]; exact hP, va_K.moved hW.alike hK, hD⟩, hS.F ht⟩) hS.2.2 dX11_life_22
  · skip
    refine lv_if_eq (tgt := 21) hx hb dX11_life_7 (by decide) (fun c_8 => ?_) (fun c_8 => absurd (by decide) c_8)
    refine lv_iconst (v := 0) hx hb dX11_life_21 (by decide) ?_
    subst hQ
    exact W.zret hx hb hr rfl (fun t ht hW => ⟨⟨_, r, rfl, ⟨hRr, hEr, Or.inr ⟨rfl, by omega⟩⟩, by rw [ht]; exact hP, va_K.moved hW.alike hK, hD⟩, hS.F ht⟩) hS.2.2 dX11_life_22
set_option maxHeartbeats 4000000 in
set_option maxRecDepth 100000 in
theorem c_X11_price (l : Launch) (D : va_G) (cy : Nat → ClassId) (a : Nat → Nat) (i : Nat → Int32) (r : Nat → Nat → Int32) (q : Nat → Option Nat) (tl : va_W) (p0 p1 p2 : Int32) (sz : Nat) (hRi : yRi i) (hRr : yRr r) : Met l yX11_price (Cond.code yX11_price cX11_price 4 (some .boolean) :: gT) { frames := 2, cells := 0, slots := 0, locals := 46 } (va_Pc [.ref (a 0), .int p0, .int p1, .int p2] (rQ D cy (xW cy a i r q (a 20) (a 12) ++ tl) sz)) (va_Qi (fun (z : Int32) (u : Nat → Nat → Int32) => yRr u ∧ mEr [3] r u ∧ (BR z ((0 ≤ p0.toInt ∧ p0.toInt ≤ 7) ∧ (0 ≤ p1.toInt ∧ p1.toInt ≤ 3) ∧ (0 ≤ p2.toInt ∧ p2.toInt ≤ 99999)) 1 0)) (fun (u : Nat → Nat → Int32) t => va_P D vwCl (xW cy a i u q (a 20) (a 12) ++ tl) t.heap ∧ va_K D vwCl (vT cy) t ∧ va_D (va_A (xW cy a i r q (a 20) (a 12) ++ tl) sz) (xW cy a i u q (a 20) (a 12) ++ tl)) (va_A (xW cy a i r q (a 20) (a 12) ++ tl) sz)) 0 0 (va_A (xW cy a i r q (a 20) (a 12) ++ tl) sz) := by
  refine Met.ofQ (cc := cX11_price) (maxL := 4) (ret := (some .boolean)) (by decide) rfl ?_
  intro p e s m args below meth c s₁ B hml hv Q hQ
  obtain ⟨rfl, hsz, hP, hK, hD0⟩ := hv
  have hx := B.exec
  have hb := B.bytes
  have hr := B.returns
  have hlocks := B.notSynchronized
  have hT : ∀ w ∈ gT, w.before _ s = true := fun w h => atoms_spec (ws := (Cond.code yX11_price cX11_price 4 (some .boolean) :: gT)) B.pre w (List.mem_cons_of_mem _ h)
  have hown : s.vm.findClass RX11 = some m.cls := findClass_of_methodNamed B.named
  subst hsz
  have hD := hD0.self (sz := s.heap.size)
  generalize hAe : va_A (xW cy a i r q (a 20) (a 12) ++ tl) s.heap.size = A at hD hQ
  have hA : ∀ q : Nat, s.heap.size ≤ q → A q := fun q h => by rw [← hAe]; exact Or.inr h
  have hS : va_S A s.heap s.heap [] := va_S.rf
  have hl := lv_entry ([.ref (a 0), .int p0, .int p1, .int p2]) (n := 4) (Nat.le_of_ble_eq_true rfl)
  rw [lg_entry_eq]
  generalize (lg_sl ([.ref (a 0), .int p0, .int p1, .int p2]) ++ List.replicate (4 - (lg_sl ([.ref (a 0), .int p0, .int p1, .int p2])).length) Slot.unset).toArray = ls at hl ⊢
  have hl : lv_has ls 4 [(0, .ref (a 0)), (1, .int p0), (2, .int p1), (3, .int p2)] := hl
  have hEi : mEi [] i i := Ei_rf
  have hEr : mEr [3] r r := Er_rf
  refine lv_iload_n hx hb dX11_price_0 rfl (lv_at hl 1 rfl) ?_
  refine lv_iconst (v := 0) hx hb dX11_price_1 (by decide) ?_
  refine lv_bipush (v := 7) hx hb dX11_price_2 (by decide) ?_
  refine vp_callSi (W.runS (As := [.int p0, .int 0, .int 7]) (rest := []) ⟨hx, hb, hml, hown, hT⟩ (c_X11_within l p0 0 7) (va_cwS 3 hT (gS t_1 t_3 t_4 t_2) rfl rfl rfl (by decide +kernel) ⟨Nat.le_of_ble_eq_true rfl, Nat.le_of_ble_eq_true rfl⟩) preT rfl rfl hl.1 rfl (lv_room (Nat.le_of_ble_eq_true rfl)) dX11_price_4 ⟨Nat.le_of_ble_eq_true rfl, Nat.le_of_ble_eq_true rfl⟩) (fun r_1 hr_1 => ?_)
  have hr_1 : BR r_1 (0 ≤ p0.toInt ∧ p0.toInt ≤ 7) 1 0 := hr_1
  rcases hr_1 with ⟨rfl, h_2⟩ | ⟨rfl, h_2⟩
  · skip
    refine lv_if_eq (tgt := 29) hx hb dX11_price_7 (by decide) (fun c_3 => absurd c_3 (by decide)) (fun c_3 => ?_)
    refine lv_iload_n hx hb dX11_price_10 rfl (lv_at hl 2 rfl) ?_
    refine lv_iconst (v := 0) hx hb dX11_price_11 (by decide) ?_
    refine lv_iconst (v := 3) hx hb dX11_price_12 (by decide) ?_
    refine vp_callSi (W.runS (As := [.int p1, .int 0, .int 3]) (rest := []) ⟨hx, hb, hml, hown, hT⟩ (c_X11_within l p1 0 3) (va_cwS 3 hT (gS t_1 t_3 t_4 t_2) rfl rfl rfl (by decide +kernel) ⟨Nat.le_of_ble_eq_true rfl, Nat.le_of_ble_eq_true rfl⟩) preT rfl rfl hl.1 rfl (lv_room (Nat.le_of_ble_eq_true rfl)) dX11_price_13 ⟨Nat.le_of_ble_eq_true rfl, Nat.le_of_ble_eq_true rfl⟩) (fun r_4 hr_4 => ?_)
    have hr_4 : BR r_4 (0 ≤ p1.toInt ∧ p1.toInt ≤ 3) 1 0 := hr_4
    rcases hr_4 with ⟨rfl, h_5⟩ | ⟨rfl, h_5⟩
    · skip
      refine lv_if_eq (tgt := 29) hx hb dX11_price_16 (by decide) (fun c_6 => absurd c_6 (by decide)) (fun c_6 => ?_)
      refine lv_iload_n hx hb dX11_price_19 rfl (lv_at hl 3 rfl) ?_
      refine lv_iconst (v := 0) hx hb dX11_price_20 (by decide) ?_
      refine lv_ldc (v := 99999) hx hb hown (hT _ t_269) dX11_price_21 ?_
      refine vp_callSi (W.runS (As := [.int p2, .int 0, .int 99999]) (rest := []) ⟨hx, hb, hml, hown, hT⟩ (c_X11_within l p2 0 99999) (va_cwS 3 hT (gS t_1 t_3 t_4 t_2) rfl rfl rfl (by decide +kernel) ⟨Nat.le_of_ble_eq_true rfl, Nat.le_of_ble_eq_true rfl⟩) preT rfl rfl hl.1 rfl (lv_room (Nat.le_of_ble_eq_true rfl)) dX11_price_23 ⟨Nat.le_of_ble_eq_true rfl, Nat.le_of_ble_eq_true rfl⟩) (fun r_7 hr_7 => ?_)
      have hr_7 : BR r_7 (0 ≤ p2.toInt ∧ p2.toInt ≤ 99999) 1 0 := hr_7
      rcases hr_7 with ⟨rfl, h_8⟩ | ⟨rfl, h_8⟩
      · skip
        refine lv_if_ne (tgt := 31) hx hb dX11_price_26 (by decide) (fun c_9 => ?_) (fun c_9 => absurd c_9 (by decide))
        refine lv_aload_n hx hb dX11_price_31 rfl (lv_at hl 0 rfl) ?_
        refine va_get (D := D) (ci := 11) (v := .ref (a 1)) (C := RX11) (T := TX11) (N := 14) hx hb hT iX11 hown hK hP 0 rfl rfl 0 (by decide) (hT _ t_267) (fun _ h9 => h9) rfl dX11_price_32 ?_
        refine va_get (D := D) (ci := 8) (v := .ref (a 3)) (C := RX8) (T := TX8) (N := 2) hx hb hT iX8 hown hK hP 1 rfl rfl 1 (by decide) (hT _ t_270) (fun _ h9 => h9) rfl dX11_price_35 ?_
        refine lv_iload_n hx hb dX11_price_38 rfl (lv_at hl 1 rfl) ?_
        refine lv_iconst (v := 4) hx hb dX11_price_39 (by decide) ?_
        refine lv_imul hx hb dX11_price_40 ?_
        refine lv_topi (fun v_10 ev_10 => ?_)
        have hv_10 : v_10.toInt = p0.toInt * 4 := by rw [ev_10]; have := b_rg p0; exact i_mul (a := p0.toInt) (b := 4) rfl rfl (by omega) (by omega)
        refine lv_iload_n hx hb dX11_price_41 rfl (lv_at hl 2 rfl) ?_
        refine lv_iadd hx hb dX11_price_42 ?_
        refine lv_topi (fun v_11 ev_11 => ?_)
        have hv_11 : v_11.toInt = v_10.toInt + p1.toInt := by rw [ev_11]; have := b_rg v_10; have := b_rg p1; exact i_add (a := v_10.toInt) (b := p1.toInt) rfl rfl (by omega) (by omega)
        refine lv_iload_n hx hb dX11_price_43 rfl (lv_at hl 3 rfl) ?_
        refine va_iast hx hb hK hP hD hS 3 0 rfl rfl (vp_inI (by omega) (by omega)) dX11_price_44 (fun H locs hP hD hS => ?_)
        rw [zS3] at hP hD
        have hRr : yRr (va_up r 3 (upd (r 3) v_11.toNatClampNeg p2)) := Yr_upd hRr 3 (v_11.toNatClampNeg) p2 ⟨by show (0 : Int) ≤ p2.toInt; omega, by show p2.toInt ≤ (99999 : Int); omega⟩
        have hEr : mEr [3] _ (va_up r 3 (upd (r 3) v_11.toNatClampNeg p2)) := Er_up hEr 3 _ (by decide)
        refine lv_iconst (v := 1) hx hb dX11_price_45 (by decide) ?_
        subst hQ
        exact W.zret hx hb hr rfl (fun t ht hW => ⟨⟨_, (va_up r 3 (upd (r 3) v_11.toNatClampNeg p2)), rfl, ⟨hRr, hEr, Or.inl ⟨rfl, by omega⟩⟩, by rw [ht]; exact hP, va_K.moved hW.alike hK, hD⟩, hS.F ht⟩) hS.2.2 dX11_price_46
      · skip
        refine lv_if_ne (tgt := 31) hx hb dX11_price_26 (by decide) (fun c_12 => absurd (by decide) c_12) (fun c_12 => ?_)
        refine lv_iconst (v := 0) hx hb dX11_price_29 (by decide) ?_
        subst hQ
        exact W.zret hx hb hr rfl (fun t ht hW => ⟨⟨_, r, rfl, ⟨hRr, hEr, Or.inr ⟨rfl, by omega⟩⟩, by rw [ht]; exact hP, va_K.moved hW.alike hK, hD⟩, hS.F ht⟩) hS.2.2 dX11_price_30
    · skip
      refine lv_if_eq (tgt := 29) hx hb dX11_price_16 (by decide) (fun c_13 => ?_) (fun c_13 => absurd (by decide) c_13)
      refine lv_iconst (v := 0) hx hb dX11_price_29 (by decide) ?_
      subst hQ
      exact W.zret hx hb hr rfl (fun t ht hW => ⟨⟨_, r, rfl, ⟨hRr, hEr, Or.inr ⟨rfl, by omega⟩⟩, by rw [ht]; exact hP, va_K.moved hW.alike hK, hD⟩, hS.F ht⟩) hS.2.2 dX11_price_30
  · skip
    refine lv_if_eq (tgt := 29) hx hb dX11_price_7 (by decide) (fun c_14 => ?_) (fun c_14 => absurd (by decide) c_14)
    refine lv_iconst (v := 0) hx hb dX11_price_29 (by decide) ?_
    subst hQ
    exact W.zret hx hb hr rfl (fun t ht hW => ⟨⟨_, r, rfl, ⟨hRr, hEr, Or.inr ⟨rfl, by omega⟩⟩, by rw [ht]; exact hP, va_K.moved hW.alike hK, hD⟩, hS.F ht⟩) hS.2.2 dX11_price_30
set_option maxHeartbeats 4000000 in
set_option maxRecDepth 100000 in
theorem c_X11_agree (l : Launch) (D : va_G) (cy : Nat → ClassId) (a : Nat → Nat) (i : Nat → Int32) (r : Nat → Nat → Int32) (q : Nat → Option Nat) (tl : va_W) (p0 p1 : Int32) (sz : Nat) (hRi : yRi i) (hRr : yRr r) : Met l yX11_agree (Cond.code yX11_agree cX11_agree 3 (some .boolean) :: gT) { frames := 3, cells := 0, slots := 0, locals := 67 } (va_Pc [.ref (a 0), .int p0, .int p1] (rQ D cy (xW cy a i r q (a 20) (a 12) ++ tl) sz)) (va_Qi (fun (z : Int32) (u : Nat → Nat → Int32) => yRr u ∧ mEr [35] r u ∧ True) (fun (u : Nat → Nat → Int32) t => va_P D vwCl (xW cy a i u q (a 20) (a 12) ++ tl) t.heap ∧ va_K D vwCl (vT cy) t ∧ va_D (va_A (xW cy a i r q (a 20) (a 12) ++ tl) sz) (xW cy a i u q (a 20) (a 12) ++ tl)) (va_A (xW cy a i r q (a 20) (a 12) ++ tl) sz)) 0 0 (va_A (xW cy a i r q (a 20) (a 12) ++ tl) sz) := by
  refine Met.ofQ (cc := cX11_agree) (maxL := 3) (ret := (some .boolean)) (by decide) rfl ?_
  intro p e s m args below meth c s₁ B hml hv Q hQ
  obtain ⟨rfl, hsz, hP, hK, hD0⟩ := hv
  have hx := B.exec
  have hb := B.bytes
  have hr := B.returns
  have hlocks := B.notSynchronized
  have hT : ∀ w ∈ gT, w.before _ s = true := fun w h => atoms_spec (ws := (Cond.code yX11_agree cX11_agree 3 (some .boolean) :: gT)) B.pre w (List.mem_cons_of_mem _ h)
  have hown : s.vm.findClass RX11 = some m.cls := findClass_of_methodNamed B.named
  subst hsz
  have hD := hD0.self (sz := s.heap.size)
  generalize hAe : va_A (xW cy a i r q (a 20) (a 12) ++ tl) s.heap.size = A at hD hQ
  have hA : ∀ q : Nat, s.heap.size ≤ q → A q := fun q h => by rw [← hAe]; exact Or.inr h
  have hS : va_S A s.heap s.heap [] := va_S.rf
  have hl := lv_entry ([.ref (a 0), .int p0, .int p1]) (n := 3) (Nat.le_of_ble_eq_true rfl)
  rw [lg_entry_eq]
  generalize (lg_sl ([.ref (a 0), .int p0, .int p1]) ++ List.replicate (3 - (lg_sl ([.ref (a 0), .int p0, .int p1])).length) Slot.unset).toArray = ls at hl ⊢
  have hl : lv_has ls 3 [(0, .ref (a 0)), (1, .int p0), (2, .int p1)] := hl
  have hEi : mEi [] i i := Ei_rf
  have hEr : mEr [35] r r := Er_rf
  refine lv_aload_n hx hb dX11_agree_0 rfl (lv_at hl 0 rfl) ?_
  refine lv_iload_n hx hb dX11_agree_1 rfl (lv_at hl 1 rfl) ?_
  refine vp_callSi (W.runV (As := [.int p0]) (rest := []) ⟨hx, hb, hml, hown, hT⟩ (c_X11_isClaim l D cy a i r q tl p0 hRi hRr) (cwV 1 hT (gV t_273 t_274 t_275 t_276 t_2) rfl rfl rfl (by decide +kernel) ⟨Nat.le_of_ble_eq_true rfl, Nat.le_of_ble_eq_true rfl⟩) (rP_v hP hK (va_recv hK hP (ci := 11) (q0 := 0) rfl rfl)) rfl rfl hl.1 rfl (lv_room (Nat.le_of_ble_eq_true rfl)) dX11_agree_2 ⟨Nat.le_of_ble_eq_true rfl, Nat.le_of_ble_eq_true rfl⟩) (fun r_1 hr_1 => ?_)
  have hg_2 : 0 ≤ (i 10).toInt ∧ (i 10).toInt ≤ 30 := hRi 10
  have hr_1 : BR r_1 (0 ≤ p0.toInt ∧ p0.toInt < (i 10).toInt) 1 0 := hr_1
  rcases hr_1 with ⟨rfl, h_3⟩ | ⟨rfl, h_3⟩
  · skip
    refine lv_if_eq (tgt := 18) hx hb dX11_agree_5 (by decide) (fun c_4 => absurd c_4 (by decide)) (fun c_4 => ?_)
    refine lv_iload_n hx hb dX11_agree_8 rfl (lv_at hl 2 rfl) ?_
    refine lv_iconst (v := 0) hx hb dX11_agree_9 (by decide) ?_
    refine lv_ldc (v := 999999) hx hb hown (hT _ t_277) dX11_agree_10 ?_
    refine vp_callSi (W.runS (As := [.int p1, .int 0, .int 999999]) (rest := []) ⟨hx, hb, hml, hown, hT⟩ (c_X11_within l p1 0 999999) (va_cwS 3 hT (gS t_1 t_3 t_4 t_2) rfl rfl rfl (by decide +kernel) ⟨Nat.le_of_ble_eq_true rfl, Nat.le_of_ble_eq_true rfl⟩) preT rfl rfl hl.1 rfl (lv_room (Nat.le_of_ble_eq_true rfl)) dX11_agree_12 ⟨Nat.le_of_ble_eq_true rfl, Nat.le_of_ble_eq_true rfl⟩) (fun r_5 hr_5 => ?_)
    have hr_5 : BR r_5 (0 ≤ p1.toInt ∧ p1.toInt ≤ 999999) 1 0 := hr_5
    rcases hr_5 with ⟨rfl, h_6⟩ | ⟨rfl, h_6⟩
    · skip
      refine lv_if_ne (tgt := 20) hx hb dX11_agree_15 (by decide) (fun c_7 => ?_) (fun c_7 => absurd c_7 (by decide))
      refine lv_aload_n hx hb dX11_agree_20 rfl (lv_at hl 0 rfl) ?_
      refine va_get (D := D) (ci := 11) (v := .ref (a 29)) (C := RX11) (T := TX11) (N := 14) hx hb hT iX11 hown hK hP 0 rfl rfl 8 (by decide) (hT _ t_265) (fun _ h9 => h9) rfl dX11_agree_21 ?_
      refine va_get (D := D) (ci := 1) (v := .ref (a 35)) (C := RX1) (T := TX1) (N := 12) hx hb hT iX1 hown hK hP 29 rfl rfl 6 (by decide) (hT _ t_278) (fun _ h9 => h9) rfl dX11_agree_24 ?_
      refine lv_iload_n hx hb dX11_agree_27 rfl (lv_at hl 1 rfl) ?_
      refine lv_iload_n hx hb dX11_agree_28 rfl (lv_at hl 2 rfl) ?_
      refine va_iast hx hb hK hP hD hS 35 0 rfl rfl (vp_inI (by omega) (by omega)) dX11_agree_29 (fun H locs hP hD hS => ?_)
      rw [zS35] at hP hD
      have hRr : yRr (va_up r 35 (upd (r 35) p0.toNatClampNeg p1)) := Yr_upd hRr 35 (p0.toNatClampNeg) p1 ⟨by show (0 : Int) ≤ p1.toInt; omega, by show p1.toInt ≤ (999999 : Int); omega⟩
      have hEr : mEr [35] _ (va_up r 35 (upd (r 35) p0.toNatClampNeg p1)) := Er_up hEr 35 _ (by decide)
      refine lv_iconst (v := 1) hx hb dX11_agree_30 (by decide) ?_
      subst hQ
      exact W.zret hx hb hr rfl (fun t ht hW => ⟨⟨_, (va_up r 35 (upd (r 35) p0.toNatClampNeg p1)), rfl, ⟨hRr, hEr, trivial⟩, by rw [ht]; exact hP, va_K.moved hW.alike hK, hD⟩, hS.F ht⟩) hS.2.2 dX11_agree_31
    · skip
      refine lv_if_ne (tgt := 20) hx hb dX11_agree_15 (by decide) (fun c_8 => absurd (by decide) c_8) (fun c_8 => ?_)
      refine lv_iconst (v := 0) hx hb dX11_agree_18 (by decide) ?_
      subst hQ
      exact W.zret hx hb hr rfl (fun t ht hW => ⟨⟨_, r, rfl, ⟨hRr, hEr, trivial⟩, by rw [ht]; exact hP, va_K.moved hW.alike hK, hD⟩, hS.F ht⟩) hS.2.2 dX11_agree_19
  · skip
    refine lv_if_eq (tgt := 18) hx hb dX11_agree_5 (by decide) (fun c_9 => ?_) (fun c_9 => absurd (by decide) c_9)
    refine lv_iconst (v := 0) hx hb dX11_agree_18 (by decide) ?_
    subst hQ
    exact W.zret hx hb hr rfl (fun t ht hW => ⟨⟨_, r, rfl, ⟨hRr, hEr, trivial⟩, by rw [ht]; exact hP, va_K.moved hW.alike hK, hD⟩, hS.F ht⟩) hS.2.2 dX11_agree_19
