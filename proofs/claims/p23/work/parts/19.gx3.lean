set_option maxRecDepth 100000 in
theorem t_383 : Cond.fieldLink RX3 48 "DepositJudge$Home" "to" "I" ∈ gT := tm (tb2 (List.mem_of_getElem? (i := 118) (by rfl))) (by decide +kernel)
set_option maxRecDepth 100000 in
theorem t_384 : Cond.fieldLink RX3 45 "DepositJudge$Home" "from" "I" ∈ gT := tm (tb2 (List.mem_of_getElem? (i := 117) (by rfl))) (by decide +kernel)
set_option maxRecDepth 100000 in
theorem t_385 : Cond.fieldLink RX3 15 "DepositJudge$Home" "debts" "[I" ∈ gT := tm (tb2 (List.mem_of_getElem? (i := 124) (by rfl))) (by decide +kernel)
set_option maxRecDepth 100000 in
theorem t_386 : Cond.fieldLink RX3 18 "DepositJudge$Home" "kin" "[Z" ∈ gT := tm (tb2 (List.mem_of_getElem? (i := 126) (by rfl))) (by decide +kernel)
set_option maxRecDepth 100000 in
theorem t_387 : Cond.fieldLink RX3 32 "DepositJudge$Home" "joined" "[I" ∈ gT := tm (tb2 (List.mem_of_getElem? (i := 134) (by rfl))) (by decide +kernel)
set_option maxRecDepth 100000 in
theorem t_388 : Cond.fieldLink RX3 29 "DepositJudge$Home" "atLast" "LDepositJudge$Things;" ∈ gT := tm (tb2 (List.mem_of_getElem? (i := 131) (by rfl))) (by decide +kernel)
set_option maxRecDepth 100000 in
theorem t_389 : Cond.fieldLink RX3 55 "DepositJudge$Things" "count" "I" ∈ gT := tm (tb2 (List.mem_of_getElem? (i := 84) (by rfl))) (by decide +kernel)
set_option maxRecDepth 100000 in
theorem t_390 : Cond.code yX3_isGone cX3_isGone 2 (some .boolean) ∈ gT := tm (tb3 (List.mem_of_getElem? (i := 165) (by rfl))) (by decide +kernel)
set_option maxRecDepth 100000 in
theorem t_391 : Cond.initialized RX3 ∈ gT := tm (tb1 (List.mem_of_getElem? (i := 12) (by rfl))) (by decide +kernel)
set_option maxRecDepth 100000 in
theorem t_392 : Cond.methodLink RX3 58 yX3_isGone ∈ gT := tm (tb3 (List.mem_of_getElem? (i := 162) (by rfl))) (by decide +kernel)
set_option maxRecDepth 100000 in
theorem t_393 : Cond.instanceMethod yX3_isGone ∈ gT := tm (tb3 (List.mem_of_getElem? (i := 163) (by rfl))) (by decide +kernel)
set_option maxRecDepth 100000 in
theorem t_394 : Cond.selects RX3 yX3_isGone yX3_isGone ∈ gT := tm (tb3 (List.mem_of_getElem? (i := 164) (by rfl))) (by decide +kernel)
set_option maxRecDepth 100000 in
theorem t_395 : Cond.fieldLink RX3 62 "DepositJudge$Things" "states" "[I" ∈ gT := tm (tb2 (List.mem_of_getElem? (i := 95) (by rfl))) (by decide +kernel)
set_option maxRecDepth 100000 in
theorem t_396 : Cond.fieldLink RX3 25 "DepositJudge$Home" "atFirst" "LDepositJudge$Things;" ∈ gT := tm (tb2 (List.mem_of_getElem? (i := 128) (by rfl))) (by decide +kernel)
set_option maxRecDepth 100000 in
theorem t_397 : Cond.code yX3_stateAtLast cX3_stateAtLast 2 (some .int) ∈ gT := tm (tb3 (List.mem_of_getElem? (i := 169) (by rfl))) (by decide +kernel)
set_option maxRecDepth 100000 in
theorem t_398 : Cond.methodLink RX3 65 yX3_stateAtLast ∈ gT := tm (tb3 (List.mem_of_getElem? (i := 166) (by rfl))) (by decide +kernel)
set_option maxRecDepth 100000 in
theorem t_399 : Cond.instanceMethod yX3_stateAtLast ∈ gT := tm (tb3 (List.mem_of_getElem? (i := 167) (by rfl))) (by decide +kernel)
set_option maxRecDepth 100000 in
theorem t_400 : Cond.selects RX3 yX3_stateAtLast yX3_stateAtLast ∈ gT := tm (tb3 (List.mem_of_getElem? (i := 168) (by rfl))) (by decide +kernel)
set_option maxRecDepth 100000 in
theorem t_401 : Cond.fieldLink RX3 69 "DepositJudge$Things" "kinds" "[I" ∈ gT := tm (tb2 (List.mem_of_getElem? (i := 91) (by rfl))) (by decide +kernel)
set_option maxRecDepth 100000 in
theorem t_402 : Cond.fieldLink RX10 9 "DepositJudge$Things" "count" "I" ∈ gT := tm (tb2 (List.mem_of_getElem? (i := 82) (by rfl))) (by decide +kernel)
set_option maxRecDepth 100000 in
theorem t_403 : Cond.fieldLink RX10 15 "DepositJudge$Things" "rooms" "[I" ∈ gT := tm (tb2 (List.mem_of_getElem? (i := 86) (by rfl))) (by decide +kernel)
set_option maxRecDepth 100000 in
theorem t_404 : Cond.fieldLink RX10 19 "DepositJudge$Things" "kinds" "[I" ∈ gT := tm (tb2 (List.mem_of_getElem? (i := 89) (by rfl))) (by decide +kernel)
set_option maxRecDepth 100000 in
theorem t_405 : Cond.fieldLink RX10 22 "DepositJudge$Things" "states" "[I" ∈ gT := tm (tb2 (List.mem_of_getElem? (i := 93) (by rfl))) (by decide +kernel)
set_option maxRecDepth 100000 in
theorem t_406 : Cond.fieldLink RX10 25 "DepositJudge$Things" "ages" "[I" ∈ gT := tm (tb2 (List.mem_of_getElem? (i := 97) (by rfl))) (by decide +kernel)
set_option maxRecDepth 100000 in
theorem t_407 : Cond.fieldLink RX4 9 "DepositJudge$Joiner" "lack" "[I" ∈ gT := tm (tb1 (List.mem_of_getElem? (i := 52) (by rfl))) (by decide +kernel)
set_option maxRecDepth 100000 in
theorem t_408 : Cond.fieldLink RX4 19 "DepositJudge$Home" "atFirst" "LDepositJudge$Things;" ∈ gT := tm (tb2 (List.mem_of_getElem? (i := 129) (by rfl))) (by decide +kernel)
set_option maxRecDepth 100000 in
theorem t_409 : Cond.fieldLink RX4 29 "DepositJudge$Things" "count" "I" ∈ gT := tm (tb2 (List.mem_of_getElem? (i := 83) (by rfl))) (by decide +kernel)
set_option maxRecDepth 100000 in
theorem t_410 : Cond.fieldLink RX4 53 "DepositJudge$Home" "atLast" "LDepositJudge$Things;" ∈ gT := tm (tb2 (List.mem_of_getElem? (i := 132) (by rfl))) (by decide +kernel)
set_option maxRecDepth 100000 in
theorem t_411 : Cond.fieldLink RX4 15 "DepositJudge$Joiner" "taken" "[Z" ∈ gT := tm (tb1 (List.mem_of_getElem? (i := 53) (by rfl))) (by decide +kernel)
set_option maxRecDepth 100000 in
theorem t_412 : Cond.code yX10_isOf cX10_isOf 4 (some .boolean) ∈ gT := tm (tb2 (List.mem_of_getElem? (i := 200) (by rfl))) (by decide +kernel)
set_option maxRecDepth 100000 in
theorem t_413 : Cond.initialized RX10 ∈ gT := tm (tb1 (List.mem_of_getElem? (i := 13) (by rfl))) (by decide +kernel)
set_option maxRecDepth 100000 in
theorem t_414 : Cond.methodLink RX4 35 yX10_isOf ∈ gT := tm (tb2 (List.mem_of_getElem? (i := 197) (by rfl))) (by decide +kernel)
set_option maxRecDepth 100000 in
theorem t_415 : Cond.instanceMethod yX10_isOf ∈ gT := tm (tb2 (List.mem_of_getElem? (i := 198) (by rfl))) (by decide +kernel)
set_option maxRecDepth 100000 in
theorem t_416 : Cond.selects RX10 yX10_isOf yX10_isOf ∈ gT := tm (tb2 (List.mem_of_getElem? (i := 199) (by rfl))) (by decide +kernel)
set_option maxRecDepth 100000 in
theorem t_417 : Cond.fieldLink RX4 46 "DepositJudge$Things" "states" "[I" ∈ gT := tm (tb2 (List.mem_of_getElem? (i := 94) (by rfl))) (by decide +kernel)
set_option maxRecDepth 100000 in
theorem t_418 : Cond.code yX4_change cX4_change 4 none ∈ gT := tm (tb2 (List.mem_of_getElem? (i := 204) (by rfl))) (by decide +kernel)
set_option maxRecDepth 100000 in
theorem t_419 : Cond.initialized RX4 ∈ gT := tm (tb1 (List.mem_of_getElem? (i := 3) (by rfl))) (by decide +kernel)
set_option maxRecDepth 100000 in
theorem t_420 : Cond.methodLink RX4 49 yX4_change ∈ gT := tm (tb2 (List.mem_of_getElem? (i := 201) (by rfl))) (by decide +kernel)
set_option maxRecDepth 100000 in
theorem t_421 : Cond.instanceMethod yX4_change ∈ gT := tm (tb2 (List.mem_of_getElem? (i := 203) (by rfl))) (by decide +kernel)
theorem t_422 : Cond.selects RX4 yX4_change yX4_change ∈ gT := tmp (List.mem_of_getElem? (i := 3) (by decide +kernel)) (by decide +kernel)
set_option maxRecDepth 100000 in
theorem t_423 : Cond.fieldLink RX4 56 "DepositJudge$Things" "rooms" "[I" ∈ gT := tm (tb2 (List.mem_of_getElem? (i := 87) (by rfl))) (by decide +kernel)
set_option maxRecDepth 100000 in
theorem t_424 : Cond.fieldLink RX4 59 "DepositJudge$Things" "kinds" "[I" ∈ gT := tm (tb2 (List.mem_of_getElem? (i := 90) (by rfl))) (by decide +kernel)
set_option maxRecDepth 100000 in
theorem t_425 : Cond.code yX4_fits cX4_fits 4 (some .boolean) ∈ gT := tm (tb2 (List.mem_of_getElem? (i := 212) (by rfl))) (by decide +kernel)
set_option maxRecDepth 100000 in
theorem t_426 : Cond.methodLink RX4 62 yX4_fits ∈ gT := tm (tb2 (List.mem_of_getElem? (i := 209) (by rfl))) (by decide +kernel)
set_option maxRecDepth 100000 in
theorem t_427 : Cond.instanceMethod yX4_fits ∈ gT := tm (tb2 (List.mem_of_getElem? (i := 211) (by rfl))) (by decide +kernel)
theorem t_428 : Cond.selects RX4 yX4_fits yX4_fits ∈ gT := tmp (List.mem_of_getElem? (i := 5) (by decide +kernel)) (by decide +kernel)
set_option maxRecDepth 100000 in
theorem t_429 : Cond.code yX4_begin cX4_begin 5 none ∈ gT := tm (tb2 (List.mem_of_getElem? (i := 196) (by rfl))) (by decide +kernel)
set_option maxRecDepth 100000 in
theorem t_430 : Cond.methodLink RX4 25 yX4_begin ∈ gT := tm (tb2 (List.mem_of_getElem? (i := 193) (by rfl))) (by decide +kernel)
set_option maxRecDepth 100000 in
theorem t_431 : Cond.instanceMethod yX4_begin ∈ gT := tm (tb2 (List.mem_of_getElem? (i := 195) (by rfl))) (by decide +kernel)
theorem t_432 : Cond.selects RX4 yX4_begin yX4_begin ∈ gT := tmp (List.mem_of_getElem? (i := 2) (by decide +kernel)) (by decide +kernel)
set_option maxRecDepth 100000 in
theorem t_433 : Cond.code yX4_lowestFit cX4_lowestFit 6 (some .int) ∈ gT := tm (tb2 (List.mem_of_getElem? (i := 208) (by rfl))) (by decide +kernel)
set_option maxRecDepth 100000 in
theorem t_434 : Cond.methodLink RX4 39 yX4_lowestFit ∈ gT := tm (tb2 (List.mem_of_getElem? (i := 205) (by rfl))) (by decide +kernel)
set_option maxRecDepth 100000 in
theorem t_435 : Cond.instanceMethod yX4_lowestFit ∈ gT := tm (tb2 (List.mem_of_getElem? (i := 207) (by rfl))) (by decide +kernel)
theorem t_436 : Cond.selects RX4 yX4_lowestFit yX4_lowestFit ∈ gT := tmp (List.mem_of_getElem? (i := 4) (by decide +kernel)) (by decide +kernel)
set_option maxRecDepth 100000 in
theorem t_437 : Cond.fieldLink RX4 43 "DepositJudge$Home" "joined" "[I" ∈ gT := tm (tb2 (List.mem_of_getElem? (i := 135) (by rfl))) (by decide +kernel)
set_option maxRecDepth 100000 in
theorem t_438 : Cond.fieldLink RX11 29 "DepositJudge" "joiner" "LDepositJudge$Joiner;" ∈ gT := tm (tb2 (List.mem_of_getElem? (i := 14) (by rfl))) (by decide +kernel)
set_option maxRecDepth 100000 in
theorem t_439 : Cond.code yX4_join cX4_join 7 none ∈ gT := tm (tb2 (List.mem_of_getElem? (i := 192) (by rfl))) (by decide +kernel)
set_option maxRecDepth 100000 in
theorem t_440 : Cond.methodLink RX11 345 yX4_join ∈ gT := tm (tb2 (List.mem_of_getElem? (i := 189) (by rfl))) (by decide +kernel)
set_option maxRecDepth 100000 in
theorem t_441 : Cond.instanceMethod yX4_join ∈ gT := tm (tb2 (List.mem_of_getElem? (i := 190) (by rfl))) (by decide +kernel)
set_option maxRecDepth 100000 in
theorem t_442 : Cond.selects RX4 yX4_join yX4_join ∈ gT := tm (tb2 (List.mem_of_getElem? (i := 191) (by rfl))) (by decide +kernel)
def dl_277 : List (Nat × (Instr × Nat)) := [(0, (.aload_n 0, 1)), (1, (.getfield 9, 3)), (4, (.bipush 20, 2)), (6, (.if_icmp .lt 5, 3)), (9, (.iconst (-1), 1)), (10, (.ireturn, 1)), (11, (.aload_n 0, 1)), (12, (.getfield 15, 3)), (15, (.aload_n 0, 1)), (16, (.getfield 9, 3)), (19, (.iload_n 1, 1)), (20, (.iastore, 1)), (21, (.aload_n 0, 1)), (22, (.getfield 19, 3)), (25, (.aload_n 0, 1)), (26, (.getfield 9, 3)), (29, (.iload_n 2, 1)), (30, (.iastore, 1)), (31, (.aload_n 0, 1)), (32, (.getfield 22, 3))]
theorem dh_277 : dchk cX10_add dl_277 = true := by decide +kernel
theorem dX10_add_0 : decode cX10_add 0 = .ok (.aload_n 0, 1) := dget dh_277 (k := 0) rfl
theorem dX10_add_1 : decode cX10_add 1 = .ok (.getfield 9, 3) := dget dh_277 (k := 1) rfl
theorem dX10_add_4 : decode cX10_add 4 = .ok (.bipush 20, 2) := dget dh_277 (k := 2) rfl
theorem dX10_add_6 : decode cX10_add 6 = .ok (.if_icmp .lt 5, 3) := dget dh_277 (k := 3) rfl
theorem dX10_add_9 : decode cX10_add 9 = .ok (.iconst (-1), 1) := dget dh_277 (k := 4) rfl
theorem dX10_add_10 : decode cX10_add 10 = .ok (.ireturn, 1) := dget dh_277 (k := 5) rfl
theorem dX10_add_11 : decode cX10_add 11 = .ok (.aload_n 0, 1) := dget dh_277 (k := 6) rfl
theorem dX10_add_12 : decode cX10_add 12 = .ok (.getfield 15, 3) := dget dh_277 (k := 7) rfl
theorem dX10_add_15 : decode cX10_add 15 = .ok (.aload_n 0, 1) := dget dh_277 (k := 8) rfl
theorem dX10_add_16 : decode cX10_add 16 = .ok (.getfield 9, 3) := dget dh_277 (k := 9) rfl
theorem dX10_add_19 : decode cX10_add 19 = .ok (.iload_n 1, 1) := dget dh_277 (k := 10) rfl
theorem dX10_add_20 : decode cX10_add 20 = .ok (.iastore, 1) := dget dh_277 (k := 11) rfl
theorem dX10_add_21 : decode cX10_add 21 = .ok (.aload_n 0, 1) := dget dh_277 (k := 12) rfl
theorem dX10_add_22 : decode cX10_add 22 = .ok (.getfield 19, 3) := dget dh_277 (k := 13) rfl
theorem dX10_add_25 : decode cX10_add 25 = .ok (.aload_n 0, 1) := dget dh_277 (k := 14) rfl
theorem dX10_add_26 : decode cX10_add 26 = .ok (.getfield 9, 3) := dget dh_277 (k := 15) rfl
theorem dX10_add_29 : decode cX10_add 29 = .ok (.iload_n 2, 1) := dget dh_277 (k := 16) rfl
theorem dX10_add_30 : decode cX10_add 30 = .ok (.iastore, 1) := dget dh_277 (k := 17) rfl
theorem dX10_add_31 : decode cX10_add 31 = .ok (.aload_n 0, 1) := dget dh_277 (k := 18) rfl
theorem dX10_add_32 : decode cX10_add 32 = .ok (.getfield 22, 3) := dget dh_277 (k := 19) rfl
def dl_278 : List (Nat × (Instr × Nat)) := [(35, (.aload_n 0, 1)), (36, (.getfield 9, 3)), (39, (.iload_n 3, 1)), (40, (.iastore, 1)), (41, (.aload_n 0, 1)), (42, (.getfield 25, 3)), (45, (.aload_n 0, 1)), (46, (.getfield 9, 3)), (49, (.iload 4, 2)), (51, (.iastore, 1)), (52, (.aload_n 0, 1)), (53, (.dup, 1)), (54, (.getfield 9, 3)), (57, (.iconst 1, 1)), (58, (.iadd, 1)), (59, (.putfield 9, 3)), (62, (.aload_n 0, 1)), (63, (.getfield 9, 3)), (66, (.iconst 1, 1)), (67, (.isub, 1))]
theorem dh_278 : dchk cX10_add dl_278 = true := by decide +kernel
theorem dX10_add_35 : decode cX10_add 35 = .ok (.aload_n 0, 1) := dget dh_278 (k := 0) rfl
theorem dX10_add_36 : decode cX10_add 36 = .ok (.getfield 9, 3) := dget dh_278 (k := 1) rfl
theorem dX10_add_39 : decode cX10_add 39 = .ok (.iload_n 3, 1) := dget dh_278 (k := 2) rfl
theorem dX10_add_40 : decode cX10_add 40 = .ok (.iastore, 1) := dget dh_278 (k := 3) rfl
theorem dX10_add_41 : decode cX10_add 41 = .ok (.aload_n 0, 1) := dget dh_278 (k := 4) rfl
theorem dX10_add_42 : decode cX10_add 42 = .ok (.getfield 25, 3) := dget dh_278 (k := 5) rfl
theorem dX10_add_45 : decode cX10_add 45 = .ok (.aload_n 0, 1) := dget dh_278 (k := 6) rfl
theorem dX10_add_46 : decode cX10_add 46 = .ok (.getfield 9, 3) := dget dh_278 (k := 7) rfl
theorem dX10_add_49 : decode cX10_add 49 = .ok (.iload 4, 2) := dget dh_278 (k := 8) rfl
theorem dX10_add_51 : decode cX10_add 51 = .ok (.iastore, 1) := dget dh_278 (k := 9) rfl
theorem dX10_add_52 : decode cX10_add 52 = .ok (.aload_n 0, 1) := dget dh_278 (k := 10) rfl
theorem dX10_add_53 : decode cX10_add 53 = .ok (.dup, 1) := dget dh_278 (k := 11) rfl
theorem dX10_add_54 : decode cX10_add 54 = .ok (.getfield 9, 3) := dget dh_278 (k := 12) rfl
theorem dX10_add_57 : decode cX10_add 57 = .ok (.iconst 1, 1) := dget dh_278 (k := 13) rfl
theorem dX10_add_58 : decode cX10_add 58 = .ok (.iadd, 1) := dget dh_278 (k := 14) rfl
theorem dX10_add_59 : decode cX10_add 59 = .ok (.putfield 9, 3) := dget dh_278 (k := 15) rfl
theorem dX10_add_62 : decode cX10_add 62 = .ok (.aload_n 0, 1) := dget dh_278 (k := 16) rfl
theorem dX10_add_63 : decode cX10_add 63 = .ok (.getfield 9, 3) := dget dh_278 (k := 17) rfl
theorem dX10_add_66 : decode cX10_add 66 = .ok (.iconst 1, 1) := dget dh_278 (k := 18) rfl
theorem dX10_add_67 : decode cX10_add 67 = .ok (.isub, 1) := dget dh_278 (k := 19) rfl
def dl_279 : List (Nat × (Instr × Nat)) := [(68, (.ireturn, 1))]
theorem dh_279 : dchk cX10_add dl_279 = true := by decide +kernel
theorem dX10_add_68 : decode cX10_add 68 = .ok (.ireturn, 1) := dget dh_279 (k := 0) rfl
def dl_280 : List (Nat × (Instr × Nat)) := [(0, (.aload_n 0, 1)), (1, (.getfield 15, 3)), (4, (.iload_n 1, 1)), (5, (.iaload, 1)), (6, (.iload_n 2, 1)), (7, (.if_icmp .ne 17, 3)), (10, (.aload_n 0, 1)), (11, (.getfield 19, 3)), (14, (.iload_n 1, 1)), (15, (.iaload, 1)), (16, (.iload_n 3, 1)), (17, (.if_icmp .ne 7, 3)), (20, (.iconst 1, 1)), (21, (.goto 4, 3)), (24, (.iconst 0, 1)), (25, (.ireturn, 1))]
theorem dh_280 : dchk cX10_isOf dl_280 = true := by decide +kernel
theorem dX10_isOf_0 : decode cX10_isOf 0 = .ok (.aload_n 0, 1) := dget dh_280 (k := 0) rfl
theorem dX10_isOf_1 : decode cX10_isOf 1 = .ok (.getfield 15, 3) := dget dh_280 (k := 1) rfl
theorem dX10_isOf_4 : decode cX10_isOf 4 = .ok (.iload_n 1, 1) := dget dh_280 (k := 2) rfl
theorem dX10_isOf_5 : decode cX10_isOf 5 = .ok (.iaload, 1) := dget dh_280 (k := 3) rfl
theorem dX10_isOf_6 : decode cX10_isOf 6 = .ok (.iload_n 2, 1) := dget dh_280 (k := 4) rfl
theorem dX10_isOf_7 : decode cX10_isOf 7 = .ok (.if_icmp .ne 17, 3) := dget dh_280 (k := 5) rfl
theorem dX10_isOf_10 : decode cX10_isOf 10 = .ok (.aload_n 0, 1) := dget dh_280 (k := 6) rfl
theorem dX10_isOf_11 : decode cX10_isOf 11 = .ok (.getfield 19, 3) := dget dh_280 (k := 7) rfl
theorem dX10_isOf_14 : decode cX10_isOf 14 = .ok (.iload_n 1, 1) := dget dh_280 (k := 8) rfl
theorem dX10_isOf_15 : decode cX10_isOf 15 = .ok (.iaload, 1) := dget dh_280 (k := 9) rfl
theorem dX10_isOf_16 : decode cX10_isOf 16 = .ok (.iload_n 3, 1) := dget dh_280 (k := 10) rfl
theorem dX10_isOf_17 : decode cX10_isOf 17 = .ok (.if_icmp .ne 7, 3) := dget dh_280 (k := 11) rfl
theorem dX10_isOf_20 : decode cX10_isOf 20 = .ok (.iconst 1, 1) := dget dh_280 (k := 12) rfl
theorem dX10_isOf_21 : decode cX10_isOf 21 = .ok (.goto 4, 3) := dget dh_280 (k := 13) rfl
theorem dX10_isOf_24 : decode cX10_isOf 24 = .ok (.iconst 0, 1) := dget dh_280 (k := 14) rfl
theorem dX10_isOf_25 : decode cX10_isOf 25 = .ok (.ireturn, 1) := dget dh_280 (k := 15) rfl
def dl_281 : List (Nat × (Instr × Nat)) := [(0, (.iload_n 2, 1)), (1, (.iconst (-1), 1)), (2, (.if_icmp .eq 14, 3)), (5, (.aload_n 0, 1)), (6, (.getfield 29, 3)), (9, (.aload_n 1, 1)), (10, (.iload_n 3, 1)), (11, (.iload 4, 2)), (13, (.invokevirtual 345, 3)), (16, (.iload_n 2, 1)), (17, (.ireturn, 1))]
theorem dh_281 : dchk cX11_listed dl_281 = true := by decide +kernel
theorem dX11_listed_0 : decode cX11_listed 0 = .ok (.iload_n 2, 1) := dget dh_281 (k := 0) rfl
theorem dX11_listed_1 : decode cX11_listed 1 = .ok (.iconst (-1), 1) := dget dh_281 (k := 1) rfl
theorem dX11_listed_2 : decode cX11_listed 2 = .ok (.if_icmp .eq 14, 3) := dget dh_281 (k := 2) rfl
theorem dX11_listed_5 : decode cX11_listed 5 = .ok (.aload_n 0, 1) := dget dh_281 (k := 3) rfl
theorem dX11_listed_6 : decode cX11_listed 6 = .ok (.getfield 29, 3) := dget dh_281 (k := 4) rfl
theorem dX11_listed_9 : decode cX11_listed 9 = .ok (.aload_n 1, 1) := dget dh_281 (k := 5) rfl
theorem dX11_listed_10 : decode cX11_listed 10 = .ok (.iload_n 3, 1) := dget dh_281 (k := 6) rfl
theorem dX11_listed_11 : decode cX11_listed 11 = .ok (.iload 4, 2) := dget dh_281 (k := 7) rfl
theorem dX11_listed_13 : decode cX11_listed 13 = .ok (.invokevirtual 345, 3) := dget dh_281 (k := 8) rfl
theorem dX11_listed_16 : decode cX11_listed 16 = .ok (.iload_n 2, 1) := dget dh_281 (k := 9) rfl
theorem dX11_listed_17 : decode cX11_listed 17 = .ok (.ireturn, 1) := dget dh_281 (k := 10) rfl
def dl_282 : List (Nat × (Instr × Nat)) := [(0, (.iconst 0, 1)), (1, (.istore_n 1, 1)), (2, (.iload_n 1, 1)), (3, (.bipush 6, 2)), (5, (.if_icmp .ge 20, 3)), (8, (.aload_n 0, 1)), (9, (.getfield 18, 3)), (12, (.iload_n 1, 1)), (13, (.baload, 1)), (14, (.ifCond .ne 5, 3)), (17, (.iconst 0, 1)), (18, (.ireturn, 1)), (19, (.iinc 1 1, 3)), (22, (.goto (-20), 3)), (25, (.iconst 1, 1)), (26, (.ireturn, 1))]
theorem dh_282 : dchk cX3_allAreKin dl_282 = true := by decide +kernel
theorem dX3_allAreKin_0 : decode cX3_allAreKin 0 = .ok (.iconst 0, 1) := dget dh_282 (k := 0) rfl
theorem dX3_allAreKin_1 : decode cX3_allAreKin 1 = .ok (.istore_n 1, 1) := dget dh_282 (k := 1) rfl
theorem dX3_allAreKin_2 : decode cX3_allAreKin 2 = .ok (.iload_n 1, 1) := dget dh_282 (k := 2) rfl
theorem dX3_allAreKin_3 : decode cX3_allAreKin 3 = .ok (.bipush 6, 2) := dget dh_282 (k := 3) rfl
theorem dX3_allAreKin_5 : decode cX3_allAreKin 5 = .ok (.if_icmp .ge 20, 3) := dget dh_282 (k := 4) rfl
theorem dX3_allAreKin_8 : decode cX3_allAreKin 8 = .ok (.aload_n 0, 1) := dget dh_282 (k := 5) rfl
theorem dX3_allAreKin_9 : decode cX3_allAreKin 9 = .ok (.getfield 18, 3) := dget dh_282 (k := 6) rfl
theorem dX3_allAreKin_12 : decode cX3_allAreKin 12 = .ok (.iload_n 1, 1) := dget dh_282 (k := 7) rfl
theorem dX3_allAreKin_13 : decode cX3_allAreKin 13 = .ok (.baload, 1) := dget dh_282 (k := 8) rfl
theorem dX3_allAreKin_14 : decode cX3_allAreKin 14 = .ok (.ifCond .ne 5, 3) := dget dh_282 (k := 9) rfl
theorem dX3_allAreKin_17 : decode cX3_allAreKin 17 = .ok (.iconst 0, 1) := dget dh_282 (k := 10) rfl
theorem dX3_allAreKin_18 : decode cX3_allAreKin 18 = .ok (.ireturn, 1) := dget dh_282 (k := 11) rfl
theorem dX3_allAreKin_19 : decode cX3_allAreKin 19 = .ok (.iinc 1 1, 3) := dget dh_282 (k := 12) rfl
theorem dX3_allAreKin_22 : decode cX3_allAreKin 22 = .ok (.goto (-20), 3) := dget dh_282 (k := 13) rfl
theorem dX3_allAreKin_25 : decode cX3_allAreKin 25 = .ok (.iconst 1, 1) := dget dh_282 (k := 14) rfl
theorem dX3_allAreKin_26 : decode cX3_allAreKin 26 = .ok (.ireturn, 1) := dget dh_282 (k := 15) rfl
def dl_283 : List (Nat × (Instr × Nat)) := [(0, (.aload_n 0, 1)), (1, (.iload_n 1, 1)), (2, (.invokevirtual 58, 3)), (5, (.ifCond .eq 5, 3)), (8, (.iconst 2, 1)), (9, (.ireturn, 1)), (10, (.aload_n 0, 1)), (11, (.getfield 25, 3)), (14, (.getfield 62, 3)), (17, (.iload_n 1, 1)), (18, (.iaload, 1)), (19, (.istore_n 2, 1)), (20, (.aload_n 0, 1)), (21, (.iload_n 1, 1)), (22, (.invokevirtual 65, 3)), (25, (.istore_n 3, 1)), (26, (.iload_n 3, 1)), (27, (.iload_n 2, 1)), (28, (.if_icmp .ne 5, 3)), (31, (.iconst 0, 1))]
theorem dh_283 : dchk cX3_change dl_283 = true := by decide +kernel
theorem dX3_change_0 : decode cX3_change 0 = .ok (.aload_n 0, 1) := dget dh_283 (k := 0) rfl
theorem dX3_change_1 : decode cX3_change 1 = .ok (.iload_n 1, 1) := dget dh_283 (k := 1) rfl
theorem dX3_change_2 : decode cX3_change 2 = .ok (.invokevirtual 58, 3) := dget dh_283 (k := 2) rfl
theorem dX3_change_5 : decode cX3_change 5 = .ok (.ifCond .eq 5, 3) := dget dh_283 (k := 3) rfl
theorem dX3_change_8 : decode cX3_change 8 = .ok (.iconst 2, 1) := dget dh_283 (k := 4) rfl
theorem dX3_change_9 : decode cX3_change 9 = .ok (.ireturn, 1) := dget dh_283 (k := 5) rfl
theorem dX3_change_10 : decode cX3_change 10 = .ok (.aload_n 0, 1) := dget dh_283 (k := 6) rfl
theorem dX3_change_11 : decode cX3_change 11 = .ok (.getfield 25, 3) := dget dh_283 (k := 7) rfl
theorem dX3_change_14 : decode cX3_change 14 = .ok (.getfield 62, 3) := dget dh_283 (k := 8) rfl
theorem dX3_change_17 : decode cX3_change 17 = .ok (.iload_n 1, 1) := dget dh_283 (k := 9) rfl
theorem dX3_change_18 : decode cX3_change 18 = .ok (.iaload, 1) := dget dh_283 (k := 10) rfl
theorem dX3_change_19 : decode cX3_change 19 = .ok (.istore_n 2, 1) := dget dh_283 (k := 11) rfl
theorem dX3_change_20 : decode cX3_change 20 = .ok (.aload_n 0, 1) := dget dh_283 (k := 12) rfl
theorem dX3_change_21 : decode cX3_change 21 = .ok (.iload_n 1, 1) := dget dh_283 (k := 13) rfl
theorem dX3_change_22 : decode cX3_change 22 = .ok (.invokevirtual 65, 3) := dget dh_283 (k := 14) rfl
theorem dX3_change_25 : decode cX3_change 25 = .ok (.istore_n 3, 1) := dget dh_283 (k := 15) rfl
theorem dX3_change_26 : decode cX3_change 26 = .ok (.iload_n 3, 1) := dget dh_283 (k := 16) rfl
theorem dX3_change_27 : decode cX3_change 27 = .ok (.iload_n 2, 1) := dget dh_283 (k := 17) rfl
theorem dX3_change_28 : decode cX3_change 28 = .ok (.if_icmp .ne 5, 3) := dget dh_283 (k := 18) rfl
theorem dX3_change_31 : decode cX3_change 31 = .ok (.iconst 0, 1) := dget dh_283 (k := 19) rfl
def dl_284 : List (Nat × (Instr × Nat)) := [(32, (.ireturn, 1)), (33, (.iload_n 3, 1)), (34, (.iload_n 2, 1)), (35, (.if_icmp .ge 7, 3)), (38, (.iconst 1, 1)), (39, (.goto 4, 3)), (42, (.iconst 3, 1)), (43, (.ireturn, 1))]
theorem dh_284 : dchk cX3_change dl_284 = true := by decide +kernel
theorem dX3_change_32 : decode cX3_change 32 = .ok (.ireturn, 1) := dget dh_284 (k := 0) rfl
theorem dX3_change_33 : decode cX3_change 33 = .ok (.iload_n 3, 1) := dget dh_284 (k := 1) rfl
theorem dX3_change_34 : decode cX3_change 34 = .ok (.iload_n 2, 1) := dget dh_284 (k := 2) rfl
theorem dX3_change_35 : decode cX3_change 35 = .ok (.if_icmp .ge 7, 3) := dget dh_284 (k := 3) rfl
theorem dX3_change_38 : decode cX3_change 38 = .ok (.iconst 1, 1) := dget dh_284 (k := 4) rfl
theorem dX3_change_39 : decode cX3_change 39 = .ok (.goto 4, 3) := dget dh_284 (k := 5) rfl
theorem dX3_change_42 : decode cX3_change 42 = .ok (.iconst 3, 1) := dget dh_284 (k := 6) rfl
theorem dX3_change_43 : decode cX3_change 43 = .ok (.ireturn, 1) := dget dh_284 (k := 7) rfl
def dl_285 : List (Nat × (Instr × Nat)) := [(0, (.aload_n 0, 1)), (1, (.getfield 32, 3)), (4, (.iload_n 1, 1)), (5, (.iaload, 1)), (6, (.ifCond .lt 19, 3)), (9, (.aload_n 0, 1)), (10, (.getfield 32, 3)), (13, (.iload_n 1, 1)), (14, (.iaload, 1)), (15, (.aload_n 0, 1)), (16, (.getfield 29, 3)), (19, (.getfield 55, 3)), (22, (.if_icmp .lt 7, 3)), (25, (.iconst 1, 1)), (26, (.goto 4, 3)), (29, (.iconst 0, 1)), (30, (.ireturn, 1))]
theorem dh_285 : dchk cX3_isGone dl_285 = true := by decide +kernel
theorem dX3_isGone_0 : decode cX3_isGone 0 = .ok (.aload_n 0, 1) := dget dh_285 (k := 0) rfl
theorem dX3_isGone_1 : decode cX3_isGone 1 = .ok (.getfield 32, 3) := dget dh_285 (k := 1) rfl
theorem dX3_isGone_4 : decode cX3_isGone 4 = .ok (.iload_n 1, 1) := dget dh_285 (k := 2) rfl
theorem dX3_isGone_5 : decode cX3_isGone 5 = .ok (.iaload, 1) := dget dh_285 (k := 3) rfl
theorem dX3_isGone_6 : decode cX3_isGone 6 = .ok (.ifCond .lt 19, 3) := dget dh_285 (k := 4) rfl
theorem dX3_isGone_9 : decode cX3_isGone 9 = .ok (.aload_n 0, 1) := dget dh_285 (k := 5) rfl
theorem dX3_isGone_10 : decode cX3_isGone 10 = .ok (.getfield 32, 3) := dget dh_285 (k := 6) rfl
theorem dX3_isGone_13 : decode cX3_isGone 13 = .ok (.iload_n 1, 1) := dget dh_285 (k := 7) rfl
theorem dX3_isGone_14 : decode cX3_isGone 14 = .ok (.iaload, 1) := dget dh_285 (k := 8) rfl
theorem dX3_isGone_15 : decode cX3_isGone 15 = .ok (.aload_n 0, 1) := dget dh_285 (k := 9) rfl
theorem dX3_isGone_16 : decode cX3_isGone 16 = .ok (.getfield 29, 3) := dget dh_285 (k := 10) rfl
theorem dX3_isGone_19 : decode cX3_isGone 19 = .ok (.getfield 55, 3) := dget dh_285 (k := 11) rfl
theorem dX3_isGone_22 : decode cX3_isGone 22 = .ok (.if_icmp .lt 7, 3) := dget dh_285 (k := 12) rfl
theorem dX3_isGone_25 : decode cX3_isGone 25 = .ok (.iconst 1, 1) := dget dh_285 (k := 13) rfl
theorem dX3_isGone_26 : decode cX3_isGone 26 = .ok (.goto 4, 3) := dget dh_285 (k := 14) rfl
theorem dX3_isGone_29 : decode cX3_isGone 29 = .ok (.iconst 0, 1) := dget dh_285 (k := 15) rfl
theorem dX3_isGone_30 : decode cX3_isGone 30 = .ok (.ireturn, 1) := dget dh_285 (k := 16) rfl
def dl_286 : List (Nat × (Instr × Nat)) := [(0, (.iconst 0, 1)), (1, (.istore_n 2, 1)), (2, (.iload_n 2, 1)), (3, (.aload_n 0, 1)), (4, (.getfield 25, 3)), (7, (.getfield 55, 3)), (10, (.if_icmp .ge 21, 3)), (13, (.aload_n 0, 1)), (14, (.getfield 32, 3)), (17, (.iload_n 2, 1)), (18, (.iaload, 1)), (19, (.iload_n 1, 1)), (20, (.if_icmp .ne 5, 3)), (23, (.iconst 1, 1)), (24, (.ireturn, 1)), (25, (.iinc 2 1, 3)), (28, (.goto (-26), 3)), (31, (.iconst 0, 1)), (32, (.ireturn, 1))]
theorem dh_286 : dchk cX3_isJoinedTo dl_286 = true := by decide +kernel
theorem dX3_isJoinedTo_0 : decode cX3_isJoinedTo 0 = .ok (.iconst 0, 1) := dget dh_286 (k := 0) rfl
theorem dX3_isJoinedTo_1 : decode cX3_isJoinedTo 1 = .ok (.istore_n 2, 1) := dget dh_286 (k := 1) rfl
theorem dX3_isJoinedTo_2 : decode cX3_isJoinedTo 2 = .ok (.iload_n 2, 1) := dget dh_286 (k := 2) rfl
theorem dX3_isJoinedTo_3 : decode cX3_isJoinedTo 3 = .ok (.aload_n 0, 1) := dget dh_286 (k := 3) rfl
theorem dX3_isJoinedTo_4 : decode cX3_isJoinedTo 4 = .ok (.getfield 25, 3) := dget dh_286 (k := 4) rfl
theorem dX3_isJoinedTo_7 : decode cX3_isJoinedTo 7 = .ok (.getfield 55, 3) := dget dh_286 (k := 5) rfl
theorem dX3_isJoinedTo_10 : decode cX3_isJoinedTo 10 = .ok (.if_icmp .ge 21, 3) := dget dh_286 (k := 6) rfl
theorem dX3_isJoinedTo_13 : decode cX3_isJoinedTo 13 = .ok (.aload_n 0, 1) := dget dh_286 (k := 7) rfl
theorem dX3_isJoinedTo_14 : decode cX3_isJoinedTo 14 = .ok (.getfield 32, 3) := dget dh_286 (k := 8) rfl
theorem dX3_isJoinedTo_17 : decode cX3_isJoinedTo 17 = .ok (.iload_n 2, 1) := dget dh_286 (k := 9) rfl
theorem dX3_isJoinedTo_18 : decode cX3_isJoinedTo 18 = .ok (.iaload, 1) := dget dh_286 (k := 10) rfl
theorem dX3_isJoinedTo_19 : decode cX3_isJoinedTo 19 = .ok (.iload_n 1, 1) := dget dh_286 (k := 11) rfl
theorem dX3_isJoinedTo_20 : decode cX3_isJoinedTo 20 = .ok (.if_icmp .ne 5, 3) := dget dh_286 (k := 12) rfl
theorem dX3_isJoinedTo_23 : decode cX3_isJoinedTo 23 = .ok (.iconst 1, 1) := dget dh_286 (k := 13) rfl
theorem dX3_isJoinedTo_24 : decode cX3_isJoinedTo 24 = .ok (.ireturn, 1) := dget dh_286 (k := 14) rfl
theorem dX3_isJoinedTo_25 : decode cX3_isJoinedTo 25 = .ok (.iinc 2 1, 3) := dget dh_286 (k := 15) rfl
theorem dX3_isJoinedTo_28 : decode cX3_isJoinedTo 28 = .ok (.goto (-26), 3) := dget dh_286 (k := 16) rfl
theorem dX3_isJoinedTo_31 : decode cX3_isJoinedTo 31 = .ok (.iconst 0, 1) := dget dh_286 (k := 17) rfl
theorem dX3_isJoinedTo_32 : decode cX3_isJoinedTo 32 = .ok (.ireturn, 1) := dget dh_286 (k := 18) rfl
def dl_287 : List (Nat × (Instr × Nat)) := [(0, (.aload_n 0, 1)), (1, (.getfield 48, 3)), (4, (.aload_n 0, 1)), (5, (.getfield 45, 3)), (8, (.isub, 1)), (9, (.ireturn, 1))]
theorem dh_287 : dchk cX3_months dl_287 = true := by decide +kernel
theorem dX3_months_0 : decode cX3_months 0 = .ok (.aload_n 0, 1) := dget dh_287 (k := 0) rfl
theorem dX3_months_1 : decode cX3_months 1 = .ok (.getfield 48, 3) := dget dh_287 (k := 1) rfl
theorem dX3_months_4 : decode cX3_months 4 = .ok (.aload_n 0, 1) := dget dh_287 (k := 2) rfl
theorem dX3_months_5 : decode cX3_months 5 = .ok (.getfield 45, 3) := dget dh_287 (k := 3) rfl
theorem dX3_months_8 : decode cX3_months 8 = .ok (.isub, 1) := dget dh_287 (k := 4) rfl
theorem dX3_months_9 : decode cX3_months 9 = .ok (.ireturn, 1) := dget dh_287 (k := 5) rfl
def dl_288 : List (Nat × (Instr × Nat)) := [(0, (.iconst 0, 1)), (1, (.istore_n 1, 1)), (2, (.iconst 0, 1)), (3, (.istore_n 2, 1)), (4, (.iload_n 2, 1)), (5, (.iconst 3, 1)), (6, (.if_icmp .ge 18, 3)), (9, (.iload_n 1, 1)), (10, (.aload_n 0, 1)), (11, (.getfield 15, 3)), (14, (.iload_n 2, 1)), (15, (.iaload, 1)), (16, (.iadd, 1)), (17, (.istore_n 1, 1)), (18, (.iinc 2 1, 3)), (21, (.goto (-17), 3)), (24, (.iload_n 1, 1)), (25, (.ireturn, 1))]
theorem dh_288 : dchk cX3_owed dl_288 = true := by decide +kernel
theorem dX3_owed_0 : decode cX3_owed 0 = .ok (.iconst 0, 1) := dget dh_288 (k := 0) rfl
theorem dX3_owed_1 : decode cX3_owed 1 = .ok (.istore_n 1, 1) := dget dh_288 (k := 1) rfl
theorem dX3_owed_2 : decode cX3_owed 2 = .ok (.iconst 0, 1) := dget dh_288 (k := 2) rfl
theorem dX3_owed_3 : decode cX3_owed 3 = .ok (.istore_n 2, 1) := dget dh_288 (k := 3) rfl
theorem dX3_owed_4 : decode cX3_owed 4 = .ok (.iload_n 2, 1) := dget dh_288 (k := 4) rfl
theorem dX3_owed_5 : decode cX3_owed 5 = .ok (.iconst 3, 1) := dget dh_288 (k := 5) rfl
theorem dX3_owed_6 : decode cX3_owed 6 = .ok (.if_icmp .ge 18, 3) := dget dh_288 (k := 6) rfl
theorem dX3_owed_9 : decode cX3_owed 9 = .ok (.iload_n 1, 1) := dget dh_288 (k := 7) rfl
theorem dX3_owed_10 : decode cX3_owed 10 = .ok (.aload_n 0, 1) := dget dh_288 (k := 8) rfl
theorem dX3_owed_11 : decode cX3_owed 11 = .ok (.getfield 15, 3) := dget dh_288 (k := 9) rfl
theorem dX3_owed_14 : decode cX3_owed 14 = .ok (.iload_n 2, 1) := dget dh_288 (k := 10) rfl
theorem dX3_owed_15 : decode cX3_owed 15 = .ok (.iaload, 1) := dget dh_288 (k := 11) rfl
theorem dX3_owed_16 : decode cX3_owed 16 = .ok (.iadd, 1) := dget dh_288 (k := 12) rfl
theorem dX3_owed_17 : decode cX3_owed 17 = .ok (.istore_n 1, 1) := dget dh_288 (k := 13) rfl
theorem dX3_owed_18 : decode cX3_owed 18 = .ok (.iinc 2 1, 3) := dget dh_288 (k := 14) rfl
theorem dX3_owed_21 : decode cX3_owed 21 = .ok (.goto (-17), 3) := dget dh_288 (k := 15) rfl
theorem dX3_owed_24 : decode cX3_owed 24 = .ok (.iload_n 1, 1) := dget dh_288 (k := 16) rfl
theorem dX3_owed_25 : decode cX3_owed 25 = .ok (.ireturn, 1) := dget dh_288 (k := 17) rfl
def dl_289 : List (Nat × (Instr × Nat)) := [(0, (.aload_n 0, 1)), (1, (.iload_n 1, 1)), (2, (.invokevirtual 58, 3)), (5, (.ifCond .eq 7, 3)), (8, (.iconst 0, 1)), (9, (.goto 17, 3)), (12, (.aload_n 0, 1)), (13, (.getfield 29, 3)), (16, (.getfield 62, 3)), (19, (.aload_n 0, 1)), (20, (.getfield 32, 3)), (23, (.iload_n 1, 1)), (24, (.iaload, 1)), (25, (.iaload, 1)), (26, (.ireturn, 1))]
theorem dh_289 : dchk cX3_stateAtLast dl_289 = true := by decide +kernel
theorem dX3_stateAtLast_0 : decode cX3_stateAtLast 0 = .ok (.aload_n 0, 1) := dget dh_289 (k := 0) rfl
theorem dX3_stateAtLast_1 : decode cX3_stateAtLast 1 = .ok (.iload_n 1, 1) := dget dh_289 (k := 1) rfl
theorem dX3_stateAtLast_2 : decode cX3_stateAtLast 2 = .ok (.invokevirtual 58, 3) := dget dh_289 (k := 2) rfl
theorem dX3_stateAtLast_5 : decode cX3_stateAtLast 5 = .ok (.ifCond .eq 7, 3) := dget dh_289 (k := 3) rfl
theorem dX3_stateAtLast_8 : decode cX3_stateAtLast 8 = .ok (.iconst 0, 1) := dget dh_289 (k := 4) rfl
theorem dX3_stateAtLast_9 : decode cX3_stateAtLast 9 = .ok (.goto 17, 3) := dget dh_289 (k := 5) rfl
theorem dX3_stateAtLast_12 : decode cX3_stateAtLast 12 = .ok (.aload_n 0, 1) := dget dh_289 (k := 6) rfl
theorem dX3_stateAtLast_13 : decode cX3_stateAtLast 13 = .ok (.getfield 29, 3) := dget dh_289 (k := 7) rfl
theorem dX3_stateAtLast_16 : decode cX3_stateAtLast 16 = .ok (.getfield 62, 3) := dget dh_289 (k := 8) rfl
theorem dX3_stateAtLast_19 : decode cX3_stateAtLast 19 = .ok (.aload_n 0, 1) := dget dh_289 (k := 9) rfl
theorem dX3_stateAtLast_20 : decode cX3_stateAtLast 20 = .ok (.getfield 32, 3) := dget dh_289 (k := 10) rfl
theorem dX3_stateAtLast_23 : decode cX3_stateAtLast 23 = .ok (.iload_n 1, 1) := dget dh_289 (k := 11) rfl
theorem dX3_stateAtLast_24 : decode cX3_stateAtLast 24 = .ok (.iaload, 1) := dget dh_289 (k := 12) rfl
theorem dX3_stateAtLast_25 : decode cX3_stateAtLast 25 = .ok (.iaload, 1) := dget dh_289 (k := 13) rfl
theorem dX3_stateAtLast_26 : decode cX3_stateAtLast 26 = .ok (.ireturn, 1) := dget dh_289 (k := 14) rfl
def dl_290 : List (Nat × (Instr × Nat)) := [(0, (.iconst 0, 1)), (1, (.istore_n 2, 1)), (2, (.iconst 0, 1)), (3, (.istore_n 3, 1)), (4, (.iload_n 3, 1)), (5, (.aload_n 0, 1)), (6, (.getfield 25, 3)), (9, (.getfield 55, 3)), (12, (.if_icmp .ge 42, 3)), (15, (.aload_n 0, 1)), (16, (.getfield 25, 3)), (19, (.getfield 69, 3)), (22, (.iload_n 3, 1)), (23, (.iaload, 1)), (24, (.iload_n 1, 1)), (25, (.if_icmp .ne 23, 3)), (28, (.aload_n 0, 1)), (29, (.iload_n 3, 1)), (30, (.invokevirtual 65, 3)), (33, (.aload_n 0, 1))]
theorem dh_290 : dchk cX3_worsened dl_290 = true := by decide +kernel
theorem dX3_worsened_0 : decode cX3_worsened 0 = .ok (.iconst 0, 1) := dget dh_290 (k := 0) rfl
theorem dX3_worsened_1 : decode cX3_worsened 1 = .ok (.istore_n 2, 1) := dget dh_290 (k := 1) rfl
theorem dX3_worsened_2 : decode cX3_worsened 2 = .ok (.iconst 0, 1) := dget dh_290 (k := 2) rfl
theorem dX3_worsened_3 : decode cX3_worsened 3 = .ok (.istore_n 3, 1) := dget dh_290 (k := 3) rfl
theorem dX3_worsened_4 : decode cX3_worsened 4 = .ok (.iload_n 3, 1) := dget dh_290 (k := 4) rfl
theorem dX3_worsened_5 : decode cX3_worsened 5 = .ok (.aload_n 0, 1) := dget dh_290 (k := 5) rfl
theorem dX3_worsened_6 : decode cX3_worsened 6 = .ok (.getfield 25, 3) := dget dh_290 (k := 6) rfl
theorem dX3_worsened_9 : decode cX3_worsened 9 = .ok (.getfield 55, 3) := dget dh_290 (k := 7) rfl
theorem dX3_worsened_12 : decode cX3_worsened 12 = .ok (.if_icmp .ge 42, 3) := dget dh_290 (k := 8) rfl
theorem dX3_worsened_15 : decode cX3_worsened 15 = .ok (.aload_n 0, 1) := dget dh_290 (k := 9) rfl
theorem dX3_worsened_16 : decode cX3_worsened 16 = .ok (.getfield 25, 3) := dget dh_290 (k := 10) rfl
theorem dX3_worsened_19 : decode cX3_worsened 19 = .ok (.getfield 69, 3) := dget dh_290 (k := 11) rfl
theorem dX3_worsened_22 : decode cX3_worsened 22 = .ok (.iload_n 3, 1) := dget dh_290 (k := 12) rfl
theorem dX3_worsened_23 : decode cX3_worsened 23 = .ok (.iaload, 1) := dget dh_290 (k := 13) rfl
theorem dX3_worsened_24 : decode cX3_worsened 24 = .ok (.iload_n 1, 1) := dget dh_290 (k := 14) rfl
theorem dX3_worsened_25 : decode cX3_worsened 25 = .ok (.if_icmp .ne 23, 3) := dget dh_290 (k := 15) rfl
theorem dX3_worsened_28 : decode cX3_worsened 28 = .ok (.aload_n 0, 1) := dget dh_290 (k := 16) rfl
theorem dX3_worsened_29 : decode cX3_worsened 29 = .ok (.iload_n 3, 1) := dget dh_290 (k := 17) rfl
theorem dX3_worsened_30 : decode cX3_worsened 30 = .ok (.invokevirtual 65, 3) := dget dh_290 (k := 18) rfl
theorem dX3_worsened_33 : decode cX3_worsened 33 = .ok (.aload_n 0, 1) := dget dh_290 (k := 19) rfl
def dl_291 : List (Nat × (Instr × Nat)) := [(34, (.getfield 25, 3)), (37, (.getfield 62, 3)), (40, (.iload_n 3, 1)), (41, (.iaload, 1)), (42, (.if_icmp .ge 6, 3)), (45, (.iinc 2 1, 3)), (48, (.iinc 3 1, 3)), (51, (.goto (-47), 3)), (54, (.iload_n 2, 1)), (55, (.ireturn, 1))]
theorem dh_291 : dchk cX3_worsened dl_291 = true := by decide +kernel
theorem dX3_worsened_34 : decode cX3_worsened 34 = .ok (.getfield 25, 3) := dget dh_291 (k := 0) rfl
theorem dX3_worsened_37 : decode cX3_worsened 37 = .ok (.getfield 62, 3) := dget dh_291 (k := 1) rfl
theorem dX3_worsened_40 : decode cX3_worsened 40 = .ok (.iload_n 3, 1) := dget dh_291 (k := 2) rfl
theorem dX3_worsened_41 : decode cX3_worsened 41 = .ok (.iaload, 1) := dget dh_291 (k := 3) rfl
theorem dX3_worsened_42 : decode cX3_worsened 42 = .ok (.if_icmp .ge 6, 3) := dget dh_291 (k := 4) rfl
theorem dX3_worsened_45 : decode cX3_worsened 45 = .ok (.iinc 2 1, 3) := dget dh_291 (k := 5) rfl
theorem dX3_worsened_48 : decode cX3_worsened 48 = .ok (.iinc 3 1, 3) := dget dh_291 (k := 6) rfl
theorem dX3_worsened_51 : decode cX3_worsened 51 = .ok (.goto (-47), 3) := dget dh_291 (k := 7) rfl
theorem dX3_worsened_54 : decode cX3_worsened 54 = .ok (.iload_n 2, 1) := dget dh_291 (k := 8) rfl
theorem dX3_worsened_55 : decode cX3_worsened 55 = .ok (.ireturn, 1) := dget dh_291 (k := 9) rfl
def dl_292 : List (Nat × (Instr × Nat)) := [(0, (.iconst 0, 1)), (1, (.istore 4, 2)), (3, (.iload 4, 2)), (5, (.bipush 9, 2)), (7, (.if_icmp .gt 17, 3)), (10, (.aload_n 0, 1)), (11, (.getfield 9, 3)), (14, (.iload 4, 2)), (16, (.iconst 0, 1)), (17, (.iastore, 1)), (18, (.iinc 4 1, 3)), (21, (.goto (-18), 3)), (24, (.iconst 0, 1)), (25, (.istore 4, 2)), (27, (.iload 4, 2)), (29, (.aload_n 1, 1)), (30, (.getfield 19, 3)), (33, (.getfield 29, 3)), (36, (.if_icmp .ge 38, 3)), (39, (.aload_n 1, 1))]
theorem dh_292 : dchk cX4_begin dl_292 = true := by decide +kernel
theorem dX4_begin_0 : decode cX4_begin 0 = .ok (.iconst 0, 1) := dget dh_292 (k := 0) rfl
theorem dX4_begin_1 : decode cX4_begin 1 = .ok (.istore 4, 2) := dget dh_292 (k := 1) rfl
theorem dX4_begin_3 : decode cX4_begin 3 = .ok (.iload 4, 2) := dget dh_292 (k := 2) rfl
theorem dX4_begin_5 : decode cX4_begin 5 = .ok (.bipush 9, 2) := dget dh_292 (k := 3) rfl
theorem dX4_begin_7 : decode cX4_begin 7 = .ok (.if_icmp .gt 17, 3) := dget dh_292 (k := 4) rfl
theorem dX4_begin_10 : decode cX4_begin 10 = .ok (.aload_n 0, 1) := dget dh_292 (k := 5) rfl
theorem dX4_begin_11 : decode cX4_begin 11 = .ok (.getfield 9, 3) := dget dh_292 (k := 6) rfl
theorem dX4_begin_14 : decode cX4_begin 14 = .ok (.iload 4, 2) := dget dh_292 (k := 7) rfl
theorem dX4_begin_16 : decode cX4_begin 16 = .ok (.iconst 0, 1) := dget dh_292 (k := 8) rfl
theorem dX4_begin_17 : decode cX4_begin 17 = .ok (.iastore, 1) := dget dh_292 (k := 9) rfl
theorem dX4_begin_18 : decode cX4_begin 18 = .ok (.iinc 4 1, 3) := dget dh_292 (k := 10) rfl
theorem dX4_begin_21 : decode cX4_begin 21 = .ok (.goto (-18), 3) := dget dh_292 (k := 11) rfl
theorem dX4_begin_24 : decode cX4_begin 24 = .ok (.iconst 0, 1) := dget dh_292 (k := 12) rfl
theorem dX4_begin_25 : decode cX4_begin 25 = .ok (.istore 4, 2) := dget dh_292 (k := 13) rfl
theorem dX4_begin_27 : decode cX4_begin 27 = .ok (.iload 4, 2) := dget dh_292 (k := 14) rfl
theorem dX4_begin_29 : decode cX4_begin 29 = .ok (.aload_n 1, 1) := dget dh_292 (k := 15) rfl
theorem dX4_begin_30 : decode cX4_begin 30 = .ok (.getfield 19, 3) := dget dh_292 (k := 16) rfl
theorem dX4_begin_33 : decode cX4_begin 33 = .ok (.getfield 29, 3) := dget dh_292 (k := 17) rfl
theorem dX4_begin_36 : decode cX4_begin 36 = .ok (.if_icmp .ge 38, 3) := dget dh_292 (k := 18) rfl
theorem dX4_begin_39 : decode cX4_begin 39 = .ok (.aload_n 1, 1) := dget dh_292 (k := 19) rfl
def dl_293 : List (Nat × (Instr × Nat)) := [(40, (.getfield 19, 3)), (43, (.iload 4, 2)), (45, (.iload_n 2, 1)), (46, (.iload_n 3, 1)), (47, (.invokevirtual 35, 3)), (50, (.ifCond .eq 18, 3)), (53, (.aload_n 0, 1)), (54, (.aload_n 1, 1)), (55, (.getfield 19, 3)), (58, (.getfield 46, 3)), (61, (.iload 4, 2)), (63, (.iaload, 1)), (64, (.iconst 1, 1)), (65, (.invokevirtual 49, 3)), (68, (.iinc 4 1, 3)), (71, (.goto (-44), 3)), (74, (.iconst 0, 1)), (75, (.istore 4, 2)), (77, (.iload 4, 2)), (79, (.aload_n 1, 1))]
theorem dh_293 : dchk cX4_begin dl_293 = true := by decide +kernel
theorem dX4_begin_40 : decode cX4_begin 40 = .ok (.getfield 19, 3) := dget dh_293 (k := 0) rfl
theorem dX4_begin_43 : decode cX4_begin 43 = .ok (.iload 4, 2) := dget dh_293 (k := 1) rfl
theorem dX4_begin_45 : decode cX4_begin 45 = .ok (.iload_n 2, 1) := dget dh_293 (k := 2) rfl
theorem dX4_begin_46 : decode cX4_begin 46 = .ok (.iload_n 3, 1) := dget dh_293 (k := 3) rfl
theorem dX4_begin_47 : decode cX4_begin 47 = .ok (.invokevirtual 35, 3) := dget dh_293 (k := 4) rfl
theorem dX4_begin_50 : decode cX4_begin 50 = .ok (.ifCond .eq 18, 3) := dget dh_293 (k := 5) rfl
theorem dX4_begin_53 : decode cX4_begin 53 = .ok (.aload_n 0, 1) := dget dh_293 (k := 6) rfl
theorem dX4_begin_54 : decode cX4_begin 54 = .ok (.aload_n 1, 1) := dget dh_293 (k := 7) rfl
theorem dX4_begin_55 : decode cX4_begin 55 = .ok (.getfield 19, 3) := dget dh_293 (k := 8) rfl
theorem dX4_begin_58 : decode cX4_begin 58 = .ok (.getfield 46, 3) := dget dh_293 (k := 9) rfl
theorem dX4_begin_61 : decode cX4_begin 61 = .ok (.iload 4, 2) := dget dh_293 (k := 10) rfl
theorem dX4_begin_63 : decode cX4_begin 63 = .ok (.iaload, 1) := dget dh_293 (k := 11) rfl
theorem dX4_begin_64 : decode cX4_begin 64 = .ok (.iconst 1, 1) := dget dh_293 (k := 12) rfl
theorem dX4_begin_65 : decode cX4_begin 65 = .ok (.invokevirtual 49, 3) := dget dh_293 (k := 13) rfl
theorem dX4_begin_68 : decode cX4_begin 68 = .ok (.iinc 4 1, 3) := dget dh_293 (k := 14) rfl
theorem dX4_begin_71 : decode cX4_begin 71 = .ok (.goto (-44), 3) := dget dh_293 (k := 15) rfl
theorem dX4_begin_74 : decode cX4_begin 74 = .ok (.iconst 0, 1) := dget dh_293 (k := 16) rfl
theorem dX4_begin_75 : decode cX4_begin 75 = .ok (.istore 4, 2) := dget dh_293 (k := 17) rfl
theorem dX4_begin_77 : decode cX4_begin 77 = .ok (.iload 4, 2) := dget dh_293 (k := 18) rfl
theorem dX4_begin_79 : decode cX4_begin 79 = .ok (.aload_n 1, 1) := dget dh_293 (k := 19) rfl
def dl_294 : List (Nat × (Instr × Nat)) := [(80, (.getfield 53, 3)), (83, (.getfield 29, 3)), (86, (.if_icmp .ge 46, 3)), (89, (.aload_n 0, 1)), (90, (.getfield 15, 3)), (93, (.iload 4, 2)), (95, (.iconst 0, 1)), (96, (.bastore, 1)), (97, (.aload_n 1, 1)), (98, (.getfield 53, 3)), (101, (.iload 4, 2)), (103, (.iload_n 2, 1)), (104, (.iload_n 3, 1)), (105, (.invokevirtual 35, 3)), (108, (.ifCond .eq 18, 3)), (111, (.aload_n 0, 1)), (112, (.aload_n 1, 1)), (113, (.getfield 53, 3)), (116, (.getfield 46, 3)), (119, (.iload 4, 2))]
theorem dh_294 : dchk cX4_begin dl_294 = true := by decide +kernel
theorem dX4_begin_80 : decode cX4_begin 80 = .ok (.getfield 53, 3) := dget dh_294 (k := 0) rfl
theorem dX4_begin_83 : decode cX4_begin 83 = .ok (.getfield 29, 3) := dget dh_294 (k := 1) rfl
theorem dX4_begin_86 : decode cX4_begin 86 = .ok (.if_icmp .ge 46, 3) := dget dh_294 (k := 2) rfl
theorem dX4_begin_89 : decode cX4_begin 89 = .ok (.aload_n 0, 1) := dget dh_294 (k := 3) rfl
theorem dX4_begin_90 : decode cX4_begin 90 = .ok (.getfield 15, 3) := dget dh_294 (k := 4) rfl
theorem dX4_begin_93 : decode cX4_begin 93 = .ok (.iload 4, 2) := dget dh_294 (k := 5) rfl
theorem dX4_begin_95 : decode cX4_begin 95 = .ok (.iconst 0, 1) := dget dh_294 (k := 6) rfl
theorem dX4_begin_96 : decode cX4_begin 96 = .ok (.bastore, 1) := dget dh_294 (k := 7) rfl
theorem dX4_begin_97 : decode cX4_begin 97 = .ok (.aload_n 1, 1) := dget dh_294 (k := 8) rfl
theorem dX4_begin_98 : decode cX4_begin 98 = .ok (.getfield 53, 3) := dget dh_294 (k := 9) rfl
theorem dX4_begin_101 : decode cX4_begin 101 = .ok (.iload 4, 2) := dget dh_294 (k := 10) rfl
theorem dX4_begin_103 : decode cX4_begin 103 = .ok (.iload_n 2, 1) := dget dh_294 (k := 11) rfl
theorem dX4_begin_104 : decode cX4_begin 104 = .ok (.iload_n 3, 1) := dget dh_294 (k := 12) rfl
theorem dX4_begin_105 : decode cX4_begin 105 = .ok (.invokevirtual 35, 3) := dget dh_294 (k := 13) rfl
theorem dX4_begin_108 : decode cX4_begin 108 = .ok (.ifCond .eq 18, 3) := dget dh_294 (k := 14) rfl
theorem dX4_begin_111 : decode cX4_begin 111 = .ok (.aload_n 0, 1) := dget dh_294 (k := 15) rfl
theorem dX4_begin_112 : decode cX4_begin 112 = .ok (.aload_n 1, 1) := dget dh_294 (k := 16) rfl
theorem dX4_begin_113 : decode cX4_begin 113 = .ok (.getfield 53, 3) := dget dh_294 (k := 17) rfl
theorem dX4_begin_116 : decode cX4_begin 116 = .ok (.getfield 46, 3) := dget dh_294 (k := 18) rfl
theorem dX4_begin_119 : decode cX4_begin 119 = .ok (.iload 4, 2) := dget dh_294 (k := 19) rfl
def dl_295 : List (Nat × (Instr × Nat)) := [(121, (.iaload, 1)), (122, (.iconst (-1), 1)), (123, (.invokevirtual 49, 3)), (126, (.iinc 4 1, 3)), (129, (.goto (-52), 3)), (132, (.return_, 1))]
theorem dh_295 : dchk cX4_begin dl_295 = true := by decide +kernel
theorem dX4_begin_121 : decode cX4_begin 121 = .ok (.iaload, 1) := dget dh_295 (k := 0) rfl
theorem dX4_begin_122 : decode cX4_begin 122 = .ok (.iconst (-1), 1) := dget dh_295 (k := 1) rfl
theorem dX4_begin_123 : decode cX4_begin 123 = .ok (.invokevirtual 49, 3) := dget dh_295 (k := 2) rfl
theorem dX4_begin_126 : decode cX4_begin 126 = .ok (.iinc 4 1, 3) := dget dh_295 (k := 3) rfl
theorem dX4_begin_129 : decode cX4_begin 129 = .ok (.goto (-52), 3) := dget dh_295 (k := 4) rfl
theorem dX4_begin_132 : decode cX4_begin 132 = .ok (.return_, 1) := dget dh_295 (k := 5) rfl
def dl_296 : List (Nat × (Instr × Nat)) := [(0, (.iconst 1, 1)), (1, (.istore_n 3, 1)), (2, (.iload_n 3, 1)), (3, (.iload_n 1, 1)), (4, (.if_icmp .gt 25, 3)), (7, (.iload_n 3, 1)), (8, (.bipush 9, 2)), (10, (.if_icmp .gt 19, 3)), (13, (.aload_n 0, 1)), (14, (.getfield 9, 3)), (17, (.iload_n 3, 1)), (18, (.dup2, 1)), (19, (.iaload, 1)), (20, (.iload_n 2, 1)), (21, (.iadd, 1)), (22, (.iastore, 1)), (23, (.iinc 3 1, 3)), (26, (.goto (-24), 3)), (29, (.return_, 1))]
theorem dh_296 : dchk cX4_change dl_296 = true := by decide +kernel
theorem dX4_change_0 : decode cX4_change 0 = .ok (.iconst 1, 1) := dget dh_296 (k := 0) rfl
theorem dX4_change_1 : decode cX4_change 1 = .ok (.istore_n 3, 1) := dget dh_296 (k := 1) rfl
theorem dX4_change_2 : decode cX4_change 2 = .ok (.iload_n 3, 1) := dget dh_296 (k := 2) rfl
theorem dX4_change_3 : decode cX4_change 3 = .ok (.iload_n 1, 1) := dget dh_296 (k := 3) rfl
theorem dX4_change_4 : decode cX4_change 4 = .ok (.if_icmp .gt 25, 3) := dget dh_296 (k := 4) rfl
theorem dX4_change_7 : decode cX4_change 7 = .ok (.iload_n 3, 1) := dget dh_296 (k := 5) rfl
theorem dX4_change_8 : decode cX4_change 8 = .ok (.bipush 9, 2) := dget dh_296 (k := 6) rfl
theorem dX4_change_10 : decode cX4_change 10 = .ok (.if_icmp .gt 19, 3) := dget dh_296 (k := 7) rfl
theorem dX4_change_13 : decode cX4_change 13 = .ok (.aload_n 0, 1) := dget dh_296 (k := 8) rfl
theorem dX4_change_14 : decode cX4_change 14 = .ok (.getfield 9, 3) := dget dh_296 (k := 9) rfl
theorem dX4_change_17 : decode cX4_change 17 = .ok (.iload_n 3, 1) := dget dh_296 (k := 10) rfl
theorem dX4_change_18 : decode cX4_change 18 = .ok (.dup2, 1) := dget dh_296 (k := 11) rfl
theorem dX4_change_19 : decode cX4_change 19 = .ok (.iaload, 1) := dget dh_296 (k := 12) rfl
theorem dX4_change_20 : decode cX4_change 20 = .ok (.iload_n 2, 1) := dget dh_296 (k := 13) rfl
theorem dX4_change_21 : decode cX4_change 21 = .ok (.iadd, 1) := dget dh_296 (k := 14) rfl
theorem dX4_change_22 : decode cX4_change 22 = .ok (.iastore, 1) := dget dh_296 (k := 15) rfl
theorem dX4_change_23 : decode cX4_change 23 = .ok (.iinc 3 1, 3) := dget dh_296 (k := 16) rfl
theorem dX4_change_26 : decode cX4_change 26 = .ok (.goto (-24), 3) := dget dh_296 (k := 17) rfl
theorem dX4_change_29 : decode cX4_change 29 = .ok (.return_, 1) := dget dh_296 (k := 18) rfl
def dl_297 : List (Nat × (Instr × Nat)) := [(0, (.iload_n 2, 1)), (1, (.iconst 1, 1)), (2, (.iadd, 1)), (3, (.istore_n 3, 1)), (4, (.iload_n 3, 1)), (5, (.iload_n 1, 1)), (6, (.if_icmp .gt 26, 3)), (9, (.iload_n 3, 1)), (10, (.bipush 9, 2)), (12, (.if_icmp .gt 20, 3)), (15, (.aload_n 0, 1)), (16, (.getfield 9, 3)), (19, (.iload_n 3, 1)), (20, (.iaload, 1)), (21, (.ifCond .gt 5, 3)), (24, (.iconst 0, 1)), (25, (.ireturn, 1)), (26, (.iinc 3 1, 3)), (29, (.goto (-25), 3)), (32, (.iload_n 1, 1))]
theorem dh_297 : dchk cX4_fits dl_297 = true := by decide +kernel
theorem dX4_fits_0 : decode cX4_fits 0 = .ok (.iload_n 2, 1) := dget dh_297 (k := 0) rfl
theorem dX4_fits_1 : decode cX4_fits 1 = .ok (.iconst 1, 1) := dget dh_297 (k := 1) rfl
theorem dX4_fits_2 : decode cX4_fits 2 = .ok (.iadd, 1) := dget dh_297 (k := 2) rfl
theorem dX4_fits_3 : decode cX4_fits 3 = .ok (.istore_n 3, 1) := dget dh_297 (k := 3) rfl
theorem dX4_fits_4 : decode cX4_fits 4 = .ok (.iload_n 3, 1) := dget dh_297 (k := 4) rfl
theorem dX4_fits_5 : decode cX4_fits 5 = .ok (.iload_n 1, 1) := dget dh_297 (k := 5) rfl
theorem dX4_fits_6 : decode cX4_fits 6 = .ok (.if_icmp .gt 26, 3) := dget dh_297 (k := 6) rfl
theorem dX4_fits_9 : decode cX4_fits 9 = .ok (.iload_n 3, 1) := dget dh_297 (k := 7) rfl
theorem dX4_fits_10 : decode cX4_fits 10 = .ok (.bipush 9, 2) := dget dh_297 (k := 8) rfl
theorem dX4_fits_12 : decode cX4_fits 12 = .ok (.if_icmp .gt 20, 3) := dget dh_297 (k := 9) rfl
theorem dX4_fits_15 : decode cX4_fits 15 = .ok (.aload_n 0, 1) := dget dh_297 (k := 10) rfl
theorem dX4_fits_16 : decode cX4_fits 16 = .ok (.getfield 9, 3) := dget dh_297 (k := 11) rfl
theorem dX4_fits_19 : decode cX4_fits 19 = .ok (.iload_n 3, 1) := dget dh_297 (k := 12) rfl
theorem dX4_fits_20 : decode cX4_fits 20 = .ok (.iaload, 1) := dget dh_297 (k := 13) rfl
theorem dX4_fits_21 : decode cX4_fits 21 = .ok (.ifCond .gt 5, 3) := dget dh_297 (k := 14) rfl
theorem dX4_fits_24 : decode cX4_fits 24 = .ok (.iconst 0, 1) := dget dh_297 (k := 15) rfl
theorem dX4_fits_25 : decode cX4_fits 25 = .ok (.ireturn, 1) := dget dh_297 (k := 16) rfl
theorem dX4_fits_26 : decode cX4_fits 26 = .ok (.iinc 3 1, 3) := dget dh_297 (k := 17) rfl
theorem dX4_fits_29 : decode cX4_fits 29 = .ok (.goto (-25), 3) := dget dh_297 (k := 18) rfl
theorem dX4_fits_32 : decode cX4_fits 32 = .ok (.iload_n 1, 1) := dget dh_297 (k := 19) rfl
def dl_298 : List (Nat × (Instr × Nat)) := [(33, (.iconst 1, 1)), (34, (.iadd, 1)), (35, (.istore_n 3, 1)), (36, (.iload_n 3, 1)), (37, (.iload_n 2, 1)), (38, (.if_icmp .gt 26, 3)), (41, (.iload_n 3, 1)), (42, (.bipush 9, 2)), (44, (.if_icmp .gt 20, 3)), (47, (.aload_n 0, 1)), (48, (.getfield 9, 3)), (51, (.iload_n 3, 1)), (52, (.iaload, 1)), (53, (.ifCond .lt 5, 3)), (56, (.iconst 0, 1)), (57, (.ireturn, 1)), (58, (.iinc 3 1, 3)), (61, (.goto (-25), 3)), (64, (.iconst 1, 1)), (65, (.ireturn, 1))]
theorem dh_298 : dchk cX4_fits dl_298 = true := by decide +kernel
theorem dX4_fits_33 : decode cX4_fits 33 = .ok (.iconst 1, 1) := dget dh_298 (k := 0) rfl
theorem dX4_fits_34 : decode cX4_fits 34 = .ok (.iadd, 1) := dget dh_298 (k := 1) rfl
theorem dX4_fits_35 : decode cX4_fits 35 = .ok (.istore_n 3, 1) := dget dh_298 (k := 2) rfl
theorem dX4_fits_36 : decode cX4_fits 36 = .ok (.iload_n 3, 1) := dget dh_298 (k := 3) rfl
theorem dX4_fits_37 : decode cX4_fits 37 = .ok (.iload_n 2, 1) := dget dh_298 (k := 4) rfl
theorem dX4_fits_38 : decode cX4_fits 38 = .ok (.if_icmp .gt 26, 3) := dget dh_298 (k := 5) rfl
theorem dX4_fits_41 : decode cX4_fits 41 = .ok (.iload_n 3, 1) := dget dh_298 (k := 6) rfl
theorem dX4_fits_42 : decode cX4_fits 42 = .ok (.bipush 9, 2) := dget dh_298 (k := 7) rfl
theorem dX4_fits_44 : decode cX4_fits 44 = .ok (.if_icmp .gt 20, 3) := dget dh_298 (k := 8) rfl
theorem dX4_fits_47 : decode cX4_fits 47 = .ok (.aload_n 0, 1) := dget dh_298 (k := 9) rfl
theorem dX4_fits_48 : decode cX4_fits 48 = .ok (.getfield 9, 3) := dget dh_298 (k := 10) rfl
theorem dX4_fits_51 : decode cX4_fits 51 = .ok (.iload_n 3, 1) := dget dh_298 (k := 11) rfl
theorem dX4_fits_52 : decode cX4_fits 52 = .ok (.iaload, 1) := dget dh_298 (k := 12) rfl
theorem dX4_fits_53 : decode cX4_fits 53 = .ok (.ifCond .lt 5, 3) := dget dh_298 (k := 13) rfl
theorem dX4_fits_56 : decode cX4_fits 56 = .ok (.iconst 0, 1) := dget dh_298 (k := 14) rfl
theorem dX4_fits_57 : decode cX4_fits 57 = .ok (.ireturn, 1) := dget dh_298 (k := 15) rfl
theorem dX4_fits_58 : decode cX4_fits 58 = .ok (.iinc 3 1, 3) := dget dh_298 (k := 16) rfl
theorem dX4_fits_61 : decode cX4_fits 61 = .ok (.goto (-25), 3) := dget dh_298 (k := 17) rfl
theorem dX4_fits_64 : decode cX4_fits 64 = .ok (.iconst 1, 1) := dget dh_298 (k := 18) rfl
theorem dX4_fits_65 : decode cX4_fits 65 = .ok (.ireturn, 1) := dget dh_298 (k := 19) rfl
def dl_299 : List (Nat × (Instr × Nat)) := [(0, (.aload_n 1, 1)), (1, (.getfield 19, 3)), (4, (.astore 4, 2)), (6, (.aload_n 0, 1)), (7, (.aload_n 1, 1)), (8, (.iload_n 2, 1)), (9, (.iload_n 3, 1)), (10, (.invokevirtual 25, 3)), (13, (.iconst 0, 1)), (14, (.istore 5, 2)), (16, (.iload 5, 2)), (18, (.aload 4, 2)), (20, (.getfield 29, 3)), (23, (.if_icmp .ge 80, 3)), (26, (.aload 4, 2)), (28, (.iload 5, 2)), (30, (.iload_n 2, 1)), (31, (.iload_n 3, 1)), (32, (.invokevirtual 35, 3)), (35, (.ifCond .eq 62, 3))]
theorem dh_299 : dchk cX4_join dl_299 = true := by decide +kernel
theorem dX4_join_0 : decode cX4_join 0 = .ok (.aload_n 1, 1) := dget dh_299 (k := 0) rfl
theorem dX4_join_1 : decode cX4_join 1 = .ok (.getfield 19, 3) := dget dh_299 (k := 1) rfl
theorem dX4_join_4 : decode cX4_join 4 = .ok (.astore 4, 2) := dget dh_299 (k := 2) rfl
theorem dX4_join_6 : decode cX4_join 6 = .ok (.aload_n 0, 1) := dget dh_299 (k := 3) rfl
theorem dX4_join_7 : decode cX4_join 7 = .ok (.aload_n 1, 1) := dget dh_299 (k := 4) rfl
theorem dX4_join_8 : decode cX4_join 8 = .ok (.iload_n 2, 1) := dget dh_299 (k := 5) rfl
theorem dX4_join_9 : decode cX4_join 9 = .ok (.iload_n 3, 1) := dget dh_299 (k := 6) rfl
theorem dX4_join_10 : decode cX4_join 10 = .ok (.invokevirtual 25, 3) := dget dh_299 (k := 7) rfl
theorem dX4_join_13 : decode cX4_join 13 = .ok (.iconst 0, 1) := dget dh_299 (k := 8) rfl
theorem dX4_join_14 : decode cX4_join 14 = .ok (.istore 5, 2) := dget dh_299 (k := 9) rfl
theorem dX4_join_16 : decode cX4_join 16 = .ok (.iload 5, 2) := dget dh_299 (k := 10) rfl
theorem dX4_join_18 : decode cX4_join 18 = .ok (.aload 4, 2) := dget dh_299 (k := 11) rfl
theorem dX4_join_20 : decode cX4_join 20 = .ok (.getfield 29, 3) := dget dh_299 (k := 12) rfl
theorem dX4_join_23 : decode cX4_join 23 = .ok (.if_icmp .ge 80, 3) := dget dh_299 (k := 13) rfl
theorem dX4_join_26 : decode cX4_join 26 = .ok (.aload 4, 2) := dget dh_299 (k := 14) rfl
theorem dX4_join_28 : decode cX4_join 28 = .ok (.iload 5, 2) := dget dh_299 (k := 15) rfl
theorem dX4_join_30 : decode cX4_join 30 = .ok (.iload_n 2, 1) := dget dh_299 (k := 16) rfl
theorem dX4_join_31 : decode cX4_join 31 = .ok (.iload_n 3, 1) := dget dh_299 (k := 17) rfl
theorem dX4_join_32 : decode cX4_join 32 = .ok (.invokevirtual 35, 3) := dget dh_299 (k := 18) rfl
theorem dX4_join_35 : decode cX4_join 35 = .ok (.ifCond .eq 62, 3) := dget dh_299 (k := 19) rfl
def dl_300 : List (Nat × (Instr × Nat)) := [(38, (.aload_n 0, 1)), (39, (.aload_n 1, 1)), (40, (.iload 5, 2)), (42, (.invokevirtual 39, 3)), (45, (.istore 6, 2)), (47, (.aload_n 1, 1)), (48, (.getfield 43, 3)), (51, (.iload 5, 2)), (53, (.iload 6, 2)), (55, (.iastore, 1)), (56, (.aload_n 0, 1)), (57, (.aload 4, 2)), (59, (.getfield 46, 3)), (62, (.iload 5, 2)), (64, (.iaload, 1)), (65, (.iconst (-1), 1)), (66, (.invokevirtual 49, 3)), (69, (.iload 6, 2)), (71, (.ifCond .lt 26, 3)), (74, (.aload_n 0, 1))]
theorem dh_300 : dchk cX4_join dl_300 = true := by decide +kernel
theorem dX4_join_38 : decode cX4_join 38 = .ok (.aload_n 0, 1) := dget dh_300 (k := 0) rfl
theorem dX4_join_39 : decode cX4_join 39 = .ok (.aload_n 1, 1) := dget dh_300 (k := 1) rfl
theorem dX4_join_40 : decode cX4_join 40 = .ok (.iload 5, 2) := dget dh_300 (k := 2) rfl
theorem dX4_join_42 : decode cX4_join 42 = .ok (.invokevirtual 39, 3) := dget dh_300 (k := 3) rfl
theorem dX4_join_45 : decode cX4_join 45 = .ok (.istore 6, 2) := dget dh_300 (k := 4) rfl
theorem dX4_join_47 : decode cX4_join 47 = .ok (.aload_n 1, 1) := dget dh_300 (k := 5) rfl
theorem dX4_join_48 : decode cX4_join 48 = .ok (.getfield 43, 3) := dget dh_300 (k := 6) rfl
theorem dX4_join_51 : decode cX4_join 51 = .ok (.iload 5, 2) := dget dh_300 (k := 7) rfl
theorem dX4_join_53 : decode cX4_join 53 = .ok (.iload 6, 2) := dget dh_300 (k := 8) rfl
theorem dX4_join_55 : decode cX4_join 55 = .ok (.iastore, 1) := dget dh_300 (k := 9) rfl
theorem dX4_join_56 : decode cX4_join 56 = .ok (.aload_n 0, 1) := dget dh_300 (k := 10) rfl
theorem dX4_join_57 : decode cX4_join 57 = .ok (.aload 4, 2) := dget dh_300 (k := 11) rfl
theorem dX4_join_59 : decode cX4_join 59 = .ok (.getfield 46, 3) := dget dh_300 (k := 12) rfl
theorem dX4_join_62 : decode cX4_join 62 = .ok (.iload 5, 2) := dget dh_300 (k := 13) rfl
theorem dX4_join_64 : decode cX4_join 64 = .ok (.iaload, 1) := dget dh_300 (k := 14) rfl
theorem dX4_join_65 : decode cX4_join 65 = .ok (.iconst (-1), 1) := dget dh_300 (k := 15) rfl
theorem dX4_join_66 : decode cX4_join 66 = .ok (.invokevirtual 49, 3) := dget dh_300 (k := 16) rfl
theorem dX4_join_69 : decode cX4_join 69 = .ok (.iload 6, 2) := dget dh_300 (k := 17) rfl
theorem dX4_join_71 : decode cX4_join 71 = .ok (.ifCond .lt 26, 3) := dget dh_300 (k := 18) rfl
theorem dX4_join_74 : decode cX4_join 74 = .ok (.aload_n 0, 1) := dget dh_300 (k := 19) rfl
def dl_301 : List (Nat × (Instr × Nat)) := [(75, (.getfield 15, 3)), (78, (.iload 6, 2)), (80, (.iconst 1, 1)), (81, (.bastore, 1)), (82, (.aload_n 0, 1)), (83, (.aload_n 1, 1)), (84, (.getfield 53, 3)), (87, (.getfield 46, 3)), (90, (.iload 6, 2)), (92, (.iaload, 1)), (93, (.iconst 1, 1)), (94, (.invokevirtual 49, 3)), (97, (.iinc 5 1, 3)), (100, (.goto (-84), 3)), (103, (.return_, 1))]
theorem dh_301 : dchk cX4_join dl_301 = true := by decide +kernel
theorem dX4_join_75 : decode cX4_join 75 = .ok (.getfield 15, 3) := dget dh_301 (k := 0) rfl
theorem dX4_join_78 : decode cX4_join 78 = .ok (.iload 6, 2) := dget dh_301 (k := 1) rfl
theorem dX4_join_80 : decode cX4_join 80 = .ok (.iconst 1, 1) := dget dh_301 (k := 2) rfl
theorem dX4_join_81 : decode cX4_join 81 = .ok (.bastore, 1) := dget dh_301 (k := 3) rfl
theorem dX4_join_82 : decode cX4_join 82 = .ok (.aload_n 0, 1) := dget dh_301 (k := 4) rfl
theorem dX4_join_83 : decode cX4_join 83 = .ok (.aload_n 1, 1) := dget dh_301 (k := 5) rfl
theorem dX4_join_84 : decode cX4_join 84 = .ok (.getfield 53, 3) := dget dh_301 (k := 6) rfl
theorem dX4_join_87 : decode cX4_join 87 = .ok (.getfield 46, 3) := dget dh_301 (k := 7) rfl
theorem dX4_join_90 : decode cX4_join 90 = .ok (.iload 6, 2) := dget dh_301 (k := 8) rfl
theorem dX4_join_92 : decode cX4_join 92 = .ok (.iaload, 1) := dget dh_301 (k := 9) rfl
theorem dX4_join_93 : decode cX4_join 93 = .ok (.iconst 1, 1) := dget dh_301 (k := 10) rfl
theorem dX4_join_94 : decode cX4_join 94 = .ok (.invokevirtual 49, 3) := dget dh_301 (k := 11) rfl
theorem dX4_join_97 : decode cX4_join 97 = .ok (.iinc 5 1, 3) := dget dh_301 (k := 12) rfl
theorem dX4_join_100 : decode cX4_join 100 = .ok (.goto (-84), 3) := dget dh_301 (k := 13) rfl
theorem dX4_join_103 : decode cX4_join 103 = .ok (.return_, 1) := dget dh_301 (k := 14) rfl
def dl_302 : List (Nat × (Instr × Nat)) := [(0, (.aload_n 1, 1)), (1, (.getfield 19, 3)), (4, (.astore_n 3, 1)), (5, (.aload_n 1, 1)), (6, (.getfield 53, 3)), (9, (.astore 4, 2)), (11, (.iconst 0, 1)), (12, (.istore 5, 2)), (14, (.iload 5, 2)), (16, (.aload 4, 2)), (18, (.getfield 29, 3)), (21, (.if_icmp .ge 65, 3)), (24, (.aload_n 0, 1)), (25, (.getfield 15, 3)), (28, (.iload 5, 2)), (30, (.baload, 1)), (31, (.ifCond .ne 49, 3)), (34, (.aload 4, 2)), (36, (.iload 5, 2)), (38, (.aload_n 3, 1))]
theorem dh_302 : dchk cX4_lowestFit dl_302 = true := by decide +kernel
theorem dX4_lowestFit_0 : decode cX4_lowestFit 0 = .ok (.aload_n 1, 1) := dget dh_302 (k := 0) rfl
theorem dX4_lowestFit_1 : decode cX4_lowestFit 1 = .ok (.getfield 19, 3) := dget dh_302 (k := 1) rfl
theorem dX4_lowestFit_4 : decode cX4_lowestFit 4 = .ok (.astore_n 3, 1) := dget dh_302 (k := 2) rfl
theorem dX4_lowestFit_5 : decode cX4_lowestFit 5 = .ok (.aload_n 1, 1) := dget dh_302 (k := 3) rfl
theorem dX4_lowestFit_6 : decode cX4_lowestFit 6 = .ok (.getfield 53, 3) := dget dh_302 (k := 4) rfl
theorem dX4_lowestFit_9 : decode cX4_lowestFit 9 = .ok (.astore 4, 2) := dget dh_302 (k := 5) rfl
theorem dX4_lowestFit_11 : decode cX4_lowestFit 11 = .ok (.iconst 0, 1) := dget dh_302 (k := 6) rfl
theorem dX4_lowestFit_12 : decode cX4_lowestFit 12 = .ok (.istore 5, 2) := dget dh_302 (k := 7) rfl
theorem dX4_lowestFit_14 : decode cX4_lowestFit 14 = .ok (.iload 5, 2) := dget dh_302 (k := 8) rfl
theorem dX4_lowestFit_16 : decode cX4_lowestFit 16 = .ok (.aload 4, 2) := dget dh_302 (k := 9) rfl
theorem dX4_lowestFit_18 : decode cX4_lowestFit 18 = .ok (.getfield 29, 3) := dget dh_302 (k := 10) rfl
theorem dX4_lowestFit_21 : decode cX4_lowestFit 21 = .ok (.if_icmp .ge 65, 3) := dget dh_302 (k := 11) rfl
theorem dX4_lowestFit_24 : decode cX4_lowestFit 24 = .ok (.aload_n 0, 1) := dget dh_302 (k := 12) rfl
theorem dX4_lowestFit_25 : decode cX4_lowestFit 25 = .ok (.getfield 15, 3) := dget dh_302 (k := 13) rfl
theorem dX4_lowestFit_28 : decode cX4_lowestFit 28 = .ok (.iload 5, 2) := dget dh_302 (k := 14) rfl
theorem dX4_lowestFit_30 : decode cX4_lowestFit 30 = .ok (.baload, 1) := dget dh_302 (k := 15) rfl
theorem dX4_lowestFit_31 : decode cX4_lowestFit 31 = .ok (.ifCond .ne 49, 3) := dget dh_302 (k := 16) rfl
theorem dX4_lowestFit_34 : decode cX4_lowestFit 34 = .ok (.aload 4, 2) := dget dh_302 (k := 17) rfl
theorem dX4_lowestFit_36 : decode cX4_lowestFit 36 = .ok (.iload 5, 2) := dget dh_302 (k := 18) rfl
theorem dX4_lowestFit_38 : decode cX4_lowestFit 38 = .ok (.aload_n 3, 1) := dget dh_302 (k := 19) rfl
def dl_303 : List (Nat × (Instr × Nat)) := [(39, (.getfield 56, 3)), (42, (.iload_n 2, 1)), (43, (.iaload, 1)), (44, (.aload_n 3, 1)), (45, (.getfield 59, 3)), (48, (.iload_n 2, 1)), (49, (.iaload, 1)), (50, (.invokevirtual 35, 3)), (53, (.ifCond .eq 27, 3)), (56, (.aload_n 0, 1)), (57, (.aload_n 3, 1)), (58, (.getfield 46, 3)), (61, (.iload_n 2, 1)), (62, (.iaload, 1)), (63, (.aload 4, 2)), (65, (.getfield 46, 3)), (68, (.iload 5, 2)), (70, (.iaload, 1)), (71, (.invokevirtual 62, 3)), (74, (.ifCond .eq 6, 3))]
theorem dh_303 : dchk cX4_lowestFit dl_303 = true := by decide +kernel
theorem dX4_lowestFit_39 : decode cX4_lowestFit 39 = .ok (.getfield 56, 3) := dget dh_303 (k := 0) rfl
theorem dX4_lowestFit_42 : decode cX4_lowestFit 42 = .ok (.iload_n 2, 1) := dget dh_303 (k := 1) rfl
theorem dX4_lowestFit_43 : decode cX4_lowestFit 43 = .ok (.iaload, 1) := dget dh_303 (k := 2) rfl
theorem dX4_lowestFit_44 : decode cX4_lowestFit 44 = .ok (.aload_n 3, 1) := dget dh_303 (k := 3) rfl
theorem dX4_lowestFit_45 : decode cX4_lowestFit 45 = .ok (.getfield 59, 3) := dget dh_303 (k := 4) rfl
theorem dX4_lowestFit_48 : decode cX4_lowestFit 48 = .ok (.iload_n 2, 1) := dget dh_303 (k := 5) rfl
theorem dX4_lowestFit_49 : decode cX4_lowestFit 49 = .ok (.iaload, 1) := dget dh_303 (k := 6) rfl
theorem dX4_lowestFit_50 : decode cX4_lowestFit 50 = .ok (.invokevirtual 35, 3) := dget dh_303 (k := 7) rfl
theorem dX4_lowestFit_53 : decode cX4_lowestFit 53 = .ok (.ifCond .eq 27, 3) := dget dh_303 (k := 8) rfl
theorem dX4_lowestFit_56 : decode cX4_lowestFit 56 = .ok (.aload_n 0, 1) := dget dh_303 (k := 9) rfl
theorem dX4_lowestFit_57 : decode cX4_lowestFit 57 = .ok (.aload_n 3, 1) := dget dh_303 (k := 10) rfl
theorem dX4_lowestFit_58 : decode cX4_lowestFit 58 = .ok (.getfield 46, 3) := dget dh_303 (k := 11) rfl
theorem dX4_lowestFit_61 : decode cX4_lowestFit 61 = .ok (.iload_n 2, 1) := dget dh_303 (k := 12) rfl
theorem dX4_lowestFit_62 : decode cX4_lowestFit 62 = .ok (.iaload, 1) := dget dh_303 (k := 13) rfl
theorem dX4_lowestFit_63 : decode cX4_lowestFit 63 = .ok (.aload 4, 2) := dget dh_303 (k := 14) rfl
theorem dX4_lowestFit_65 : decode cX4_lowestFit 65 = .ok (.getfield 46, 3) := dget dh_303 (k := 15) rfl
theorem dX4_lowestFit_68 : decode cX4_lowestFit 68 = .ok (.iload 5, 2) := dget dh_303 (k := 16) rfl
theorem dX4_lowestFit_70 : decode cX4_lowestFit 70 = .ok (.iaload, 1) := dget dh_303 (k := 17) rfl
theorem dX4_lowestFit_71 : decode cX4_lowestFit 71 = .ok (.invokevirtual 62, 3) := dget dh_303 (k := 18) rfl
theorem dX4_lowestFit_74 : decode cX4_lowestFit 74 = .ok (.ifCond .eq 6, 3) := dget dh_303 (k := 19) rfl
def dl_304 : List (Nat × (Instr × Nat)) := [(77, (.iload 5, 2)), (79, (.ireturn, 1)), (80, (.iinc 5 1, 3)), (83, (.goto (-69), 3)), (86, (.bipush (-2), 2)), (88, (.ireturn, 1))]
theorem dh_304 : dchk cX4_lowestFit dl_304 = true := by decide +kernel
theorem dX4_lowestFit_77 : decode cX4_lowestFit 77 = .ok (.iload 5, 2) := dget dh_304 (k := 0) rfl
theorem dX4_lowestFit_79 : decode cX4_lowestFit 79 = .ok (.ireturn, 1) := dget dh_304 (k := 1) rfl
theorem dX4_lowestFit_80 : decode cX4_lowestFit 80 = .ok (.iinc 5 1, 3) := dget dh_304 (k := 2) rfl
theorem dX4_lowestFit_83 : decode cX4_lowestFit 83 = .ok (.goto (-69), 3) := dget dh_304 (k := 3) rfl
theorem dX4_lowestFit_86 : decode cX4_lowestFit 86 = .ok (.bipush (-2), 2) := dget dh_304 (k := 4) rfl
theorem dX4_lowestFit_88 : decode cX4_lowestFit 88 = .ok (.ireturn, 1) := dget dh_304 (k := 5) rfl
set_option maxHeartbeats 4000000 in
set_option maxRecDepth 100000 in
theorem c_X3_months (l : Launch) (D : va_G) (cy : Nat → ClassId) (a : Nat → Nat) (i : Nat → Int32) (r : Nat → Nat → Int32) (q : Nat → Option Nat) (tl : va_W) (hRi : yRi i) (hRr : yRr r) : Met l yX3_months (Cond.code yX3_months cX3_months 1 (some .int) :: gT) { frames := 1, cells := 0, slots := 0, locals := 24 } (va_Pc [.ref (a 61)] (rP D cy (xW cy a i r q (a 20) (a 12) ++ (hW cy a i r ++ tl)))) (vp_Si (fun z => -999 ≤ z.toInt ∧ z.toInt ≤ 999)) 0 0 (fun _ => False) := by
  refine Met.ofQ (cc := cX3_months) (maxL := 1) (ret := (some .int)) (by decide) rfl ?_
  intro p e s m args below meth c s₁ B hml hv Q hQ
  obtain ⟨rfl, hP, hK⟩ := hv
  have hx := B.exec
  have hb := B.bytes
  have hr := B.returns
  have hlocks := B.notSynchronized
  have hT : ∀ w ∈ gT, w.before _ s = true := fun w h => atoms_spec (ws := (Cond.code yX3_months cX3_months 1 (some .int) :: gT)) B.pre w (List.mem_cons_of_mem _ h)
  have hown : s.vm.findClass RX3 = some m.cls := findClass_of_methodNamed B.named
  have hl := lv_entry ([.ref (a 61)]) (n := 1) (Nat.le_of_ble_eq_true rfl)
  rw [lg_entry_eq]
  generalize (lg_sl ([.ref (a 61)]) ++ List.replicate (1 - (lg_sl ([.ref (a 61)])).length) Slot.unset).toArray = ls at hl ⊢
  have hl : lv_has ls 1 [(0, .ref (a 61))] := hl
  have hEi : mEi [] i i := Ei_rf
  have hEr : mEr [] r r := Er_rf
  refine lv_aload_n hx hb dX3_months_0 rfl (lv_at hl 0 rfl) ?_
  refine va_get (D := D) (ci := 3) (v := .int (i 21)) (C := RX3) (T := TX3) (N := 12) hx hb hT iX3 hown hK hP 61 rfl rfl 4 (by decide) (hT _ t_383) (fun _ h9 => h9) rfl dX3_months_1 ?_
  have hg_1 : 0 ≤ (i 21).toInt ∧ (i 21).toInt ≤ 999 := hRi 21
  refine lv_aload_n hx hb dX3_months_4 rfl (lv_at hl 0 rfl) ?_
  refine va_get (D := D) (ci := 3) (v := .int (i 20)) (C := RX3) (T := TX3) (N := 12) hx hb hT iX3 hown hK hP 61 rfl rfl 3 (by decide) (hT _ t_384) (fun _ h9 => h9) rfl dX3_months_5 ?_
  have hg_2 : 0 ≤ (i 20).toInt ∧ (i 20).toInt ≤ 999 := hRi 20
  refine lv_isub hx hb dX3_months_8 ?_
  refine lv_topi (fun v_3 ev_3 => ?_)
  have hv_3 : v_3.toInt = (i 21).toInt - (i 20).toInt := by rw [ev_3]; have := b_rg (i 21); have := b_rg (i 20); exact i_sub (a := (i 21).toInt) (b := (i 20).toInt) rfl rfl (by omega) (by omega)
  subst hQ
  exact W.iret (v := v_3) hx hb hr (fun t ht hW => ⟨_, rfl, (by show -999 ≤ v_3.toInt ∧ v_3.toInt ≤ 999; omega), ht⟩) (fun q hq => absurd hq List.not_mem_nil) dX3_months_9
set_option maxHeartbeats 4000000 in
set_option maxRecDepth 100000 in
theorem c_X3_owed (l : Launch) (D : va_G) (cy : Nat → ClassId) (a : Nat → Nat) (i : Nat → Int32) (r : Nat → Nat → Int32) (q : Nat → Option Nat) (tl : va_W) (hRi : yRi i) (hRr : yRr r) : Met l yX3_owed (Cond.code yX3_owed cX3_owed 3 (some .int) :: gT) { frames := 1, cells := 0, slots := 0, locals := 24 } (va_Pc [.ref (a 61)] (rP D cy (xW cy a i r q (a 20) (a 12) ++ (hW cy a i r ++ tl)))) (vp_Si (fun z => True)) 0 0 (fun _ => False) := by
  refine Met.ofQ (cc := cX3_owed) (maxL := 3) (ret := (some .int)) (by decide) rfl ?_
  intro p e s m args below meth c s₁ B hml hv Q hQ
  obtain ⟨rfl, hP, hK⟩ := hv
  have hx := B.exec
  have hb := B.bytes
  have hr := B.returns
  have hlocks := B.notSynchronized
  have hT : ∀ w ∈ gT, w.before _ s = true := fun w h => atoms_spec (ws := (Cond.code yX3_owed cX3_owed 3 (some .int) :: gT)) B.pre w (List.mem_cons_of_mem _ h)
  have hown : s.vm.findClass RX3 = some m.cls := findClass_of_methodNamed B.named
  have hl := lv_entry ([.ref (a 61)]) (n := 3) (Nat.le_of_ble_eq_true rfl)
  rw [lg_entry_eq]
  generalize (lg_sl ([.ref (a 61)]) ++ List.replicate (3 - (lg_sl ([.ref (a 61)])).length) Slot.unset).toArray = ls at hl ⊢
  have hl : lv_has ls 3 [(0, .ref (a 61))] := hl
  have hEi : mEi [] i i := Ei_rf
  have hEr : mEr [] r r := Er_rf
  refine lv_iconst (v := 0) hx hb dX3_owed_0 (by decide) ?_
  refine lv_istore_n (lv' := [(1, .int 0), (0, .ref (a 61))]) hx hb dX3_owed_1 rfl hl (by decide) rfl (fun ls hl => ?_)
  refine lv_iconst (v := 0) hx hb dX3_owed_2 (by decide) ?_
  refine lv_istore_n (lv' := [(2, .int 0), (1, .int 0), (0, .ref (a 61))]) hx hb dX3_owed_3 rfl hl (by decide) rfl (fun ls hl => ?_)
  have loop_1 : ∀ (n : Nat) (x1_2 : Int32) (x1_1 : Int32) (ls : Array Slot), (3 - x1_2.toInt).toNat < n → (0 ≤ x1_2.toInt ∧ x1_2.toInt ≤ 3) → lv_has ls 3 [(2, .int x1_2), (1, .int x1_1), (0, .ref (a 61))] → W p l e ({ frames := 1, cells := 0, slots := 0, locals := 24 } : Room) s m ([.ref (a 61)] : List Value).toArray below meth c s.heap [] 0 0 Q (F0 m 4 ls []) := by
    intro n
    induction n with
    | zero =>
      intro x1_2 x1_1 ls hm1 hf1_0 hl
      exact absurd hm1 (by omega)
    | succ n ih1 =>
      intro x1_2 x1_1 ls hm1 hf1_0 hl
      refine lv_iload_n hx hb dX3_owed_4 rfl (lv_at hl 0 rfl) ?_
      refine lv_iconst (v := 3) hx hb dX3_owed_5 (by decide) ?_
      refine lv_icmp_ge (tgt := 24) hx hb dX3_owed_6 (by decide) (fun c_2 => ?_) (fun c_2 => ?_)
      · have c_2 : 3 ≤ x1_2.toInt := b_le c_2
        refine lv_iload_n hx hb dX3_owed_24 rfl (lv_at hl 1 rfl) ?_
        subst hQ
        exact W.iret (v := x1_1) hx hb hr (fun t ht hW => ⟨_, rfl, trivial, ht⟩) (fun q hq => absurd hq List.not_mem_nil) dX3_owed_25
      · have c_2 : x1_2.toInt < 3 := b_nle c_2
        refine lv_iload_n hx hb dX3_owed_9 rfl (lv_at hl 1 rfl) ?_
        refine lv_aload_n hx hb dX3_owed_10 rfl (lv_at hl 2 rfl) ?_
        refine va_get (D := D) (ci := 3) (v := .ref (a 63)) (C := RX3) (T := TX3) (N := 12) hx hb hT iX3 hown hK hP 61 rfl rfl 7 (by decide) (hT _ t_385) (fun _ h9 => h9) rfl dX3_owed_11 ?_
        refine lv_iload_n hx hb dX3_owed_14 rfl (lv_at hl 0 rfl) ?_
        refine va_iald hx hb hK hP 63 0 rfl rfl (vp_inI (by omega) (by omega)) dX3_owed_15 ?_
        refine lv_topi (fun v_3 ev_3 => ?_)
        have hgv_3 : 0 ≤ v_3.toInt ∧ v_3.toInt ≤ 999999 := by rw [ev_3]; exact hRr 63 _
        refine lv_iadd hx hb dX3_owed_16 ?_
        refine lv_topi (fun v_4 ev_4 => ?_)
        refine lv_istore_n (lv' := [(1, .int v_4), (2, .int x1_2), (0, .ref (a 61))]) hx hb dX3_owed_17 rfl hl (by decide) rfl (fun ls hl => ?_)
        obtain ⟨x_5, ex_5⟩ : ∃ y : Int32, y = x1_2 + 1 := ⟨_, rfl⟩
        refine lv_iinc (v := x_5) (lv' := [(2, .int x_5), (1, .int v_4), (0, .ref (a 61))]) hx hb dX3_owed_18 hl (k := 1) rfl (by rw [ex_5]; rfl) (by decide) rfl (fun ls hl => ?_)
        have hx_5 : x_5.toInt = x1_2.toInt + 1 := by rw [ex_5]; have := b_rg x1_2; exact i_add (a := x1_2.toInt) (b := 1) rfl rfl (by omega) (by omega)
        refine lv_goto (tgt := 4) hx hb dX3_owed_21 (by decide) ?_
        exact ih1 x_5 v_4 _ (by first | omega | (simp only [Int.toNat]; omega)) (by first | omega | decide)    (lv_sub hl [0, 1, 2] rfl)
  exact loop_1 _ 0 0 _ (Nat.lt_succ_self _) (by first | omega | decide)    hl
set_option maxHeartbeats 4000000 in
set_option maxRecDepth 100000 in
theorem c_X3_allAreKin (l : Launch) (D : va_G) (cy : Nat → ClassId) (a : Nat → Nat) (i : Nat → Int32) (r : Nat → Nat → Int32) (q : Nat → Option Nat) (tl : va_W) (hRi : yRi i) (hRr : yRr r) : Met l yX3_allAreKin (Cond.code yX3_allAreKin cX3_allAreKin 2 (some .boolean) :: gT) { frames := 1, cells := 0, slots := 0, locals := 24 } (va_Pc [.ref (a 61)] (rP D cy (xW cy a i r q (a 20) (a 12) ++ (hW cy a i r ++ tl)))) (vp_Si (fun z => z = 0 ∨ z = 1)) 0 0 (fun _ => False) := by
  refine Met.ofQ (cc := cX3_allAreKin) (maxL := 2) (ret := (some .boolean)) (by decide) rfl ?_
  intro p e s m args below meth c s₁ B hml hv Q hQ
  obtain ⟨rfl, hP, hK⟩ := hv
  have hx := B.exec
  have hb := B.bytes
  have hr := B.returns
  have hlocks := B.notSynchronized
  have hT : ∀ w ∈ gT, w.before _ s = true := fun w h => atoms_spec (ws := (Cond.code yX3_allAreKin cX3_allAreKin 2 (some .boolean) :: gT)) B.pre w (List.mem_cons_of_mem _ h)
  have hown : s.vm.findClass RX3 = some m.cls := findClass_of_methodNamed B.named
  have hl := lv_entry ([.ref (a 61)]) (n := 2) (Nat.le_of_ble_eq_true rfl)
  rw [lg_entry_eq]
  generalize (lg_sl ([.ref (a 61)]) ++ List.replicate (2 - (lg_sl ([.ref (a 61)])).length) Slot.unset).toArray = ls at hl ⊢
  have hl : lv_has ls 2 [(0, .ref (a 61))] := hl
  have hEi : mEi [] i i := Ei_rf
  have hEr : mEr [] r r := Er_rf
  refine lv_iconst (v := 0) hx hb dX3_allAreKin_0 (by decide) ?_
  refine lv_istore_n (lv' := [(1, .int 0), (0, .ref (a 61))]) hx hb dX3_allAreKin_1 rfl hl (by decide) rfl (fun ls hl => ?_)
  have loop_1 : ∀ (n : Nat) (x1_1 : Int32) (ls : Array Slot), (6 - x1_1.toInt).toNat < n → (0 ≤ x1_1.toInt ∧ x1_1.toInt ≤ 6) → lv_has ls 2 [(1, .int x1_1), (0, .ref (a 61))] → W p l e ({ frames := 1, cells := 0, slots := 0, locals := 24 } : Room) s m ([.ref (a 61)] : List Value).toArray below meth c s.heap [] 0 0 Q (F0 m 2 ls []) := by
    intro n
    induction n with
    | zero =>
      intro x1_1 ls hm1 hf1_0 hl
      exact absurd hm1 (by omega)
    | succ n ih1 =>
      intro x1_1 ls hm1 hf1_0 hl
      refine lv_iload_n hx hb dX3_allAreKin_2 rfl (lv_at hl 0 rfl) ?_
      refine lv_bipush (v := 6) hx hb dX3_allAreKin_3 (by decide) ?_
      refine lv_icmp_ge (tgt := 25) hx hb dX3_allAreKin_5 (by decide) (fun c_2 => ?_) (fun c_2 => ?_)
      · have c_2 : 6 ≤ x1_1.toInt := b_le c_2
        refine lv_iconst (v := 1) hx hb dX3_allAreKin_25 (by decide) ?_
        subst hQ
        exact W.zret hx hb hr rfl (fun t ht hW => ⟨_, rfl, Or.inr rfl, ht⟩) (fun q hq => absurd hq List.not_mem_nil) dX3_allAreKin_26
      · have c_2 : x1_1.toInt < 6 := b_nle c_2
        refine lv_aload_n hx hb dX3_allAreKin_8 rfl (lv_at hl 1 rfl) ?_
        refine va_get (D := D) (ci := 3) (v := .ref (a 64)) (C := RX3) (T := TX3) (N := 12) hx hb hT iX3 hown hK hP 61 rfl rfl 8 (by decide) (hT _ t_386) (fun _ h9 => h9) rfl dX3_allAreKin_9 ?_
        refine lv_iload_n hx hb dX3_allAreKin_12 rfl (lv_at hl 0 rfl) ?_
        refine va_zald hx hb hK hP 64 2 rfl rfl (vp_inI (by omega) (by omega)) dX3_allAreKin_13 ?_
        refine lv_topi (fun v_3 ev_3 => ?_)
        refine lv_if_ne (tgt := 19) hx hb dX3_allAreKin_14 (by decide) (fun c_4 => ?_) (fun c_4 => ?_)
        · have c_4 : v_3.toInt ≠ 0 := b_ne c_4
          obtain ⟨x_5, ex_5⟩ : ∃ y : Int32, y = x1_1 + 1 := ⟨_, rfl⟩
          refine lv_iinc (v := x_5) (lv' := [(1, .int x_5), (0, .ref (a 61))]) hx hb dX3_allAreKin_19 hl (k := 0) rfl (by rw [ex_5]; rfl) (by decide) rfl (fun ls hl => ?_)
          have hx_5 : x_5.toInt = x1_1.toInt + 1 := by rw [ex_5]; have := b_rg x1_1; exact i_add (a := x1_1.toInt) (b := 1) rfl rfl (by omega) (by omega)
          refine lv_goto (tgt := 2) hx hb dX3_allAreKin_22 (by decide) ?_
          exact ih1 x_5 _ (by first | omega | (simp only [Int.toNat]; omega)) (by first | omega | decide)    (lv_sub hl [0, 1] rfl)
        · have c_4 : v_3.toInt = 0 := b_nne c_4
          refine lv_iconst (v := 0) hx hb dX3_allAreKin_17 (by decide) ?_
          subst hQ
          exact W.zret hx hb hr rfl (fun t ht hW => ⟨_, rfl, Or.inl rfl, ht⟩) (fun q hq => absurd hq List.not_mem_nil) dX3_allAreKin_18
  exact loop_1 _ 0 _ (Nat.lt_succ_self _) (by first | omega | decide)    hl
set_option maxHeartbeats 4000000 in
set_option maxRecDepth 100000 in
theorem c_X3_isGone (l : Launch) (D : va_G) (cy : Nat → ClassId) (a : Nat → Nat) (i : Nat → Int32) (r : Nat → Nat → Int32) (q : Nat → Option Nat) (tl : va_W) (p0 : Int32) (hRi : yRi i) (hRr : yRr r) (q0 : 0 ≤ p0.toInt ∧ p0.toInt ≤ 19) : Met l yX3_isGone (Cond.code yX3_isGone cX3_isGone 2 (some .boolean) :: gT) { frames := 1, cells := 0, slots := 0, locals := 24 } (va_Pc [.ref (a 61), .int p0] (rP D cy (xW cy a i r q (a 20) (a 12) ++ (hW cy a i r ++ tl)))) (vp_Si (fun z => BR z ((r 75 p0.toNatClampNeg).toInt < 0 ∨ (i 24).toInt ≤ (r 75 p0.toNatClampNeg).toInt) 1 0)) 0 0 (fun _ => False) := by
  refine Met.ofQ (cc := cX3_isGone) (maxL := 2) (ret := (some .boolean)) (by decide) rfl ?_
  intro p e s m args below meth c s₁ B hml hv Q hQ
  obtain ⟨rfl, hP, hK⟩ := hv
  have hx := B.exec
  have hb := B.bytes
  have hr := B.returns
  have hlocks := B.notSynchronized
  have hT : ∀ w ∈ gT, w.before _ s = true := fun w h => atoms_spec (ws := (Cond.code yX3_isGone cX3_isGone 2 (some .boolean) :: gT)) B.pre w (List.mem_cons_of_mem _ h)
  have hown : s.vm.findClass RX3 = some m.cls := findClass_of_methodNamed B.named
  have hl := lv_entry ([.ref (a 61), .int p0]) (n := 2) (Nat.le_of_ble_eq_true rfl)
  rw [lg_entry_eq]
  generalize (lg_sl ([.ref (a 61), .int p0]) ++ List.replicate (2 - (lg_sl ([.ref (a 61), .int p0])).length) Slot.unset).toArray = ls at hl ⊢
  have hl : lv_has ls 2 [(0, .ref (a 61)), (1, .int p0)] := hl
  have hEi : mEi [] i i := Ei_rf
  have hEr : mEr [] r r := Er_rf
  refine lv_aload_n hx hb dX3_isGone_0 rfl (lv_at hl 0 rfl) ?_
  refine va_get (D := D) (ci := 3) (v := .ref (a 75)) (C := RX3) (T := TX3) (N := 12) hx hb hT iX3 hown hK hP 61 rfl rfl 11 (by decide) (hT _ t_387) (fun _ h9 => h9) rfl dX3_isGone_1 ?_
  refine lv_iload_n hx hb dX3_isGone_4 rfl (lv_at hl 1 rfl) ?_
  refine va_iald hx hb hK hP 75 0 rfl rfl (vp_inI (by omega) (by omega)) dX3_isGone_5 ?_
  refine lv_topi (fun v_1 ev_1 => ?_)
  have hgv_1 : -2 ≤ v_1.toInt ∧ v_1.toInt ≤ 19 := by rw [ev_1]; exact hRr 75 _
  have hwv_1 : v_1.toInt = (r 75 (p0.toNatClampNeg)).toInt := congrArg Int32.toInt ev_1
  refine lv_if_lt (tgt := 25) hx hb dX3_isGone_6 (by decide) (fun c_2 => ?_) (fun c_2 => ?_)
  · have c_2 : v_1.toInt < 0 := b_lt c_2
    refine lv_iconst (v := 1) hx hb dX3_isGone_25 (by decide) ?_
    refine lv_goto (tgt := 30) hx hb dX3_isGone_26 (by decide) ?_
    subst hQ
    exact W.zret hx hb hr rfl (fun t ht hW => ⟨_, rfl, Or.inl ⟨rfl, by omega⟩, ht⟩) (fun q hq => absurd hq List.not_mem_nil) dX3_isGone_30
  · have c_2 : 0 ≤ v_1.toInt := b_nlt c_2
    refine lv_aload_n hx hb dX3_isGone_9 rfl (lv_at hl 0 rfl) ?_
    refine va_get (D := D) (ci := 3) (v := .ref (a 75)) (C := RX3) (T := TX3) (N := 12) hx hb hT iX3 hown hK hP 61 rfl rfl 11 (by decide) (hT _ t_387) (fun _ h9 => h9) rfl dX3_isGone_10 ?_
    refine lv_iload_n hx hb dX3_isGone_13 rfl (lv_at hl 1 rfl) ?_
    refine va_iald hx hb hK hP 75 0 rfl rfl (vp_inI (by omega) (by omega)) dX3_isGone_14 ?_
    refine lv_topi (fun v_3 ev_3 => ?_)
    have hgv_3 : -2 ≤ v_3.toInt ∧ v_3.toInt ≤ 19 := by rw [ev_3]; exact hRr 75 _
    have hwv_3 : v_3.toInt = (r 75 (p0.toNatClampNeg)).toInt := congrArg Int32.toInt ev_3
    refine lv_aload_n hx hb dX3_isGone_15 rfl (lv_at hl 0 rfl) ?_
    refine va_get (D := D) (ci := 3) (v := .ref (a 70)) (C := RX3) (T := TX3) (N := 12) hx hb hT iX3 hown hK hP 61 rfl rfl 10 (by decide) (hT _ t_388) (fun _ h9 => h9) rfl dX3_isGone_16 ?_
    refine va_get (D := D) (ci := 10) (v := .int (i 24)) (C := RX10) (T := TX10) (N := 5) hx hb hT iX10 hown hK hP 70 rfl rfl 0 (by decide) (hT _ t_389) (fun _ h9 => h9) rfl dX3_isGone_19 ?_
    have hg_4 : 0 ≤ (i 24).toInt ∧ (i 24).toInt ≤ 20 := hRi 24
    refine lv_icmp_lt (tgt := 29) hx hb dX3_isGone_22 (by decide) (fun c_5 => ?_) (fun c_5 => ?_)
    · have c_5 : v_3.toInt < (i 24).toInt := b_lt c_5
      refine lv_iconst (v := 0) hx hb dX3_isGone_29 (by decide) ?_
      subst hQ
      exact W.zret hx hb hr rfl (fun t ht hW => ⟨_, rfl, Or.inr ⟨rfl, by omega⟩, ht⟩) (fun q hq => absurd hq List.not_mem_nil) dX3_isGone_30
    · have c_5 : (i 24).toInt ≤ v_3.toInt := b_nlt c_5
      refine lv_iconst (v := 1) hx hb dX3_isGone_25 (by decide) ?_
      refine lv_goto (tgt := 30) hx hb dX3_isGone_26 (by decide) ?_
      subst hQ
      exact W.zret hx hb hr rfl (fun t ht hW => ⟨_, rfl, Or.inl ⟨rfl, by omega⟩, ht⟩) (fun q hq => absurd hq List.not_mem_nil) dX3_isGone_30
set_option maxHeartbeats 4000000 in
set_option maxRecDepth 100000 in
theorem c_X3_stateAtLast (l : Launch) (D : va_G) (cy : Nat → ClassId) (a : Nat → Nat) (i : Nat → Int32) (r : Nat → Nat → Int32) (q : Nat → Option Nat) (tl : va_W) (p0 : Int32) (hRi : yRi i) (hRr : yRr r) (q0 : 0 ≤ p0.toInt ∧ p0.toInt ≤ 19) : Met l yX3_stateAtLast (Cond.code yX3_stateAtLast cX3_stateAtLast 2 (some .int) :: gT) { frames := 2, cells := 0, slots := 0, locals := 45 } (va_Pc [.ref (a 61), .int p0] (rP D cy (xW cy a i r q (a 20) (a 12) ++ (hW cy a i r ++ tl)))) (vp_Si (fun z => 0 ≤ z.toInt ∧ z.toInt ≤ 9)) 0 0 (fun _ => False) := by
  refine Met.ofQ (cc := cX3_stateAtLast) (maxL := 2) (ret := (some .int)) (by decide) rfl ?_
  intro p e s m args below meth c s₁ B hml hv Q hQ
  obtain ⟨rfl, hP, hK⟩ := hv
  have hx := B.exec
  have hb := B.bytes
  have hr := B.returns
  have hlocks := B.notSynchronized
  have hT : ∀ w ∈ gT, w.before _ s = true := fun w h => atoms_spec (ws := (Cond.code yX3_stateAtLast cX3_stateAtLast 2 (some .int) :: gT)) B.pre w (List.mem_cons_of_mem _ h)
  have hown : s.vm.findClass RX3 = some m.cls := findClass_of_methodNamed B.named
  have hl := lv_entry ([.ref (a 61), .int p0]) (n := 2) (Nat.le_of_ble_eq_true rfl)
  rw [lg_entry_eq]
  generalize (lg_sl ([.ref (a 61), .int p0]) ++ List.replicate (2 - (lg_sl ([.ref (a 61), .int p0])).length) Slot.unset).toArray = ls at hl ⊢
  have hl : lv_has ls 2 [(0, .ref (a 61)), (1, .int p0)] := hl
  have hEi : mEi [] i i := Ei_rf
  have hEr : mEr [] r r := Er_rf
  refine lv_aload_n hx hb dX3_stateAtLast_0 rfl (lv_at hl 0 rfl) ?_
  refine lv_iload_n hx hb dX3_stateAtLast_1 rfl (lv_at hl 1 rfl) ?_
  refine vp_callSi (W.runV (As := [.int p0]) (rest := []) ⟨hx, hb, hml, hown, hT⟩ (c_X3_isGone l D cy a i r q tl p0 hRi hRr (by first | omega | decide)) (cwV 1 hT (gV t_390 t_392 t_393 t_394 t_391) rfl rfl rfl (by decide +kernel) ⟨Nat.le_of_ble_eq_true rfl, Nat.le_of_ble_eq_true rfl⟩) (rP_v hP hK (va_recv hK hP (ci := 3) (q0 := 61) rfl rfl)) rfl rfl hl.1 rfl (lv_room (Nat.le_of_ble_eq_true rfl)) dX3_stateAtLast_2 ⟨Nat.le_of_ble_eq_true rfl, Nat.le_of_ble_eq_true rfl⟩) (fun r_1 hr_1 => ?_)
  have hr_1 : BR r_1 ((r 75 p0.toNatClampNeg).toInt < 0 ∨ (i 24).toInt ≤ (r 75 p0.toNatClampNeg).toInt) 1 0 := hr_1
  rcases hr_1 with ⟨rfl, h_2⟩ | ⟨rfl, h_2⟩
  · skip
    refine lv_if_eq (tgt := 12) hx hb dX3_stateAtLast_5 (by decide) (fun c_3 => absurd c_3 (by decide)) (fun c_3 => ?_)
    refine lv_iconst (v := 0) hx hb dX3_stateAtLast_8 (by decide) ?_
    refine lv_goto (tgt := 26) hx hb dX3_stateAtLast_9 (by decide) ?_
    subst hQ
    exact W.iret (v := 0) hx hb hr (fun t ht hW => ⟨_, rfl, (by decide), ht⟩) (fun q hq => absurd hq List.not_mem_nil) dX3_stateAtLast_26
  · skip
    refine lv_if_eq (tgt := 12) hx hb dX3_stateAtLast_5 (by decide) (fun c_4 => ?_) (fun c_4 => absurd (by decide) c_4)
    refine lv_aload_n hx hb dX3_stateAtLast_12 rfl (lv_at hl 0 rfl) ?_
    refine va_get (D := D) (ci := 3) (v := .ref (a 70)) (C := RX3) (T := TX3) (N := 12) hx hb hT iX3 hown hK hP 61 rfl rfl 10 (by decide) (hT _ t_388) (fun _ h9 => h9) rfl dX3_stateAtLast_13 ?_
    refine va_get (D := D) (ci := 10) (v := .ref (a 73)) (C := RX10) (T := TX10) (N := 5) hx hb hT iX10 hown hK hP 70 rfl rfl 3 (by decide) (hT _ t_395) (fun _ h9 => h9) rfl dX3_stateAtLast_16 ?_
    refine lv_aload_n hx hb dX3_stateAtLast_19 rfl (lv_at hl 0 rfl) ?_
    refine va_get (D := D) (ci := 3) (v := .ref (a 75)) (C := RX3) (T := TX3) (N := 12) hx hb hT iX3 hown hK hP 61 rfl rfl 11 (by decide) (hT _ t_387) (fun _ h9 => h9) rfl dX3_stateAtLast_20 ?_
    refine lv_iload_n hx hb dX3_stateAtLast_23 rfl (lv_at hl 1 rfl) ?_
    refine va_iald hx hb hK hP 75 0 rfl rfl (vp_inI (by omega) (by omega)) dX3_stateAtLast_24 ?_
    refine lv_topi (fun v_5 ev_5 => ?_)
    have hgv_5 : -2 ≤ v_5.toInt ∧ v_5.toInt ≤ 19 := by rw [ev_5]; exact hRr 75 _
    have hwv_5 : v_5.toInt = (r 75 (p0.toNatClampNeg)).toInt := congrArg Int32.toInt ev_5
    have hg24 : 0 ≤ (i 24).toInt ∧ (i 24).toInt ≤ 20 := hRi 24
    have hqv_5 : 0 ≤ v_5.toInt ∧ v_5.toInt ≤ 19 := by omega
    refine va_iald hx hb hK hP 73 0 rfl rfl (vp_inI (by omega) (by omega)) dX3_stateAtLast_25 ?_
    refine lv_topi (fun v_6 ev_6 => ?_)
    have hgv_6 : 0 ≤ v_6.toInt ∧ v_6.toInt ≤ 9 := by rw [ev_6]; exact hRr 73 _
    subst hQ
    exact W.iret (v := v_6) hx hb hr (fun t ht hW => ⟨_, rfl, (by show 0 ≤ v_6.toInt ∧ v_6.toInt ≤ 9; omega), ht⟩) (fun q hq => absurd hq List.not_mem_nil) dX3_stateAtLast_26
set_option maxHeartbeats 4000000 in
set_option maxRecDepth 100000 in
theorem c_X3_change (l : Launch) (D : va_G) (cy : Nat → ClassId) (a : Nat → Nat) (i : Nat → Int32) (r : Nat → Nat → Int32) (q : Nat → Option Nat) (tl : va_W) (p0 : Int32) (hRi : yRi i) (hRr : yRr r) (q0 : 0 ≤ p0.toInt ∧ p0.toInt ≤ 19) : Met l yX3_change (Cond.code yX3_change cX3_change 4 (some .int) :: gT) { frames := 3, cells := 0, slots := 0, locals := 66 } (va_Pc [.ref (a 61), .int p0] (rP D cy (xW cy a i r q (a 20) (a 12) ++ (hW cy a i r ++ tl)))) (vp_Si (fun z => 0 ≤ z.toInt ∧ z.toInt ≤ 3)) 0 0 (fun _ => False) := by
  refine Met.ofQ (cc := cX3_change) (maxL := 4) (ret := (some .int)) (by decide) rfl ?_
  intro p e s m args below meth c s₁ B hml hv Q hQ
  obtain ⟨rfl, hP, hK⟩ := hv
  have hx := B.exec
  have hb := B.bytes
  have hr := B.returns
  have hlocks := B.notSynchronized
  have hT : ∀ w ∈ gT, w.before _ s = true := fun w h => atoms_spec (ws := (Cond.code yX3_change cX3_change 4 (some .int) :: gT)) B.pre w (List.mem_cons_of_mem _ h)
  have hown : s.vm.findClass RX3 = some m.cls := findClass_of_methodNamed B.named
  have hl := lv_entry ([.ref (a 61), .int p0]) (n := 4) (Nat.le_of_ble_eq_true rfl)
  rw [lg_entry_eq]
  generalize (lg_sl ([.ref (a 61), .int p0]) ++ List.replicate (4 - (lg_sl ([.ref (a 61), .int p0])).length) Slot.unset).toArray = ls at hl ⊢
  have hl : lv_has ls 4 [(0, .ref (a 61)), (1, .int p0)] := hl
  have hEi : mEi [] i i := Ei_rf
  have hEr : mEr [] r r := Er_rf
  refine lv_aload_n hx hb dX3_change_0 rfl (lv_at hl 0 rfl) ?_
  refine lv_iload_n hx hb dX3_change_1 rfl (lv_at hl 1 rfl) ?_
  refine vp_callSi (W.runV (As := [.int p0]) (rest := []) ⟨hx, hb, hml, hown, hT⟩ (c_X3_isGone l D cy a i r q tl p0 hRi hRr (by first | omega | decide)) (cwV 1 hT (gV t_390 t_392 t_393 t_394 t_391) rfl rfl rfl (by decide +kernel) ⟨Nat.le_of_ble_eq_true rfl, Nat.le_of_ble_eq_true rfl⟩) (rP_v hP hK (va_recv hK hP (ci := 3) (q0 := 61) rfl rfl)) rfl rfl hl.1 rfl (lv_room (Nat.le_of_ble_eq_true rfl)) dX3_change_2 ⟨Nat.le_of_ble_eq_true rfl, Nat.le_of_ble_eq_true rfl⟩) (fun r_1 hr_1 => ?_)
  have hr_1 : BR r_1 ((r 75 p0.toNatClampNeg).toInt < 0 ∨ (i 24).toInt ≤ (r 75 p0.toNatClampNeg).toInt) 1 0 := hr_1
  rcases hr_1 with ⟨rfl, h_2⟩ | ⟨rfl, h_2⟩
  · skip
    refine lv_if_eq (tgt := 10) hx hb dX3_change_5 (by decide) (fun c_3 => absurd c_3 (by decide)) (fun c_3 => ?_)
    refine lv_iconst (v := 2) hx hb dX3_change_8 (by decide) ?_
    subst hQ
    exact W.iret (v := 2) hx hb hr (fun t ht hW => ⟨_, rfl, (by decide), ht⟩) (fun q hq => absurd hq List.not_mem_nil) dX3_change_9
  · skip
    refine lv_if_eq (tgt := 10) hx hb dX3_change_5 (by decide) (fun c_4 => ?_) (fun c_4 => absurd (by decide) c_4)
    refine lv_aload_n hx hb dX3_change_10 rfl (lv_at hl 0 rfl) ?_
    refine va_get (D := D) (ci := 3) (v := .ref (a 65)) (C := RX3) (T := TX3) (N := 12) hx hb hT iX3 hown hK hP 61 rfl rfl 9 (by decide) (hT _ t_396) (fun _ h9 => h9) rfl dX3_change_11 ?_
    refine va_get (D := D) (ci := 10) (v := .ref (a 68)) (C := RX10) (T := TX10) (N := 5) hx hb hT iX10 hown hK hP 65 rfl rfl 3 (by decide) (hT _ t_395) (fun _ h9 => h9) rfl dX3_change_14 ?_
    refine lv_iload_n hx hb dX3_change_17 rfl (lv_at hl 1 rfl) ?_
    refine va_iald hx hb hK hP 68 0 rfl rfl (vp_inI (by omega) (by omega)) dX3_change_18 ?_
    refine lv_topi (fun v_5 ev_5 => ?_)
    have hgv_5 : 0 ≤ v_5.toInt ∧ v_5.toInt ≤ 9 := by rw [ev_5]; exact hRr 68 _
    refine lv_istore_n (lv' := [(2, .int v_5), (0, .ref (a 61)), (1, .int p0)]) hx hb dX3_change_19 rfl hl (by decide) rfl (fun ls hl => ?_)
    refine lv_aload_n hx hb dX3_change_20 rfl (lv_at hl 1 rfl) ?_
    refine lv_iload_n hx hb dX3_change_21 rfl (lv_at hl 2 rfl) ?_
    refine vp_callSi (W.runV (As := [.int p0]) (rest := []) ⟨hx, hb, hml, hown, hT⟩ (c_X3_stateAtLast l D cy a i r q tl p0 hRi hRr (by first | omega | decide)) (cwV 1 hT (gV t_397 t_398 t_399 t_400 t_391) rfl rfl rfl (by decide +kernel) ⟨Nat.le_of_ble_eq_true rfl, Nat.le_of_ble_eq_true rfl⟩) (rP_v hP hK (va_recv hK hP (ci := 3) (q0 := 61) rfl rfl)) rfl rfl hl.1 rfl (lv_room (Nat.le_of_ble_eq_true rfl)) dX3_change_22 ⟨Nat.le_of_ble_eq_true rfl, Nat.le_of_ble_eq_true rfl⟩) (fun r_6 hr_6 => ?_)
    have hr_6 : 0 ≤ r_6.toInt ∧ r_6.toInt ≤ 9 := hr_6
    refine lv_istore_n (lv' := [(3, .int r_6), (2, .int v_5), (0, .ref (a 61)), (1, .int p0)]) hx hb dX3_change_25 rfl hl (by decide) rfl (fun ls hl => ?_)
    refine lv_iload_n hx hb dX3_change_26 rfl (lv_at hl 0 rfl) ?_
    refine lv_iload_n hx hb dX3_change_27 rfl (lv_at hl 1 rfl) ?_
    refine lv_icmp_ne (tgt := 33) hx hb dX3_change_28 (by decide) (fun c_7 => ?_) (fun c_7 => ?_)
    · have c_7 : r_6.toInt ≠ v_5.toInt := b_ne c_7
      refine lv_iload_n hx hb dX3_change_33 rfl (lv_at hl 0 rfl) ?_
      refine lv_iload_n hx hb dX3_change_34 rfl (lv_at hl 1 rfl) ?_
      refine lv_icmp_ge (tgt := 42) hx hb dX3_change_35 (by decide) (fun c_8 => ?_) (fun c_8 => ?_)
      · have c_8 : v_5.toInt ≤ r_6.toInt := b_le c_8
        refine lv_iconst (v := 3) hx hb dX3_change_42 (by decide) ?_
        subst hQ
        exact W.iret (v := 3) hx hb hr (fun t ht hW => ⟨_, rfl, (by decide), ht⟩) (fun q hq => absurd hq List.not_mem_nil) dX3_change_43
      · have c_8 : r_6.toInt < v_5.toInt := b_nle c_8
        refine lv_iconst (v := 1) hx hb dX3_change_38 (by decide) ?_
        refine lv_goto (tgt := 43) hx hb dX3_change_39 (by decide) ?_
        subst hQ
        exact W.iret (v := 1) hx hb hr (fun t ht hW => ⟨_, rfl, (by decide), ht⟩) (fun q hq => absurd hq List.not_mem_nil) dX3_change_43
    · have c_7 : r_6.toInt = v_5.toInt := b_nne c_7
      refine lv_iconst (v := 0) hx hb dX3_change_31 (by decide) ?_
      subst hQ
      exact W.iret (v := 0) hx hb hr (fun t ht hW => ⟨_, rfl, (by decide), ht⟩) (fun q hq => absurd hq List.not_mem_nil) dX3_change_32
set_option maxHeartbeats 4000000 in
set_option maxRecDepth 100000 in
theorem c_X3_isJoinedTo (l : Launch) (D : va_G) (cy : Nat → ClassId) (a : Nat → Nat) (i : Nat → Int32) (r : Nat → Nat → Int32) (q : Nat → Option Nat) (tl : va_W) (p0 : Int32) (hRi : yRi i) (hRr : yRr r) : Met l yX3_isJoinedTo (Cond.code yX3_isJoinedTo cX3_isJoinedTo 3 (some .boolean) :: gT) { frames := 1, cells := 0, slots := 0, locals := 24 } (va_Pc [.ref (a 61), .int p0] (rP D cy (xW cy a i r q (a 20) (a 12) ++ (hW cy a i r ++ tl)))) (vp_Si (fun z => z = 0 ∨ z = 1)) 0 0 (fun _ => False) := by
  refine Met.ofQ (cc := cX3_isJoinedTo) (maxL := 3) (ret := (some .boolean)) (by decide) rfl ?_
  intro p e s m args below meth c s₁ B hml hv Q hQ
  obtain ⟨rfl, hP, hK⟩ := hv
  have hx := B.exec
  have hb := B.bytes
  have hr := B.returns
  have hlocks := B.notSynchronized
  have hT : ∀ w ∈ gT, w.before _ s = true := fun w h => atoms_spec (ws := (Cond.code yX3_isJoinedTo cX3_isJoinedTo 3 (some .boolean) :: gT)) B.pre w (List.mem_cons_of_mem _ h)
  have hown : s.vm.findClass RX3 = some m.cls := findClass_of_methodNamed B.named
  have hl := lv_entry ([.ref (a 61), .int p0]) (n := 3) (Nat.le_of_ble_eq_true rfl)
  rw [lg_entry_eq]
  generalize (lg_sl ([.ref (a 61), .int p0]) ++ List.replicate (3 - (lg_sl ([.ref (a 61), .int p0])).length) Slot.unset).toArray = ls at hl ⊢
  have hl : lv_has ls 3 [(0, .ref (a 61)), (1, .int p0)] := hl
  have hEi : mEi [] i i := Ei_rf
  have hEr : mEr [] r r := Er_rf
  refine lv_iconst (v := 0) hx hb dX3_isJoinedTo_0 (by decide) ?_
  refine lv_istore_n (lv' := [(2, .int 0), (0, .ref (a 61)), (1, .int p0)]) hx hb dX3_isJoinedTo_1 rfl hl (by decide) rfl (fun ls hl => ?_)
  have loop_1 : ∀ (n : Nat) (x1_2 : Int32) (ls : Array Slot), (20 - x1_2.toInt).toNat < n → (0 ≤ x1_2.toInt ∧ x1_2.toInt ≤ 20) → lv_has ls 3 [(2, .int x1_2), (0, .ref (a 61)), (1, .int p0)] → W p l e ({ frames := 1, cells := 0, slots := 0, locals := 24 } : Room) s m ([.ref (a 61), .int p0] : List Value).toArray below meth c s.heap [] 0 0 Q (F0 m 2 ls []) := by
    intro n
    induction n with
    | zero =>
      intro x1_2 ls hm1 hf1_0 hl
      exact absurd hm1 (by omega)
    | succ n ih1 =>
      intro x1_2 ls hm1 hf1_0 hl
      refine lv_iload_n hx hb dX3_isJoinedTo_2 rfl (lv_at hl 0 rfl) ?_
      refine lv_aload_n hx hb dX3_isJoinedTo_3 rfl (lv_at hl 1 rfl) ?_
      refine va_get (D := D) (ci := 3) (v := .ref (a 65)) (C := RX3) (T := TX3) (N := 12) hx hb hT iX3 hown hK hP 61 rfl rfl 9 (by decide) (hT _ t_396) (fun _ h9 => h9) rfl dX3_isJoinedTo_4 ?_
      refine va_get (D := D) (ci := 10) (v := .int (i 23)) (C := RX10) (T := TX10) (N := 5) hx hb hT iX10 hown hK hP 65 rfl rfl 0 (by decide) (hT _ t_389) (fun _ h9 => h9) rfl dX3_isJoinedTo_7 ?_
      have hg_2 : 0 ≤ (i 23).toInt ∧ (i 23).toInt ≤ 20 := hRi 23
      refine lv_icmp_ge (tgt := 31) hx hb dX3_isJoinedTo_10 (by decide) (fun c_3 => ?_) (fun c_3 => ?_)
      · have c_3 : (i 23).toInt ≤ x1_2.toInt := b_le c_3
        refine lv_iconst (v := 0) hx hb dX3_isJoinedTo_31 (by decide) ?_
        subst hQ
        exact W.zret hx hb hr rfl (fun t ht hW => ⟨_, rfl, Or.inl rfl, ht⟩) (fun q hq => absurd hq List.not_mem_nil) dX3_isJoinedTo_32
      · have c_3 : x1_2.toInt < (i 23).toInt := b_nle c_3
        refine lv_aload_n hx hb dX3_isJoinedTo_13 rfl (lv_at hl 1 rfl) ?_
        refine va_get (D := D) (ci := 3) (v := .ref (a 75)) (C := RX3) (T := TX3) (N := 12) hx hb hT iX3 hown hK hP 61 rfl rfl 11 (by decide) (hT _ t_387) (fun _ h9 => h9) rfl dX3_isJoinedTo_14 ?_
        refine lv_iload_n hx hb dX3_isJoinedTo_17 rfl (lv_at hl 0 rfl) ?_
        refine va_iald hx hb hK hP 75 0 rfl rfl (vp_inI (by omega) (by omega)) dX3_isJoinedTo_18 ?_
        refine lv_topi (fun v_4 ev_4 => ?_)
        have hgv_4 : -2 ≤ v_4.toInt ∧ v_4.toInt ≤ 19 := by rw [ev_4]; exact hRr 75 _
        refine lv_iload_n hx hb dX3_isJoinedTo_19 rfl (lv_at hl 2 rfl) ?_
        refine lv_icmp_ne (tgt := 25) hx hb dX3_isJoinedTo_20 (by decide) (fun c_5 => ?_) (fun c_5 => ?_)
        · have c_5 : v_4.toInt ≠ p0.toInt := b_ne c_5
          obtain ⟨x_6, ex_6⟩ : ∃ y : Int32, y = x1_2 + 1 := ⟨_, rfl⟩
          refine lv_iinc (v := x_6) (lv' := [(2, .int x_6), (0, .ref (a 61)), (1, .int p0)]) hx hb dX3_isJoinedTo_25 hl (k := 0) rfl (by rw [ex_6]; rfl) (by decide) rfl (fun ls hl => ?_)
          have hx_6 : x_6.toInt = x1_2.toInt + 1 := by rw [ex_6]; have := b_rg x1_2; exact i_add (a := x1_2.toInt) (b := 1) rfl rfl (by omega) (by omega)
          refine lv_goto (tgt := 2) hx hb dX3_isJoinedTo_28 (by decide) ?_
          exact ih1 x_6 _ (by first | omega | (simp only [Int.toNat]; omega)) (by first | omega | decide)    (lv_sub hl [0, 1, 2] rfl)
        · have c_5 : v_4.toInt = p0.toInt := b_nne c_5
          refine lv_iconst (v := 1) hx hb dX3_isJoinedTo_23 (by decide) ?_
          subst hQ
          exact W.zret hx hb hr rfl (fun t ht hW => ⟨_, rfl, Or.inr rfl, ht⟩) (fun q hq => absurd hq List.not_mem_nil) dX3_isJoinedTo_24
  exact loop_1 _ 0 _ (Nat.lt_succ_self _) (by first | omega | decide)    hl
set_option maxHeartbeats 4000000 in
set_option maxRecDepth 100000 in
theorem c_X3_worsened (l : Launch) (D : va_G) (cy : Nat → ClassId) (a : Nat → Nat) (i : Nat → Int32) (r : Nat → Nat → Int32) (q : Nat → Option Nat) (tl : va_W) (p0 : Int32) (hRi : yRi i) (hRr : yRr r) : Met l yX3_worsened (Cond.code yX3_worsened cX3_worsened 4 (some .int) :: gT) { frames := 3, cells := 0, slots := 0, locals := 66 } (va_Pc [.ref (a 61), .int p0] (rP D cy (xW cy a i r q (a 20) (a 12) ++ (hW cy a i r ++ tl)))) (vp_Si (fun z => True)) 0 0 (fun _ => False) := by
  refine Met.ofQ (cc := cX3_worsened) (maxL := 4) (ret := (some .int)) (by decide) rfl ?_
  intro p e s m args below meth c s₁ B hml hv Q hQ
  obtain ⟨rfl, hP, hK⟩ := hv
  have hx := B.exec
  have hb := B.bytes
  have hr := B.returns
  have hlocks := B.notSynchronized
  have hT : ∀ w ∈ gT, w.before _ s = true := fun w h => atoms_spec (ws := (Cond.code yX3_worsened cX3_worsened 4 (some .int) :: gT)) B.pre w (List.mem_cons_of_mem _ h)
  have hown : s.vm.findClass RX3 = some m.cls := findClass_of_methodNamed B.named
  have hl := lv_entry ([.ref (a 61), .int p0]) (n := 4) (Nat.le_of_ble_eq_true rfl)
  rw [lg_entry_eq]
  generalize (lg_sl ([.ref (a 61), .int p0]) ++ List.replicate (4 - (lg_sl ([.ref (a 61), .int p0])).length) Slot.unset).toArray = ls at hl ⊢
  have hl : lv_has ls 4 [(0, .ref (a 61)), (1, .int p0)] := hl
  have hEi : mEi [] i i := Ei_rf
  have hEr : mEr [] r r := Er_rf
  refine lv_iconst (v := 0) hx hb dX3_worsened_0 (by decide) ?_
  refine lv_istore_n (lv' := [(2, .int 0), (0, .ref (a 61)), (1, .int p0)]) hx hb dX3_worsened_1 rfl hl (by decide) rfl (fun ls hl => ?_)
  refine lv_iconst (v := 0) hx hb dX3_worsened_2 (by decide) ?_
  refine lv_istore_n (lv' := [(3, .int 0), (2, .int 0), (0, .ref (a 61)), (1, .int p0)]) hx hb dX3_worsened_3 rfl hl (by decide) rfl (fun ls hl => ?_)
  have loop_1 : ∀ (n : Nat) (x1_3 : Int32) (x1_2 : Int32) (ls : Array Slot), (20 - x1_3.toInt).toNat < n → (0 ≤ x1_3.toInt ∧ x1_3.toInt ≤ 20) → (0 ≤ x1_2.toInt ∧ x1_2.toInt ≤ 20) → (x1_2.toInt ≤ x1_3.toInt) → lv_has ls 4 [(3, .int x1_3), (2, .int x1_2), (0, .ref (a 61)), (1, .int p0)] → W p l e ({ frames := 3, cells := 0, slots := 0, locals := 66 } : Room) s m ([.ref (a 61), .int p0] : List Value).toArray below meth c s.heap [] 0 0 Q (F0 m 4 ls []) := by
    intro n
    induction n with
    | zero =>
      intro x1_3 x1_2 ls hm1 hf1_0 hf1_1 hx1 hl
      exact absurd hm1 (by omega)
    | succ n ih1 =>
      intro x1_3 x1_2 ls hm1 hf1_0 hf1_1 hx1 hl
      refine lv_iload_n hx hb dX3_worsened_4 rfl (lv_at hl 0 rfl) ?_
      refine lv_aload_n hx hb dX3_worsened_5 rfl (lv_at hl 2 rfl) ?_
      refine va_get (D := D) (ci := 3) (v := .ref (a 65)) (C := RX3) (T := TX3) (N := 12) hx hb hT iX3 hown hK hP 61 rfl rfl 9 (by decide) (hT _ t_396) (fun _ h9 => h9) rfl dX3_worsened_6 ?_
      refine va_get (D := D) (ci := 10) (v := .int (i 23)) (C := RX10) (T := TX10) (N := 5) hx hb hT iX10 hown hK hP 65 rfl rfl 0 (by decide) (hT _ t_389) (fun _ h9 => h9) rfl dX3_worsened_9 ?_
      have hg_2 : 0 ≤ (i 23).toInt ∧ (i 23).toInt ≤ 20 := hRi 23
      refine lv_icmp_ge (tgt := 54) hx hb dX3_worsened_12 (by decide) (fun c_3 => ?_) (fun c_3 => ?_)
      · have c_3 : (i 23).toInt ≤ x1_3.toInt := b_le c_3
        refine lv_iload_n hx hb dX3_worsened_54 rfl (lv_at hl 1 rfl) ?_
        subst hQ
        exact W.iret (v := x1_2) hx hb hr (fun t ht hW => ⟨_, rfl, trivial, ht⟩) (fun q hq => absurd hq List.not_mem_nil) dX3_worsened_55
      · have c_3 : x1_3.toInt < (i 23).toInt := b_nle c_3
        refine lv_aload_n hx hb dX3_worsened_15 rfl (lv_at hl 2 rfl) ?_
        refine va_get (D := D) (ci := 3) (v := .ref (a 65)) (C := RX3) (T := TX3) (N := 12) hx hb hT iX3 hown hK hP 61 rfl rfl 9 (by decide) (hT _ t_396) (fun _ h9 => h9) rfl dX3_worsened_16 ?_
        refine va_get (D := D) (ci := 10) (v := .ref (a 67)) (C := RX10) (T := TX10) (N := 5) hx hb hT iX10 hown hK hP 65 rfl rfl 2 (by decide) (hT _ t_401) (fun _ h9 => h9) rfl dX3_worsened_19 ?_
        refine lv_iload_n hx hb dX3_worsened_22 rfl (lv_at hl 0 rfl) ?_
        refine va_iald hx hb hK hP 67 0 rfl rfl (vp_inI (by omega) (by omega)) dX3_worsened_23 ?_
        refine lv_topi (fun v_4 ev_4 => ?_)
        have hgv_4 : 0 ≤ v_4.toInt ∧ v_4.toInt ≤ 7 := by rw [ev_4]; exact hRr 67 _
        refine lv_iload_n hx hb dX3_worsened_24 rfl (lv_at hl 3 rfl) ?_
        refine lv_icmp_ne (tgt := 48) hx hb dX3_worsened_25 (by decide) (fun c_5 => ?_) (fun c_5 => ?_)
        · have c_5 : v_4.toInt ≠ p0.toInt := b_ne c_5
          obtain ⟨x_6, ex_6⟩ : ∃ y : Int32, y = x1_3 + 1 := ⟨_, rfl⟩
          refine lv_iinc (v := x_6) (lv' := [(3, .int x_6), (2, .int x1_2), (0, .ref (a 61)), (1, .int p0)]) hx hb dX3_worsened_48 hl (k := 0) rfl (by rw [ex_6]; rfl) (by decide) rfl (fun ls hl => ?_)
          have hx_6 : x_6.toInt = x1_3.toInt + 1 := by rw [ex_6]; have := b_rg x1_3; exact i_add (a := x1_3.toInt) (b := 1) rfl rfl (by omega) (by omega)
          refine lv_goto (tgt := 4) hx hb dX3_worsened_51 (by decide) ?_
          exact ih1 x_6 x1_2 _ (by first | omega | (simp only [Int.toNat]; omega)) (by first | omega | decide) (by first | omega | decide)  (by omega)  (lv_sub hl [0, 1, 2, 3] rfl)
        · have c_5 : v_4.toInt = p0.toInt := b_nne c_5
          refine lv_aload_n hx hb dX3_worsened_28 rfl (lv_at hl 2 rfl) ?_
          refine lv_iload_n hx hb dX3_worsened_29 rfl (lv_at hl 0 rfl) ?_
          refine vp_callSi (W.runV (As := [.int x1_3]) (rest := []) ⟨hx, hb, hml, hown, hT⟩ (c_X3_stateAtLast l D cy a i r q tl x1_3 hRi hRr (by first | omega | decide)) (cwV 1 hT (gV t_397 t_398 t_399 t_400 t_391) rfl rfl rfl (by decide +kernel) ⟨Nat.le_of_ble_eq_true rfl, Nat.le_of_ble_eq_true rfl⟩) (rP_v hP hK (va_recv hK hP (ci := 3) (q0 := 61) rfl rfl)) rfl rfl hl.1 rfl (lv_room (Nat.le_of_ble_eq_true rfl)) dX3_worsened_30 ⟨Nat.le_of_ble_eq_true rfl, Nat.le_of_ble_eq_true rfl⟩) (fun r_7 hr_7 => ?_)
          have hr_7 : 0 ≤ r_7.toInt ∧ r_7.toInt ≤ 9 := hr_7
          refine lv_aload_n hx hb dX3_worsened_33 rfl (lv_at hl 2 rfl) ?_
          refine va_get (D := D) (ci := 3) (v := .ref (a 65)) (C := RX3) (T := TX3) (N := 12) hx hb hT iX3 hown hK hP 61 rfl rfl 9 (by decide) (hT _ t_396) (fun _ h9 => h9) rfl dX3_worsened_34 ?_
          refine va_get (D := D) (ci := 10) (v := .ref (a 68)) (C := RX10) (T := TX10) (N := 5) hx hb hT iX10 hown hK hP 65 rfl rfl 3 (by decide) (hT _ t_395) (fun _ h9 => h9) rfl dX3_worsened_37 ?_
          refine lv_iload_n hx hb dX3_worsened_40 rfl (lv_at hl 0 rfl) ?_
          refine va_iald hx hb hK hP 68 0 rfl rfl (vp_inI (by omega) (by omega)) dX3_worsened_41 ?_
          refine lv_topi (fun v_8 ev_8 => ?_)
          have hgv_8 : 0 ≤ v_8.toInt ∧ v_8.toInt ≤ 9 := by rw [ev_8]; exact hRr 68 _
          refine lv_icmp_ge (tgt := 48) hx hb dX3_worsened_42 (by decide) (fun c_9 => ?_) (fun c_9 => ?_)
          · have c_9 : v_8.toInt ≤ r_7.toInt := b_le c_9
            obtain ⟨x_10, ex_10⟩ : ∃ y : Int32, y = x1_3 + 1 := ⟨_, rfl⟩
            refine lv_iinc (v := x_10) (lv' := [(3, .int x_10), (2, .int x1_2), (0, .ref (a 61)), (1, .int p0)]) hx hb dX3_worsened_48 hl (k := 0) rfl (by rw [ex_10]; rfl) (by decide) rfl (fun ls hl => ?_)
            have hx_10 : x_10.toInt = x1_3.toInt + 1 := by rw [ex_10]; have := b_rg x1_3; exact i_add (a := x1_3.toInt) (b := 1) rfl rfl (by omega) (by omega)
            refine lv_goto (tgt := 4) hx hb dX3_worsened_51 (by decide) ?_
            exact ih1 x_10 x1_2 _ (by first | omega | (simp only [Int.toNat]; omega)) (by first | omega | decide) (by first | omega | decide)  (by omega)  (lv_sub hl [0, 1, 2, 3] rfl)
          · have c_9 : r_7.toInt < v_8.toInt := b_nle c_9
            obtain ⟨x_11, ex_11⟩ : ∃ y : Int32, y = x1_2 + 1 := ⟨_, rfl⟩
            refine lv_iinc (v := x_11) (lv' := [(2, .int x_11), (3, .int x1_3), (0, .ref (a 61)), (1, .int p0)]) hx hb dX3_worsened_45 hl (k := 1) rfl (by rw [ex_11]; rfl) (by decide) rfl (fun ls hl => ?_)
            have hx_11 : x_11.toInt = x1_2.toInt + 1 := by rw [ex_11]; have := b_rg x1_2; exact i_add (a := x1_2.toInt) (b := 1) rfl rfl (by omega) (by omega)
            obtain ⟨x_12, ex_12⟩ : ∃ y : Int32, y = x1_3 + 1 := ⟨_, rfl⟩
            refine lv_iinc (v := x_12) (lv' := [(3, .int x_12), (2, .int x_11), (0, .ref (a 61)), (1, .int p0)]) hx hb dX3_worsened_48 hl (k := 1) rfl (by rw [ex_12]; rfl) (by decide) rfl (fun ls hl => ?_)
            have hx_12 : x_12.toInt = x1_3.toInt + 1 := by rw [ex_12]; have := b_rg x1_3; exact i_add (a := x1_3.toInt) (b := 1) rfl rfl (by omega) (by omega)
            refine lv_goto (tgt := 4) hx hb dX3_worsened_51 (by decide) ?_
            exact ih1 x_12 x_11 _ (by first | omega | (simp only [Int.toNat]; omega)) (by first | omega | decide) (by first | omega | decide)  (by omega)  (lv_sub hl [0, 1, 2, 3] rfl)
  exact loop_1 _ 0 0 _ (Nat.lt_succ_self _) (by first | omega | decide) (by first | omega | decide)  (by decide)  hl
set_option maxHeartbeats 4000000 in
set_option maxRecDepth 100000 in
theorem c_X10_add_r65 (l : Launch) (D : va_G) (cy : Nat → ClassId) (a : Nat → Nat) (i : Nat → Int32) (r : Nat → Nat → Int32) (q : Nat → Option Nat) (tl : va_W) (p0 p1 p2 p3 : Int32) (sz : Nat) (hRi : yRi i) (hRr : yRr r) (q0 : 0 ≤ p0.toInt ∧ p0.toInt ≤ 9) (q1 : 0 ≤ p1.toInt ∧ p1.toInt ≤ 7) (q2 : 1 ≤ p2.toInt ∧ p2.toInt ≤ 9) (q3 : 0 ≤ p3.toInt ∧ p3.toInt ≤ 360) : Met l yX10_add (Cond.code yX10_add cX10_add 5 (some .int) :: gT) { frames := 1, cells := 0, slots := 0, locals := 24 } (va_Pc [.ref (a 65), .int p0, .int p1, .int p2, .int p3] (rQ D cy (xW cy a i r q (a 20) (a 12) ++ (hW cy a i r ++ tl)) sz)) (va_Qi (fun (z : Int32) (u : (Nat → Int32) × (Nat → Nat → Int32)) => yRi u.1 ∧ yRr u.2 ∧ mEi [23] i u.1 ∧ mEr [66, 67, 68, 69] r u.2 ∧ True) (fun (u : (Nat → Int32) × (Nat → Nat → Int32)) t => va_P D vwCl (xW cy a u.1 u.2 q (a 20) (a 12) ++ (hW cy a u.1 u.2 ++ tl)) t.heap ∧ va_K D vwCl (vT cy) t ∧ va_D (va_A (xW cy a i r q (a 20) (a 12) ++ (hW cy a i r ++ tl)) sz) (xW cy a u.1 u.2 q (a 20) (a 12) ++ (hW cy a u.1 u.2 ++ tl))) (va_A (xW cy a i r q (a 20) (a 12) ++ (hW cy a i r ++ tl)) sz)) 0 0 (va_A (xW cy a i r q (a 20) (a 12) ++ (hW cy a i r ++ tl)) sz) := by
  refine Met.ofQ (cc := cX10_add) (maxL := 5) (ret := (some .int)) (by decide) rfl ?_
  intro p e s m args below meth c s₁ B hml hv Q hQ
  obtain ⟨rfl, hsz, hP, hK, hD0⟩ := hv
  have hx := B.exec
  have hb := B.bytes
  have hr := B.returns
  have hlocks := B.notSynchronized
  have hT : ∀ w ∈ gT, w.before _ s = true := fun w h => atoms_spec (ws := (Cond.code yX10_add cX10_add 5 (some .int) :: gT)) B.pre w (List.mem_cons_of_mem _ h)
  have hown : s.vm.findClass RX10 = some m.cls := findClass_of_methodNamed B.named
  subst hsz
  have hD := hD0.self (sz := s.heap.size)
  generalize hAe : va_A (xW cy a i r q (a 20) (a 12) ++ (hW cy a i r ++ tl)) s.heap.size = A at hD hQ
  have hA : ∀ q : Nat, s.heap.size ≤ q → A q := fun q h => by rw [← hAe]; exact Or.inr h
  have hS : va_S A s.heap s.heap [] := va_S.rf
  have hl := lv_entry ([.ref (a 65), .int p0, .int p1, .int p2, .int p3]) (n := 5) (Nat.le_of_ble_eq_true rfl)
  rw [lg_entry_eq]
  generalize (lg_sl ([.ref (a 65), .int p0, .int p1, .int p2, .int p3]) ++ List.replicate (5 - (lg_sl ([.ref (a 65), .int p0, .int p1, .int p2, .int p3])).length) Slot.unset).toArray = ls at hl ⊢
  have hl : lv_has ls 5 [(0, .ref (a 65)), (1, .int p0), (2, .int p1), (3, .int p2), (4, .int p3)] := hl
  have hEi : mEi [23] i i := Ei_rf
  have hEr : mEr [66, 67, 68, 69] r r := Er_rf
  refine lv_aload_n hx hb dX10_add_0 rfl (lv_at hl 0 rfl) ?_
  refine va_get (D := D) (ci := 10) (v := .int (i 23)) (C := RX10) (T := TX10) (N := 5) hx hb hT iX10 hown hK hP 65 rfl rfl 0 (by decide) (hT _ t_402) (fun _ h9 => h9) rfl dX10_add_1 ?_
  have hg_1 : 0 ≤ (i 23).toInt ∧ (i 23).toInt ≤ 20 := hRi 23
  refine lv_bipush (v := 20) hx hb dX10_add_4 (by decide) ?_
  refine lv_icmp_lt (tgt := 11) hx hb dX10_add_6 (by decide) (fun c_2 => ?_) (fun c_2 => ?_)
  · have c_2 : (i 23).toInt < 20 := b_lt c_2
    refine lv_aload_n hx hb dX10_add_11 rfl (lv_at hl 0 rfl) ?_
    refine va_get (D := D) (ci := 10) (v := .ref (a 66)) (C := RX10) (T := TX10) (N := 5) hx hb hT iX10 hown hK hP 65 rfl rfl 1 (by decide) (hT _ t_403) (fun _ h9 => h9) rfl dX10_add_12 ?_
    refine lv_aload_n hx hb dX10_add_15 rfl (lv_at hl 0 rfl) ?_
    refine va_get (D := D) (ci := 10) (v := .int (i 23)) (C := RX10) (T := TX10) (N := 5) hx hb hT iX10 hown hK hP 65 rfl rfl 0 (by decide) (hT _ t_402) (fun _ h9 => h9) rfl dX10_add_16 ?_
    refine lv_iload_n hx hb dX10_add_19 rfl (lv_at hl 1 rfl) ?_
    refine va_iast hx hb hK hP hD hS 66 0 rfl rfl (vp_inI (by omega) (by omega)) dX10_add_20 (fun H locs hP hD hS => ?_)
    rw [yS66] at hP hD
    have hRr : yRr (va_up r 66 (upd (r 66) ((i 23).toNatClampNeg) p0)) := Yr_upd hRr 66 ((i 23).toNatClampNeg) p0 ⟨by show (0 : Int) ≤ p0.toInt; omega, by show p0.toInt ≤ (9 : Int); omega⟩
    have hEr : mEr [66, 67, 68, 69] _ (va_up r 66 (upd (r 66) ((i 23).toNatClampNeg) p0)) := Er_up hEr 66 _ (by decide)
    refine lv_aload_n hx hb dX10_add_21 rfl (lv_at hl 0 rfl) ?_
    refine va_get (D := D) (ci := 10) (v := .ref (a 67)) (C := RX10) (T := TX10) (N := 5) hx hb hT iX10 hown hK hP 65 rfl rfl 2 (by decide) (hT _ t_404) (fun _ h9 => h9) rfl dX10_add_22 ?_
    refine lv_aload_n hx hb dX10_add_25 rfl (lv_at hl 0 rfl) ?_
    refine va_get (D := D) (ci := 10) (v := .int (i 23)) (C := RX10) (T := TX10) (N := 5) hx hb hT iX10 hown hK hP 65 rfl rfl 0 (by decide) (hT _ t_402) (fun _ h9 => h9) rfl dX10_add_26 ?_
    refine lv_iload_n hx hb dX10_add_29 rfl (lv_at hl 2 rfl) ?_
    refine va_iast hx hb hK hP hD hS 67 0 rfl rfl (vp_inI (by omega) (by omega)) dX10_add_30 (fun H locs hP hD hS => ?_)
    rw [yS67] at hP hD
    have hRr : yRr (va_up (va_up r 66 (upd (r 66) ((i 23).toNatClampNeg) p0)) 67 (upd (r 67) ((i 23).toNatClampNeg) p1)) := Yr_upd hRr 67 ((i 23).toNatClampNeg) p1 ⟨by show (0 : Int) ≤ p1.toInt; omega, by show p1.toInt ≤ (7 : Int); omega⟩
    have hEr : mEr [66, 67, 68, 69] _ (va_up (va_up r 66 (upd (r 66) ((i 23).toNatClampNeg) p0)) 67 (upd (r 67) ((i 23).toNatClampNeg) p1)) := Er_up hEr 67 _ (by decide)
    refine lv_aload_n hx hb dX10_add_31 rfl (lv_at hl 0 rfl) ?_
    refine va_get (D := D) (ci := 10) (v := .ref (a 68)) (C := RX10) (T := TX10) (N := 5) hx hb hT iX10 hown hK hP 65 rfl rfl 3 (by decide) (hT _ t_405) (fun _ h9 => h9) rfl dX10_add_32 ?_
    refine lv_aload_n hx hb dX10_add_35 rfl (lv_at hl 0 rfl) ?_
    refine va_get (D := D) (ci := 10) (v := .int (i 23)) (C := RX10) (T := TX10) (N := 5) hx hb hT iX10 hown hK hP 65 rfl rfl 0 (by decide) (hT _ t_402) (fun _ h9 => h9) rfl dX10_add_36 ?_
    refine lv_iload_n hx hb dX10_add_39 rfl (lv_at hl 3 rfl) ?_
    refine va_iast hx hb hK hP hD hS 68 0 rfl rfl (vp_inI (by omega) (by omega)) dX10_add_40 (fun H locs hP hD hS => ?_)
    rw [yS68] at hP hD
    have hRr : yRr (va_up (va_up (va_up r 66 (upd (r 66) ((i 23).toNatClampNeg) p0)) 67 (upd (r 67) ((i 23).toNatClampNeg) p1)) 68 (upd (r 68) ((i 23).toNatClampNeg) p2)) := Yr_upd hRr 68 ((i 23).toNatClampNeg) p2 ⟨by show (0 : Int) ≤ p2.toInt; omega, by show p2.toInt ≤ (9 : Int); omega⟩
    have hEr : mEr [66, 67, 68, 69] _ (va_up (va_up (va_up r 66 (upd (r 66) ((i 23).toNatClampNeg) p0)) 67 (upd (r 67) ((i 23).toNatClampNeg) p1)) 68 (upd (r 68) ((i 23).toNatClampNeg) p2)) := Er_up hEr 68 _ (by decide)
    refine lv_aload_n hx hb dX10_add_41 rfl (lv_at hl 0 rfl) ?_
    refine va_get (D := D) (ci := 10) (v := .ref (a 69)) (C := RX10) (T := TX10) (N := 5) hx hb hT iX10 hown hK hP 65 rfl rfl 4 (by decide) (hT _ t_406) (fun _ h9 => h9) rfl dX10_add_42 ?_
    refine lv_aload_n hx hb dX10_add_45 rfl (lv_at hl 0 rfl) ?_
    refine va_get (D := D) (ci := 10) (v := .int (i 23)) (C := RX10) (T := TX10) (N := 5) hx hb hT iX10 hown hK hP 65 rfl rfl 0 (by decide) (hT _ t_402) (fun _ h9 => h9) rfl dX10_add_46 ?_
    refine lv_iload hx hb dX10_add_49 (lv_at hl 4 rfl) ?_
    refine va_iast hx hb hK hP hD hS 69 0 rfl rfl (vp_inI (by omega) (by omega)) dX10_add_51 (fun H locs hP hD hS => ?_)
    rw [yS69] at hP hD
    have hRr : yRr (va_up (va_up (va_up (va_up r 66 (upd (r 66) ((i 23).toNatClampNeg) p0)) 67 (upd (r 67) ((i 23).toNatClampNeg) p1)) 68 (upd (r 68) ((i 23).toNatClampNeg) p2)) 69 (upd (r 69) ((i 23).toNatClampNeg) p3)) := Yr_upd hRr 69 ((i 23).toNatClampNeg) p3 ⟨by show (0 : Int) ≤ p3.toInt; omega, by show p3.toInt ≤ (360 : Int); omega⟩
    have hEr : mEr [66, 67, 68, 69] _ (va_up (va_up (va_up (va_up r 66 (upd (r 66) ((i 23).toNatClampNeg) p0)) 67 (upd (r 67) ((i 23).toNatClampNeg) p1)) 68 (upd (r 68) ((i 23).toNatClampNeg) p2)) 69 (upd (r 69) ((i 23).toNatClampNeg) p3)) := Er_up hEr 69 _ (by decide)
    refine lv_aload_n hx hb dX10_add_52 rfl (lv_at hl 0 rfl) ?_
    refine lv_dup hx hb dX10_add_53 rfl ?_
    refine va_get (D := D) (ci := 10) (v := .int (i 23)) (C := RX10) (T := TX10) (N := 5) hx hb hT iX10 hown hK hP 65 rfl rfl 0 (by decide) (hT _ t_402) (fun _ h9 => h9) rfl dX10_add_54 ?_
    refine lv_iconst (v := 1) hx hb dX10_add_57 (by decide) ?_
    refine lv_iadd hx hb dX10_add_58 ?_
    refine lv_topi (fun v_3 ev_3 => ?_)
    have hv_3 : v_3.toInt = (i 23).toInt + 1 := by rw [ev_3]; have := b_rg (i 23); exact i_add (a := (i 23).toInt) (b := 1) rfl rfl (by omega) (by omega)
    refine va_put (D := D) (ci := 10) (v := .int v_3) (ty := .int) (C := RX10) (T := TX10) (N := 5) hx hb hT iX10 tyX10 tyX10_ok nmX10 hown hK hP hD hS 65 rfl rfl 0 (by decide) (hT _ t_402) (fun _ h9 => h9) rfl (by decide +kernel) rfl rfl (Nat.le_of_ble_eq_true rfl) dX10_add_59 (fun H locs hP hD hS => ?_)
    rw [yP23] at hP hD
    have hRi := Yi_upd hRi 23 v_3 ⟨by show (0 : Int) ≤ v_3.toInt; omega, by show v_3.toInt ≤ (20 : Int); omega⟩
    have hEi := Ei_upd hEi 23 v_3 (by decide)
    refine lv_aload_n hx hb dX10_add_62 rfl (lv_at hl 0 rfl) ?_
    refine va_get (D := D) (ci := 10) (v := .int v_3) (C := RX10) (T := TX10) (N := 5) hx hb hT iX10 hown hK hP 65 rfl rfl 0 (by decide) (hT _ t_402) (fun _ h9 => h9) rfl dX10_add_63 ?_
    refine lv_iconst (v := 1) hx hb dX10_add_66 (by decide) ?_
    refine lv_isub hx hb dX10_add_67 ?_
    refine lv_topi (fun v_4 ev_4 => ?_)
    have hv_4 : v_4.toInt = v_3.toInt - 1 := by rw [ev_4]; have := b_rg v_3; exact i_sub (a := v_3.toInt) (b := 1) rfl rfl (by omega) (by omega)
    subst hQ
    exact W.iret (v := v_4) hx hb hr (fun t ht hW => ⟨⟨_, (upd i 23 v_3, va_up (va_up (va_up (va_up r 66 (upd (r 66) ((i 23).toNatClampNeg) p0)) 67 (upd (r 67) ((i 23).toNatClampNeg) p1)) 68 (upd (r 68) ((i 23).toNatClampNeg) p2)) 69 (upd (r 69) ((i 23).toNatClampNeg) p3)), rfl, ⟨hRi, hRr, hEi, hEr, trivial⟩, by rw [ht]; exact hP, va_K.moved hW.alike hK, hD⟩, hS.F ht⟩) hS.2.2 dX10_add_68
  · have c_2 : 20 ≤ (i 23).toInt := b_nlt c_2
    refine lv_iconst (v := (-1)) hx hb dX10_add_9 (by decide) ?_
    subst hQ
    exact W.iret (v := (-1)) hx hb hr (fun t ht hW => ⟨⟨_, (i, r), rfl, ⟨hRi, hRr, hEi, hEr, trivial⟩, by rw [ht]; exact hP, va_K.moved hW.alike hK, hD⟩, hS.F ht⟩) hS.2.2 dX10_add_10
set_option maxHeartbeats 4000000 in
set_option maxRecDepth 100000 in
theorem c_X10_isOf_r65 (l : Launch) (D : va_G) (cy : Nat → ClassId) (a : Nat → Nat) (i : Nat → Int32) (r : Nat → Nat → Int32) (q : Nat → Option Nat) (tl : va_W) (p0 p1 p2 : Int32) (hRi : yRi i) (hRr : yRr r) (q0 : 0 ≤ p0.toInt ∧ p0.toInt ≤ 19) : Met l yX10_isOf (Cond.code yX10_isOf cX10_isOf 4 (some .boolean) :: gT) { frames := 1, cells := 0, slots := 0, locals := 24 } (va_Pc [.ref (a 65), .int p0, .int p1, .int p2] (rP D cy (xW cy a i r q (a 20) (a 12) ++ (hW cy a i r ++ tl)))) (vp_Si (fun z => z = 0 ∨ z = 1)) 0 0 (fun _ => False) := by
  refine Met.ofQ (cc := cX10_isOf) (maxL := 4) (ret := (some .boolean)) (by decide) rfl ?_
  intro p e s m args below meth c s₁ B hml hv Q hQ
  obtain ⟨rfl, hP, hK⟩ := hv
  have hx := B.exec
  have hb := B.bytes
  have hr := B.returns
  have hlocks := B.notSynchronized
  have hT : ∀ w ∈ gT, w.before _ s = true := fun w h => atoms_spec (ws := (Cond.code yX10_isOf cX10_isOf 4 (some .boolean) :: gT)) B.pre w (List.mem_cons_of_mem _ h)
  have hown : s.vm.findClass RX10 = some m.cls := findClass_of_methodNamed B.named
  have hl := lv_entry ([.ref (a 65), .int p0, .int p1, .int p2]) (n := 4) (Nat.le_of_ble_eq_true rfl)
  rw [lg_entry_eq]
  generalize (lg_sl ([.ref (a 65), .int p0, .int p1, .int p2]) ++ List.replicate (4 - (lg_sl ([.ref (a 65), .int p0, .int p1, .int p2])).length) Slot.unset).toArray = ls at hl ⊢
  have hl : lv_has ls 4 [(0, .ref (a 65)), (1, .int p0), (2, .int p1), (3, .int p2)] := hl
  have hEi : mEi [] i i := Ei_rf
  have hEr : mEr [] r r := Er_rf
  refine lv_aload_n hx hb dX10_isOf_0 rfl (lv_at hl 0 rfl) ?_
  refine va_get (D := D) (ci := 10) (v := .ref (a 66)) (C := RX10) (T := TX10) (N := 5) hx hb hT iX10 hown hK hP 65 rfl rfl 1 (by decide) (hT _ t_403) (fun _ h9 => h9) rfl dX10_isOf_1 ?_
  refine lv_iload_n hx hb dX10_isOf_4 rfl (lv_at hl 1 rfl) ?_
  refine va_iald hx hb hK hP 66 0 rfl rfl (vp_inI (by omega) (by omega)) dX10_isOf_5 ?_
  refine lv_topi (fun v_1 ev_1 => ?_)
  have hgv_1 : 0 ≤ v_1.toInt ∧ v_1.toInt ≤ 9 := by rw [ev_1]; exact hRr 66 _
  refine lv_iload_n hx hb dX10_isOf_6 rfl (lv_at hl 2 rfl) ?_
  refine lv_icmp_ne (tgt := 24) hx hb dX10_isOf_7 (by decide) (fun c_2 => ?_) (fun c_2 => ?_)
  · have c_2 : v_1.toInt ≠ p1.toInt := b_ne c_2
    refine lv_iconst (v := 0) hx hb dX10_isOf_24 (by decide) ?_
    subst hQ
    exact W.zret hx hb hr rfl (fun t ht hW => ⟨_, rfl, Or.inl rfl, ht⟩) (fun q hq => absurd hq List.not_mem_nil) dX10_isOf_25
  · have c_2 : v_1.toInt = p1.toInt := b_nne c_2
    refine lv_aload_n hx hb dX10_isOf_10 rfl (lv_at hl 0 rfl) ?_
    refine va_get (D := D) (ci := 10) (v := .ref (a 67)) (C := RX10) (T := TX10) (N := 5) hx hb hT iX10 hown hK hP 65 rfl rfl 2 (by decide) (hT _ t_404) (fun _ h9 => h9) rfl dX10_isOf_11 ?_
    refine lv_iload_n hx hb dX10_isOf_14 rfl (lv_at hl 1 rfl) ?_
    refine va_iald hx hb hK hP 67 0 rfl rfl (vp_inI (by omega) (by omega)) dX10_isOf_15 ?_
    refine lv_topi (fun v_3 ev_3 => ?_)
    have hgv_3 : 0 ≤ v_3.toInt ∧ v_3.toInt ≤ 7 := by rw [ev_3]; exact hRr 67 _
    refine lv_iload_n hx hb dX10_isOf_16 rfl (lv_at hl 3 rfl) ?_
    refine lv_icmp_ne (tgt := 24) hx hb dX10_isOf_17 (by decide) (fun c_4 => ?_) (fun c_4 => ?_)
    · have c_4 : v_3.toInt ≠ p2.toInt := b_ne c_4
      refine lv_iconst (v := 0) hx hb dX10_isOf_24 (by decide) ?_
      subst hQ
      exact W.zret hx hb hr rfl (fun t ht hW => ⟨_, rfl, Or.inl rfl, ht⟩) (fun q hq => absurd hq List.not_mem_nil) dX10_isOf_25
    · have c_4 : v_3.toInt = p2.toInt := b_nne c_4
      refine lv_iconst (v := 1) hx hb dX10_isOf_20 (by decide) ?_
      refine lv_goto (tgt := 25) hx hb dX10_isOf_21 (by decide) ?_
      subst hQ
      exact W.zret hx hb hr rfl (fun t ht hW => ⟨_, rfl, Or.inr rfl, ht⟩) (fun q hq => absurd hq List.not_mem_nil) dX10_isOf_25
set_option maxHeartbeats 4000000 in
set_option maxRecDepth 100000 in
theorem c_X10_add_r70 (l : Launch) (D : va_G) (cy : Nat → ClassId) (a : Nat → Nat) (i : Nat → Int32) (r : Nat → Nat → Int32) (q : Nat → Option Nat) (tl : va_W) (p0 p1 p2 p3 : Int32) (sz : Nat) (hRi : yRi i) (hRr : yRr r) (q0 : 0 ≤ p0.toInt ∧ p0.toInt ≤ 9) (q1 : 0 ≤ p1.toInt ∧ p1.toInt ≤ 7) (q2 : 1 ≤ p2.toInt ∧ p2.toInt ≤ 9) (q3 : 0 ≤ p3.toInt ∧ p3.toInt ≤ 360) : Met l yX10_add (Cond.code yX10_add cX10_add 5 (some .int) :: gT) { frames := 1, cells := 0, slots := 0, locals := 24 } (va_Pc [.ref (a 70), .int p0, .int p1, .int p2, .int p3] (rQ D cy (xW cy a i r q (a 20) (a 12) ++ (hW cy a i r ++ tl)) sz)) (va_Qi (fun (z : Int32) (u : (Nat → Int32) × (Nat → Nat → Int32)) => yRi u.1 ∧ yRr u.2 ∧ mEi [24] i u.1 ∧ mEr [71, 72, 73, 74] r u.2 ∧ True) (fun (u : (Nat → Int32) × (Nat → Nat → Int32)) t => va_P D vwCl (xW cy a u.1 u.2 q (a 20) (a 12) ++ (hW cy a u.1 u.2 ++ tl)) t.heap ∧ va_K D vwCl (vT cy) t ∧ va_D (va_A (xW cy a i r q (a 20) (a 12) ++ (hW cy a i r ++ tl)) sz) (xW cy a u.1 u.2 q (a 20) (a 12) ++ (hW cy a u.1 u.2 ++ tl))) (va_A (xW cy a i r q (a 20) (a 12) ++ (hW cy a i r ++ tl)) sz)) 0 0 (va_A (xW cy a i r q (a 20) (a 12) ++ (hW cy a i r ++ tl)) sz) := by
  refine Met.ofQ (cc := cX10_add) (maxL := 5) (ret := (some .int)) (by decide) rfl ?_
  intro p e s m args below meth c s₁ B hml hv Q hQ
  obtain ⟨rfl, hsz, hP, hK, hD0⟩ := hv
  have hx := B.exec
  have hb := B.bytes
  have hr := B.returns
  have hlocks := B.notSynchronized
  have hT : ∀ w ∈ gT, w.before _ s = true := fun w h => atoms_spec (ws := (Cond.code yX10_add cX10_add 5 (some .int) :: gT)) B.pre w (List.mem_cons_of_mem _ h)
  have hown : s.vm.findClass RX10 = some m.cls := findClass_of_methodNamed B.named
  subst hsz
  have hD := hD0.self (sz := s.heap.size)
  generalize hAe : va_A (xW cy a i r q (a 20) (a 12) ++ (hW cy a i r ++ tl)) s.heap.size = A at hD hQ
  have hA : ∀ q : Nat, s.heap.size ≤ q → A q := fun q h => by rw [← hAe]; exact Or.inr h
  have hS : va_S A s.heap s.heap [] := va_S.rf
  have hl := lv_entry ([.ref (a 70), .int p0, .int p1, .int p2, .int p3]) (n := 5) (Nat.le_of_ble_eq_true rfl)
  rw [lg_entry_eq]
  generalize (lg_sl ([.ref (a 70), .int p0, .int p1, .int p2, .int p3]) ++ List.replicate (5 - (lg_sl ([.ref (a 70), .int p0, .int p1, .int p2, .int p3])).length) Slot.unset).toArray = ls at hl ⊢
  have hl : lv_has ls 5 [(0, .ref (a 70)), (1, .int p0), (2, .int p1), (3, .int p2), (4, .int p3)] := hl
  have hEi : mEi [24] i i := Ei_rf
  have hEr : mEr [71, 72, 73, 74] r r := Er_rf
  refine lv_aload_n hx hb dX10_add_0 rfl (lv_at hl 0 rfl) ?_
  refine va_get (D := D) (ci := 10) (v := .int (i 24)) (C := RX10) (T := TX10) (N := 5) hx hb hT iX10 hown hK hP 70 rfl rfl 0 (by decide) (hT _ t_402) (fun _ h9 => h9) rfl dX10_add_1 ?_
  have hg_1 : 0 ≤ (i 24).toInt ∧ (i 24).toInt ≤ 20 := hRi 24
  refine lv_bipush (v := 20) hx hb dX10_add_4 (by decide) ?_
  refine lv_icmp_lt (tgt := 11) hx hb dX10_add_6 (by decide) (fun c_2 => ?_) (fun c_2 => ?_)
  · have c_2 : (i 24).toInt < 20 := b_lt c_2
    refine lv_aload_n hx hb dX10_add_11 rfl (lv_at hl 0 rfl) ?_
    refine va_get (D := D) (ci := 10) (v := .ref (a 71)) (C := RX10) (T := TX10) (N := 5) hx hb hT iX10 hown hK hP 70 rfl rfl 1 (by decide) (hT _ t_403) (fun _ h9 => h9) rfl dX10_add_12 ?_
    refine lv_aload_n hx hb dX10_add_15 rfl (lv_at hl 0 rfl) ?_
    refine va_get (D := D) (ci := 10) (v := .int (i 24)) (C := RX10) (T := TX10) (N := 5) hx hb hT iX10 hown hK hP 70 rfl rfl 0 (by decide) (hT _ t_402) (fun _ h9 => h9) rfl dX10_add_16 ?_
    refine lv_iload_n hx hb dX10_add_19 rfl (lv_at hl 1 rfl) ?_
    refine va_iast hx hb hK hP hD hS 71 0 rfl rfl (vp_inI (by omega) (by omega)) dX10_add_20 (fun H locs hP hD hS => ?_)
    rw [yS71] at hP hD
    have hRr : yRr (va_up r 71 (upd (r 71) ((i 24).toNatClampNeg) p0)) := Yr_upd hRr 71 ((i 24).toNatClampNeg) p0 ⟨by show (0 : Int) ≤ p0.toInt; omega, by show p0.toInt ≤ (9 : Int); omega⟩
    have hEr : mEr [71, 72, 73, 74] _ (va_up r 71 (upd (r 71) ((i 24).toNatClampNeg) p0)) := Er_up hEr 71 _ (by decide)
    refine lv_aload_n hx hb dX10_add_21 rfl (lv_at hl 0 rfl) ?_
    refine va_get (D := D) (ci := 10) (v := .ref (a 72)) (C := RX10) (T := TX10) (N := 5) hx hb hT iX10 hown hK hP 70 rfl rfl 2 (by decide) (hT _ t_404) (fun _ h9 => h9) rfl dX10_add_22 ?_
    refine lv_aload_n hx hb dX10_add_25 rfl (lv_at hl 0 rfl) ?_
    refine va_get (D := D) (ci := 10) (v := .int (i 24)) (C := RX10) (T := TX10) (N := 5) hx hb hT iX10 hown hK hP 70 rfl rfl 0 (by decide) (hT _ t_402) (fun _ h9 => h9) rfl dX10_add_26 ?_
    refine lv_iload_n hx hb dX10_add_29 rfl (lv_at hl 2 rfl) ?_
    refine va_iast hx hb hK hP hD hS 72 0 rfl rfl (vp_inI (by omega) (by omega)) dX10_add_30 (fun H locs hP hD hS => ?_)
    rw [yS72] at hP hD
    have hRr : yRr (va_up (va_up r 71 (upd (r 71) ((i 24).toNatClampNeg) p0)) 72 (upd (r 72) ((i 24).toNatClampNeg) p1)) := Yr_upd hRr 72 ((i 24).toNatClampNeg) p1 ⟨by show (0 : Int) ≤ p1.toInt; omega, by show p1.toInt ≤ (7 : Int); omega⟩
    have hEr : mEr [71, 72, 73, 74] _ (va_up (va_up r 71 (upd (r 71) ((i 24).toNatClampNeg) p0)) 72 (upd (r 72) ((i 24).toNatClampNeg) p1)) := Er_up hEr 72 _ (by decide)
    refine lv_aload_n hx hb dX10_add_31 rfl (lv_at hl 0 rfl) ?_
    refine va_get (D := D) (ci := 10) (v := .ref (a 73)) (C := RX10) (T := TX10) (N := 5) hx hb hT iX10 hown hK hP 70 rfl rfl 3 (by decide) (hT _ t_405) (fun _ h9 => h9) rfl dX10_add_32 ?_
    refine lv_aload_n hx hb dX10_add_35 rfl (lv_at hl 0 rfl) ?_
    refine va_get (D := D) (ci := 10) (v := .int (i 24)) (C := RX10) (T := TX10) (N := 5) hx hb hT iX10 hown hK hP 70 rfl rfl 0 (by decide) (hT _ t_402) (fun _ h9 => h9) rfl dX10_add_36 ?_
    refine lv_iload_n hx hb dX10_add_39 rfl (lv_at hl 3 rfl) ?_
    refine va_iast hx hb hK hP hD hS 73 0 rfl rfl (vp_inI (by omega) (by omega)) dX10_add_40 (fun H locs hP hD hS => ?_)
    rw [yS73] at hP hD
    have hRr : yRr (va_up (va_up (va_up r 71 (upd (r 71) ((i 24).toNatClampNeg) p0)) 72 (upd (r 72) ((i 24).toNatClampNeg) p1)) 73 (upd (r 73) ((i 24).toNatClampNeg) p2)) := Yr_upd hRr 73 ((i 24).toNatClampNeg) p2 ⟨by show (0 : Int) ≤ p2.toInt; omega, by show p2.toInt ≤ (9 : Int); omega⟩
    have hEr : mEr [71, 72, 73, 74] _ (va_up (va_up (va_up r 71 (upd (r 71) ((i 24).toNatClampNeg) p0)) 72 (upd (r 72) ((i 24).toNatClampNeg) p1)) 73 (upd (r 73) ((i 24).toNatClampNeg) p2)) := Er_up hEr 73 _ (by decide)
    refine lv_aload_n hx hb dX10_add_41 rfl (lv_at hl 0 rfl) ?_
    refine va_get (D := D) (ci := 10) (v := .ref (a 74)) (C := RX10) (T := TX10) (N := 5) hx hb hT iX10 hown hK hP 70 rfl rfl 4 (by decide) (hT _ t_406) (fun _ h9 => h9) rfl dX10_add_42 ?_
    refine lv_aload_n hx hb dX10_add_45 rfl (lv_at hl 0 rfl) ?_
    refine va_get (D := D) (ci := 10) (v := .int (i 24)) (C := RX10) (T := TX10) (N := 5) hx hb hT iX10 hown hK hP 70 rfl rfl 0 (by decide) (hT _ t_402) (fun _ h9 => h9) rfl dX10_add_46 ?_
    refine lv_iload hx hb dX10_add_49 (lv_at hl 4 rfl) ?_
    refine va_iast hx hb hK hP hD hS 74 0 rfl rfl (vp_inI (by omega) (by omega)) dX10_add_51 (fun H locs hP hD hS => ?_)
    rw [yS74] at hP hD
    have hRr : yRr (va_up (va_up (va_up (va_up r 71 (upd (r 71) ((i 24).toNatClampNeg) p0)) 72 (upd (r 72) ((i 24).toNatClampNeg) p1)) 73 (upd (r 73) ((i 24).toNatClampNeg) p2)) 74 (upd (r 74) ((i 24).toNatClampNeg) p3)) := Yr_upd hRr 74 ((i 24).toNatClampNeg) p3 ⟨by show (0 : Int) ≤ p3.toInt; omega, by show p3.toInt ≤ (360 : Int); omega⟩
    have hEr : mEr [71, 72, 73, 74] _ (va_up (va_up (va_up (va_up r 71 (upd (r 71) ((i 24).toNatClampNeg) p0)) 72 (upd (r 72) ((i 24).toNatClampNeg) p1)) 73 (upd (r 73) ((i 24).toNatClampNeg) p2)) 74 (upd (r 74) ((i 24).toNatClampNeg) p3)) := Er_up hEr 74 _ (by decide)
    refine lv_aload_n hx hb dX10_add_52 rfl (lv_at hl 0 rfl) ?_
    refine lv_dup hx hb dX10_add_53 rfl ?_
    refine va_get (D := D) (ci := 10) (v := .int (i 24)) (C := RX10) (T := TX10) (N := 5) hx hb hT iX10 hown hK hP 70 rfl rfl 0 (by decide) (hT _ t_402) (fun _ h9 => h9) rfl dX10_add_54 ?_
    refine lv_iconst (v := 1) hx hb dX10_add_57 (by decide) ?_
    refine lv_iadd hx hb dX10_add_58 ?_
    refine lv_topi (fun v_3 ev_3 => ?_)
    have hv_3 : v_3.toInt = (i 24).toInt + 1 := by rw [ev_3]; have := b_rg (i 24); exact i_add (a := (i 24).toInt) (b := 1) rfl rfl (by omega) (by omega)
    refine va_put (D := D) (ci := 10) (v := .int v_3) (ty := .int) (C := RX10) (T := TX10) (N := 5) hx hb hT iX10 tyX10 tyX10_ok nmX10 hown hK hP hD hS 70 rfl rfl 0 (by decide) (hT _ t_402) (fun _ h9 => h9) rfl (by decide +kernel) rfl rfl (Nat.le_of_ble_eq_true rfl) dX10_add_59 (fun H locs hP hD hS => ?_)
    rw [yP24] at hP hD
    have hRi := Yi_upd hRi 24 v_3 ⟨by show (0 : Int) ≤ v_3.toInt; omega, by show v_3.toInt ≤ (20 : Int); omega⟩
    have hEi := Ei_upd hEi 24 v_3 (by decide)
    refine lv_aload_n hx hb dX10_add_62 rfl (lv_at hl 0 rfl) ?_
    refine va_get (D := D) (ci := 10) (v := .int v_3) (C := RX10) (T := TX10) (N := 5) hx hb hT iX10 hown hK hP 70 rfl rfl 0 (by decide) (hT _ t_402) (fun _ h9 => h9) rfl dX10_add_63 ?_
    refine lv_iconst (v := 1) hx hb dX10_add_66 (by decide) ?_
    refine lv_isub hx hb dX10_add_67 ?_
    refine lv_topi (fun v_4 ev_4 => ?_)
    have hv_4 : v_4.toInt = v_3.toInt - 1 := by rw [ev_4]; have := b_rg v_3; exact i_sub (a := v_3.toInt) (b := 1) rfl rfl (by omega) (by omega)
    subst hQ
    exact W.iret (v := v_4) hx hb hr (fun t ht hW => ⟨⟨_, (upd i 24 v_3, va_up (va_up (va_up (va_up r 71 (upd (r 71) ((i 24).toNatClampNeg) p0)) 72 (upd (r 72) ((i 24).toNatClampNeg) p1)) 73 (upd (r 73) ((i 24).toNatClampNeg) p2)) 74 (upd (r 74) ((i 24).toNatClampNeg) p3)), rfl, ⟨hRi, hRr, hEi, hEr, trivial⟩, by rw [ht]; exact hP, va_K.moved hW.alike hK, hD⟩, hS.F ht⟩) hS.2.2 dX10_add_68
  · have c_2 : 20 ≤ (i 24).toInt := b_nlt c_2
    refine lv_iconst (v := (-1)) hx hb dX10_add_9 (by decide) ?_
    subst hQ
    exact W.iret (v := (-1)) hx hb hr (fun t ht hW => ⟨⟨_, (i, r), rfl, ⟨hRi, hRr, hEi, hEr, trivial⟩, by rw [ht]; exact hP, va_K.moved hW.alike hK, hD⟩, hS.F ht⟩) hS.2.2 dX10_add_10
set_option maxHeartbeats 4000000 in
set_option maxRecDepth 100000 in
theorem c_X10_isOf_r70 (l : Launch) (D : va_G) (cy : Nat → ClassId) (a : Nat → Nat) (i : Nat → Int32) (r : Nat → Nat → Int32) (q : Nat → Option Nat) (tl : va_W) (p0 p1 p2 : Int32) (hRi : yRi i) (hRr : yRr r) (q0 : 0 ≤ p0.toInt ∧ p0.toInt ≤ 19) : Met l yX10_isOf (Cond.code yX10_isOf cX10_isOf 4 (some .boolean) :: gT) { frames := 1, cells := 0, slots := 0, locals := 24 } (va_Pc [.ref (a 70), .int p0, .int p1, .int p2] (rP D cy (xW cy a i r q (a 20) (a 12) ++ (hW cy a i r ++ tl)))) (vp_Si (fun z => z = 0 ∨ z = 1)) 0 0 (fun _ => False) := by
  refine Met.ofQ (cc := cX10_isOf) (maxL := 4) (ret := (some .boolean)) (by decide) rfl ?_
  intro p e s m args below meth c s₁ B hml hv Q hQ
  obtain ⟨rfl, hP, hK⟩ := hv
  have hx := B.exec
  have hb := B.bytes
  have hr := B.returns
  have hlocks := B.notSynchronized
  have hT : ∀ w ∈ gT, w.before _ s = true := fun w h => atoms_spec (ws := (Cond.code yX10_isOf cX10_isOf 4 (some .boolean) :: gT)) B.pre w (List.mem_cons_of_mem _ h)
  have hown : s.vm.findClass RX10 = some m.cls := findClass_of_methodNamed B.named
  have hl := lv_entry ([.ref (a 70), .int p0, .int p1, .int p2]) (n := 4) (Nat.le_of_ble_eq_true rfl)
  rw [lg_entry_eq]
  generalize (lg_sl ([.ref (a 70), .int p0, .int p1, .int p2]) ++ List.replicate (4 - (lg_sl ([.ref (a 70), .int p0, .int p1, .int p2])).length) Slot.unset).toArray = ls at hl ⊢
  have hl : lv_has ls 4 [(0, .ref (a 70)), (1, .int p0), (2, .int p1), (3, .int p2)] := hl
  have hEi : mEi [] i i := Ei_rf
  have hEr : mEr [] r r := Er_rf
  refine lv_aload_n hx hb dX10_isOf_0 rfl (lv_at hl 0 rfl) ?_
  refine va_get (D := D) (ci := 10) (v := .ref (a 71)) (C := RX10) (T := TX10) (N := 5) hx hb hT iX10 hown hK hP 70 rfl rfl 1 (by decide) (hT _ t_403) (fun _ h9 => h9) rfl dX10_isOf_1 ?_
  refine lv_iload_n hx hb dX10_isOf_4 rfl (lv_at hl 1 rfl) ?_
  refine va_iald hx hb hK hP 71 0 rfl rfl (vp_inI (by omega) (by omega)) dX10_isOf_5 ?_
  refine lv_topi (fun v_1 ev_1 => ?_)
  have hgv_1 : 0 ≤ v_1.toInt ∧ v_1.toInt ≤ 9 := by rw [ev_1]; exact hRr 71 _
  refine lv_iload_n hx hb dX10_isOf_6 rfl (lv_at hl 2 rfl) ?_
  refine lv_icmp_ne (tgt := 24) hx hb dX10_isOf_7 (by decide) (fun c_2 => ?_) (fun c_2 => ?_)
  · have c_2 : v_1.toInt ≠ p1.toInt := b_ne c_2
    refine lv_iconst (v := 0) hx hb dX10_isOf_24 (by decide) ?_
    subst hQ
    exact W.zret hx hb hr rfl (fun t ht hW => ⟨_, rfl, Or.inl rfl, ht⟩) (fun q hq => absurd hq List.not_mem_nil) dX10_isOf_25
  · have c_2 : v_1.toInt = p1.toInt := b_nne c_2
    refine lv_aload_n hx hb dX10_isOf_10 rfl (lv_at hl 0 rfl) ?_
    refine va_get (D := D) (ci := 10) (v := .ref (a 72)) (C := RX10) (T := TX10) (N := 5) hx hb hT iX10 hown hK hP 70 rfl rfl 2 (by decide) (hT _ t_404) (fun _ h9 => h9) rfl dX10_isOf_11 ?_
    refine lv_iload_n hx hb dX10_isOf_14 rfl (lv_at hl 1 rfl) ?_
    refine va_iald hx hb hK hP 72 0 rfl rfl (vp_inI (by omega) (by omega)) dX10_isOf_15 ?_
    refine lv_topi (fun v_3 ev_3 => ?_)
    have hgv_3 : 0 ≤ v_3.toInt ∧ v_3.toInt ≤ 7 := by rw [ev_3]; exact hRr 72 _
    refine lv_iload_n hx hb dX10_isOf_16 rfl (lv_at hl 3 rfl) ?_
    refine lv_icmp_ne (tgt := 24) hx hb dX10_isOf_17 (by decide) (fun c_4 => ?_) (fun c_4 => ?_)
    · have c_4 : v_3.toInt ≠ p2.toInt := b_ne c_4
      refine lv_iconst (v := 0) hx hb dX10_isOf_24 (by decide) ?_
      subst hQ
      exact W.zret hx hb hr rfl (fun t ht hW => ⟨_, rfl, Or.inl rfl, ht⟩) (fun q hq => absurd hq List.not_mem_nil) dX10_isOf_25
    · have c_4 : v_3.toInt = p2.toInt := b_nne c_4
      refine lv_iconst (v := 1) hx hb dX10_isOf_20 (by decide) ?_
      refine lv_goto (tgt := 25) hx hb dX10_isOf_21 (by decide) ?_
      subst hQ
      exact W.zret hx hb hr rfl (fun t ht hW => ⟨_, rfl, Or.inr rfl, ht⟩) (fun q hq => absurd hq List.not_mem_nil) dX10_isOf_25
set_option maxHeartbeats 4000000 in
set_option maxRecDepth 100000 in
theorem c_X4_change (l : Launch) (D : va_G) (cy : Nat → ClassId) (a : Nat → Nat) (i : Nat → Int32) (r : Nat → Nat → Int32) (q : Nat → Option Nat) (tl : va_W) (p0 p1 : Int32) (sz : Nat) (hRi : yRi i) (hRr : yRr r) : Met l yX4_change (Cond.code yX4_change cX4_change 4 none :: gT) { frames := 1, cells := 0, slots := 0, locals := 24 } (va_Pc [.ref (a 5), .int p0, .int p1] (rQ D cy (xW cy a i r q (a 20) (a 12) ++ tl) sz)) (va_Qv (fun u : Nat → Nat → Int32 => yRr u ∧ mEr [6] r u ∧ True) (fun (u : Nat → Nat → Int32) t => va_P D vwCl (xW cy a i u q (a 20) (a 12) ++ tl) t.heap ∧ va_K D vwCl (vT cy) t ∧ va_D (va_A (xW cy a i r q (a 20) (a 12) ++ tl) sz) (xW cy a i u q (a 20) (a 12) ++ tl)) (va_A (xW cy a i r q (a 20) (a 12) ++ tl) sz)) 0 0 (va_A (xW cy a i r q (a 20) (a 12) ++ tl) sz) := by
  refine Met.ofQ (cc := cX4_change) (maxL := 4) (ret := none) (by decide) rfl ?_
  intro p e s m args below meth c s₁ B hml hv Q hQ
  obtain ⟨rfl, hsz, hP, hK, hD0⟩ := hv
  have hx := B.exec
  have hb := B.bytes
  have hr := B.returns
  have hlocks := B.notSynchronized
  have hT : ∀ w ∈ gT, w.before _ s = true := fun w h => atoms_spec (ws := (Cond.code yX4_change cX4_change 4 none :: gT)) B.pre w (List.mem_cons_of_mem _ h)
  have hown : s.vm.findClass RX4 = some m.cls := findClass_of_methodNamed B.named
  subst hsz
  have hD := hD0.self (sz := s.heap.size)
  generalize hAe : va_A (xW cy a i r q (a 20) (a 12) ++ tl) s.heap.size = A at hD hQ
  have hA : ∀ q : Nat, s.heap.size ≤ q → A q := fun q h => by rw [← hAe]; exact Or.inr h
  have hS : va_S A s.heap s.heap [] := va_S.rf
  have hl := lv_entry ([.ref (a 5), .int p0, .int p1]) (n := 4) (Nat.le_of_ble_eq_true rfl)
  rw [lg_entry_eq]
  generalize (lg_sl ([.ref (a 5), .int p0, .int p1]) ++ List.replicate (4 - (lg_sl ([.ref (a 5), .int p0, .int p1])).length) Slot.unset).toArray = ls at hl ⊢
  have hl : lv_has ls 4 [(0, .ref (a 5)), (1, .int p0), (2, .int p1)] := hl
  have hEi : mEi [] i i := Ei_rf
  have hEr : mEr [6] r r := Er_rf
  refine lv_iconst (v := 1) hx hb dX4_change_0 (by decide) ?_
  refine lv_istore_n (lv' := [(3, .int 1), (0, .ref (a 5)), (1, .int p0), (2, .int p1)]) hx hb dX4_change_1 rfl hl (by decide) rfl (fun ls hl => ?_)
  have loop_1 : ∀ (n : Nat) (x1_3 : Int32) (r1 : Nat → Nat → Int32) (H : Heap) (locs : List Loc) (ls : Array Slot), (10 - x1_3.toInt).toNat < n → (0 ≤ x1_3.toInt ∧ x1_3.toInt ≤ 10) → yRr r1 → mEr [6] r r1 → va_P D vwCl (xW cy a i r1 q (a 20) (a 12) ++ tl) H → va_D A (xW cy a i r1 q (a 20) (a 12) ++ tl) → va_S A s.heap H locs → lv_has ls 4 [(3, .int x1_3), (0, .ref (a 5)), (1, .int p0), (2, .int p1)] → W p l e ({ frames := 1, cells := 0, slots := 0, locals := 24 } : Room) s m ([.ref (a 5), .int p0, .int p1] : List Value).toArray below meth c H locs 0 0 Q (F0 m 2 ls []) := by
    intro n
    induction n with
    | zero =>
      intro x1_3 r1 H locs ls hm1 hf1_0 hRr hEr hP hD hS hl
      exact absurd hm1 (by omega)
    | succ n ih1 =>
      intro x1_3 r1 H locs ls hm1 hf1_0 hRr hEr hP hD hS hl
      refine lv_iload_n hx hb dX4_change_2 rfl (lv_at hl 0 rfl) ?_
      refine lv_iload_n hx hb dX4_change_3 rfl (lv_at hl 2 rfl) ?_
      refine lv_icmp_gt (tgt := 29) hx hb dX4_change_4 (by decide) (fun c_2 => ?_) (fun c_2 => ?_)
      · have c_2 : p0.toInt < x1_3.toInt := b_lt c_2
        subst hQ
        exact W.vret hx hb hr (fun t ht hW => ⟨⟨r1, rfl, ⟨hRr, hEr, trivial⟩, by rw [ht]; exact hP, va_K.moved hW.alike hK, hD⟩, hS.F ht⟩) hS.2.2 dX4_change_29
      · have c_2 : x1_3.toInt ≤ p0.toInt := b_nlt c_2
        refine lv_iload_n hx hb dX4_change_7 rfl (lv_at hl 0 rfl) ?_
        refine lv_bipush (v := 9) hx hb dX4_change_8 (by decide) ?_
        refine lv_icmp_gt (tgt := 29) hx hb dX4_change_10 (by decide) (fun c_3 => ?_) (fun c_3 => ?_)
        · have c_3 : 9 < x1_3.toInt := b_lt c_3
          subst hQ
          exact W.vret hx hb hr (fun t ht hW => ⟨⟨r1, rfl, ⟨hRr, hEr, trivial⟩, by rw [ht]; exact hP, va_K.moved hW.alike hK, hD⟩, hS.F ht⟩) hS.2.2 dX4_change_29
        · have c_3 : x1_3.toInt ≤ 9 := b_nlt c_3
          refine lv_aload_n hx hb dX4_change_13 rfl (lv_at hl 1 rfl) ?_
          refine va_get (D := D) (ci := 4) (v := .ref (a 6)) (C := RX4) (T := TX4) (N := 2) hx hb hT iX4 hown hK hP 5 rfl rfl 0 (by decide) (hT _ t_407) (fun _ h9 => h9) rfl dX4_change_14 ?_
          refine lv_iload_n hx hb dX4_change_17 rfl (lv_at hl 0 rfl) ?_
          refine lv_dup2_11 hx hb dX4_change_18 rfl rfl ?_
          refine va_iald hx hb hK hP 6 0 rfl rfl (vp_inI (by omega) (by omega)) dX4_change_19 ?_
          refine lv_topi (fun v_4 ev_4 => ?_)
          refine lv_iload_n hx hb dX4_change_20 rfl (lv_at hl 3 rfl) ?_
          refine lv_iadd hx hb dX4_change_21 ?_
          refine lv_topi (fun v_5 ev_5 => ?_)
          refine va_iast hx hb hK hP hD hS 6 0 rfl rfl (vp_inI (by omega) (by omega)) dX4_change_22 (fun H locs hP hD hS => ?_)
          rw [zS6] at hP hD
          have hRr : yRr (va_up r1 6 (upd (r1 6) x1_3.toNatClampNeg v_5)) := Yr_upd hRr 6 (x1_3.toNatClampNeg) v_5 (b_rg _)
          have hEr : mEr [6] _ (va_up r1 6 (upd (r1 6) x1_3.toNatClampNeg v_5)) := Er_up hEr 6 _ (by decide)
          obtain ⟨x_6, ex_6⟩ : ∃ y : Int32, y = x1_3 + 1 := ⟨_, rfl⟩
          refine lv_iinc (v := x_6) (lv' := [(3, .int x_6), (0, .ref (a 5)), (1, .int p0), (2, .int p1)]) hx hb dX4_change_23 hl (k := 0) rfl (by rw [ex_6]; rfl) (by decide) rfl (fun ls hl => ?_)
          have hx_6 : x_6.toInt = x1_3.toInt + 1 := by rw [ex_6]; have := b_rg x1_3; exact i_add (a := x1_3.toInt) (b := 1) rfl rfl (by omega) (by omega)
          refine lv_goto (tgt := 2) hx hb dX4_change_26 (by decide) ?_
          exact ih1 x_6 (va_up r1 6 (upd (r1 6) x1_3.toNatClampNeg v_5)) _ _ _ (by first | omega | (simp only [Int.toNat]; omega)) (by first | omega | decide) hRr hEr  hP hD hS (lv_sub hl [0, 1, 2, 3] rfl)
  exact loop_1 _ 1 r _ _ _ (Nat.lt_succ_self _) (by first | omega | decide) hRr hEr  hP hD hS hl
set_option maxHeartbeats 4000000 in
set_option maxRecDepth 100000 in
theorem c_X4_fits (l : Launch) (D : va_G) (cy : Nat → ClassId) (a : Nat → Nat) (i : Nat → Int32) (r : Nat → Nat → Int32) (q : Nat → Option Nat) (tl : va_W) (p0 p1 : Int32) (hRi : yRi i) (hRr : yRr r) (q0 : 0 ≤ p0.toInt ∧ p0.toInt ≤ 9) (q1 : 0 ≤ p1.toInt ∧ p1.toInt ≤ 9) : Met l yX4_fits (Cond.code yX4_fits cX4_fits 4 (some .boolean) :: gT) { frames := 1, cells := 0, slots := 0, locals := 24 } (va_Pc [.ref (a 5), .int p0, .int p1] (rP D cy (xW cy a i r q (a 20) (a 12) ++ tl))) (vp_Si (fun z => z = 0 ∨ z = 1)) 0 0 (fun _ => False) := by
  refine Met.ofQ (cc := cX4_fits) (maxL := 4) (ret := (some .boolean)) (by decide) rfl ?_
  intro p e s m args below meth c s₁ B hml hv Q hQ
  obtain ⟨rfl, hP, hK⟩ := hv
  have hx := B.exec
  have hb := B.bytes
  have hr := B.returns
  have hlocks := B.notSynchronized
  have hT : ∀ w ∈ gT, w.before _ s = true := fun w h => atoms_spec (ws := (Cond.code yX4_fits cX4_fits 4 (some .boolean) :: gT)) B.pre w (List.mem_cons_of_mem _ h)
  have hown : s.vm.findClass RX4 = some m.cls := findClass_of_methodNamed B.named
  have hl := lv_entry ([.ref (a 5), .int p0, .int p1]) (n := 4) (Nat.le_of_ble_eq_true rfl)
  rw [lg_entry_eq]
  generalize (lg_sl ([.ref (a 5), .int p0, .int p1]) ++ List.replicate (4 - (lg_sl ([.ref (a 5), .int p0, .int p1])).length) Slot.unset).toArray = ls at hl ⊢
  have hl : lv_has ls 4 [(0, .ref (a 5)), (1, .int p0), (2, .int p1)] := hl
  have hEi : mEi [] i i := Ei_rf
  have hEr : mEr [] r r := Er_rf
  refine lv_iload_n hx hb dX4_fits_0 rfl (lv_at hl 2 rfl) ?_
  refine lv_iconst (v := 1) hx hb dX4_fits_1 (by decide) ?_
  refine lv_iadd hx hb dX4_fits_2 ?_
  refine lv_topi (fun v_1 ev_1 => ?_)
  have hv_1 : v_1.toInt = p1.toInt + 1 := by rw [ev_1]; have := b_rg p1; exact i_add (a := p1.toInt) (b := 1) rfl rfl (by omega) (by omega)
  refine lv_istore_n (lv' := [(3, .int v_1), (0, .ref (a 5)), (1, .int p0), (2, .int p1)]) hx hb dX4_fits_3 rfl hl (by decide) rfl (fun ls hl => ?_)
  have loop_2 : ∀ (n : Nat) (x2_3 : Int32) (ls : Array Slot), (10 - x2_3.toInt).toNat < n → (0 ≤ x2_3.toInt ∧ x2_3.toInt ≤ 10) → lv_has ls 4 [(3, .int x2_3), (0, .ref (a 5)), (1, .int p0), (2, .int p1)] → W p l e ({ frames := 1, cells := 0, slots := 0, locals := 24 } : Room) s m ([.ref (a 5), .int p0, .int p1] : List Value).toArray below meth c s.heap [] 0 0 Q (F0 m 4 ls []) := by
    intro n
    induction n with
    | zero =>
      intro x2_3 ls hm2 hf2_0 hl
      exact absurd hm2 (by omega)
    | succ n ih2 =>
      intro x2_3 ls hm2 hf2_0 hl
      refine lv_iload_n hx hb dX4_fits_4 rfl (lv_at hl 0 rfl) ?_
      refine lv_iload_n hx hb dX4_fits_5 rfl (lv_at hl 2 rfl) ?_
      refine lv_icmp_gt (tgt := 32) hx hb dX4_fits_6 (by decide) (fun c_3 => ?_) (fun c_3 => ?_)
      · have c_3 : p0.toInt < x2_3.toInt := b_lt c_3
        refine lv_iload_n hx hb dX4_fits_32 rfl (lv_at hl 2 rfl) ?_
        refine lv_iconst (v := 1) hx hb dX4_fits_33 (by decide) ?_
        refine lv_iadd hx hb dX4_fits_34 ?_
        refine lv_topi (fun v_4 ev_4 => ?_)
        have hv_4 : v_4.toInt = p0.toInt + 1 := by rw [ev_4]; have := b_rg p0; exact i_add (a := p0.toInt) (b := 1) rfl rfl (by omega) (by omega)
        refine lv_istore_n (lv' := [(3, .int v_4), (0, .ref (a 5)), (1, .int p0), (2, .int p1)]) hx hb dX4_fits_35 rfl hl (by decide) rfl (fun ls hl => ?_)
        have loop_5 : ∀ (n : Nat) (x5_3 : Int32) (ls : Array Slot), (10 - x5_3.toInt).toNat < n → (0 ≤ x5_3.toInt ∧ x5_3.toInt ≤ 10) → lv_has ls 4 [(3, .int x5_3), (0, .ref (a 5)), (1, .int p0), (2, .int p1)] → W p l e ({ frames := 1, cells := 0, slots := 0, locals := 24 } : Room) s m ([.ref (a 5), .int p0, .int p1] : List Value).toArray below meth c s.heap [] 0 0 Q (F0 m 36 ls []) := by
          intro n
          induction n with
          | zero =>
            intro x5_3 ls hm5 hf5_0 hl
            exact absurd hm5 (by omega)
          | succ n ih5 =>
            intro x5_3 ls hm5 hf5_0 hl
            refine lv_iload_n hx hb dX4_fits_36 rfl (lv_at hl 0 rfl) ?_
            refine lv_iload_n hx hb dX4_fits_37 rfl (lv_at hl 3 rfl) ?_
            refine lv_icmp_gt (tgt := 64) hx hb dX4_fits_38 (by decide) (fun c_6 => ?_) (fun c_6 => ?_)
            · have c_6 : p1.toInt < x5_3.toInt := b_lt c_6
              refine lv_iconst (v := 1) hx hb dX4_fits_64 (by decide) ?_
              subst hQ
              exact W.zret hx hb hr rfl (fun t ht hW => ⟨_, rfl, Or.inr rfl, ht⟩) (fun q hq => absurd hq List.not_mem_nil) dX4_fits_65
            · have c_6 : x5_3.toInt ≤ p1.toInt := b_nlt c_6
              refine lv_iload_n hx hb dX4_fits_41 rfl (lv_at hl 0 rfl) ?_
              refine lv_bipush (v := 9) hx hb dX4_fits_42 (by decide) ?_
              refine lv_icmp_gt (tgt := 64) hx hb dX4_fits_44 (by decide) (fun c_7 => by have c_7 : 9 < x5_3.toInt := b_lt c_7; omega) (fun c_7 => ?_)
              have c_7 : x5_3.toInt ≤ 9 := b_nlt c_7
              refine lv_aload_n hx hb dX4_fits_47 rfl (lv_at hl 1 rfl) ?_
              refine va_get (D := D) (ci := 4) (v := .ref (a 6)) (C := RX4) (T := TX4) (N := 2) hx hb hT iX4 hown hK hP 5 rfl rfl 0 (by decide) (hT _ t_407) (fun _ h9 => h9) rfl dX4_fits_48 ?_
              refine lv_iload_n hx hb dX4_fits_51 rfl (lv_at hl 0 rfl) ?_
              refine va_iald hx hb hK hP 6 0 rfl rfl (vp_inI (by omega) (by omega)) dX4_fits_52 ?_
              refine lv_topi (fun v_8 ev_8 => ?_)
              refine lv_if_lt (tgt := 58) hx hb dX4_fits_53 (by decide) (fun c_9 => ?_) (fun c_9 => ?_)
              · have c_9 : v_8.toInt < 0 := b_lt c_9
                obtain ⟨x_10, ex_10⟩ : ∃ y : Int32, y = x5_3 + 1 := ⟨_, rfl⟩
                refine lv_iinc (v := x_10) (lv' := [(3, .int x_10), (0, .ref (a 5)), (1, .int p0), (2, .int p1)]) hx hb dX4_fits_58 hl (k := 0) rfl (by rw [ex_10]; rfl) (by decide) rfl (fun ls hl => ?_)
                have hx_10 : x_10.toInt = x5_3.toInt + 1 := by rw [ex_10]; have := b_rg x5_3; exact i_add (a := x5_3.toInt) (b := 1) rfl rfl (by omega) (by omega)
                refine lv_goto (tgt := 36) hx hb dX4_fits_61 (by decide) ?_
                exact ih5 x_10 _ (by first | omega | (simp only [Int.toNat]; omega)) (by first | omega | decide)    (lv_sub hl [0, 1, 2, 3] rfl)
              · have c_9 : 0 ≤ v_8.toInt := b_nlt c_9
                refine lv_iconst (v := 0) hx hb dX4_fits_56 (by decide) ?_
                subst hQ
                exact W.zret hx hb hr rfl (fun t ht hW => ⟨_, rfl, Or.inl rfl, ht⟩) (fun q hq => absurd hq List.not_mem_nil) dX4_fits_57
        exact loop_5 _ v_4 _ (Nat.lt_succ_self _) (by first | omega | decide)    hl
      · have c_3 : x2_3.toInt ≤ p0.toInt := b_nlt c_3
        refine lv_iload_n hx hb dX4_fits_9 rfl (lv_at hl 0 rfl) ?_
        refine lv_bipush (v := 9) hx hb dX4_fits_10 (by decide) ?_
        refine lv_icmp_gt (tgt := 32) hx hb dX4_fits_12 (by decide) (fun c_11 => by have c_11 : 9 < x2_3.toInt := b_lt c_11; omega) (fun c_11 => ?_)
        have c_11 : x2_3.toInt ≤ 9 := b_nlt c_11
        refine lv_aload_n hx hb dX4_fits_15 rfl (lv_at hl 1 rfl) ?_
        refine va_get (D := D) (ci := 4) (v := .ref (a 6)) (C := RX4) (T := TX4) (N := 2) hx hb hT iX4 hown hK hP 5 rfl rfl 0 (by decide) (hT _ t_407) (fun _ h9 => h9) rfl dX4_fits_16 ?_
        refine lv_iload_n hx hb dX4_fits_19 rfl (lv_at hl 0 rfl) ?_
        refine va_iald hx hb hK hP 6 0 rfl rfl (vp_inI (by omega) (by omega)) dX4_fits_20 ?_
        refine lv_topi (fun v_12 ev_12 => ?_)
        refine lv_if_gt (tgt := 26) hx hb dX4_fits_21 (by decide) (fun c_13 => ?_) (fun c_13 => ?_)
        · have c_13 : 0 < v_12.toInt := b_lt c_13
          obtain ⟨x_14, ex_14⟩ : ∃ y : Int32, y = x2_3 + 1 := ⟨_, rfl⟩
          refine lv_iinc (v := x_14) (lv' := [(3, .int x_14), (0, .ref (a 5)), (1, .int p0), (2, .int p1)]) hx hb dX4_fits_26 hl (k := 0) rfl (by rw [ex_14]; rfl) (by decide) rfl (fun ls hl => ?_)
          have hx_14 : x_14.toInt = x2_3.toInt + 1 := by rw [ex_14]; have := b_rg x2_3; exact i_add (a := x2_3.toInt) (b := 1) rfl rfl (by omega) (by omega)
          refine lv_goto (tgt := 4) hx hb dX4_fits_29 (by decide) ?_
          exact ih2 x_14 _ (by first | omega | (simp only [Int.toNat]; omega)) (by first | omega | decide)    (lv_sub hl [0, 1, 2, 3] rfl)
        · have c_13 : v_12.toInt ≤ 0 := b_nlt c_13
          refine lv_iconst (v := 0) hx hb dX4_fits_24 (by decide) ?_
          subst hQ
          exact W.zret hx hb hr rfl (fun t ht hW => ⟨_, rfl, Or.inl rfl, ht⟩) (fun q hq => absurd hq List.not_mem_nil) dX4_fits_25
  exact loop_2 _ v_1 _ (Nat.lt_succ_self _) (by first | omega | decide)    hl
set_option maxHeartbeats 4000000 in
set_option maxRecDepth 100000 in
theorem c_X4_begin (l : Launch) (D : va_G) (cy : Nat → ClassId) (a : Nat → Nat) (i : Nat → Int32) (r : Nat → Nat → Int32) (q : Nat → Option Nat) (tl : va_W) (p0 p1 : Int32) (sz : Nat) (hRi : yRi i) (hRr : yRr r) : Met l yX4_begin (Cond.code yX4_begin cX4_begin 5 none :: gT) { frames := 2, cells := 0, slots := 0, locals := 47 } (va_Pc [.ref (a 5), .ref (a 61), .int p0, .int p1] (rQ D cy (xW cy a i r q (a 20) (a 12) ++ (hW cy a i r ++ tl)) sz)) (va_Qv (fun u : Nat → Nat → Int32 => yRr u ∧ mEr [6, 7] r u ∧ True) (fun (u : Nat → Nat → Int32) t => va_P D vwCl (xW cy a i u q (a 20) (a 12) ++ (hW cy a i u ++ tl)) t.heap ∧ va_K D vwCl (vT cy) t ∧ va_D (va_A (xW cy a i r q (a 20) (a 12) ++ (hW cy a i r ++ tl)) sz) (xW cy a i u q (a 20) (a 12) ++ (hW cy a i u ++ tl))) (va_A (xW cy a i r q (a 20) (a 12) ++ (hW cy a i r ++ tl)) sz)) 0 0 (va_A (xW cy a i r q (a 20) (a 12) ++ (hW cy a i r ++ tl)) sz) := by
  refine Met.ofQ (cc := cX4_begin) (maxL := 5) (ret := none) (by decide) rfl ?_
  intro p e s m args below meth c s₁ B hml hv Q hQ
  obtain ⟨rfl, hsz, hP, hK, hD0⟩ := hv
  have hx := B.exec
  have hb := B.bytes
  have hr := B.returns
  have hlocks := B.notSynchronized
  have hT : ∀ w ∈ gT, w.before _ s = true := fun w h => atoms_spec (ws := (Cond.code yX4_begin cX4_begin 5 none :: gT)) B.pre w (List.mem_cons_of_mem _ h)
  have hown : s.vm.findClass RX4 = some m.cls := findClass_of_methodNamed B.named
  subst hsz
  have hD := hD0.self (sz := s.heap.size)
  generalize hAe : va_A (xW cy a i r q (a 20) (a 12) ++ (hW cy a i r ++ tl)) s.heap.size = A at hD hQ
  have hA : ∀ q : Nat, s.heap.size ≤ q → A q := fun q h => by rw [← hAe]; exact Or.inr h
  have hS : va_S A s.heap s.heap [] := va_S.rf
  have hl := lv_entry ([.ref (a 5), .ref (a 61), .int p0, .int p1]) (n := 5) (Nat.le_of_ble_eq_true rfl)
  rw [lg_entry_eq]
  generalize (lg_sl ([.ref (a 5), .ref (a 61), .int p0, .int p1]) ++ List.replicate (5 - (lg_sl ([.ref (a 5), .ref (a 61), .int p0, .int p1])).length) Slot.unset).toArray = ls at hl ⊢
  have hl : lv_has ls 5 [(0, .ref (a 5)), (1, .ref (a 61)), (2, .int p0), (3, .int p1)] := hl
  have hEi : mEi [] i i := Ei_rf
  have hEr : mEr [6, 7] r r := Er_rf
  refine lv_iconst (v := 0) hx hb dX4_begin_0 (by decide) ?_
  refine lv_istore (lv' := [(4, .int 0), (0, .ref (a 5)), (1, .ref (a 61)), (2, .int p0), (3, .int p1)]) hx hb dX4_begin_1 hl (by decide) rfl (fun ls hl => ?_)
  have loop_1 : ∀ (n : Nat) (x1_4 : Int32) (r1 : Nat → Nat → Int32) (H : Heap) (locs : List Loc) (ls : Array Slot), (10 - x1_4.toInt).toNat < n → (0 ≤ x1_4.toInt ∧ x1_4.toInt ≤ 10) → yRr r1 → mEr [6, 7] r r1 → va_P D vwCl (xW cy a i r1 q (a 20) (a 12) ++ (hW cy a i r1 ++ tl)) H → va_D A (xW cy a i r1 q (a 20) (a 12) ++ (hW cy a i r1 ++ tl)) → va_S A s.heap H locs → lv_has ls 5 [(4, .int x1_4), (0, .ref (a 5)), (1, .ref (a 61)), (2, .int p0), (3, .int p1)] → W p l e ({ frames := 2, cells := 0, slots := 0, locals := 47 } : Room) s m ([.ref (a 5), .ref (a 61), .int p0, .int p1] : List Value).toArray below meth c H locs 0 0 Q (F0 m 3 ls []) := by
    intro n
    induction n with
    | zero =>
      intro x1_4 r1 H locs ls hm1 hf1_0 hRr hEr hP hD hS hl
      exact absurd hm1 (by omega)
    | succ n ih1 =>
      intro x1_4 r1 H locs ls hm1 hf1_0 hRr hEr hP hD hS hl
      refine lv_iload hx hb dX4_begin_3 (lv_at hl 0 rfl) ?_
      refine lv_bipush (v := 9) hx hb dX4_begin_5 (by decide) ?_
      refine lv_icmp_gt (tgt := 24) hx hb dX4_begin_7 (by decide) (fun c_2 => ?_) (fun c_2 => ?_)
      · have c_2 : 9 < x1_4.toInt := b_lt c_2
        refine lv_iconst (v := 0) hx hb dX4_begin_24 (by decide) ?_
        refine lv_istore (lv' := [(4, .int 0), (0, .ref (a 5)), (1, .ref (a 61)), (2, .int p0), (3, .int p1)]) hx hb dX4_begin_25 hl (by decide) rfl (fun ls hl => ?_)
        have loop_3 : ∀ (n : Nat) (x3_4 : Int32) (r3 : Nat → Nat → Int32) (H : Heap) (locs : List Loc) (ls : Array Slot), (20 - x3_4.toInt).toNat < n → (0 ≤ x3_4.toInt ∧ x3_4.toInt ≤ 20) → yRr r3 → mEr [6, 7] r r3 → va_P D vwCl (xW cy a i r3 q (a 20) (a 12) ++ (hW cy a i r3 ++ tl)) H → va_D A (xW cy a i r3 q (a 20) (a 12) ++ (hW cy a i r3 ++ tl)) → va_S A s.heap H locs → lv_has ls 5 [(4, .int x3_4), (0, .ref (a 5)), (1, .ref (a 61)), (2, .int p0), (3, .int p1)] → W p l e ({ frames := 2, cells := 0, slots := 0, locals := 47 } : Room) s m ([.ref (a 5), .ref (a 61), .int p0, .int p1] : List Value).toArray below meth c H locs 0 0 Q (F0 m 27 ls []) := by
          intro n
          induction n with
          | zero =>
            intro x3_4 r3 H locs ls hm3 hf3_0 hRr hEr hP hD hS hl
            exact absurd hm3 (by omega)
          | succ n ih3 =>
            intro x3_4 r3 H locs ls hm3 hf3_0 hRr hEr hP hD hS hl
            refine lv_iload hx hb dX4_begin_27 (lv_at hl 0 rfl) ?_
            refine lv_aload_n hx hb dX4_begin_29 rfl (lv_at hl 2 rfl) ?_
            refine va_get (D := D) (ci := 3) (v := .ref (a 65)) (C := RX3) (T := TX3) (N := 12) hx hb hT iX3 hown hK hP 61 rfl rfl 9 (by decide) (hT _ t_408) (fun _ h9 => h9) rfl dX4_begin_30 ?_
            refine va_get (D := D) (ci := 10) (v := .int (i 23)) (C := RX10) (T := TX10) (N := 5) hx hb hT iX10 hown hK hP 65 rfl rfl 0 (by decide) (hT _ t_409) (fun _ h9 => h9) rfl dX4_begin_33 ?_
            have hg_4 : 0 ≤ (i 23).toInt ∧ (i 23).toInt ≤ 20 := hRi 23
            refine lv_icmp_ge (tgt := 74) hx hb dX4_begin_36 (by decide) (fun c_5 => ?_) (fun c_5 => ?_)
            · have c_5 : (i 23).toInt ≤ x3_4.toInt := b_le c_5
              refine lv_iconst (v := 0) hx hb dX4_begin_74 (by decide) ?_
              refine lv_istore (lv' := [(4, .int 0), (0, .ref (a 5)), (1, .ref (a 61)), (2, .int p0), (3, .int p1)]) hx hb dX4_begin_75 hl (by decide) rfl (fun ls hl => ?_)
              have loop_6 : ∀ (n : Nat) (x6_4 : Int32) (r6 : Nat → Nat → Int32) (H : Heap) (locs : List Loc) (ls : Array Slot), (20 - x6_4.toInt).toNat < n → (0 ≤ x6_4.toInt ∧ x6_4.toInt ≤ 20) → yRr r6 → mEr [6, 7] r r6 → va_P D vwCl (xW cy a i r6 q (a 20) (a 12) ++ (hW cy a i r6 ++ tl)) H → va_D A (xW cy a i r6 q (a 20) (a 12) ++ (hW cy a i r6 ++ tl)) → va_S A s.heap H locs → lv_has ls 5 [(4, .int x6_4), (0, .ref (a 5)), (1, .ref (a 61)), (2, .int p0), (3, .int p1)] → W p l e ({ frames := 2, cells := 0, slots := 0, locals := 47 } : Room) s m ([.ref (a 5), .ref (a 61), .int p0, .int p1] : List Value).toArray below meth c H locs 0 0 Q (F0 m 77 ls []) := by
                intro n
                induction n with
                | zero =>
                  intro x6_4 r6 H locs ls hm6 hf6_0 hRr hEr hP hD hS hl
                  exact absurd hm6 (by omega)
                | succ n ih6 =>
                  intro x6_4 r6 H locs ls hm6 hf6_0 hRr hEr hP hD hS hl
                  refine lv_iload hx hb dX4_begin_77 (lv_at hl 0 rfl) ?_
                  refine lv_aload_n hx hb dX4_begin_79 rfl (lv_at hl 2 rfl) ?_
                  refine va_get (D := D) (ci := 3) (v := .ref (a 70)) (C := RX3) (T := TX3) (N := 12) hx hb hT iX3 hown hK hP 61 rfl rfl 10 (by decide) (hT _ t_410) (fun _ h9 => h9) rfl dX4_begin_80 ?_
                  refine va_get (D := D) (ci := 10) (v := .int (i 24)) (C := RX10) (T := TX10) (N := 5) hx hb hT iX10 hown hK hP 70 rfl rfl 0 (by decide) (hT _ t_409) (fun _ h9 => h9) rfl dX4_begin_83 ?_
                  have hg_7 : 0 ≤ (i 24).toInt ∧ (i 24).toInt ≤ 20 := hRi 24
                  refine lv_icmp_ge (tgt := 132) hx hb dX4_begin_86 (by decide) (fun c_8 => ?_) (fun c_8 => ?_)
                  · have c_8 : (i 24).toInt ≤ x6_4.toInt := b_le c_8
                    subst hQ
                    exact W.vret hx hb hr (fun t ht hW => ⟨⟨r6, rfl, ⟨hRr, hEr, trivial⟩, by rw [ht]; exact hP, va_K.moved hW.alike hK, hD⟩, hS.F ht⟩) hS.2.2 dX4_begin_132
                  · have c_8 : x6_4.toInt < (i 24).toInt := b_nle c_8
                    refine lv_aload_n hx hb dX4_begin_89 rfl (lv_at hl 1 rfl) ?_
                    refine va_get (D := D) (ci := 4) (v := .ref (a 7)) (C := RX4) (T := TX4) (N := 2) hx hb hT iX4 hown hK hP 5 rfl rfl 1 (by decide) (hT _ t_411) (fun _ h9 => h9) rfl dX4_begin_90 ?_
                    refine lv_iload hx hb dX4_begin_93 (lv_at hl 0 rfl) ?_
                    refine lv_iconst (v := 0) hx hb dX4_begin_95 (by decide) ?_
                    refine va_zast hx hb hK hP hD hS 7 2 rfl rfl (vp_inI (by omega) (by omega)) dX4_begin_96 (fun H locs hP hD hS => ?_)
                    rw [yS7] at hP hD
                    have hRr : yRr (va_up r6 7 (upd (r6 7) x6_4.toNatClampNeg (vp_nar .boolean 0))) := Yr_upd hRr 7 (x6_4.toNatClampNeg) (vp_nar .boolean 0) (b_rg _)
                    have hEr : mEr [6, 7] _ (va_up r6 7 (upd (r6 7) x6_4.toNatClampNeg (vp_nar .boolean 0))) := Er_up hEr 7 _ (by decide)
                    refine lv_aload_n hx hb dX4_begin_97 rfl (lv_at hl 2 rfl) ?_
                    refine va_get (D := D) (ci := 3) (v := .ref (a 70)) (C := RX3) (T := TX3) (N := 12) hx hb hT iX3 hown hK hP 61 rfl rfl 10 (by decide) (hT _ t_410) (fun _ h9 => h9) rfl dX4_begin_98 ?_
                    refine lv_iload hx hb dX4_begin_101 (lv_at hl 0 rfl) ?_
                    refine lv_iload_n hx hb dX4_begin_103 rfl (lv_at hl 3 rfl) ?_
                    refine lv_iload_n hx hb dX4_begin_104 rfl (lv_at hl 4 rfl) ?_
                    refine vp_callSi (W.runV (As := [.int x6_4, .int p0, .int p1]) (rest := []) ⟨hx, hb, hml, hown, hT⟩ (c_X10_isOf_r70 l D cy a i (va_up r6 7 (upd (r6 7) x6_4.toNatClampNeg (vp_nar .boolean 0))) q tl x6_4 p0 p1 hRi hRr (by first | omega | decide)) (cwV 3 hT (gV t_412 t_414 t_415 t_416 t_413) rfl rfl rfl (by decide +kernel) ⟨Nat.le_of_ble_eq_true rfl, Nat.le_of_ble_eq_true rfl⟩) (rP_v hP hK (va_recv hK hP (ci := 10) (q0 := 70) rfl rfl)) rfl rfl hl.1 rfl (lv_room (Nat.le_of_ble_eq_true rfl)) dX4_begin_105 ⟨Nat.le_of_ble_eq_true rfl, Nat.le_of_ble_eq_true rfl⟩) (fun r_9 hr_9 => ?_)
                    rcases hr_9 with rfl | rfl
                    · skip
                      refine lv_if_eq (tgt := 126) hx hb dX4_begin_108 (by decide) (fun c_10 => ?_) (fun c_10 => absurd (by decide) c_10)
                      obtain ⟨x_11, ex_11⟩ : ∃ y : Int32, y = x6_4 + 1 := ⟨_, rfl⟩
                      refine lv_iinc (v := x_11) (lv' := [(4, .int x_11), (0, .ref (a 5)), (1, .ref (a 61)), (2, .int p0), (3, .int p1)]) hx hb dX4_begin_126 hl (k := 0) rfl (by rw [ex_11]; rfl) (by decide) rfl (fun ls hl => ?_)
                      have hx_11 : x_11.toInt = x6_4.toInt + 1 := by rw [ex_11]; have := b_rg x6_4; exact i_add (a := x6_4.toInt) (b := 1) rfl rfl (by omega) (by omega)
                      refine lv_goto (tgt := 77) hx hb dX4_begin_129 (by decide) ?_
                      exact ih6 x_11 (va_up r6 7 (upd (r6 7) x6_4.toNatClampNeg (vp_nar .boolean 0))) _ _ _ (by first | omega | (simp only [Int.toNat]; omega)) (by first | omega | decide) hRr hEr  hP hD hS (lv_sub hl [0, 1, 2, 3, 4] rfl)
                    · skip
                      refine lv_if_eq (tgt := 126) hx hb dX4_begin_108 (by decide) (fun c_12 => absurd c_12 (by decide)) (fun c_12 => ?_)
                      refine lv_aload_n hx hb dX4_begin_111 rfl (lv_at hl 1 rfl) ?_
                      refine lv_aload_n hx hb dX4_begin_112 rfl (lv_at hl 2 rfl) ?_
                      refine va_get (D := D) (ci := 3) (v := .ref (a 70)) (C := RX3) (T := TX3) (N := 12) hx hb hT iX3 hown hK hP 61 rfl rfl 10 (by decide) (hT _ t_410) (fun _ h9 => h9) rfl dX4_begin_113 ?_
                      refine va_get (D := D) (ci := 10) (v := .ref (a 73)) (C := RX10) (T := TX10) (N := 5) hx hb hT iX10 hown hK hP 70 rfl rfl 3 (by decide) (hT _ t_417) (fun _ h9 => h9) rfl dX4_begin_116 ?_
                      refine lv_iload hx hb dX4_begin_119 (lv_at hl 0 rfl) ?_
                      refine va_iald hx hb hK hP 73 0 rfl rfl (vp_inI (by omega) (by omega)) dX4_begin_121 ?_
                      refine lv_topi (fun v_13 ev_13 => ?_)
                      have hgv_13 : 0 ≤ v_13.toInt ∧ v_13.toInt ≤ 9 := by rw [ev_13]; exact hRr 73 _
                      refine lv_iconst (v := (-1)) hx hb dX4_begin_122 (by decide) ?_
                      have hF_14 := rF hD hS hA
                      refine va_callv (va_runV (As := [.int v_13, .int (-1)]) (rest := []) ⟨hx, hb, hml, hown, hT⟩ (c_X4_change l D cy a i (va_up r6 7 (upd (r6 7) x6_4.toNatClampNeg (vp_nar .boolean 0))) q (hW cy a i (va_up r6 7 (upd (r6 7) x6_4.toNatClampNeg (vp_nar .boolean 0))) ++ tl) v_13 (-1) _ hRi hRr) (cwV 2 hT (gV t_418 t_420 t_421 t_422 t_419) rfl rfl rfl (by decide +kernel) ⟨Nat.le_of_ble_eq_true rfl, Nat.le_of_ble_eq_true rfl⟩) (rQ_v hP hK hD (va_recv hK hP (ci := 4) (q0 := 5) rfl rfl)) rfl rfl hl.1 rfl (lv_room (Nat.le_of_ble_eq_true rfl)) dX4_begin_123 ⟨Nat.le_of_ble_eq_true rfl, Nat.le_of_ble_eq_true rfl⟩) hS (fun q _ h => hF_14 q h) hF_14 (fun u_16 t H1 locs ht hvm hr_15 hB hz1 hk1 hS => ?_)
                      obtain ⟨r16, rfl⟩ : ∃ z, z = u_16 := ⟨_, rfl⟩
                      obtain ⟨hP, hK1, hD1⟩ := hB
                      rw [ht] at hP
                      have hD := hD1.weaken (fun k q _ h => hF_14 q.1 h)
                      obtain ⟨hRr, hE2, hr_15⟩ := hr_15
                      have hRr : yRr r16 := hRr
                      have hE2 : mEr [6] (va_up r6 7 (upd (r6 7) x6_4.toNatClampNeg (vp_nar .boolean 0))) r16 := hE2
                      have hwe : hW cy a i r16 = hW cy a i (va_up r6 7 (upd (r6 7) x6_4.toNatClampNeg (vp_nar .boolean 0))) := hW_eqE (Ei_rf (T := [])) hE2 rfl rfl
                      have hP : va_P D vwCl (xW cy a i r16 q (a 20) (a 12) ++ (hW cy a i r16 ++ tl)) H1 := by rw [hwe]; exact hP
                      have hD : va_D A (xW cy a i r16 q (a 20) (a 12) ++ (hW cy a i r16 ++ tl)) := by rw [hwe]; exact hD
                      have hEr : mEr [6, 7] _ r16 := Er_tr hEr hE2 (by decide)
                      obtain ⟨x_17, ex_17⟩ : ∃ y : Int32, y = x6_4 + 1 := ⟨_, rfl⟩
                      refine lv_iinc (v := x_17) (lv' := [(4, .int x_17), (0, .ref (a 5)), (1, .ref (a 61)), (2, .int p0), (3, .int p1)]) hx hb dX4_begin_126 hl (k := 0) rfl (by rw [ex_17]; rfl) (by decide) rfl (fun ls hl => ?_)
                      have hx_17 : x_17.toInt = x6_4.toInt + 1 := by rw [ex_17]; have := b_rg x6_4; exact i_add (a := x6_4.toInt) (b := 1) rfl rfl (by omega) (by omega)
                      refine lv_goto (tgt := 77) hx hb dX4_begin_129 (by decide) ?_
                      exact ih6 x_17 r16 _ _ _ (by first | omega | (simp only [Int.toNat]; omega)) (by first | omega | decide) hRr hEr  hP hD hS (lv_sub hl [0, 1, 2, 3, 4] rfl)
              exact loop_6 _ 0 r3 _ _ _ (Nat.lt_succ_self _) (by first | omega | decide) hRr hEr  hP hD hS hl
            · have c_5 : x3_4.toInt < (i 23).toInt := b_nle c_5
              refine lv_aload_n hx hb dX4_begin_39 rfl (lv_at hl 2 rfl) ?_
              refine va_get (D := D) (ci := 3) (v := .ref (a 65)) (C := RX3) (T := TX3) (N := 12) hx hb hT iX3 hown hK hP 61 rfl rfl 9 (by decide) (hT _ t_408) (fun _ h9 => h9) rfl dX4_begin_40 ?_
              refine lv_iload hx hb dX4_begin_43 (lv_at hl 0 rfl) ?_
              refine lv_iload_n hx hb dX4_begin_45 rfl (lv_at hl 3 rfl) ?_
              refine lv_iload_n hx hb dX4_begin_46 rfl (lv_at hl 4 rfl) ?_
              refine vp_callSi (W.runV (As := [.int x3_4, .int p0, .int p1]) (rest := []) ⟨hx, hb, hml, hown, hT⟩ (c_X10_isOf_r65 l D cy a i r3 q tl x3_4 p0 p1 hRi hRr (by first | omega | decide)) (cwV 3 hT (gV t_412 t_414 t_415 t_416 t_413) rfl rfl rfl (by decide +kernel) ⟨Nat.le_of_ble_eq_true rfl, Nat.le_of_ble_eq_true rfl⟩) (rP_v hP hK (va_recv hK hP (ci := 10) (q0 := 65) rfl rfl)) rfl rfl hl.1 rfl (lv_room (Nat.le_of_ble_eq_true rfl)) dX4_begin_47 ⟨Nat.le_of_ble_eq_true rfl, Nat.le_of_ble_eq_true rfl⟩) (fun r_18 hr_18 => ?_)
              rcases hr_18 with rfl | rfl
              · skip
                refine lv_if_eq (tgt := 68) hx hb dX4_begin_50 (by decide) (fun c_19 => ?_) (fun c_19 => absurd (by decide) c_19)
                obtain ⟨x_20, ex_20⟩ : ∃ y : Int32, y = x3_4 + 1 := ⟨_, rfl⟩
                refine lv_iinc (v := x_20) (lv' := [(4, .int x_20), (0, .ref (a 5)), (1, .ref (a 61)), (2, .int p0), (3, .int p1)]) hx hb dX4_begin_68 hl (k := 0) rfl (by rw [ex_20]; rfl) (by decide) rfl (fun ls hl => ?_)
                have hx_20 : x_20.toInt = x3_4.toInt + 1 := by rw [ex_20]; have := b_rg x3_4; exact i_add (a := x3_4.toInt) (b := 1) rfl rfl (by omega) (by omega)
                refine lv_goto (tgt := 27) hx hb dX4_begin_71 (by decide) ?_
                exact ih3 x_20 r3 _ _ _ (by first | omega | (simp only [Int.toNat]; omega)) (by first | omega | decide) hRr hEr  hP hD hS (lv_sub hl [0, 1, 2, 3, 4] rfl)
              · skip
                refine lv_if_eq (tgt := 68) hx hb dX4_begin_50 (by decide) (fun c_21 => absurd c_21 (by decide)) (fun c_21 => ?_)
                refine lv_aload_n hx hb dX4_begin_53 rfl (lv_at hl 1 rfl) ?_
                refine lv_aload_n hx hb dX4_begin_54 rfl (lv_at hl 2 rfl) ?_
                refine va_get (D := D) (ci := 3) (v := .ref (a 65)) (C := RX3) (T := TX3) (N := 12) hx hb hT iX3 hown hK hP 61 rfl rfl 9 (by decide) (hT _ t_408) (fun _ h9 => h9) rfl dX4_begin_55 ?_
                refine va_get (D := D) (ci := 10) (v := .ref (a 68)) (C := RX10) (T := TX10) (N := 5) hx hb hT iX10 hown hK hP 65 rfl rfl 3 (by decide) (hT _ t_417) (fun _ h9 => h9) rfl dX4_begin_58 ?_
                refine lv_iload hx hb dX4_begin_61 (lv_at hl 0 rfl) ?_
                refine va_iald hx hb hK hP 68 0 rfl rfl (vp_inI (by omega) (by omega)) dX4_begin_63 ?_
                refine lv_topi (fun v_22 ev_22 => ?_)
                have hgv_22 : 0 ≤ v_22.toInt ∧ v_22.toInt ≤ 9 := by rw [ev_22]; exact hRr 68 _
                refine lv_iconst (v := 1) hx hb dX4_begin_64 (by decide) ?_
                have hF_23 := rF hD hS hA
                refine va_callv (va_runV (As := [.int v_22, .int 1]) (rest := []) ⟨hx, hb, hml, hown, hT⟩ (c_X4_change l D cy a i r3 q (hW cy a i r3 ++ tl) v_22 1 _ hRi hRr) (cwV 2 hT (gV t_418 t_420 t_421 t_422 t_419) rfl rfl rfl (by decide +kernel) ⟨Nat.le_of_ble_eq_true rfl, Nat.le_of_ble_eq_true rfl⟩) (rQ_v hP hK hD (va_recv hK hP (ci := 4) (q0 := 5) rfl rfl)) rfl rfl hl.1 rfl (lv_room (Nat.le_of_ble_eq_true rfl)) dX4_begin_65 ⟨Nat.le_of_ble_eq_true rfl, Nat.le_of_ble_eq_true rfl⟩) hS (fun q _ h => hF_23 q h) hF_23 (fun u_25 t H1 locs ht hvm hr_24 hB hz1 hk1 hS => ?_)
                obtain ⟨r25, rfl⟩ : ∃ z, z = u_25 := ⟨_, rfl⟩
                obtain ⟨hP, hK1, hD1⟩ := hB
                rw [ht] at hP
                have hD := hD1.weaken (fun k q _ h => hF_23 q.1 h)
                obtain ⟨hRr, hE2, hr_24⟩ := hr_24
                have hRr : yRr r25 := hRr
                have hE2 : mEr [6] r3 r25 := hE2
                have hwe : hW cy a i r25 = hW cy a i r3 := hW_eqE (Ei_rf (T := [])) hE2 rfl rfl
                have hP : va_P D vwCl (xW cy a i r25 q (a 20) (a 12) ++ (hW cy a i r25 ++ tl)) H1 := by rw [hwe]; exact hP
                have hD : va_D A (xW cy a i r25 q (a 20) (a 12) ++ (hW cy a i r25 ++ tl)) := by rw [hwe]; exact hD
                have hEr : mEr [6, 7] _ r25 := Er_tr hEr hE2 (by decide)
                obtain ⟨x_26, ex_26⟩ : ∃ y : Int32, y = x3_4 + 1 := ⟨_, rfl⟩
                refine lv_iinc (v := x_26) (lv' := [(4, .int x_26), (0, .ref (a 5)), (1, .ref (a 61)), (2, .int p0), (3, .int p1)]) hx hb dX4_begin_68 hl (k := 0) rfl (by rw [ex_26]; rfl) (by decide) rfl (fun ls hl => ?_)
                have hx_26 : x_26.toInt = x3_4.toInt + 1 := by rw [ex_26]; have := b_rg x3_4; exact i_add (a := x3_4.toInt) (b := 1) rfl rfl (by omega) (by omega)
                refine lv_goto (tgt := 27) hx hb dX4_begin_71 (by decide) ?_
                exact ih3 x_26 r25 _ _ _ (by first | omega | (simp only [Int.toNat]; omega)) (by first | omega | decide) hRr hEr  hP hD hS (lv_sub hl [0, 1, 2, 3, 4] rfl)
        exact loop_3 _ 0 r1 _ _ _ (Nat.lt_succ_self _) (by first | omega | decide) hRr hEr  hP hD hS hl
      · have c_2 : x1_4.toInt ≤ 9 := b_nlt c_2
        refine lv_aload_n hx hb dX4_begin_10 rfl (lv_at hl 1 rfl) ?_
        refine va_get (D := D) (ci := 4) (v := .ref (a 6)) (C := RX4) (T := TX4) (N := 2) hx hb hT iX4 hown hK hP 5 rfl rfl 0 (by decide) (hT _ t_407) (fun _ h9 => h9) rfl dX4_begin_11 ?_
        refine lv_iload hx hb dX4_begin_14 (lv_at hl 0 rfl) ?_
        refine lv_iconst (v := 0) hx hb dX4_begin_16 (by decide) ?_
        refine va_iast hx hb hK hP hD hS 6 0 rfl rfl (vp_inI (by omega) (by omega)) dX4_begin_17 (fun H locs hP hD hS => ?_)
        rw [yS6] at hP hD
        have hRr : yRr (va_up r1 6 (upd (r1 6) x1_4.toNatClampNeg 0)) := Yr_upd hRr 6 (x1_4.toNatClampNeg) 0 (b_rg _)
        have hEr : mEr [6, 7] _ (va_up r1 6 (upd (r1 6) x1_4.toNatClampNeg 0)) := Er_up hEr 6 _ (by decide)
        obtain ⟨x_27, ex_27⟩ : ∃ y : Int32, y = x1_4 + 1 := ⟨_, rfl⟩
        refine lv_iinc (v := x_27) (lv' := [(4, .int x_27), (0, .ref (a 5)), (1, .ref (a 61)), (2, .int p0), (3, .int p1)]) hx hb dX4_begin_18 hl (k := 0) rfl (by rw [ex_27]; rfl) (by decide) rfl (fun ls hl => ?_)
        have hx_27 : x_27.toInt = x1_4.toInt + 1 := by rw [ex_27]; have := b_rg x1_4; exact i_add (a := x1_4.toInt) (b := 1) rfl rfl (by omega) (by omega)
        refine lv_goto (tgt := 3) hx hb dX4_begin_21 (by decide) ?_
        exact ih1 x_27 (va_up r1 6 (upd (r1 6) x1_4.toNatClampNeg 0)) _ _ _ (by first | omega | (simp only [Int.toNat]; omega)) (by first | omega | decide) hRr hEr  hP hD hS (lv_sub hl [0, 1, 2, 3, 4] rfl)
  exact loop_1 _ 0 r _ _ _ (Nat.lt_succ_self _) (by first | omega | decide) hRr hEr  hP hD hS hl
set_option maxHeartbeats 4000000 in
set_option maxRecDepth 100000 in
theorem c_X4_lowestFit (l : Launch) (D : va_G) (cy : Nat → ClassId) (a : Nat → Nat) (i : Nat → Int32) (r : Nat → Nat → Int32) (q : Nat → Option Nat) (tl : va_W) (p0 : Int32) (hRi : yRi i) (hRr : yRr r) (q0 : 0 ≤ p0.toInt ∧ p0.toInt ≤ 19) : Met l yX4_lowestFit (Cond.code yX4_lowestFit cX4_lowestFit 6 (some .int) :: gT) { frames := 2, cells := 0, slots := 0, locals := 47 } (va_Pc [.ref (a 5), .ref (a 61), .int p0] (rP D cy (xW cy a i r q (a 20) (a 12) ++ (hW cy a i r ++ tl)))) (vp_Si (fun z => -2 ≤ z.toInt ∧ z.toInt ≤ 19)) 0 0 (fun _ => False) := by
  refine Met.ofQ (cc := cX4_lowestFit) (maxL := 6) (ret := (some .int)) (by decide) rfl ?_
  intro p e s m args below meth c s₁ B hml hv Q hQ
  obtain ⟨rfl, hP, hK⟩ := hv
  have hx := B.exec
  have hb := B.bytes
  have hr := B.returns
  have hlocks := B.notSynchronized
  have hT : ∀ w ∈ gT, w.before _ s = true := fun w h => atoms_spec (ws := (Cond.code yX4_lowestFit cX4_lowestFit 6 (some .int) :: gT)) B.pre w (List.mem_cons_of_mem _ h)
  have hown : s.vm.findClass RX4 = some m.cls := findClass_of_methodNamed B.named
  have hl := lv_entry ([.ref (a 5), .ref (a 61), .int p0]) (n := 6) (Nat.le_of_ble_eq_true rfl)
  rw [lg_entry_eq]
  generalize (lg_sl ([.ref (a 5), .ref (a 61), .int p0]) ++ List.replicate (6 - (lg_sl ([.ref (a 5), .ref (a 61), .int p0])).length) Slot.unset).toArray = ls at hl ⊢
  have hl : lv_has ls 6 [(0, .ref (a 5)), (1, .ref (a 61)), (2, .int p0)] := hl
  have hEi : mEi [] i i := Ei_rf
  have hEr : mEr [] r r := Er_rf
  refine lv_aload_n hx hb dX4_lowestFit_0 rfl (lv_at hl 1 rfl) ?_
  refine va_get (D := D) (ci := 3) (v := .ref (a 65)) (C := RX3) (T := TX3) (N := 12) hx hb hT iX3 hown hK hP 61 rfl rfl 9 (by decide) (hT _ t_408) (fun _ h9 => h9) rfl dX4_lowestFit_1 ?_
  refine lv_astore_n (lv' := [(3, .ref (a 65)), (0, .ref (a 5)), (1, .ref (a 61)), (2, .int p0)]) hx hb dX4_lowestFit_4 rfl hl (by decide) rfl (fun ls hl => ?_)
  refine lv_aload_n hx hb dX4_lowestFit_5 rfl (lv_at hl 2 rfl) ?_
  refine va_get (D := D) (ci := 3) (v := .ref (a 70)) (C := RX3) (T := TX3) (N := 12) hx hb hT iX3 hown hK hP 61 rfl rfl 10 (by decide) (hT _ t_410) (fun _ h9 => h9) rfl dX4_lowestFit_6 ?_
  refine lv_astore (lv' := [(4, .ref (a 70)), (3, .ref (a 65)), (0, .ref (a 5)), (1, .ref (a 61)), (2, .int p0)]) hx hb dX4_lowestFit_9 hl (by decide) rfl (fun ls hl => ?_)
  refine lv_iconst (v := 0) hx hb dX4_lowestFit_11 (by decide) ?_
  refine lv_istore (lv' := [(5, .int 0), (4, .ref (a 70)), (3, .ref (a 65)), (0, .ref (a 5)), (1, .ref (a 61)), (2, .int p0)]) hx hb dX4_lowestFit_12 hl (by decide) rfl (fun ls hl => ?_)
  have loop_1 : ∀ (n : Nat) (x1_5 : Int32) (ls : Array Slot), (20 - x1_5.toInt).toNat < n → (0 ≤ x1_5.toInt ∧ x1_5.toInt ≤ 20) → lv_has ls 6 [(5, .int x1_5), (4, .ref (a 70)), (3, .ref (a 65)), (0, .ref (a 5)), (1, .ref (a 61)), (2, .int p0)] → W p l e ({ frames := 2, cells := 0, slots := 0, locals := 47 } : Room) s m ([.ref (a 5), .ref (a 61), .int p0] : List Value).toArray below meth c s.heap [] 0 0 Q (F0 m 14 ls []) := by
    intro n
    induction n with
    | zero =>
      intro x1_5 ls hm1 hf1_0 hl
      exact absurd hm1 (by omega)
    | succ n ih1 =>
      intro x1_5 ls hm1 hf1_0 hl
      refine lv_iload hx hb dX4_lowestFit_14 (lv_at hl 0 rfl) ?_
      refine lv_aload hx hb dX4_lowestFit_16 (lv_at hl 1 rfl) ?_
      refine va_get (D := D) (ci := 10) (v := .int (i 24)) (C := RX10) (T := TX10) (N := 5) hx hb hT iX10 hown hK hP 70 rfl rfl 0 (by decide) (hT _ t_409) (fun _ h9 => h9) rfl dX4_lowestFit_18 ?_
      have hg_2 : 0 ≤ (i 24).toInt ∧ (i 24).toInt ≤ 20 := hRi 24
      refine lv_icmp_ge (tgt := 86) hx hb dX4_lowestFit_21 (by decide) (fun c_3 => ?_) (fun c_3 => ?_)
      · have c_3 : (i 24).toInt ≤ x1_5.toInt := b_le c_3
        refine lv_bipush (v := (-2)) hx hb dX4_lowestFit_86 (by decide) ?_
        subst hQ
        exact W.iret (v := (-2)) hx hb hr (fun t ht hW => ⟨_, rfl, (by decide), ht⟩) (fun q hq => absurd hq List.not_mem_nil) dX4_lowestFit_88
      · have c_3 : x1_5.toInt < (i 24).toInt := b_nle c_3
        refine lv_aload_n hx hb dX4_lowestFit_24 rfl (lv_at hl 3 rfl) ?_
        refine va_get (D := D) (ci := 4) (v := .ref (a 7)) (C := RX4) (T := TX4) (N := 2) hx hb hT iX4 hown hK hP 5 rfl rfl 1 (by decide) (hT _ t_411) (fun _ h9 => h9) rfl dX4_lowestFit_25 ?_
        refine lv_iload hx hb dX4_lowestFit_28 (lv_at hl 0 rfl) ?_
        refine va_zald hx hb hK hP 7 2 rfl rfl (vp_inI (by omega) (by omega)) dX4_lowestFit_30 ?_
        refine lv_topi (fun v_4 ev_4 => ?_)
        refine lv_if_ne (tgt := 80) hx hb dX4_lowestFit_31 (by decide) (fun c_5 => ?_) (fun c_5 => ?_)
        · have c_5 : v_4.toInt ≠ 0 := b_ne c_5
          obtain ⟨x_6, ex_6⟩ : ∃ y : Int32, y = x1_5 + 1 := ⟨_, rfl⟩
          refine lv_iinc (v := x_6) (lv' := [(5, .int x_6), (4, .ref (a 70)), (3, .ref (a 65)), (0, .ref (a 5)), (1, .ref (a 61)), (2, .int p0)]) hx hb dX4_lowestFit_80 hl (k := 0) rfl (by rw [ex_6]; rfl) (by decide) rfl (fun ls hl => ?_)
          have hx_6 : x_6.toInt = x1_5.toInt + 1 := by rw [ex_6]; have := b_rg x1_5; exact i_add (a := x1_5.toInt) (b := 1) rfl rfl (by omega) (by omega)
          refine lv_goto (tgt := 14) hx hb dX4_lowestFit_83 (by decide) ?_
          exact ih1 x_6 _ (by first | omega | (simp only [Int.toNat]; omega)) (by first | omega | decide)    (lv_sub hl [0, 1, 2, 3, 4, 5] rfl)
        · have c_5 : v_4.toInt = 0 := b_nne c_5
          refine lv_aload hx hb dX4_lowestFit_34 (lv_at hl 1 rfl) ?_
          refine lv_iload hx hb dX4_lowestFit_36 (lv_at hl 0 rfl) ?_
          refine lv_aload_n hx hb dX4_lowestFit_38 rfl (lv_at hl 2 rfl) ?_
          refine va_get (D := D) (ci := 10) (v := .ref (a 66)) (C := RX10) (T := TX10) (N := 5) hx hb hT iX10 hown hK hP 65 rfl rfl 1 (by decide) (hT _ t_423) (fun _ h9 => h9) rfl dX4_lowestFit_39 ?_
          refine lv_iload_n hx hb dX4_lowestFit_42 rfl (lv_at hl 5 rfl) ?_
          refine va_iald hx hb hK hP 66 0 rfl rfl (vp_inI (by omega) (by omega)) dX4_lowestFit_43 ?_
          refine lv_topi (fun v_7 ev_7 => ?_)
          have hgv_7 : 0 ≤ v_7.toInt ∧ v_7.toInt ≤ 9 := by rw [ev_7]; exact hRr 66 _
          refine lv_aload_n hx hb dX4_lowestFit_44 rfl (lv_at hl 2 rfl) ?_
          refine va_get (D := D) (ci := 10) (v := .ref (a 67)) (C := RX10) (T := TX10) (N := 5) hx hb hT iX10 hown hK hP 65 rfl rfl 2 (by decide) (hT _ t_424) (fun _ h9 => h9) rfl dX4_lowestFit_45 ?_
          refine lv_iload_n hx hb dX4_lowestFit_48 rfl (lv_at hl 5 rfl) ?_
          refine va_iald hx hb hK hP 67 0 rfl rfl (vp_inI (by omega) (by omega)) dX4_lowestFit_49 ?_
          refine lv_topi (fun v_8 ev_8 => ?_)
          have hgv_8 : 0 ≤ v_8.toInt ∧ v_8.toInt ≤ 7 := by rw [ev_8]; exact hRr 67 _
          refine vp_callSi (W.runV (As := [.int x1_5, .int v_7, .int v_8]) (rest := []) ⟨hx, hb, hml, hown, hT⟩ (c_X10_isOf_r70 l D cy a i r q tl x1_5 v_7 v_8 hRi hRr (by first | omega | decide)) (cwV 3 hT (gV t_412 t_414 t_415 t_416 t_413) rfl rfl rfl (by decide +kernel) ⟨Nat.le_of_ble_eq_true rfl, Nat.le_of_ble_eq_true rfl⟩) (rP_v hP hK (va_recv hK hP (ci := 10) (q0 := 70) rfl rfl)) rfl rfl hl.1 rfl (lv_room (Nat.le_of_ble_eq_true rfl)) dX4_lowestFit_50 ⟨Nat.le_of_ble_eq_true rfl, Nat.le_of_ble_eq_true rfl⟩) (fun r_9 hr_9 => ?_)
          rcases hr_9 with rfl | rfl
          · skip
            refine lv_if_eq (tgt := 80) hx hb dX4_lowestFit_53 (by decide) (fun c_10 => ?_) (fun c_10 => absurd (by decide) c_10)
            obtain ⟨x_11, ex_11⟩ : ∃ y : Int32, y = x1_5 + 1 := ⟨_, rfl⟩
            refine lv_iinc (v := x_11) (lv' := [(5, .int x_11), (4, .ref (a 70)), (3, .ref (a 65)), (0, .ref (a 5)), (1, .ref (a 61)), (2, .int p0)]) hx hb dX4_lowestFit_80 hl (k := 0) rfl (by rw [ex_11]; rfl) (by decide) rfl (fun ls hl => ?_)
            have hx_11 : x_11.toInt = x1_5.toInt + 1 := by rw [ex_11]; have := b_rg x1_5; exact i_add (a := x1_5.toInt) (b := 1) rfl rfl (by omega) (by omega)
            refine lv_goto (tgt := 14) hx hb dX4_lowestFit_83 (by decide) ?_
            exact ih1 x_11 _ (by first | omega | (simp only [Int.toNat]; omega)) (by first | omega | decide)    (lv_sub hl [0, 1, 2, 3, 4, 5] rfl)
          · skip
            refine lv_if_eq (tgt := 80) hx hb dX4_lowestFit_53 (by decide) (fun c_12 => absurd c_12 (by decide)) (fun c_12 => ?_)
            refine lv_aload_n hx hb dX4_lowestFit_56 rfl (lv_at hl 3 rfl) ?_
            refine lv_aload_n hx hb dX4_lowestFit_57 rfl (lv_at hl 2 rfl) ?_
            refine va_get (D := D) (ci := 10) (v := .ref (a 68)) (C := RX10) (T := TX10) (N := 5) hx hb hT iX10 hown hK hP 65 rfl rfl 3 (by decide) (hT _ t_417) (fun _ h9 => h9) rfl dX4_lowestFit_58 ?_
            refine lv_iload_n hx hb dX4_lowestFit_61 rfl (lv_at hl 5 rfl) ?_
            refine va_iald hx hb hK hP 68 0 rfl rfl (vp_inI (by omega) (by omega)) dX4_lowestFit_62 ?_
            refine lv_topi (fun v_13 ev_13 => ?_)
            have hgv_13 : 0 ≤ v_13.toInt ∧ v_13.toInt ≤ 9 := by rw [ev_13]; exact hRr 68 _
            refine lv_aload hx hb dX4_lowestFit_63 (lv_at hl 1 rfl) ?_
            refine va_get (D := D) (ci := 10) (v := .ref (a 73)) (C := RX10) (T := TX10) (N := 5) hx hb hT iX10 hown hK hP 70 rfl rfl 3 (by decide) (hT _ t_417) (fun _ h9 => h9) rfl dX4_lowestFit_65 ?_
            refine lv_iload hx hb dX4_lowestFit_68 (lv_at hl 0 rfl) ?_
            refine va_iald hx hb hK hP 73 0 rfl rfl (vp_inI (by omega) (by omega)) dX4_lowestFit_70 ?_
            refine lv_topi (fun v_14 ev_14 => ?_)
            have hgv_14 : 0 ≤ v_14.toInt ∧ v_14.toInt ≤ 9 := by rw [ev_14]; exact hRr 73 _
            refine vp_callSi (W.runV (As := [.int v_13, .int v_14]) (rest := []) ⟨hx, hb, hml, hown, hT⟩ (c_X4_fits l D cy a i r q (hW cy a i r ++ tl) v_13 v_14 hRi hRr (by first | omega | decide) (by first | omega | decide)) (cwV 2 hT (gV t_425 t_426 t_427 t_428 t_419) rfl rfl rfl (by decide +kernel) ⟨Nat.le_of_ble_eq_true rfl, Nat.le_of_ble_eq_true rfl⟩) (rP_v hP hK (va_recv hK hP (ci := 4) (q0 := 5) rfl rfl)) rfl rfl hl.1 rfl (lv_room (Nat.le_of_ble_eq_true rfl)) dX4_lowestFit_71 ⟨Nat.le_of_ble_eq_true rfl, Nat.le_of_ble_eq_true rfl⟩) (fun r_15 hr_15 => ?_)
            rcases hr_15 with rfl | rfl
            · skip
              refine lv_if_eq (tgt := 80) hx hb dX4_lowestFit_74 (by decide) (fun c_16 => ?_) (fun c_16 => absurd (by decide) c_16)
              obtain ⟨x_17, ex_17⟩ : ∃ y : Int32, y = x1_5 + 1 := ⟨_, rfl⟩
              refine lv_iinc (v := x_17) (lv' := [(5, .int x_17), (4, .ref (a 70)), (3, .ref (a 65)), (0, .ref (a 5)), (1, .ref (a 61)), (2, .int p0)]) hx hb dX4_lowestFit_80 hl (k := 0) rfl (by rw [ex_17]; rfl) (by decide) rfl (fun ls hl => ?_)
              have hx_17 : x_17.toInt = x1_5.toInt + 1 := by rw [ex_17]; have := b_rg x1_5; exact i_add (a := x1_5.toInt) (b := 1) rfl rfl (by omega) (by omega)
              refine lv_goto (tgt := 14) hx hb dX4_lowestFit_83 (by decide) ?_
              exact ih1 x_17 _ (by first | omega | (simp only [Int.toNat]; omega)) (by first | omega | decide)    (lv_sub hl [0, 1, 2, 3, 4, 5] rfl)
            · skip
              refine lv_if_eq (tgt := 80) hx hb dX4_lowestFit_74 (by decide) (fun c_18 => absurd c_18 (by decide)) (fun c_18 => ?_)
              refine lv_iload hx hb dX4_lowestFit_77 (lv_at hl 0 rfl) ?_
              subst hQ
              exact W.iret (v := x1_5) hx hb hr (fun t ht hW => ⟨_, rfl, (by show -2 ≤ x1_5.toInt ∧ x1_5.toInt ≤ 19; omega), ht⟩) (fun q hq => absurd hq List.not_mem_nil) dX4_lowestFit_79
  exact loop_1 _ 0 _ (Nat.lt_succ_self _) (by first | omega | decide)    hl
set_option maxHeartbeats 4000000 in
set_option maxRecDepth 100000 in
theorem c_X4_join (l : Launch) (D : va_G) (cy : Nat → ClassId) (a : Nat → Nat) (i : Nat → Int32) (r : Nat → Nat → Int32) (q : Nat → Option Nat) (tl : va_W) (p0 p1 : Int32) (sz : Nat) (hRi : yRi i) (hRr : yRr r) : Met l yX4_join (Cond.code yX4_join cX4_join 7 none :: gT) { frames := 3, cells := 0, slots := 0, locals := 72 } (va_Pc [.ref (a 5), .ref (a 61), .int p0, .int p1] (rQ D cy (xW cy a i r q (a 20) (a 12) ++ (hW cy a i r ++ tl)) sz)) (va_Qv (fun u : Nat → Nat → Int32 => yRr u ∧ mEr [6, 7, 75] r u ∧ True) (fun (u : Nat → Nat → Int32) t => va_P D vwCl (xW cy a i u q (a 20) (a 12) ++ (hW cy a i u ++ tl)) t.heap ∧ va_K D vwCl (vT cy) t ∧ va_D (va_A (xW cy a i r q (a 20) (a 12) ++ (hW cy a i r ++ tl)) sz) (xW cy a i u q (a 20) (a 12) ++ (hW cy a i u ++ tl))) (va_A (xW cy a i r q (a 20) (a 12) ++ (hW cy a i r ++ tl)) sz)) 0 0 (va_A (xW cy a i r q (a 20) (a 12) ++ (hW cy a i r ++ tl)) sz) := by
  refine Met.ofQ (cc := cX4_join) (maxL := 7) (ret := none) (by decide) rfl ?_
  intro p e s m args below meth c s₁ B hml hv Q hQ
  obtain ⟨rfl, hsz, hP, hK, hD0⟩ := hv
  have hx := B.exec
  have hb := B.bytes
  have hr := B.returns
  have hlocks := B.notSynchronized
  have hT : ∀ w ∈ gT, w.before _ s = true := fun w h => atoms_spec (ws := (Cond.code yX4_join cX4_join 7 none :: gT)) B.pre w (List.mem_cons_of_mem _ h)
  have hown : s.vm.findClass RX4 = some m.cls := findClass_of_methodNamed B.named
  subst hsz
  have hD := hD0.self (sz := s.heap.size)
  generalize hAe : va_A (xW cy a i r q (a 20) (a 12) ++ (hW cy a i r ++ tl)) s.heap.size = A at hD hQ
  have hA : ∀ q : Nat, s.heap.size ≤ q → A q := fun q h => by rw [← hAe]; exact Or.inr h
  have hS : va_S A s.heap s.heap [] := va_S.rf
  have hl := lv_entry ([.ref (a 5), .ref (a 61), .int p0, .int p1]) (n := 7) (Nat.le_of_ble_eq_true rfl)
  rw [lg_entry_eq]
  generalize (lg_sl ([.ref (a 5), .ref (a 61), .int p0, .int p1]) ++ List.replicate (7 - (lg_sl ([.ref (a 5), .ref (a 61), .int p0, .int p1])).length) Slot.unset).toArray = ls at hl ⊢
  have hl : lv_has ls 7 [(0, .ref (a 5)), (1, .ref (a 61)), (2, .int p0), (3, .int p1)] := hl
  have hEi : mEi [] i i := Ei_rf
  have hEr : mEr [6, 7, 75] r r := Er_rf
  refine lv_aload_n hx hb dX4_join_0 rfl (lv_at hl 1 rfl) ?_
  refine va_get (D := D) (ci := 3) (v := .ref (a 65)) (C := RX3) (T := TX3) (N := 12) hx hb hT iX3 hown hK hP 61 rfl rfl 9 (by decide) (hT _ t_408) (fun _ h9 => h9) rfl dX4_join_1 ?_
  refine lv_astore (lv' := [(4, .ref (a 65)), (0, .ref (a 5)), (1, .ref (a 61)), (2, .int p0), (3, .int p1)]) hx hb dX4_join_4 hl (by decide) rfl (fun ls hl => ?_)
  refine lv_aload_n hx hb dX4_join_6 rfl (lv_at hl 1 rfl) ?_
  refine lv_aload_n hx hb dX4_join_7 rfl (lv_at hl 2 rfl) ?_
  refine lv_iload_n hx hb dX4_join_8 rfl (lv_at hl 3 rfl) ?_
  refine lv_iload_n hx hb dX4_join_9 rfl (lv_at hl 4 rfl) ?_
  have hF_1 := rF hD hS hA
  refine va_callv (va_runV (As := [.ref (a 61), .int p0, .int p1]) (rest := []) ⟨hx, hb, hml, hown, hT⟩ (c_X4_begin l D cy a i r q tl p0 p1 _ hRi hRr) (cwV 3 hT (gV t_429 t_430 t_431 t_432 t_419) rfl rfl rfl (by decide +kernel) ⟨Nat.le_of_ble_eq_true rfl, Nat.le_of_ble_eq_true rfl⟩) (rQ_v hP hK hD (va_recv hK hP (ci := 4) (q0 := 5) rfl rfl)) rfl rfl hl.1 rfl (lv_room (Nat.le_of_ble_eq_true rfl)) dX4_join_10 ⟨Nat.le_of_ble_eq_true rfl, Nat.le_of_ble_eq_true rfl⟩) hS (fun q _ h => hF_1 q h) hF_1 (fun u_3 t H1 locs ht hvm hr_2 hB hz1 hk1 hS => ?_)
  obtain ⟨r3, rfl⟩ : ∃ z, z = u_3 := ⟨_, rfl⟩
  obtain ⟨hP, hK1, hD1⟩ := hB
  rw [ht] at hP
  have hD := hD1.weaken (fun k q _ h => hF_1 q.1 h)
  obtain ⟨hRr, hE2, hr_2⟩ := hr_2
  have hRr : yRr r3 := hRr
  have hE2 : mEr [6, 7] r r3 := hE2
  have hP : va_P D vwCl (xW cy a i r3 q (a 20) (a 12) ++ (hW cy a i r3 ++ tl)) H1 := hP
  have hD : va_D A (xW cy a i r3 q (a 20) (a 12) ++ (hW cy a i r3 ++ tl)) := hD
  have hEr : mEr [6, 7, 75] _ r3 := Er_tr hEr hE2 (by decide)
  refine lv_iconst (v := 0) hx hb dX4_join_13 (by decide) ?_
  refine lv_istore (lv' := [(5, .int 0), (4, .ref (a 65)), (0, .ref (a 5)), (1, .ref (a 61)), (2, .int p0), (3, .int p1)]) hx hb dX4_join_14 hl (by decide) rfl (fun ls hl => ?_)
  have loop_4 : ∀ (n : Nat) (x4_5 : Int32) (r4 : Nat → Nat → Int32) (H : Heap) (locs : List Loc) (ls : Array Slot), (20 - x4_5.toInt).toNat < n → (0 ≤ x4_5.toInt ∧ x4_5.toInt ≤ 20) → yRr r4 → mEr [6, 7, 75] r r4 → va_P D vwCl (xW cy a i r4 q (a 20) (a 12) ++ (hW cy a i r4 ++ tl)) H → va_D A (xW cy a i r4 q (a 20) (a 12) ++ (hW cy a i r4 ++ tl)) → va_S A s.heap H locs → lv_has ls 7 [(5, .int x4_5), (4, .ref (a 65)), (0, .ref (a 5)), (1, .ref (a 61)), (2, .int p0), (3, .int p1)] → W p l e ({ frames := 3, cells := 0, slots := 0, locals := 72 } : Room) s m ([.ref (a 5), .ref (a 61), .int p0, .int p1] : List Value).toArray below meth c H locs 0 0 Q (F0 m 16 ls []) := by
    intro n
    induction n with
    | zero =>
      intro x4_5 r4 H locs ls hm4 hf4_0 hRr hEr hP hD hS hl
      exact absurd hm4 (by omega)
    | succ n ih4 =>
      intro x4_5 r4 H locs ls hm4 hf4_0 hRr hEr hP hD hS hl
      refine lv_iload hx hb dX4_join_16 (lv_at hl 0 rfl) ?_
      refine lv_aload hx hb dX4_join_18 (lv_at hl 1 rfl) ?_
      refine va_get (D := D) (ci := 10) (v := .int (i 23)) (C := RX10) (T := TX10) (N := 5) hx hb hT iX10 hown hK hP 65 rfl rfl 0 (by decide) (hT _ t_409) (fun _ h9 => h9) rfl dX4_join_20 ?_
      have hg_5 : 0 ≤ (i 23).toInt ∧ (i 23).toInt ≤ 20 := hRi 23
      refine lv_icmp_ge (tgt := 103) hx hb dX4_join_23 (by decide) (fun c_6 => ?_) (fun c_6 => ?_)
      · have c_6 : (i 23).toInt ≤ x4_5.toInt := b_le c_6
        subst hQ
        exact W.vret hx hb hr (fun t ht hW => ⟨⟨r4, rfl, ⟨hRr, hEr, trivial⟩, by rw [ht]; exact hP, va_K.moved hW.alike hK, hD⟩, hS.F ht⟩) hS.2.2 dX4_join_103
      · have c_6 : x4_5.toInt < (i 23).toInt := b_nle c_6
        refine lv_aload hx hb dX4_join_26 (lv_at hl 1 rfl) ?_
        refine lv_iload hx hb dX4_join_28 (lv_at hl 0 rfl) ?_
        refine lv_iload_n hx hb dX4_join_30 rfl (lv_at hl 4 rfl) ?_
        refine lv_iload_n hx hb dX4_join_31 rfl (lv_at hl 5 rfl) ?_
        refine vp_callSi (W.runV (As := [.int x4_5, .int p0, .int p1]) (rest := []) ⟨hx, hb, hml, hown, hT⟩ (c_X10_isOf_r65 l D cy a i r4 q tl x4_5 p0 p1 hRi hRr (by first | omega | decide)) (cwV 3 hT (gV t_412 t_414 t_415 t_416 t_413) rfl rfl rfl (by decide +kernel) ⟨Nat.le_of_ble_eq_true rfl, Nat.le_of_ble_eq_true rfl⟩) (rP_v hP hK (va_recv hK hP (ci := 10) (q0 := 65) rfl rfl)) rfl rfl hl.1 rfl (lv_room (Nat.le_of_ble_eq_true rfl)) dX4_join_32 ⟨Nat.le_of_ble_eq_true rfl, Nat.le_of_ble_eq_true rfl⟩) (fun r_7 hr_7 => ?_)
        rcases hr_7 with rfl | rfl
        · skip
          refine lv_if_eq (tgt := 97) hx hb dX4_join_35 (by decide) (fun c_8 => ?_) (fun c_8 => absurd (by decide) c_8)
          obtain ⟨x_9, ex_9⟩ : ∃ y : Int32, y = x4_5 + 1 := ⟨_, rfl⟩
          refine lv_iinc (v := x_9) (lv' := [(5, .int x_9), (4, .ref (a 65)), (0, .ref (a 5)), (1, .ref (a 61)), (2, .int p0), (3, .int p1)]) hx hb dX4_join_97 hl (k := 0) rfl (by rw [ex_9]; rfl) (by decide) rfl (fun ls hl => ?_)
          have hx_9 : x_9.toInt = x4_5.toInt + 1 := by rw [ex_9]; have := b_rg x4_5; exact i_add (a := x4_5.toInt) (b := 1) rfl rfl (by omega) (by omega)
          refine lv_goto (tgt := 16) hx hb dX4_join_100 (by decide) ?_
          exact ih4 x_9 r4 _ _ _ (by first | omega | (simp only [Int.toNat]; omega)) (by first | omega | decide) hRr hEr  hP hD hS (lv_sub hl [0, 1, 2, 3, 4, 5] rfl)
        · skip
          refine lv_if_eq (tgt := 97) hx hb dX4_join_35 (by decide) (fun c_10 => absurd c_10 (by decide)) (fun c_10 => ?_)
          refine lv_aload_n hx hb dX4_join_38 rfl (lv_at hl 2 rfl) ?_
          refine lv_aload_n hx hb dX4_join_39 rfl (lv_at hl 3 rfl) ?_
          refine lv_iload hx hb dX4_join_40 (lv_at hl 0 rfl) ?_
          refine vp_callSi (W.runV (As := [.ref (a 61), .int x4_5]) (rest := []) ⟨hx, hb, hml, hown, hT⟩ (c_X4_lowestFit l D cy a i r4 q tl x4_5 hRi hRr (by first | omega | decide)) (cwV 2 hT (gV t_433 t_434 t_435 t_436 t_419) rfl rfl rfl (by decide +kernel) ⟨Nat.le_of_ble_eq_true rfl, Nat.le_of_ble_eq_true rfl⟩) (rP_v hP hK (va_recv hK hP (ci := 4) (q0 := 5) rfl rfl)) rfl rfl hl.1 rfl (lv_room (Nat.le_of_ble_eq_true rfl)) dX4_join_42 ⟨Nat.le_of_ble_eq_true rfl, Nat.le_of_ble_eq_true rfl⟩) (fun r_11 hr_11 => ?_)
          have hr_11 : -2 ≤ r_11.toInt ∧ r_11.toInt ≤ 19 := hr_11
          refine lv_istore (lv' := [(6, .int r_11), (5, .int x4_5), (4, .ref (a 65)), (0, .ref (a 5)), (1, .ref (a 61)), (2, .int p0), (3, .int p1)]) hx hb dX4_join_45 hl (by decide) rfl (fun ls hl => ?_)
          refine lv_aload_n hx hb dX4_join_47 rfl (lv_at hl 4 rfl) ?_
          refine va_get (D := D) (ci := 3) (v := .ref (a 75)) (C := RX3) (T := TX3) (N := 12) hx hb hT iX3 hown hK hP 61 rfl rfl 11 (by decide) (hT _ t_437) (fun _ h9 => h9) rfl dX4_join_48 ?_
          refine lv_iload hx hb dX4_join_51 (lv_at hl 1 rfl) ?_
          refine lv_iload hx hb dX4_join_53 (lv_at hl 0 rfl) ?_
          refine va_iast hx hb hK hP hD hS 75 0 rfl rfl (vp_inI (by omega) (by omega)) dX4_join_55 (fun H locs hP hD hS => ?_)
          rw [yS75] at hP hD
          have hRr : yRr (va_up r4 75 (upd (r4 75) x4_5.toNatClampNeg r_11)) := Yr_upd hRr 75 (x4_5.toNatClampNeg) r_11 ⟨by show (-2 : Int) ≤ r_11.toInt; omega, by show r_11.toInt ≤ (19 : Int); omega⟩
          have hEr : mEr [6, 7, 75] _ (va_up r4 75 (upd (r4 75) x4_5.toNatClampNeg r_11)) := Er_up hEr 75 _ (by decide)
          refine lv_aload_n hx hb dX4_join_56 rfl (lv_at hl 3 rfl) ?_
          refine lv_aload hx hb dX4_join_57 (lv_at hl 2 rfl) ?_
          refine va_get (D := D) (ci := 10) (v := .ref (a 68)) (C := RX10) (T := TX10) (N := 5) hx hb hT iX10 hown hK hP 65 rfl rfl 3 (by decide) (hT _ t_417) (fun _ h9 => h9) rfl dX4_join_59 ?_
          refine lv_iload hx hb dX4_join_62 (lv_at hl 1 rfl) ?_
          refine va_iald hx hb hK hP 68 0 rfl rfl (vp_inI (by omega) (by omega)) dX4_join_64 ?_
          refine lv_topi (fun v_12 ev_12 => ?_)
          have hgv_12 : 0 ≤ v_12.toInt ∧ v_12.toInt ≤ 9 := by rw [ev_12]; exact hRr 68 _
          refine lv_iconst (v := (-1)) hx hb dX4_join_65 (by decide) ?_
          have hF_13 := rF hD hS hA
          refine va_callv (va_runV (As := [.int v_12, .int (-1)]) (rest := []) ⟨hx, hb, hml, hown, hT⟩ (c_X4_change l D cy a i (va_up r4 75 (upd (r4 75) x4_5.toNatClampNeg r_11)) q (hW cy a i (va_up r4 75 (upd (r4 75) x4_5.toNatClampNeg r_11)) ++ tl) v_12 (-1) _ hRi hRr) (cwV 2 hT (gV t_418 t_420 t_421 t_422 t_419) rfl rfl rfl (by decide +kernel) ⟨Nat.le_of_ble_eq_true rfl, Nat.le_of_ble_eq_true rfl⟩) (rQ_v hP hK hD (va_recv hK hP (ci := 4) (q0 := 5) rfl rfl)) rfl rfl hl.1 rfl (lv_room (Nat.le_of_ble_eq_true rfl)) dX4_join_66 ⟨Nat.le_of_ble_eq_true rfl, Nat.le_of_ble_eq_true rfl⟩) hS (fun q _ h => hF_13 q h) hF_13 (fun u_15 t H1 locs ht hvm hr_14 hB hz1 hk1 hS => ?_)
          obtain ⟨r15, rfl⟩ : ∃ z, z = u_15 := ⟨_, rfl⟩
          obtain ⟨hP, hK1, hD1⟩ := hB
          rw [ht] at hP
          have hD := hD1.weaken (fun k q _ h => hF_13 q.1 h)
          obtain ⟨hRr, hE2, hr_14⟩ := hr_14
          have hRr : yRr r15 := hRr
          have hE2 : mEr [6] (va_up r4 75 (upd (r4 75) x4_5.toNatClampNeg r_11)) r15 := hE2
          have hwe : hW cy a i r15 = hW cy a i (va_up r4 75 (upd (r4 75) x4_5.toNatClampNeg r_11)) := hW_eqE (Ei_rf (T := [])) hE2 rfl rfl
          have hP : va_P D vwCl (xW cy a i r15 q (a 20) (a 12) ++ (hW cy a i r15 ++ tl)) H1 := by rw [hwe]; exact hP
          have hD : va_D A (xW cy a i r15 q (a 20) (a 12) ++ (hW cy a i r15 ++ tl)) := by rw [hwe]; exact hD
          have hEr : mEr [6, 7, 75] _ r15 := Er_tr hEr hE2 (by decide)
          refine lv_iload hx hb dX4_join_69 (lv_at hl 0 rfl) ?_
          refine lv_if_lt (tgt := 97) hx hb dX4_join_71 (by decide) (fun c_16 => ?_) (fun c_16 => ?_)
          · have c_16 : r_11.toInt < 0 := b_lt c_16
            obtain ⟨x_17, ex_17⟩ : ∃ y : Int32, y = x4_5 + 1 := ⟨_, rfl⟩
            refine lv_iinc (v := x_17) (lv' := [(5, .int x_17), (6, .int r_11), (4, .ref (a 65)), (0, .ref (a 5)), (1, .ref (a 61)), (2, .int p0), (3, .int p1)]) hx hb dX4_join_97 hl (k := 1) rfl (by rw [ex_17]; rfl) (by decide) rfl (fun ls hl => ?_)
            have hx_17 : x_17.toInt = x4_5.toInt + 1 := by rw [ex_17]; have := b_rg x4_5; exact i_add (a := x4_5.toInt) (b := 1) rfl rfl (by omega) (by omega)
            refine lv_goto (tgt := 16) hx hb dX4_join_100 (by decide) ?_
            exact ih4 x_17 r15 _ _ _ (by first | omega | (simp only [Int.toNat]; omega)) (by first | omega | decide) hRr hEr  hP hD hS (lv_sub hl [0, 2, 3, 4, 5, 6] rfl)
          · have c_16 : 0 ≤ r_11.toInt := b_nlt c_16
            refine lv_aload_n hx hb dX4_join_74 rfl (lv_at hl 3 rfl) ?_
            refine va_get (D := D) (ci := 4) (v := .ref (a 7)) (C := RX4) (T := TX4) (N := 2) hx hb hT iX4 hown hK hP 5 rfl rfl 1 (by decide) (hT _ t_411) (fun _ h9 => h9) rfl dX4_join_75 ?_
            refine lv_iload hx hb dX4_join_78 (lv_at hl 0 rfl) ?_
            refine lv_iconst (v := 1) hx hb dX4_join_80 (by decide) ?_
            refine va_zast hx hb hK hP hD hS 7 2 rfl rfl (vp_inI (by omega) (by omega)) dX4_join_81 (fun H locs hP hD hS => ?_)
            rw [yS7] at hP hD
            have hRr : yRr (va_up r15 7 (upd (r15 7) r_11.toNatClampNeg (vp_nar .boolean 1))) := Yr_upd hRr 7 (r_11.toNatClampNeg) (vp_nar .boolean 1) (b_rg _)
            have hEr : mEr [6, 7, 75] _ (va_up r15 7 (upd (r15 7) r_11.toNatClampNeg (vp_nar .boolean 1))) := Er_up hEr 7 _ (by decide)
            refine lv_aload_n hx hb dX4_join_82 rfl (lv_at hl 3 rfl) ?_
            refine lv_aload_n hx hb dX4_join_83 rfl (lv_at hl 4 rfl) ?_
            refine va_get (D := D) (ci := 3) (v := .ref (a 70)) (C := RX3) (T := TX3) (N := 12) hx hb hT iX3 hown hK hP 61 rfl rfl 10 (by decide) (hT _ t_410) (fun _ h9 => h9) rfl dX4_join_84 ?_
            refine va_get (D := D) (ci := 10) (v := .ref (a 73)) (C := RX10) (T := TX10) (N := 5) hx hb hT iX10 hown hK hP 70 rfl rfl 3 (by decide) (hT _ t_417) (fun _ h9 => h9) rfl dX4_join_87 ?_
            refine lv_iload hx hb dX4_join_90 (lv_at hl 0 rfl) ?_
            refine va_iald hx hb hK hP 73 0 rfl rfl (vp_inI (by omega) (by omega)) dX4_join_92 ?_
            refine lv_topi (fun v_18 ev_18 => ?_)
            have hgv_18 : 0 ≤ v_18.toInt ∧ v_18.toInt ≤ 9 := by rw [ev_18]; exact hRr 73 _
            refine lv_iconst (v := 1) hx hb dX4_join_93 (by decide) ?_
            have hF_19 := rF hD hS hA
            refine va_callv (va_runV (As := [.int v_18, .int 1]) (rest := []) ⟨hx, hb, hml, hown, hT⟩ (c_X4_change l D cy a i (va_up r15 7 (upd (r15 7) r_11.toNatClampNeg (vp_nar .boolean 1))) q (hW cy a i (va_up r15 7 (upd (r15 7) r_11.toNatClampNeg (vp_nar .boolean 1))) ++ tl) v_18 1 _ hRi hRr) (cwV 2 hT (gV t_418 t_420 t_421 t_422 t_419) rfl rfl rfl (by decide +kernel) ⟨Nat.le_of_ble_eq_true rfl, Nat.le_of_ble_eq_true rfl⟩) (rQ_v hP hK hD (va_recv hK hP (ci := 4) (q0 := 5) rfl rfl)) rfl rfl hl.1 rfl (lv_room (Nat.le_of_ble_eq_true rfl)) dX4_join_94 ⟨Nat.le_of_ble_eq_true rfl, Nat.le_of_ble_eq_true rfl⟩) hS (fun q _ h => hF_19 q h) hF_19 (fun u_21 t H1 locs ht hvm hr_20 hB hz1 hk1 hS => ?_)
            obtain ⟨r21, rfl⟩ : ∃ z, z = u_21 := ⟨_, rfl⟩
            obtain ⟨hP, hK1, hD1⟩ := hB
            rw [ht] at hP
            have hD := hD1.weaken (fun k q _ h => hF_19 q.1 h)
            obtain ⟨hRr, hE2, hr_20⟩ := hr_20
            have hRr : yRr r21 := hRr
            have hE2 : mEr [6] (va_up r15 7 (upd (r15 7) r_11.toNatClampNeg (vp_nar .boolean 1))) r21 := hE2
            have hwe : hW cy a i r21 = hW cy a i (va_up r15 7 (upd (r15 7) r_11.toNatClampNeg (vp_nar .boolean 1))) := hW_eqE (Ei_rf (T := [])) hE2 rfl rfl
            have hP : va_P D vwCl (xW cy a i r21 q (a 20) (a 12) ++ (hW cy a i r21 ++ tl)) H1 := by rw [hwe]; exact hP
            have hD : va_D A (xW cy a i r21 q (a 20) (a 12) ++ (hW cy a i r21 ++ tl)) := by rw [hwe]; exact hD
            have hEr : mEr [6, 7, 75] _ r21 := Er_tr hEr hE2 (by decide)
            obtain ⟨x_22, ex_22⟩ : ∃ y : Int32, y = x4_5 + 1 := ⟨_, rfl⟩
            refine lv_iinc (v := x_22) (lv' := [(5, .int x_22), (6, .int r_11), (4, .ref (a 65)), (0, .ref (a 5)), (1, .ref (a 61)), (2, .int p0), (3, .int p1)]) hx hb dX4_join_97 hl (k := 1) rfl (by rw [ex_22]; rfl) (by decide) rfl (fun ls hl => ?_)
            have hx_22 : x_22.toInt = x4_5.toInt + 1 := by rw [ex_22]; have := b_rg x4_5; exact i_add (a := x4_5.toInt) (b := 1) rfl rfl (by omega) (by omega)
            refine lv_goto (tgt := 16) hx hb dX4_join_100 (by decide) ?_
            exact ih4 x_22 r21 _ _ _ (by first | omega | (simp only [Int.toNat]; omega)) (by first | omega | decide) hRr hEr  hP hD hS (lv_sub hl [0, 2, 3, 4, 5, 6] rfl)
  exact loop_4 _ 0 r3 _ _ _ (Nat.lt_succ_self _) (by first | omega | decide) hRr hEr  hP hD hS hl
set_option maxHeartbeats 4000000 in
set_option maxRecDepth 100000 in
theorem c_X11_listed (l : Launch) (D : va_G) (cy : Nat → ClassId) (a : Nat → Nat) (i : Nat → Int32) (r : Nat → Nat → Int32) (q : Nat → Option Nat) (tl : va_W) (p0 p1 p2 : Int32) (sz : Nat) (hRi : yRi i) (hRr : yRr r) : Met l yX11_listed (Cond.code yX11_listed cX11_listed 5 (some .int) :: gT) { frames := 4, cells := 0, slots := 0, locals := 98 } (va_Pc [.ref (a 0), .ref (a 61), .int p0, .int p1, .int p2] (rQ D cy (xW cy a i r q (a 20) (a 12) ++ (hW cy a i r ++ tl)) sz)) (va_Qi (fun (z : Int32) (u : Nat → Nat → Int32) => yRr u ∧ mEr [6, 7, 75] r u ∧ True) (fun (u : Nat → Nat → Int32) t => va_P D vwCl (xW cy a i u q (a 20) (a 12) ++ (hW cy a i u ++ tl)) t.heap ∧ va_K D vwCl (vT cy) t ∧ va_D (va_A (xW cy a i r q (a 20) (a 12) ++ (hW cy a i r ++ tl)) sz) (xW cy a i u q (a 20) (a 12) ++ (hW cy a i u ++ tl))) (va_A (xW cy a i r q (a 20) (a 12) ++ (hW cy a i r ++ tl)) sz)) 0 0 (va_A (xW cy a i r q (a 20) (a 12) ++ (hW cy a i r ++ tl)) sz) := by
  refine Met.ofQ (cc := cX11_listed) (maxL := 5) (ret := (some .int)) (by decide) rfl ?_
  intro p e s m args below meth c s₁ B hml hv Q hQ
  obtain ⟨rfl, hsz, hP, hK, hD0⟩ := hv
  have hx := B.exec
  have hb := B.bytes
  have hr := B.returns
  have hlocks := B.notSynchronized
  have hT : ∀ w ∈ gT, w.before _ s = true := fun w h => atoms_spec (ws := (Cond.code yX11_listed cX11_listed 5 (some .int) :: gT)) B.pre w (List.mem_cons_of_mem _ h)
  have hown : s.vm.findClass RX11 = some m.cls := findClass_of_methodNamed B.named
  subst hsz
  have hD := hD0.self (sz := s.heap.size)
  generalize hAe : va_A (xW cy a i r q (a 20) (a 12) ++ (hW cy a i r ++ tl)) s.heap.size = A at hD hQ
  have hA : ∀ q : Nat, s.heap.size ≤ q → A q := fun q h => by rw [← hAe]; exact Or.inr h
  have hS : va_S A s.heap s.heap [] := va_S.rf
  have hl := lv_entry ([.ref (a 0), .ref (a 61), .int p0, .int p1, .int p2]) (n := 5) (Nat.le_of_ble_eq_true rfl)
  rw [lg_entry_eq]
  generalize (lg_sl ([.ref (a 0), .ref (a 61), .int p0, .int p1, .int p2]) ++ List.replicate (5 - (lg_sl ([.ref (a 0), .ref (a 61), .int p0, .int p1, .int p2])).length) Slot.unset).toArray = ls at hl ⊢
  have hl : lv_has ls 5 [(0, .ref (a 0)), (1, .ref (a 61)), (2, .int p0), (3, .int p1), (4, .int p2)] := hl
  have hEi : mEi [] i i := Ei_rf
  have hEr : mEr [6, 7, 75] r r := Er_rf
  refine lv_iload_n hx hb dX11_listed_0 rfl (lv_at hl 2 rfl) ?_
  refine lv_iconst (v := (-1)) hx hb dX11_listed_1 (by decide) ?_
  refine lv_icmp_eq (tgt := 16) hx hb dX11_listed_2 (by decide) (fun c_1 => ?_) (fun c_1 => ?_)
  · have c_1 : p0.toInt = (-1) := b_eq c_1
    refine lv_iload_n hx hb dX11_listed_16 rfl (lv_at hl 2 rfl) ?_
    subst hQ
    exact W.iret (v := p0) hx hb hr (fun t ht hW => ⟨⟨_, r, rfl, ⟨hRr, hEr, trivial⟩, by rw [ht]; exact hP, va_K.moved hW.alike hK, hD⟩, hS.F ht⟩) hS.2.2 dX11_listed_17
  · have c_1 : p0.toInt ≠ (-1) := b_ne c_1
    refine lv_aload_n hx hb dX11_listed_5 rfl (lv_at hl 0 rfl) ?_
    refine va_get (D := D) (ci := 11) (v := .ref (a 5)) (C := RX11) (T := TX11) (N := 14) hx hb hT iX11 hown hK hP 0 rfl rfl 3 (by decide) (hT _ t_438) (fun _ h9 => h9) rfl dX11_listed_6 ?_
    refine lv_aload_n hx hb dX11_listed_9 rfl (lv_at hl 1 rfl) ?_
    refine lv_iload_n hx hb dX11_listed_10 rfl (lv_at hl 3 rfl) ?_
    refine lv_iload hx hb dX11_listed_11 (lv_at hl 4 rfl) ?_
    have hF_2 := rF hD hS hA
    refine va_callv (va_runV (As := [.ref (a 61), .int p1, .int p2]) (rest := []) ⟨hx, hb, hml, hown, hT⟩ (c_X4_join l D cy a i r q tl p1 p2 _ hRi hRr) (cwV 3 hT (gV t_439 t_440 t_441 t_442 t_419) rfl rfl rfl (by decide +kernel) ⟨Nat.le_of_ble_eq_true rfl, Nat.le_of_ble_eq_true rfl⟩) (rQ_v hP hK hD (va_recv hK hP (ci := 4) (q0 := 5) rfl rfl)) rfl rfl hl.1 rfl (lv_room (Nat.le_of_ble_eq_true rfl)) dX11_listed_13 ⟨Nat.le_of_ble_eq_true rfl, Nat.le_of_ble_eq_true rfl⟩) hS (fun q _ h => hF_2 q h) hF_2 (fun u_4 t H1 locs ht hvm hr_3 hB hz1 hk1 hS => ?_)
    obtain ⟨r4, rfl⟩ : ∃ z, z = u_4 := ⟨_, rfl⟩
    obtain ⟨hP, hK1, hD1⟩ := hB
    rw [ht] at hP
    have hD := hD1.weaken (fun k q _ h => hF_2 q.1 h)
    obtain ⟨hRr, hE2, hr_3⟩ := hr_3
    have hRr : yRr r4 := hRr
    have hE2 : mEr [6, 7, 75] r r4 := hE2
    have hP : va_P D vwCl (xW cy a i r4 q (a 20) (a 12) ++ (hW cy a i r4 ++ tl)) H1 := hP
    have hD : va_D A (xW cy a i r4 q (a 20) (a 12) ++ (hW cy a i r4 ++ tl)) := hD
    have hEr : mEr [6, 7, 75] _ r4 := Er_tr hEr hE2 (by decide)
    refine lv_iload_n hx hb dX11_listed_16 rfl (lv_at hl 2 rfl) ?_
    subst hQ
    exact W.iret (v := p0) hx hb hr (fun t ht hW => ⟨⟨_, r4, rfl, ⟨hRr, hEr, trivial⟩, by rw [ht]; exact hP, va_K.moved hW.alike hK, hD⟩, hS.F ht⟩) hS.2.2 dX11_listed_17
