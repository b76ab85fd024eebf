set_option maxRecDepth 100000 in
theorem t_443 : Cond.code yX11_homeAt cX11_homeAt 2 (some (.object "DepositJudge$Home")) ∈ gT := tm (tb2 (List.mem_of_getElem? (i := 169) (by rfl))) (by decide +kernel)
set_option maxRecDepth 100000 in
theorem t_444 : Cond.methodLink RX11 108 yX11_homeAt ∈ gT := tm (tb2 (List.mem_of_getElem? (i := 166) (by rfl))) (by decide +kernel)
set_option maxRecDepth 100000 in
theorem t_445 : Cond.instanceMethod yX11_homeAt ∈ gT := tm (tb2 (List.mem_of_getElem? (i := 168) (by rfl))) (by decide +kernel)
theorem t_446 : Cond.selects RX11 yX11_homeAt yX11_homeAt ∈ gT := tmp (List.mem_of_getElem? (i := 0) (by decide +kernel)) (by decide +kernel)
set_option maxRecDepth 100000 in
theorem t_447 : Cond.fieldLink RX11 112 "DepositJudge$Home" "tenants" "I" ∈ gT := tm (tb2 (List.mem_of_getElem? (i := 114) (by rfl))) (by decide +kernel)
set_option maxRecDepth 100000 in
theorem t_448 : Cond.fieldLink RX11 115 "DepositJudge$Home" "parts" "[I" ∈ gT := tm (tb2 (List.mem_of_getElem? (i := 123) (by rfl))) (by decide +kernel)
set_option maxRecDepth 100000 in
theorem t_449 : Cond.fieldLink RX11 118 "DepositJudge$Home" "debts" "[I" ∈ gT := tm (tb2 (List.mem_of_getElem? (i := 125) (by rfl))) (by decide +kernel)
set_option maxRecDepth 100000 in
theorem t_450 : Cond.code yX11_isThing cX11_isThing 3 (some .boolean) ∈ gT := tm (tb2 (List.mem_of_getElem? (i := 180) (by rfl))) (by decide +kernel)
set_option maxRecDepth 100000 in
theorem t_451 : Cond.methodLink RX11 121 yX11_isThing ∈ gT := tm (tb2 (List.mem_of_getElem? (i := 178) (by rfl))) (by decide +kernel)
set_option maxRecDepth 100000 in
theorem t_452 : Cond.static yX11_isThing ∈ gT := tm (tb2 (List.mem_of_getElem? (i := 179) (by rfl))) (by decide +kernel)
set_option maxRecDepth 100000 in
theorem t_453 : Cond.fieldLink RX11 124 "DepositJudge$Home" "atFirst" "LDepositJudge$Things;" ∈ gT := tm (tb2 (List.mem_of_getElem? (i := 130) (by rfl))) (by decide +kernel)
set_option maxRecDepth 100000 in
theorem t_454 : Cond.code yX10_add cX10_add 5 (some .int) ∈ gT := tm (tb2 (List.mem_of_getElem? (i := 184) (by rfl))) (by decide +kernel)
set_option maxRecDepth 100000 in
theorem t_455 : Cond.methodLink RX11 128 yX10_add ∈ gT := tm (tb2 (List.mem_of_getElem? (i := 181) (by rfl))) (by decide +kernel)
set_option maxRecDepth 100000 in
theorem t_456 : Cond.instanceMethod yX10_add ∈ gT := tm (tb2 (List.mem_of_getElem? (i := 182) (by rfl))) (by decide +kernel)
set_option maxRecDepth 100000 in
theorem t_457 : Cond.selects RX10 yX10_add yX10_add ∈ gT := tm (tb2 (List.mem_of_getElem? (i := 183) (by rfl))) (by decide +kernel)
set_option maxRecDepth 100000 in
theorem t_458 : Cond.code yX11_listed cX11_listed 5 (some .int) ∈ gT := tm (tb2 (List.mem_of_getElem? (i := 188) (by rfl))) (by decide +kernel)
set_option maxRecDepth 100000 in
theorem t_459 : Cond.methodLink RX11 134 yX11_listed ∈ gT := tm (tb2 (List.mem_of_getElem? (i := 185) (by rfl))) (by decide +kernel)
set_option maxRecDepth 100000 in
theorem t_460 : Cond.instanceMethod yX11_listed ∈ gT := tm (tb2 (List.mem_of_getElem? (i := 187) (by rfl))) (by decide +kernel)
theorem t_461 : Cond.selects RX11 yX11_listed yX11_listed ∈ gT := tmp (List.mem_of_getElem? (i := 1) (by decide +kernel)) (by decide +kernel)
set_option maxRecDepth 100000 in
theorem t_462 : Cond.fieldLink RX11 138 "DepositJudge$Home" "atLast" "LDepositJudge$Things;" ∈ gT := tm (tb2 (List.mem_of_getElem? (i := 133) (by rfl))) (by decide +kernel)
set_option maxRecDepth 100000 in
theorem t_463 : Cond.fieldLink RX11 157 "DepositJudge$Things" "count" "I" ∈ gT := tm (tb2 (List.mem_of_getElem? (i := 85) (by rfl))) (by decide +kernel)
set_option maxRecDepth 100000 in
theorem t_464 : Cond.code yX3_isJoinedTo cX3_isJoinedTo 3 (some .boolean) ∈ gT := tm (tb3 (List.mem_of_getElem? (i := 221) (by rfl))) (by decide +kernel)
set_option maxRecDepth 100000 in
theorem t_465 : Cond.methodLink RX11 182 yX3_isJoinedTo ∈ gT := tm (tb3 (List.mem_of_getElem? (i := 218) (by rfl))) (by decide +kernel)
set_option maxRecDepth 100000 in
theorem t_466 : Cond.instanceMethod yX3_isJoinedTo ∈ gT := tm (tb3 (List.mem_of_getElem? (i := 219) (by rfl))) (by decide +kernel)
set_option maxRecDepth 100000 in
theorem t_467 : Cond.selects RX3 yX3_isJoinedTo yX3_isJoinedTo ∈ gT := tm (tb3 (List.mem_of_getElem? (i := 220) (by rfl))) (by decide +kernel)
set_option maxRecDepth 100000 in
theorem t_468 : Cond.fieldLink RX11 261 "DepositJudge$Docket" "tenantOffers" "[I" ∈ gT := tm (tb1 (List.mem_of_getElem? (i := 163) (by rfl))) (by decide +kernel)
set_option maxRecDepth 100000 in
theorem t_469 : Cond.code yX1_hasBothOffers cX1_hasBothOffers 2 (some .boolean) ∈ gT := tm (tb4 (List.mem_of_getElem? (i := 74) (by rfl))) (by decide +kernel)
set_option maxRecDepth 100000 in
theorem t_470 : Cond.methodLink RX11 264 yX1_hasBothOffers ∈ gT := tm (tb4 (List.mem_of_getElem? (i := 71) (by rfl))) (by decide +kernel)
set_option maxRecDepth 100000 in
theorem t_471 : Cond.instanceMethod yX1_hasBothOffers ∈ gT := tm (tb4 (List.mem_of_getElem? (i := 72) (by rfl))) (by decide +kernel)
set_option maxRecDepth 100000 in
theorem t_472 : Cond.selects RX1 yX1_hasBothOffers yX1_hasBothOffers ∈ gT := tm (tb4 (List.mem_of_getElem? (i := 73) (by rfl))) (by decide +kernel)
set_option maxRecDepth 100000 in
theorem t_473 : Cond.fieldLink RX11 258 "DepositJudge$Docket" "ownerOffers" "[I" ∈ gT := tm (tb1 (List.mem_of_getElem? (i := 161) (by rfl))) (by decide +kernel)
set_option maxRecDepth 100000 in
theorem t_474 : Cond.code yX1_dropOffers cX1_dropOffers 2 none ∈ gT := tm (tb4 (List.mem_of_getElem? (i := 82) (by rfl))) (by decide +kernel)
set_option maxRecDepth 100000 in
theorem t_475 : Cond.methodLink RX11 267 yX1_dropOffers ∈ gT := tm (tb4 (List.mem_of_getElem? (i := 79) (by rfl))) (by decide +kernel)
set_option maxRecDepth 100000 in
theorem t_476 : Cond.instanceMethod yX1_dropOffers ∈ gT := tm (tb4 (List.mem_of_getElem? (i := 80) (by rfl))) (by decide +kernel)
set_option maxRecDepth 100000 in
theorem t_477 : Cond.selects RX1 yX1_dropOffers yX1_dropOffers ∈ gT := tm (tb4 (List.mem_of_getElem? (i := 81) (by rfl))) (by decide +kernel)
set_option maxRecDepth 100000 in
theorem t_478 : Cond.fieldLink RX11 270 "DepositJudge$Home" "kin" "[Z" ∈ gT := tm (tb2 (List.mem_of_getElem? (i := 127) (by rfl))) (by decide +kernel)
set_option maxRecDepth 100000 in
theorem t_479 : Cond.code yX1_isClaimed cX1_isClaimed 4 (some .boolean) ∈ gT := tm (tb3 (List.mem_of_getElem? (i := 236) (by rfl))) (by decide +kernel)
set_option maxRecDepth 100000 in
theorem t_480 : Cond.methodLink RX11 189 yX1_isClaimed ∈ gT := tm (tb3 (List.mem_of_getElem? (i := 233) (by rfl))) (by decide +kernel)
set_option maxRecDepth 100000 in
theorem t_481 : Cond.instanceMethod yX1_isClaimed ∈ gT := tm (tb3 (List.mem_of_getElem? (i := 234) (by rfl))) (by decide +kernel)
set_option maxRecDepth 100000 in
theorem t_482 : Cond.selects RX1 yX1_isClaimed yX1_isClaimed ∈ gT := tm (tb3 (List.mem_of_getElem? (i := 235) (by rfl))) (by decide +kernel)
set_option maxRecDepth 100000 in
theorem t_483 : Cond.code yX1_add cX1_add 6 (some .int) ∈ gT := tm (tb4 (List.mem_of_getElem? (i := 0) (by rfl))) (by decide +kernel)
set_option maxRecDepth 100000 in
theorem t_484 : Cond.methodLink RX11 193 yX1_add ∈ gT := tm (tb3 (List.mem_of_getElem? (i := 237) (by rfl))) (by decide +kernel)
set_option maxRecDepth 100000 in
theorem t_485 : Cond.instanceMethod yX1_add ∈ gT := tm (tb3 (List.mem_of_getElem? (i := 238) (by rfl))) (by decide +kernel)
set_option maxRecDepth 100000 in
theorem t_486 : Cond.selects RX1 yX1_add yX1_add ∈ gT := tm (tb3 (List.mem_of_getElem? (i := 239) (by rfl))) (by decide +kernel)
set_option maxRecDepth 100000 in
theorem t_487 : Cond.code yX3_allAreKin cX3_allAreKin 2 (some .boolean) ∈ gT := tm (tb4 (List.mem_of_getElem? (i := 99) (by rfl))) (by decide +kernel)
set_option maxRecDepth 100000 in
theorem t_488 : Cond.methodLink RX11 277 yX3_allAreKin ∈ gT := tm (tb4 (List.mem_of_getElem? (i := 96) (by rfl))) (by decide +kernel)
set_option maxRecDepth 100000 in
theorem t_489 : Cond.instanceMethod yX3_allAreKin ∈ gT := tm (tb4 (List.mem_of_getElem? (i := 97) (by rfl))) (by decide +kernel)
set_option maxRecDepth 100000 in
theorem t_490 : Cond.selects RX3 yX3_allAreKin yX3_allAreKin ∈ gT := tm (tb4 (List.mem_of_getElem? (i := 98) (by rfl))) (by decide +kernel)
set_option maxRecDepth 100000 in
theorem t_491 : Cond.constant RX11 281 (65536) ∈ gT := tm (tb4 (List.mem_of_getElem? (i := 100) (by rfl))) (by decide +kernel)
set_option maxRecDepth 100000 in
theorem t_492 : Cond.fieldLink RX11 323 "DepositJudge$Things" "kinds" "[I" ∈ gT := tm (tb2 (List.mem_of_getElem? (i := 92) (by rfl))) (by decide +kernel)
set_option maxRecDepth 100000 in
theorem t_493 : Cond.fieldLink RX11 349 "DepositJudge$Home" "region" "I" ∈ gT := tm (tb2 (List.mem_of_getElem? (i := 111) (by rfl))) (by decide +kernel)
set_option maxRecDepth 100000 in
theorem t_494 : Cond.fieldLink RX11 352 "DepositJudge$Things" "ages" "[I" ∈ gT := tm (tb2 (List.mem_of_getElem? (i := 98) (by rfl))) (by decide +kernel)
set_option maxRecDepth 100000 in
theorem t_495 : Cond.code yX8_worth cX8_worth 5 (some .int) ∈ gT := tm (tb3 (List.mem_of_getElem? (i := 208) (by rfl))) (by decide +kernel)
set_option maxRecDepth 100000 in
theorem t_496 : Cond.initialized RX8 ∈ gT := tm (tb1 (List.mem_of_getElem? (i := 2) (by rfl))) (by decide +kernel)
set_option maxRecDepth 100000 in
theorem t_497 : Cond.methodLink RX11 355 yX8_worth ∈ gT := tm (tb3 (List.mem_of_getElem? (i := 205) (by rfl))) (by decide +kernel)
set_option maxRecDepth 100000 in
theorem t_498 : Cond.instanceMethod yX8_worth ∈ gT := tm (tb3 (List.mem_of_getElem? (i := 206) (by rfl))) (by decide +kernel)
set_option maxRecDepth 100000 in
theorem t_499 : Cond.selects RX8 yX8_worth yX8_worth ∈ gT := tm (tb3 (List.mem_of_getElem? (i := 207) (by rfl))) (by decide +kernel)
set_option maxRecDepth 100000 in
theorem t_500 : Cond.fieldLink RX11 54 "DepositJudge" "letters" "[I" ∈ gT := tm (tb2 (List.mem_of_getElem? (i := 18) (by rfl))) (by decide +kernel)
set_option maxRecDepth 100000 in
theorem t_501 : Cond.code yX3_months cX3_months 1 (some .int) ∈ gT := tm (tb3 (List.mem_of_getElem? (i := 182) (by rfl))) (by decide +kernel)
set_option maxRecDepth 100000 in
theorem t_502 : Cond.methodLink RX11 171 yX3_months ∈ gT := tm (tb3 (List.mem_of_getElem? (i := 179) (by rfl))) (by decide +kernel)
set_option maxRecDepth 100000 in
theorem t_503 : Cond.instanceMethod yX3_months ∈ gT := tm (tb3 (List.mem_of_getElem? (i := 180) (by rfl))) (by decide +kernel)
set_option maxRecDepth 100000 in
theorem t_504 : Cond.selects RX3 yX3_months yX3_months ∈ gT := tm (tb3 (List.mem_of_getElem? (i := 181) (by rfl))) (by decide +kernel)
set_option maxRecDepth 100000 in
theorem t_505 : Cond.fieldLink RX11 367 "DepositJudge$Things" "rooms" "[I" ∈ gT := tm (tb2 (List.mem_of_getElem? (i := 88) (by rfl))) (by decide +kernel)
set_option maxRecDepth 100000 in
theorem t_506 : Cond.fieldLink RX11 361 "DepositJudge$Things" "states" "[I" ∈ gT := tm (tb2 (List.mem_of_getElem? (i := 96) (by rfl))) (by decide +kernel)
set_option maxRecDepth 100000 in
theorem t_507 : Cond.methodLink RX11 364 yX3_stateAtLast ∈ gT := tm (tb3 (List.mem_of_getElem? (i := 178) (by rfl))) (by decide +kernel)
set_option maxRecDepth 100000 in
theorem t_508 : Cond.code yX11_describeHome cX11_describeHome 2 none ∈ gT := tm (tb3 (List.mem_of_getElem? (i := 186) (by rfl))) (by decide +kernel)
set_option maxRecDepth 100000 in
theorem t_509 : Cond.methodLink RX11 370 yX11_describeHome ∈ gT := tm (tb3 (List.mem_of_getElem? (i := 183) (by rfl))) (by decide +kernel)
set_option maxRecDepth 100000 in
theorem t_510 : Cond.instanceMethod yX11_describeHome ∈ gT := tm (tb3 (List.mem_of_getElem? (i := 185) (by rfl))) (by decide +kernel)
theorem t_511 : Cond.selects RX11 yX11_describeHome yX11_describeHome ∈ gT := tmp (List.mem_of_getElem? (i := 19) (by decide +kernel)) (by decide +kernel)
set_option maxRecDepth 100000 in
theorem t_512 : Cond.code yX11_describe cX11_describe 5 none ∈ gT := tm (tb3 (List.mem_of_getElem? (i := 177) (by rfl))) (by decide +kernel)
set_option maxRecDepth 100000 in
theorem t_513 : Cond.methodLink RX11 223 yX11_describe ∈ gT := tm (tb3 (List.mem_of_getElem? (i := 174) (by rfl))) (by decide +kernel)
set_option maxRecDepth 100000 in
theorem t_514 : Cond.instanceMethod yX11_describe ∈ gT := tm (tb3 (List.mem_of_getElem? (i := 176) (by rfl))) (by decide +kernel)
theorem t_515 : Cond.selects RX11 yX11_describe yX11_describe ∈ gT := tmp (List.mem_of_getElem? (i := 18) (by decide +kernel)) (by decide +kernel)
set_option maxRecDepth 100000 in
theorem t_516 : Cond.fieldLink RX11 50 "DepositJudge" "lawInForce" "LDepositJudge$Law;" ∈ gT := tm (tb2 (List.mem_of_getElem? (i := 17) (by rfl))) (by decide +kernel)
set_option maxRecDepth 100000 in
theorem t_517 : Cond.code yX5_amount cX5_amount 6 (some .int) ∈ gT := tm (tb3 (List.mem_of_getElem? (i := 190) (by rfl))) (by decide +kernel)
set_option maxRecDepth 100000 in
theorem t_518 : Cond.methodLink RX11 357 yX5_amount ∈ gT := tm (tb3 (List.mem_of_getElem? (i := 187) (by rfl))) (by decide +kernel)
set_option maxRecDepth 100000 in
theorem t_519 : Cond.instanceMethod yX5_amount ∈ gT := tm (tb3 (List.mem_of_getElem? (i := 188) (by rfl))) (by decide +kernel)
set_option maxRecDepth 100000 in
theorem t_520 : Cond.selects RX5 yX5_amount yX5_amount ∈ gT := tm (tb3 (List.mem_of_getElem? (i := 189) (by rfl))) (by decide +kernel)
set_option maxRecDepth 100000 in
theorem t_521 : Cond.methodLink RX11 329 Lib.Math.max.name ∈ gT := tm (tb3 (List.mem_of_getElem? (i := 213) (by rfl))) (by decide +kernel)
set_option maxRecDepth 100000 in
theorem t_522 : Cond.code yX11_worth cX11_worth 5 (some .int) ∈ gT := tm (tb3 (List.mem_of_getElem? (i := 204) (by rfl))) (by decide +kernel)
set_option maxRecDepth 100000 in
theorem t_523 : Cond.methodLink RX11 175 yX11_worth ∈ gT := tm (tb3 (List.mem_of_getElem? (i := 201) (by rfl))) (by decide +kernel)
set_option maxRecDepth 100000 in
theorem t_524 : Cond.instanceMethod yX11_worth ∈ gT := tm (tb3 (List.mem_of_getElem? (i := 203) (by rfl))) (by decide +kernel)
theorem t_525 : Cond.selects RX11 yX11_worth yX11_worth ∈ gT := tmp (List.mem_of_getElem? (i := 21) (by decide +kernel)) (by decide +kernel)
set_option maxRecDepth 100000 in
theorem t_526 : Cond.fieldLink RX11 160 "DepositJudge$Home" "joined" "[I" ∈ gT := tm (tb2 (List.mem_of_getElem? (i := 136) (by rfl))) (by decide +kernel)
set_option maxRecDepth 100000 in
theorem t_527 : Cond.code yX3_change cX3_change 4 (some .int) ∈ gT := tm (tb3 (List.mem_of_getElem? (i := 161) (by rfl))) (by decide +kernel)
set_option maxRecDepth 100000 in
theorem t_528 : Cond.methodLink RX11 163 yX3_change ∈ gT := tm (tb3 (List.mem_of_getElem? (i := 158) (by rfl))) (by decide +kernel)
set_option maxRecDepth 100000 in
theorem t_529 : Cond.instanceMethod yX3_change ∈ gT := tm (tb3 (List.mem_of_getElem? (i := 159) (by rfl))) (by decide +kernel)
set_option maxRecDepth 100000 in
theorem t_530 : Cond.selects RX3 yX3_change yX3_change ∈ gT := tm (tb3 (List.mem_of_getElem? (i := 160) (by rfl))) (by decide +kernel)
set_option maxRecDepth 100000 in
theorem t_531 : Cond.code yX11_fairWear cX11_fairWear 3 (some .int) ∈ gT := tm (tb3 (List.mem_of_getElem? (i := 173) (by rfl))) (by decide +kernel)
set_option maxRecDepth 100000 in
theorem t_532 : Cond.methodLink RX11 167 yX11_fairWear ∈ gT := tm (tb3 (List.mem_of_getElem? (i := 170) (by rfl))) (by decide +kernel)
set_option maxRecDepth 100000 in
theorem t_533 : Cond.instanceMethod yX11_fairWear ∈ gT := tm (tb3 (List.mem_of_getElem? (i := 172) (by rfl))) (by decide +kernel)
theorem t_534 : Cond.selects RX11 yX11_fairWear yX11_fairWear ∈ gT := tmp (List.mem_of_getElem? (i := 17) (by decide +kernel)) (by decide +kernel)
set_option maxRecDepth 100000 in
theorem t_535 : Cond.code yX11_lost cX11_lost 6 (some .int) ∈ gT := tm (tb3 (List.mem_of_getElem? (i := 212) (by rfl))) (by decide +kernel)
set_option maxRecDepth 100000 in
theorem t_536 : Cond.methodLink RX11 179 yX11_lost ∈ gT := tm (tb3 (List.mem_of_getElem? (i := 209) (by rfl))) (by decide +kernel)
set_option maxRecDepth 100000 in
theorem t_537 : Cond.instanceMethod yX11_lost ∈ gT := tm (tb3 (List.mem_of_getElem? (i := 211) (by rfl))) (by decide +kernel)
theorem t_538 : Cond.selects RX11 yX11_lost yX11_lost ∈ gT := tmp (List.mem_of_getElem? (i := 22) (by decide +kernel)) (by decide +kernel)
set_option maxRecDepth 100000 in
theorem t_539 : Cond.code yX1_isAnsweredBy cX1_isAnsweredBy 3 (some .boolean) ∈ gT := tm (tb4 (List.mem_of_getElem? (i := 24) (by rfl))) (by decide +kernel)
set_option maxRecDepth 100000 in
theorem t_540 : Cond.methodLink RX11 374 yX1_isAnsweredBy ∈ gT := tm (tb4 (List.mem_of_getElem? (i := 21) (by rfl))) (by decide +kernel)
set_option maxRecDepth 100000 in
theorem t_541 : Cond.instanceMethod yX1_isAnsweredBy ∈ gT := tm (tb4 (List.mem_of_getElem? (i := 22) (by rfl))) (by decide +kernel)
set_option maxRecDepth 100000 in
theorem t_542 : Cond.selects RX1 yX1_isAnsweredBy yX1_isAnsweredBy ∈ gT := tm (tb4 (List.mem_of_getElem? (i := 23) (by rfl))) (by decide +kernel)
set_option maxRecDepth 100000 in
theorem t_543 : Cond.code yX5_someHolds cX5_someHolds 4 (some .boolean) ∈ gT := tm (tb4 (List.mem_of_getElem? (i := 28) (by rfl))) (by decide +kernel)
set_option maxRecDepth 100000 in
theorem t_544 : Cond.methodLink RX11 377 yX5_someHolds ∈ gT := tm (tb4 (List.mem_of_getElem? (i := 25) (by rfl))) (by decide +kernel)
set_option maxRecDepth 100000 in
theorem t_545 : Cond.instanceMethod yX5_someHolds ∈ gT := tm (tb4 (List.mem_of_getElem? (i := 26) (by rfl))) (by decide +kernel)
set_option maxRecDepth 100000 in
theorem t_546 : Cond.selects RX5 yX5_someHolds yX5_someHolds ∈ gT := tm (tb4 (List.mem_of_getElem? (i := 27) (by rfl))) (by decide +kernel)
set_option maxRecDepth 100000 in
theorem t_547 : Cond.fieldLink RX11 220 "DepositJudge$Docket" "evidences" "[I" ∈ gT := tm (tb1 (List.mem_of_getElem? (i := 151) (by rfl))) (by decide +kernel)
set_option maxRecDepth 100000 in
theorem t_548 : Cond.fieldLink RX11 212 "DepositJudge$Docket" "homes" "[I" ∈ gT := tm (tb1 (List.mem_of_getElem? (i := 145) (by rfl))) (by decide +kernel)
set_option maxRecDepth 100000 in
theorem t_549 : Cond.fieldLink RX11 214 "DepositJudge$Docket" "things" "[I" ∈ gT := tm (tb1 (List.mem_of_getElem? (i := 147) (by rfl))) (by decide +kernel)
set_option maxRecDepth 100000 in
theorem t_550 : Cond.fieldLink RX11 217 "DepositJudge$Docket" "causes" "[I" ∈ gT := tm (tb1 (List.mem_of_getElem? (i := 149) (by rfl))) (by decide +kernel)
set_option maxRecDepth 100000 in
theorem t_551 : Cond.code yX11_reason cX11_reason 5 (some .int) ∈ gT := tm (tb4 (List.mem_of_getElem? (i := 20) (by rfl))) (by decide +kernel)
set_option maxRecDepth 100000 in
theorem t_552 : Cond.methodLink RX11 227 yX11_reason ∈ gT := tm (tb4 (List.mem_of_getElem? (i := 17) (by rfl))) (by decide +kernel)
set_option maxRecDepth 100000 in
theorem t_553 : Cond.instanceMethod yX11_reason ∈ gT := tm (tb4 (List.mem_of_getElem? (i := 19) (by rfl))) (by decide +kernel)
theorem t_554 : Cond.selects RX11 yX11_reason yX11_reason ∈ gT := tmp (List.mem_of_getElem? (i := 24) (by decide +kernel)) (by decide +kernel)
set_option maxRecDepth 100000 in
theorem t_555 : Cond.code yX11_awarded cX11_awarded 5 (some .int) ∈ gT := tm (tb4 (List.mem_of_getElem? (i := 32) (by rfl))) (by decide +kernel)
set_option maxRecDepth 100000 in
theorem t_556 : Cond.methodLink RX11 231 yX11_awarded ∈ gT := tm (tb4 (List.mem_of_getElem? (i := 29) (by rfl))) (by decide +kernel)
set_option maxRecDepth 100000 in
theorem t_557 : Cond.instanceMethod yX11_awarded ∈ gT := tm (tb4 (List.mem_of_getElem? (i := 31) (by rfl))) (by decide +kernel)
theorem t_558 : Cond.selects RX11 yX11_awarded yX11_awarded ∈ gT := tmp (List.mem_of_getElem? (i := 25) (by decide +kernel)) (by decide +kernel)
set_option maxRecDepth 100000 in
theorem t_559 : Cond.code yX11_award cX11_award 8 (some .int) ∈ gT := tm (tb4 (List.mem_of_getElem? (i := 16) (by rfl))) (by decide +kernel)
set_option maxRecDepth 100000 in
theorem t_560 : Cond.methodLink RX11 326 yX11_award ∈ gT := tm (tb4 (List.mem_of_getElem? (i := 41) (by rfl))) (by decide +kernel)
set_option maxRecDepth 100000 in
theorem t_561 : Cond.instanceMethod yX11_award ∈ gT := tm (tb4 (List.mem_of_getElem? (i := 14) (by rfl))) (by decide +kernel)
set_option maxRecDepth 100000 in
theorem t_562 : Cond.selects RX11 yX11_award yX11_award ∈ gT := tm (tb4 (List.mem_of_getElem? (i := 15) (by rfl))) (by decide +kernel)
set_option maxRecDepth 100000 in
theorem t_563 : Cond.fieldLink RX11 251 "DepositJudge$Home" "deposit" "I" ∈ gT := tm (tb2 (List.mem_of_getElem? (i := 116) (by rfl))) (by decide +kernel)
set_option maxRecDepth 100000 in
theorem t_564 : Cond.code yX3_owed cX3_owed 3 (some .int) ∈ gT := tm (tb4 (List.mem_of_getElem? (i := 53) (by rfl))) (by decide +kernel)
set_option maxRecDepth 100000 in
theorem t_565 : Cond.methodLink RX11 381 yX3_owed ∈ gT := tm (tb4 (List.mem_of_getElem? (i := 50) (by rfl))) (by decide +kernel)
set_option maxRecDepth 100000 in
theorem t_566 : Cond.instanceMethod yX3_owed ∈ gT := tm (tb4 (List.mem_of_getElem? (i := 51) (by rfl))) (by decide +kernel)
set_option maxRecDepth 100000 in
theorem t_567 : Cond.selects RX3 yX3_owed yX3_owed ∈ gT := tm (tb4 (List.mem_of_getElem? (i := 52) (by rfl))) (by decide +kernel)
set_option maxRecDepth 100000 in
theorem t_568 : Cond.methodLink RX11 336 Lib.Math.min.name ∈ gT := tm (tb4 (List.mem_of_getElem? (i := 54) (by rfl))) (by decide +kernel)
set_option maxRecDepth 100000 in
theorem t_569 : Cond.fieldLink RX11 384 "DepositJudge$Home" "kept" "Z" ∈ gT := tm (tb2 (List.mem_of_getElem? (i := 120) (by rfl))) (by decide +kernel)
set_option maxRecDepth 100000 in
theorem t_570 : Cond.code yX11_toOwner cX11_toOwner 3 (some .int) ∈ gT := tm (tb4 (List.mem_of_getElem? (i := 49) (by rfl))) (by decide +kernel)
set_option maxRecDepth 100000 in
theorem t_571 : Cond.methodLink RX11 248 yX11_toOwner ∈ gT := tm (tb4 (List.mem_of_getElem? (i := 46) (by rfl))) (by decide +kernel)
set_option maxRecDepth 100000 in
theorem t_572 : Cond.instanceMethod yX11_toOwner ∈ gT := tm (tb4 (List.mem_of_getElem? (i := 48) (by rfl))) (by decide +kernel)
theorem t_573 : Cond.selects RX11 yX11_toOwner yX11_toOwner ∈ gT := tmp (List.mem_of_getElem? (i := 28) (by decide +kernel)) (by decide +kernel)
set_option maxRecDepth 100000 in
theorem t_574 : Cond.code yX11_penalty cX11_penalty 3 (some .int) ∈ gT := tm (tb4 (List.mem_of_getElem? (i := 58) (by rfl))) (by decide +kernel)
set_option maxRecDepth 100000 in
theorem t_575 : Cond.methodLink RX11 254 yX11_penalty ∈ gT := tm (tb4 (List.mem_of_getElem? (i := 55) (by rfl))) (by decide +kernel)
set_option maxRecDepth 100000 in
theorem t_576 : Cond.instanceMethod yX11_penalty ∈ gT := tm (tb4 (List.mem_of_getElem? (i := 57) (by rfl))) (by decide +kernel)
theorem t_577 : Cond.selects RX11 yX11_penalty yX11_penalty ∈ gT := tmp (List.mem_of_getElem? (i := 29) (by decide +kernel)) (by decide +kernel)
set_option maxRecDepth 100000 in
theorem t_578 : Cond.fieldLink RX0 15 "DepositJudge$Division" "rests" "[I" ∈ gT := tm (tb1 (List.mem_of_getElem? (i := 199) (by rfl))) (by decide +kernel)
set_option maxRecDepth 100000 in
theorem t_579 : Cond.code yX9_numberAt cX9_numberAt 4 (some .int) ∈ gT := tm (tb4 (List.mem_of_getElem? (i := 186) (by rfl))) (by decide +kernel)
set_option maxRecDepth 100000 in
theorem t_580 : Cond.methodLink RX0 31 yX9_numberAt ∈ gT := tm (tb4 (List.mem_of_getElem? (i := 183) (by rfl))) (by decide +kernel)
set_option maxRecDepth 100000 in
theorem t_581 : Cond.instanceMethod yX9_numberAt ∈ gT := tm (tb4 (List.mem_of_getElem? (i := 184) (by rfl))) (by decide +kernel)
set_option maxRecDepth 100000 in
theorem t_582 : Cond.selects RX9 yX9_numberAt yX9_numberAt ∈ gT := tm (tb4 (List.mem_of_getElem? (i := 185) (by rfl))) (by decide +kernel)
set_option maxRecDepth 100000 in
theorem t_583 : Cond.fieldLink RX0 9 "DepositJudge$Division" "shares" "[I" ∈ gT := tm (tb1 (List.mem_of_getElem? (i := 197) (by rfl))) (by decide +kernel)
set_option maxRecDepth 100000 in
theorem t_584 : Cond.fieldLink RX0 18 "DepositJudge$Home" "tenants" "I" ∈ gT := tm (tb2 (List.mem_of_getElem? (i := 113) (by rfl))) (by decide +kernel)
set_option maxRecDepth 100000 in
theorem t_585 : Cond.code yX0_greatestRest cX0_greatestRest 4 (some .int) ∈ gT := tm (tb4 (List.mem_of_getElem? (i := 66) (by rfl))) (by decide +kernel)
set_option maxRecDepth 100000 in
theorem t_586 : Cond.initialized RX0 ∈ gT := tm (tb1 (List.mem_of_getElem? (i := 8) (by rfl))) (by decide +kernel)
set_option maxRecDepth 100000 in
theorem t_587 : Cond.methodLink RX0 27 yX0_greatestRest ∈ gT := tm (tb4 (List.mem_of_getElem? (i := 63) (by rfl))) (by decide +kernel)
set_option maxRecDepth 100000 in
theorem t_588 : Cond.instanceMethod yX0_greatestRest ∈ gT := tm (tb4 (List.mem_of_getElem? (i := 65) (by rfl))) (by decide +kernel)
theorem t_589 : Cond.selects RX0 yX0_greatestRest yX0_greatestRest ∈ gT := tmp (List.mem_of_getElem? (i := 30) (by decide +kernel)) (by decide +kernel)
set_option maxRecDepth 100000 in
theorem t_590 : Cond.fieldLink RX0 24 "DepositJudge$Home" "parts" "[I" ∈ gT := tm (tb2 (List.mem_of_getElem? (i := 122) (by rfl))) (by decide +kernel)
set_option maxRecDepth 100000 in
theorem t_591 : Cond.code yX11_awards cX11_awards 5 (some .int) ∈ gT := tm (tb4 (List.mem_of_getElem? (i := 40) (by rfl))) (by decide +kernel)
set_option maxRecDepth 100000 in
theorem t_592 : Cond.methodLink RX11 234 yX11_awards ∈ gT := tm (tb4 (List.mem_of_getElem? (i := 37) (by rfl))) (by decide +kernel)
set_option maxRecDepth 100000 in
theorem t_593 : Cond.instanceMethod yX11_awards ∈ gT := tm (tb4 (List.mem_of_getElem? (i := 39) (by rfl))) (by decide +kernel)
theorem t_594 : Cond.selects RX11 yX11_awards yX11_awards ∈ gT := tmp (List.mem_of_getElem? (i := 26) (by decide +kernel)) (by decide +kernel)
set_option maxRecDepth 100000 in
theorem t_595 : Cond.fieldLink RX11 75 "DepositJudge" "division" "LDepositJudge$Division;" ∈ gT := tm (tb2 (List.mem_of_getElem? (i := 22) (by rfl))) (by decide +kernel)
set_option maxRecDepth 100000 in
theorem t_596 : Cond.code yX11_paidBack cX11_paidBack 3 (some .int) ∈ gT := tm (tb4 (List.mem_of_getElem? (i := 45) (by rfl))) (by decide +kernel)
set_option maxRecDepth 100000 in
theorem t_597 : Cond.methodLink RX11 238 yX11_paidBack ∈ gT := tm (tb4 (List.mem_of_getElem? (i := 42) (by rfl))) (by decide +kernel)
set_option maxRecDepth 100000 in
theorem t_598 : Cond.instanceMethod yX11_paidBack ∈ gT := tm (tb4 (List.mem_of_getElem? (i := 44) (by rfl))) (by decide +kernel)
theorem t_599 : Cond.selects RX11 yX11_paidBack yX11_paidBack ∈ gT := tmp (List.mem_of_getElem? (i := 27) (by decide +kernel)) (by decide +kernel)
set_option maxRecDepth 100000 in
theorem t_600 : Cond.code yX0_divide cX0_divide 9 none ∈ gT := tm (tb4 (List.mem_of_getElem? (i := 62) (by rfl))) (by decide +kernel)
set_option maxRecDepth 100000 in
theorem t_601 : Cond.methodLink RX11 241 yX0_divide ∈ gT := tm (tb4 (List.mem_of_getElem? (i := 59) (by rfl))) (by decide +kernel)
set_option maxRecDepth 100000 in
theorem t_602 : Cond.instanceMethod yX0_divide ∈ gT := tm (tb4 (List.mem_of_getElem? (i := 60) (by rfl))) (by decide +kernel)
set_option maxRecDepth 100000 in
theorem t_603 : Cond.selects RX0 yX0_divide yX0_divide ∈ gT := tm (tb4 (List.mem_of_getElem? (i := 61) (by rfl))) (by decide +kernel)
set_option maxRecDepth 100000 in
theorem t_604 : Cond.fieldLink RX11 245 "DepositJudge$Division" "shares" "[I" ∈ gT := tm (tb1 (List.mem_of_getElem? (i := 198) (by rfl))) (by decide +kernel)
set_option maxRecDepth 100000 in
theorem t_605 : Cond.code yX0_firstUnlike cX0_firstUnlike 4 (some .int) ∈ gT := tm (tb4 (List.mem_of_getElem? (i := 182) (by rfl))) (by decide +kernel)
set_option maxRecDepth 100000 in
theorem t_606 : Cond.methodLink RX11 339 yX0_firstUnlike ∈ gT := tm (tb4 (List.mem_of_getElem? (i := 179) (by rfl))) (by decide +kernel)
set_option maxRecDepth 100000 in
theorem t_607 : Cond.instanceMethod yX0_firstUnlike ∈ gT := tm (tb4 (List.mem_of_getElem? (i := 180) (by rfl))) (by decide +kernel)
set_option maxRecDepth 100000 in
theorem t_608 : Cond.selects RX0 yX0_firstUnlike yX0_firstUnlike ∈ gT := tm (tb4 (List.mem_of_getElem? (i := 181) (by rfl))) (by decide +kernel)
set_option maxRecDepth 100000 in
theorem t_609 : Cond.fieldLink RX11 154 "DepositJudge$Law" "clauses" "I" ∈ gT := tm (tb1 (List.mem_of_getElem? (i := 89) (by rfl))) (by decide +kernel)
set_option maxRecDepth 100000 in
theorem t_610 : Cond.fieldLink RX11 342 "DepositJudge$Pictures" "facts" "I" ∈ gT := tm (tb1 (List.mem_of_getElem? (i := 236) (by rfl))) (by decide +kernel)
def dl_305 : List (Nat × (Instr × Nat)) := [(0, (.iconst 0, 1)), (1, (.istore_n 3, 1)), (2, (.iconst 0, 1)), (3, (.istore 4, 2)), (5, (.iload 4, 2)), (7, (.aload_n 2, 1)), (8, (.getfield 18, 3)), (11, (.if_icmp .ge 19, 3)), (14, (.iload_n 3, 1)), (15, (.aload_n 2, 1)), (16, (.getfield 24, 3)), (19, (.iload 4, 2)), (21, (.iaload, 1)), (22, (.iadd, 1)), (23, (.istore_n 3, 1)), (24, (.iinc 4 1, 3)), (27, (.goto (-22), 3)), (30, (.iload_n 3, 1)), (31, (.ifCond .ne 7, 3)), (34, (.iconst 1, 1))]
theorem dh_305 : dchk cX0_divide dl_305 = true := by decide +kernel
theorem dX0_divide_0 : decode cX0_divide 0 = .ok (.iconst 0, 1) := dget dh_305 (k := 0) rfl
theorem dX0_divide_1 : decode cX0_divide 1 = .ok (.istore_n 3, 1) := dget dh_305 (k := 1) rfl
theorem dX0_divide_2 : decode cX0_divide 2 = .ok (.iconst 0, 1) := dget dh_305 (k := 2) rfl
theorem dX0_divide_3 : decode cX0_divide 3 = .ok (.istore 4, 2) := dget dh_305 (k := 3) rfl
theorem dX0_divide_5 : decode cX0_divide 5 = .ok (.iload 4, 2) := dget dh_305 (k := 4) rfl
theorem dX0_divide_7 : decode cX0_divide 7 = .ok (.aload_n 2, 1) := dget dh_305 (k := 5) rfl
theorem dX0_divide_8 : decode cX0_divide 8 = .ok (.getfield 18, 3) := dget dh_305 (k := 6) rfl
theorem dX0_divide_11 : decode cX0_divide 11 = .ok (.if_icmp .ge 19, 3) := dget dh_305 (k := 7) rfl
theorem dX0_divide_14 : decode cX0_divide 14 = .ok (.iload_n 3, 1) := dget dh_305 (k := 8) rfl
theorem dX0_divide_15 : decode cX0_divide 15 = .ok (.aload_n 2, 1) := dget dh_305 (k := 9) rfl
theorem dX0_divide_16 : decode cX0_divide 16 = .ok (.getfield 24, 3) := dget dh_305 (k := 10) rfl
theorem dX0_divide_19 : decode cX0_divide 19 = .ok (.iload 4, 2) := dget dh_305 (k := 11) rfl
theorem dX0_divide_21 : decode cX0_divide 21 = .ok (.iaload, 1) := dget dh_305 (k := 12) rfl
theorem dX0_divide_22 : decode cX0_divide 22 = .ok (.iadd, 1) := dget dh_305 (k := 13) rfl
theorem dX0_divide_23 : decode cX0_divide 23 = .ok (.istore_n 3, 1) := dget dh_305 (k := 14) rfl
theorem dX0_divide_24 : decode cX0_divide 24 = .ok (.iinc 4 1, 3) := dget dh_305 (k := 15) rfl
theorem dX0_divide_27 : decode cX0_divide 27 = .ok (.goto (-22), 3) := dget dh_305 (k := 16) rfl
theorem dX0_divide_30 : decode cX0_divide 30 = .ok (.iload_n 3, 1) := dget dh_305 (k := 17) rfl
theorem dX0_divide_31 : decode cX0_divide 31 = .ok (.ifCond .ne 7, 3) := dget dh_305 (k := 18) rfl
theorem dX0_divide_34 : decode cX0_divide 34 = .ok (.iconst 1, 1) := dget dh_305 (k := 19) rfl
def dl_306 : List (Nat × (Instr × Nat)) := [(35, (.goto 4, 3)), (38, (.iconst 0, 1)), (39, (.istore 4, 2)), (41, (.iload 4, 2)), (43, (.ifCond .eq 10, 3)), (46, (.aload_n 2, 1)), (47, (.getfield 18, 3)), (50, (.goto 4, 3)), (53, (.iload_n 3, 1)), (54, (.istore 5, 2)), (56, (.iload 5, 2)), (58, (.ifCond .gt 4, 3)), (61, (.return_, 1)), (62, (.iload_n 1, 1)), (63, (.istore 6, 2)), (65, (.iconst 0, 1)), (66, (.istore 7, 2)), (68, (.iload 7, 2)), (70, (.aload_n 2, 1)), (71, (.getfield 18, 3))]
theorem dh_306 : dchk cX0_divide dl_306 = true := by decide +kernel
theorem dX0_divide_35 : decode cX0_divide 35 = .ok (.goto 4, 3) := dget dh_306 (k := 0) rfl
theorem dX0_divide_38 : decode cX0_divide 38 = .ok (.iconst 0, 1) := dget dh_306 (k := 1) rfl
theorem dX0_divide_39 : decode cX0_divide 39 = .ok (.istore 4, 2) := dget dh_306 (k := 2) rfl
theorem dX0_divide_41 : decode cX0_divide 41 = .ok (.iload 4, 2) := dget dh_306 (k := 3) rfl
theorem dX0_divide_43 : decode cX0_divide 43 = .ok (.ifCond .eq 10, 3) := dget dh_306 (k := 4) rfl
theorem dX0_divide_46 : decode cX0_divide 46 = .ok (.aload_n 2, 1) := dget dh_306 (k := 5) rfl
theorem dX0_divide_47 : decode cX0_divide 47 = .ok (.getfield 18, 3) := dget dh_306 (k := 6) rfl
theorem dX0_divide_50 : decode cX0_divide 50 = .ok (.goto 4, 3) := dget dh_306 (k := 7) rfl
theorem dX0_divide_53 : decode cX0_divide 53 = .ok (.iload_n 3, 1) := dget dh_306 (k := 8) rfl
theorem dX0_divide_54 : decode cX0_divide 54 = .ok (.istore 5, 2) := dget dh_306 (k := 9) rfl
theorem dX0_divide_56 : decode cX0_divide 56 = .ok (.iload 5, 2) := dget dh_306 (k := 10) rfl
theorem dX0_divide_58 : decode cX0_divide 58 = .ok (.ifCond .gt 4, 3) := dget dh_306 (k := 11) rfl
theorem dX0_divide_61 : decode cX0_divide 61 = .ok (.return_, 1) := dget dh_306 (k := 12) rfl
theorem dX0_divide_62 : decode cX0_divide 62 = .ok (.iload_n 1, 1) := dget dh_306 (k := 13) rfl
theorem dX0_divide_63 : decode cX0_divide 63 = .ok (.istore 6, 2) := dget dh_306 (k := 14) rfl
theorem dX0_divide_65 : decode cX0_divide 65 = .ok (.iconst 0, 1) := dget dh_306 (k := 15) rfl
theorem dX0_divide_66 : decode cX0_divide 66 = .ok (.istore 7, 2) := dget dh_306 (k := 16) rfl
theorem dX0_divide_68 : decode cX0_divide 68 = .ok (.iload 7, 2) := dget dh_306 (k := 17) rfl
theorem dX0_divide_70 : decode cX0_divide 70 = .ok (.aload_n 2, 1) := dget dh_306 (k := 18) rfl
theorem dX0_divide_71 : decode cX0_divide 71 = .ok (.getfield 18, 3) := dget dh_306 (k := 19) rfl
def dl_307 : List (Nat × (Instr × Nat)) := [(74, (.if_icmp .ge 65, 3)), (77, (.iload_n 1, 1)), (78, (.iload 4, 2)), (80, (.ifCond .eq 7, 3)), (83, (.iconst 1, 1)), (84, (.goto 10, 3)), (87, (.aload_n 2, 1)), (88, (.getfield 24, 3)), (91, (.iload 7, 2)), (93, (.iaload, 1)), (94, (.imul, 1)), (95, (.istore 8, 2)), (97, (.aload_n 0, 1)), (98, (.getfield 9, 3)), (101, (.iload 7, 2)), (103, (.iload 8, 2)), (105, (.iload 5, 2)), (107, (.idiv, 1)), (108, (.iastore, 1)), (109, (.aload_n 0, 1))]
theorem dh_307 : dchk cX0_divide dl_307 = true := by decide +kernel
theorem dX0_divide_74 : decode cX0_divide 74 = .ok (.if_icmp .ge 65, 3) := dget dh_307 (k := 0) rfl
theorem dX0_divide_77 : decode cX0_divide 77 = .ok (.iload_n 1, 1) := dget dh_307 (k := 1) rfl
theorem dX0_divide_78 : decode cX0_divide 78 = .ok (.iload 4, 2) := dget dh_307 (k := 2) rfl
theorem dX0_divide_80 : decode cX0_divide 80 = .ok (.ifCond .eq 7, 3) := dget dh_307 (k := 3) rfl
theorem dX0_divide_83 : decode cX0_divide 83 = .ok (.iconst 1, 1) := dget dh_307 (k := 4) rfl
theorem dX0_divide_84 : decode cX0_divide 84 = .ok (.goto 10, 3) := dget dh_307 (k := 5) rfl
theorem dX0_divide_87 : decode cX0_divide 87 = .ok (.aload_n 2, 1) := dget dh_307 (k := 6) rfl
theorem dX0_divide_88 : decode cX0_divide 88 = .ok (.getfield 24, 3) := dget dh_307 (k := 7) rfl
theorem dX0_divide_91 : decode cX0_divide 91 = .ok (.iload 7, 2) := dget dh_307 (k := 8) rfl
theorem dX0_divide_93 : decode cX0_divide 93 = .ok (.iaload, 1) := dget dh_307 (k := 9) rfl
theorem dX0_divide_94 : decode cX0_divide 94 = .ok (.imul, 1) := dget dh_307 (k := 10) rfl
theorem dX0_divide_95 : decode cX0_divide 95 = .ok (.istore 8, 2) := dget dh_307 (k := 11) rfl
theorem dX0_divide_97 : decode cX0_divide 97 = .ok (.aload_n 0, 1) := dget dh_307 (k := 12) rfl
theorem dX0_divide_98 : decode cX0_divide 98 = .ok (.getfield 9, 3) := dget dh_307 (k := 13) rfl
theorem dX0_divide_101 : decode cX0_divide 101 = .ok (.iload 7, 2) := dget dh_307 (k := 14) rfl
theorem dX0_divide_103 : decode cX0_divide 103 = .ok (.iload 8, 2) := dget dh_307 (k := 15) rfl
theorem dX0_divide_105 : decode cX0_divide 105 = .ok (.iload 5, 2) := dget dh_307 (k := 16) rfl
theorem dX0_divide_107 : decode cX0_divide 107 = .ok (.idiv, 1) := dget dh_307 (k := 17) rfl
theorem dX0_divide_108 : decode cX0_divide 108 = .ok (.iastore, 1) := dget dh_307 (k := 18) rfl
theorem dX0_divide_109 : decode cX0_divide 109 = .ok (.aload_n 0, 1) := dget dh_307 (k := 19) rfl
def dl_308 : List (Nat × (Instr × Nat)) := [(110, (.getfield 15, 3)), (113, (.iload 7, 2)), (115, (.iload 8, 2)), (117, (.iload 5, 2)), (119, (.irem, 1)), (120, (.iastore, 1)), (121, (.iload 6, 2)), (123, (.aload_n 0, 1)), (124, (.getfield 9, 3)), (127, (.iload 7, 2)), (129, (.iaload, 1)), (130, (.isub, 1)), (131, (.istore 6, 2)), (133, (.iinc 7 1, 3)), (136, (.goto (-68), 3)), (139, (.iconst 0, 1)), (140, (.istore 7, 2)), (142, (.iload 7, 2)), (144, (.iload 6, 2)), (146, (.if_icmp .ge 47, 3))]
theorem dh_308 : dchk cX0_divide dl_308 = true := by decide +kernel
theorem dX0_divide_110 : decode cX0_divide 110 = .ok (.getfield 15, 3) := dget dh_308 (k := 0) rfl
theorem dX0_divide_113 : decode cX0_divide 113 = .ok (.iload 7, 2) := dget dh_308 (k := 1) rfl
theorem dX0_divide_115 : decode cX0_divide 115 = .ok (.iload 8, 2) := dget dh_308 (k := 2) rfl
theorem dX0_divide_117 : decode cX0_divide 117 = .ok (.iload 5, 2) := dget dh_308 (k := 3) rfl
theorem dX0_divide_119 : decode cX0_divide 119 = .ok (.irem, 1) := dget dh_308 (k := 4) rfl
theorem dX0_divide_120 : decode cX0_divide 120 = .ok (.iastore, 1) := dget dh_308 (k := 5) rfl
theorem dX0_divide_121 : decode cX0_divide 121 = .ok (.iload 6, 2) := dget dh_308 (k := 6) rfl
theorem dX0_divide_123 : decode cX0_divide 123 = .ok (.aload_n 0, 1) := dget dh_308 (k := 7) rfl
theorem dX0_divide_124 : decode cX0_divide 124 = .ok (.getfield 9, 3) := dget dh_308 (k := 8) rfl
theorem dX0_divide_127 : decode cX0_divide 127 = .ok (.iload 7, 2) := dget dh_308 (k := 9) rfl
theorem dX0_divide_129 : decode cX0_divide 129 = .ok (.iaload, 1) := dget dh_308 (k := 10) rfl
theorem dX0_divide_130 : decode cX0_divide 130 = .ok (.isub, 1) := dget dh_308 (k := 11) rfl
theorem dX0_divide_131 : decode cX0_divide 131 = .ok (.istore 6, 2) := dget dh_308 (k := 12) rfl
theorem dX0_divide_133 : decode cX0_divide 133 = .ok (.iinc 7 1, 3) := dget dh_308 (k := 13) rfl
theorem dX0_divide_136 : decode cX0_divide 136 = .ok (.goto (-68), 3) := dget dh_308 (k := 14) rfl
theorem dX0_divide_139 : decode cX0_divide 139 = .ok (.iconst 0, 1) := dget dh_308 (k := 15) rfl
theorem dX0_divide_140 : decode cX0_divide 140 = .ok (.istore 7, 2) := dget dh_308 (k := 16) rfl
theorem dX0_divide_142 : decode cX0_divide 142 = .ok (.iload 7, 2) := dget dh_308 (k := 17) rfl
theorem dX0_divide_144 : decode cX0_divide 144 = .ok (.iload 6, 2) := dget dh_308 (k := 18) rfl
theorem dX0_divide_146 : decode cX0_divide 146 = .ok (.if_icmp .ge 47, 3) := dget dh_308 (k := 19) rfl
def dl_309 : List (Nat × (Instr × Nat)) := [(149, (.iload 7, 2)), (151, (.aload_n 2, 1)), (152, (.getfield 18, 3)), (155, (.if_icmp .ge 38, 3)), (158, (.aload_n 0, 1)), (159, (.aload_n 2, 1)), (160, (.getfield 18, 3)), (163, (.invokevirtual 27, 3)), (166, (.istore 8, 2)), (168, (.aload_n 0, 1)), (169, (.getfield 9, 3)), (172, (.iload 8, 2)), (174, (.dup2, 1)), (175, (.iaload, 1)), (176, (.iconst 1, 1)), (177, (.iadd, 1)), (178, (.iastore, 1)), (179, (.aload_n 0, 1)), (180, (.getfield 15, 3)), (183, (.iload 8, 2))]
theorem dh_309 : dchk cX0_divide dl_309 = true := by decide +kernel
theorem dX0_divide_149 : decode cX0_divide 149 = .ok (.iload 7, 2) := dget dh_309 (k := 0) rfl
theorem dX0_divide_151 : decode cX0_divide 151 = .ok (.aload_n 2, 1) := dget dh_309 (k := 1) rfl
theorem dX0_divide_152 : decode cX0_divide 152 = .ok (.getfield 18, 3) := dget dh_309 (k := 2) rfl
theorem dX0_divide_155 : decode cX0_divide 155 = .ok (.if_icmp .ge 38, 3) := dget dh_309 (k := 3) rfl
theorem dX0_divide_158 : decode cX0_divide 158 = .ok (.aload_n 0, 1) := dget dh_309 (k := 4) rfl
theorem dX0_divide_159 : decode cX0_divide 159 = .ok (.aload_n 2, 1) := dget dh_309 (k := 5) rfl
theorem dX0_divide_160 : decode cX0_divide 160 = .ok (.getfield 18, 3) := dget dh_309 (k := 6) rfl
theorem dX0_divide_163 : decode cX0_divide 163 = .ok (.invokevirtual 27, 3) := dget dh_309 (k := 7) rfl
theorem dX0_divide_166 : decode cX0_divide 166 = .ok (.istore 8, 2) := dget dh_309 (k := 8) rfl
theorem dX0_divide_168 : decode cX0_divide 168 = .ok (.aload_n 0, 1) := dget dh_309 (k := 9) rfl
theorem dX0_divide_169 : decode cX0_divide 169 = .ok (.getfield 9, 3) := dget dh_309 (k := 10) rfl
theorem dX0_divide_172 : decode cX0_divide 172 = .ok (.iload 8, 2) := dget dh_309 (k := 11) rfl
theorem dX0_divide_174 : decode cX0_divide 174 = .ok (.dup2, 1) := dget dh_309 (k := 12) rfl
theorem dX0_divide_175 : decode cX0_divide 175 = .ok (.iaload, 1) := dget dh_309 (k := 13) rfl
theorem dX0_divide_176 : decode cX0_divide 176 = .ok (.iconst 1, 1) := dget dh_309 (k := 14) rfl
theorem dX0_divide_177 : decode cX0_divide 177 = .ok (.iadd, 1) := dget dh_309 (k := 15) rfl
theorem dX0_divide_178 : decode cX0_divide 178 = .ok (.iastore, 1) := dget dh_309 (k := 16) rfl
theorem dX0_divide_179 : decode cX0_divide 179 = .ok (.aload_n 0, 1) := dget dh_309 (k := 17) rfl
theorem dX0_divide_180 : decode cX0_divide 180 = .ok (.getfield 15, 3) := dget dh_309 (k := 18) rfl
theorem dX0_divide_183 : decode cX0_divide 183 = .ok (.iload 8, 2) := dget dh_309 (k := 19) rfl
def dl_310 : List (Nat × (Instr × Nat)) := [(185, (.iconst (-1), 1)), (186, (.iastore, 1)), (187, (.iinc 7 1, 3)), (190, (.goto (-48), 3)), (193, (.return_, 1))]
theorem dh_310 : dchk cX0_divide dl_310 = true := by decide +kernel
theorem dX0_divide_185 : decode cX0_divide 185 = .ok (.iconst (-1), 1) := dget dh_310 (k := 0) rfl
theorem dX0_divide_186 : decode cX0_divide 186 = .ok (.iastore, 1) := dget dh_310 (k := 1) rfl
theorem dX0_divide_187 : decode cX0_divide 187 = .ok (.iinc 7 1, 3) := dget dh_310 (k := 2) rfl
theorem dX0_divide_190 : decode cX0_divide 190 = .ok (.goto (-48), 3) := dget dh_310 (k := 3) rfl
theorem dX0_divide_193 : decode cX0_divide 193 = .ok (.return_, 1) := dget dh_310 (k := 4) rfl
def dl_311 : List (Nat × (Instr × Nat)) := [(0, (.iconst 0, 1)), (1, (.istore_n 3, 1)), (2, (.iload_n 3, 1)), (3, (.iload_n 2, 1)), (4, (.if_icmp .ge 30, 3)), (7, (.iload_n 3, 1)), (8, (.iconst 4, 1)), (9, (.if_icmp .ge 25, 3)), (12, (.aload_n 1, 1)), (13, (.iload_n 3, 1)), (14, (.invokevirtual 31, 3)), (17, (.aload_n 0, 1)), (18, (.getfield 9, 3)), (21, (.iload_n 3, 1)), (22, (.iaload, 1)), (23, (.if_icmp .eq 5, 3)), (26, (.iload_n 3, 1)), (27, (.ireturn, 1)), (28, (.iinc 3 1, 3)), (31, (.goto (-29), 3))]
theorem dh_311 : dchk cX0_firstUnlike dl_311 = true := by decide +kernel
theorem dX0_firstUnlike_0 : decode cX0_firstUnlike 0 = .ok (.iconst 0, 1) := dget dh_311 (k := 0) rfl
theorem dX0_firstUnlike_1 : decode cX0_firstUnlike 1 = .ok (.istore_n 3, 1) := dget dh_311 (k := 1) rfl
theorem dX0_firstUnlike_2 : decode cX0_firstUnlike 2 = .ok (.iload_n 3, 1) := dget dh_311 (k := 2) rfl
theorem dX0_firstUnlike_3 : decode cX0_firstUnlike 3 = .ok (.iload_n 2, 1) := dget dh_311 (k := 3) rfl
theorem dX0_firstUnlike_4 : decode cX0_firstUnlike 4 = .ok (.if_icmp .ge 30, 3) := dget dh_311 (k := 4) rfl
theorem dX0_firstUnlike_7 : decode cX0_firstUnlike 7 = .ok (.iload_n 3, 1) := dget dh_311 (k := 5) rfl
theorem dX0_firstUnlike_8 : decode cX0_firstUnlike 8 = .ok (.iconst 4, 1) := dget dh_311 (k := 6) rfl
theorem dX0_firstUnlike_9 : decode cX0_firstUnlike 9 = .ok (.if_icmp .ge 25, 3) := dget dh_311 (k := 7) rfl
theorem dX0_firstUnlike_12 : decode cX0_firstUnlike 12 = .ok (.aload_n 1, 1) := dget dh_311 (k := 8) rfl
theorem dX0_firstUnlike_13 : decode cX0_firstUnlike 13 = .ok (.iload_n 3, 1) := dget dh_311 (k := 9) rfl
theorem dX0_firstUnlike_14 : decode cX0_firstUnlike 14 = .ok (.invokevirtual 31, 3) := dget dh_311 (k := 10) rfl
theorem dX0_firstUnlike_17 : decode cX0_firstUnlike 17 = .ok (.aload_n 0, 1) := dget dh_311 (k := 11) rfl
theorem dX0_firstUnlike_18 : decode cX0_firstUnlike 18 = .ok (.getfield 9, 3) := dget dh_311 (k := 12) rfl
theorem dX0_firstUnlike_21 : decode cX0_firstUnlike 21 = .ok (.iload_n 3, 1) := dget dh_311 (k := 13) rfl
theorem dX0_firstUnlike_22 : decode cX0_firstUnlike 22 = .ok (.iaload, 1) := dget dh_311 (k := 14) rfl
theorem dX0_firstUnlike_23 : decode cX0_firstUnlike 23 = .ok (.if_icmp .eq 5, 3) := dget dh_311 (k := 15) rfl
theorem dX0_firstUnlike_26 : decode cX0_firstUnlike 26 = .ok (.iload_n 3, 1) := dget dh_311 (k := 16) rfl
theorem dX0_firstUnlike_27 : decode cX0_firstUnlike 27 = .ok (.ireturn, 1) := dget dh_311 (k := 17) rfl
theorem dX0_firstUnlike_28 : decode cX0_firstUnlike 28 = .ok (.iinc 3 1, 3) := dget dh_311 (k := 18) rfl
theorem dX0_firstUnlike_31 : decode cX0_firstUnlike 31 = .ok (.goto (-29), 3) := dget dh_311 (k := 19) rfl
def dl_312 : List (Nat × (Instr × Nat)) := [(34, (.iload_n 2, 1)), (35, (.ireturn, 1))]
theorem dh_312 : dchk cX0_firstUnlike dl_312 = true := by decide +kernel
theorem dX0_firstUnlike_34 : decode cX0_firstUnlike 34 = .ok (.iload_n 2, 1) := dget dh_312 (k := 0) rfl
theorem dX0_firstUnlike_35 : decode cX0_firstUnlike 35 = .ok (.ireturn, 1) := dget dh_312 (k := 1) rfl
def dl_313 : List (Nat × (Instr × Nat)) := [(0, (.iconst 0, 1)), (1, (.istore_n 2, 1)), (2, (.iconst 1, 1)), (3, (.istore_n 3, 1)), (4, (.iload_n 3, 1)), (5, (.iload_n 1, 1)), (6, (.if_icmp .ge 31, 3)), (9, (.iload_n 3, 1)), (10, (.iconst 4, 1)), (11, (.if_icmp .ge 26, 3)), (14, (.aload_n 0, 1)), (15, (.getfield 15, 3)), (18, (.iload_n 3, 1)), (19, (.iaload, 1)), (20, (.aload_n 0, 1)), (21, (.getfield 15, 3)), (24, (.iload_n 2, 1)), (25, (.iaload, 1)), (26, (.if_icmp .le 5, 3)), (29, (.iload_n 3, 1))]
theorem dh_313 : dchk cX0_greatestRest dl_313 = true := by decide +kernel
theorem dX0_greatestRest_0 : decode cX0_greatestRest 0 = .ok (.iconst 0, 1) := dget dh_313 (k := 0) rfl
theorem dX0_greatestRest_1 : decode cX0_greatestRest 1 = .ok (.istore_n 2, 1) := dget dh_313 (k := 1) rfl
theorem dX0_greatestRest_2 : decode cX0_greatestRest 2 = .ok (.iconst 1, 1) := dget dh_313 (k := 2) rfl
theorem dX0_greatestRest_3 : decode cX0_greatestRest 3 = .ok (.istore_n 3, 1) := dget dh_313 (k := 3) rfl
theorem dX0_greatestRest_4 : decode cX0_greatestRest 4 = .ok (.iload_n 3, 1) := dget dh_313 (k := 4) rfl
theorem dX0_greatestRest_5 : decode cX0_greatestRest 5 = .ok (.iload_n 1, 1) := dget dh_313 (k := 5) rfl
theorem dX0_greatestRest_6 : decode cX0_greatestRest 6 = .ok (.if_icmp .ge 31, 3) := dget dh_313 (k := 6) rfl
theorem dX0_greatestRest_9 : decode cX0_greatestRest 9 = .ok (.iload_n 3, 1) := dget dh_313 (k := 7) rfl
theorem dX0_greatestRest_10 : decode cX0_greatestRest 10 = .ok (.iconst 4, 1) := dget dh_313 (k := 8) rfl
theorem dX0_greatestRest_11 : decode cX0_greatestRest 11 = .ok (.if_icmp .ge 26, 3) := dget dh_313 (k := 9) rfl
theorem dX0_greatestRest_14 : decode cX0_greatestRest 14 = .ok (.aload_n 0, 1) := dget dh_313 (k := 10) rfl
theorem dX0_greatestRest_15 : decode cX0_greatestRest 15 = .ok (.getfield 15, 3) := dget dh_313 (k := 11) rfl
theorem dX0_greatestRest_18 : decode cX0_greatestRest 18 = .ok (.iload_n 3, 1) := dget dh_313 (k := 12) rfl
theorem dX0_greatestRest_19 : decode cX0_greatestRest 19 = .ok (.iaload, 1) := dget dh_313 (k := 13) rfl
theorem dX0_greatestRest_20 : decode cX0_greatestRest 20 = .ok (.aload_n 0, 1) := dget dh_313 (k := 14) rfl
theorem dX0_greatestRest_21 : decode cX0_greatestRest 21 = .ok (.getfield 15, 3) := dget dh_313 (k := 15) rfl
theorem dX0_greatestRest_24 : decode cX0_greatestRest 24 = .ok (.iload_n 2, 1) := dget dh_313 (k := 16) rfl
theorem dX0_greatestRest_25 : decode cX0_greatestRest 25 = .ok (.iaload, 1) := dget dh_313 (k := 17) rfl
theorem dX0_greatestRest_26 : decode cX0_greatestRest 26 = .ok (.if_icmp .le 5, 3) := dget dh_313 (k := 18) rfl
theorem dX0_greatestRest_29 : decode cX0_greatestRest 29 = .ok (.iload_n 3, 1) := dget dh_313 (k := 19) rfl
def dl_314 : List (Nat × (Instr × Nat)) := [(30, (.istore_n 2, 1)), (31, (.iinc 3 1, 3)), (34, (.goto (-30), 3)), (37, (.iload_n 2, 1)), (38, (.ireturn, 1))]
theorem dh_314 : dchk cX0_greatestRest dl_314 = true := by decide +kernel
theorem dX0_greatestRest_30 : decode cX0_greatestRest 30 = .ok (.istore_n 2, 1) := dget dh_314 (k := 0) rfl
theorem dX0_greatestRest_31 : decode cX0_greatestRest 31 = .ok (.iinc 3 1, 3) := dget dh_314 (k := 1) rfl
theorem dX0_greatestRest_34 : decode cX0_greatestRest 34 = .ok (.goto (-30), 3) := dget dh_314 (k := 2) rfl
theorem dX0_greatestRest_37 : decode cX0_greatestRest 37 = .ok (.iload_n 2, 1) := dget dh_314 (k := 3) rfl
theorem dX0_greatestRest_38 : decode cX0_greatestRest 38 = .ok (.ireturn, 1) := dget dh_314 (k := 4) rfl
def dl_315 : List (Nat × (Instr × Nat)) := [(0, (.aload_n 0, 1)), (1, (.iload_n 1, 1)), (2, (.invokevirtual 196, 3)), (5, (.ifCond .eq 19, 3)), (8, (.aload_n 0, 1)), (9, (.aload_n 0, 1)), (10, (.getfield 61, 3)), (13, (.getfield 212, 3)), (16, (.iload_n 1, 1)), (17, (.iaload, 1)), (18, (.invokevirtual 108, 3)), (21, (.goto 4, 3)), (24, (.aconst_null, 1)), (25, (.astore 4, 2)), (27, (.aload 4, 2)), (29, (.ifnull 19, 3)), (32, (.iload_n 2, 1)), (33, (.invokestatic 186, 3)), (36, (.ifCond .eq 12, 3)), (39, (.iload_n 3, 1))]
theorem dh_315 : dchk cX11_award dl_315 = true := by decide +kernel
theorem dX11_award_0 : decode cX11_award 0 = .ok (.aload_n 0, 1) := dget dh_315 (k := 0) rfl
theorem dX11_award_1 : decode cX11_award 1 = .ok (.iload_n 1, 1) := dget dh_315 (k := 1) rfl
theorem dX11_award_2 : decode cX11_award 2 = .ok (.invokevirtual 196, 3) := dget dh_315 (k := 2) rfl
theorem dX11_award_5 : decode cX11_award 5 = .ok (.ifCond .eq 19, 3) := dget dh_315 (k := 3) rfl
theorem dX11_award_8 : decode cX11_award 8 = .ok (.aload_n 0, 1) := dget dh_315 (k := 4) rfl
theorem dX11_award_9 : decode cX11_award 9 = .ok (.aload_n 0, 1) := dget dh_315 (k := 5) rfl
theorem dX11_award_10 : decode cX11_award 10 = .ok (.getfield 61, 3) := dget dh_315 (k := 6) rfl
theorem dX11_award_13 : decode cX11_award 13 = .ok (.getfield 212, 3) := dget dh_315 (k := 7) rfl
theorem dX11_award_16 : decode cX11_award 16 = .ok (.iload_n 1, 1) := dget dh_315 (k := 8) rfl
theorem dX11_award_17 : decode cX11_award 17 = .ok (.iaload, 1) := dget dh_315 (k := 9) rfl
theorem dX11_award_18 : decode cX11_award 18 = .ok (.invokevirtual 108, 3) := dget dh_315 (k := 10) rfl
theorem dX11_award_21 : decode cX11_award 21 = .ok (.goto 4, 3) := dget dh_315 (k := 11) rfl
theorem dX11_award_24 : decode cX11_award 24 = .ok (.aconst_null, 1) := dget dh_315 (k := 12) rfl
theorem dX11_award_25 : decode cX11_award 25 = .ok (.astore 4, 2) := dget dh_315 (k := 13) rfl
theorem dX11_award_27 : decode cX11_award 27 = .ok (.aload 4, 2) := dget dh_315 (k := 14) rfl
theorem dX11_award_29 : decode cX11_award 29 = .ok (.ifnull 19, 3) := dget dh_315 (k := 15) rfl
theorem dX11_award_32 : decode cX11_award 32 = .ok (.iload_n 2, 1) := dget dh_315 (k := 16) rfl
theorem dX11_award_33 : decode cX11_award 33 = .ok (.invokestatic 186, 3) := dget dh_315 (k := 17) rfl
theorem dX11_award_36 : decode cX11_award 36 = .ok (.ifCond .eq 12, 3) := dget dh_315 (k := 18) rfl
theorem dX11_award_39 : decode cX11_award 39 = .ok (.iload_n 3, 1) := dget dh_315 (k := 19) rfl
def dl_316 : List (Nat × (Instr × Nat)) := [(40, (.iconst 0, 1)), (41, (.iconst 1, 1)), (42, (.invokestatic 93, 3)), (45, (.ifCond .ne 5, 3)), (48, (.iconst (-1), 1)), (49, (.ireturn, 1)), (50, (.iload_n 2, 1)), (51, (.aload_n 0, 1)), (52, (.getfield 61, 3)), (55, (.getfield 202, 3)), (58, (.iload_n 1, 1)), (59, (.iaload, 1)), (60, (.if_icmp .ge 6, 3)), (63, (.bipush (-2), 2)), (65, (.ireturn, 1)), (66, (.aload_n 0, 1)), (67, (.getfield 61, 3)), (70, (.getfield 214, 3)), (73, (.iload_n 1, 1)), (74, (.iaload, 1))]
theorem dh_316 : dchk cX11_award dl_316 = true := by decide +kernel
theorem dX11_award_40 : decode cX11_award 40 = .ok (.iconst 0, 1) := dget dh_316 (k := 0) rfl
theorem dX11_award_41 : decode cX11_award 41 = .ok (.iconst 1, 1) := dget dh_316 (k := 1) rfl
theorem dX11_award_42 : decode cX11_award 42 = .ok (.invokestatic 93, 3) := dget dh_316 (k := 2) rfl
theorem dX11_award_45 : decode cX11_award 45 = .ok (.ifCond .ne 5, 3) := dget dh_316 (k := 3) rfl
theorem dX11_award_48 : decode cX11_award 48 = .ok (.iconst (-1), 1) := dget dh_316 (k := 4) rfl
theorem dX11_award_49 : decode cX11_award 49 = .ok (.ireturn, 1) := dget dh_316 (k := 5) rfl
theorem dX11_award_50 : decode cX11_award 50 = .ok (.iload_n 2, 1) := dget dh_316 (k := 6) rfl
theorem dX11_award_51 : decode cX11_award 51 = .ok (.aload_n 0, 1) := dget dh_316 (k := 7) rfl
theorem dX11_award_52 : decode cX11_award 52 = .ok (.getfield 61, 3) := dget dh_316 (k := 8) rfl
theorem dX11_award_55 : decode cX11_award 55 = .ok (.getfield 202, 3) := dget dh_316 (k := 9) rfl
theorem dX11_award_58 : decode cX11_award 58 = .ok (.iload_n 1, 1) := dget dh_316 (k := 10) rfl
theorem dX11_award_59 : decode cX11_award 59 = .ok (.iaload, 1) := dget dh_316 (k := 11) rfl
theorem dX11_award_60 : decode cX11_award 60 = .ok (.if_icmp .ge 6, 3) := dget dh_316 (k := 12) rfl
theorem dX11_award_63 : decode cX11_award 63 = .ok (.bipush (-2), 2) := dget dh_316 (k := 13) rfl
theorem dX11_award_65 : decode cX11_award 65 = .ok (.ireturn, 1) := dget dh_316 (k := 14) rfl
theorem dX11_award_66 : decode cX11_award 66 = .ok (.aload_n 0, 1) := dget dh_316 (k := 15) rfl
theorem dX11_award_67 : decode cX11_award 67 = .ok (.getfield 61, 3) := dget dh_316 (k := 16) rfl
theorem dX11_award_70 : decode cX11_award 70 = .ok (.getfield 214, 3) := dget dh_316 (k := 17) rfl
theorem dX11_award_73 : decode cX11_award 73 = .ok (.iload_n 1, 1) := dget dh_316 (k := 18) rfl
theorem dX11_award_74 : decode cX11_award 74 = .ok (.iaload, 1) := dget dh_316 (k := 19) rfl
def dl_317 : List (Nat × (Instr × Nat)) := [(75, (.istore 5, 2)), (77, (.aload_n 0, 1)), (78, (.aload 4, 2)), (80, (.iload 5, 2)), (82, (.aload_n 0, 1)), (83, (.aload 4, 2)), (85, (.iload 5, 2)), (87, (.invokevirtual 167, 3)), (90, (.invokevirtual 179, 3)), (93, (.istore 6, 2)), (95, (.aload_n 0, 1)), (96, (.aload 4, 2)), (98, (.iload 5, 2)), (100, (.aload_n 0, 1)), (101, (.getfield 61, 3)), (104, (.getfield 217, 3)), (107, (.iload_n 1, 1)), (108, (.iaload, 1)), (109, (.aload_n 0, 1)), (110, (.getfield 61, 3))]
theorem dh_317 : dchk cX11_award dl_317 = true := by decide +kernel
theorem dX11_award_75 : decode cX11_award 75 = .ok (.istore 5, 2) := dget dh_317 (k := 0) rfl
theorem dX11_award_77 : decode cX11_award 77 = .ok (.aload_n 0, 1) := dget dh_317 (k := 1) rfl
theorem dX11_award_78 : decode cX11_award 78 = .ok (.aload 4, 2) := dget dh_317 (k := 2) rfl
theorem dX11_award_80 : decode cX11_award 80 = .ok (.iload 5, 2) := dget dh_317 (k := 3) rfl
theorem dX11_award_82 : decode cX11_award 82 = .ok (.aload_n 0, 1) := dget dh_317 (k := 4) rfl
theorem dX11_award_83 : decode cX11_award 83 = .ok (.aload 4, 2) := dget dh_317 (k := 5) rfl
theorem dX11_award_85 : decode cX11_award 85 = .ok (.iload 5, 2) := dget dh_317 (k := 6) rfl
theorem dX11_award_87 : decode cX11_award 87 = .ok (.invokevirtual 167, 3) := dget dh_317 (k := 7) rfl
theorem dX11_award_90 : decode cX11_award 90 = .ok (.invokevirtual 179, 3) := dget dh_317 (k := 8) rfl
theorem dX11_award_93 : decode cX11_award 93 = .ok (.istore 6, 2) := dget dh_317 (k := 9) rfl
theorem dX11_award_95 : decode cX11_award 95 = .ok (.aload_n 0, 1) := dget dh_317 (k := 10) rfl
theorem dX11_award_96 : decode cX11_award 96 = .ok (.aload 4, 2) := dget dh_317 (k := 11) rfl
theorem dX11_award_98 : decode cX11_award 98 = .ok (.iload 5, 2) := dget dh_317 (k := 12) rfl
theorem dX11_award_100 : decode cX11_award 100 = .ok (.aload_n 0, 1) := dget dh_317 (k := 13) rfl
theorem dX11_award_101 : decode cX11_award 101 = .ok (.getfield 61, 3) := dget dh_317 (k := 14) rfl
theorem dX11_award_104 : decode cX11_award 104 = .ok (.getfield 217, 3) := dget dh_317 (k := 15) rfl
theorem dX11_award_107 : decode cX11_award 107 = .ok (.iload_n 1, 1) := dget dh_317 (k := 16) rfl
theorem dX11_award_108 : decode cX11_award 108 = .ok (.iaload, 1) := dget dh_317 (k := 17) rfl
theorem dX11_award_109 : decode cX11_award 109 = .ok (.aload_n 0, 1) := dget dh_317 (k := 18) rfl
theorem dX11_award_110 : decode cX11_award 110 = .ok (.getfield 61, 3) := dget dh_317 (k := 19) rfl
def dl_318 : List (Nat × (Instr × Nat)) := [(113, (.getfield 220, 3)), (116, (.iload_n 1, 1)), (117, (.iaload, 1)), (118, (.invokevirtual 223, 3)), (121, (.aload_n 0, 1)), (122, (.iload_n 1, 1)), (123, (.iload_n 2, 1)), (124, (.iload 6, 2)), (126, (.invokevirtual 227, 3)), (129, (.istore 7, 2)), (131, (.iload_n 3, 1)), (132, (.ifCond .ne 15, 3)), (135, (.aload_n 0, 1)), (136, (.iload_n 1, 1)), (137, (.iload 7, 2)), (139, (.iload 6, 2)), (141, (.invokevirtual 231, 3)), (144, (.goto 5, 3)), (147, (.iload 7, 2)), (149, (.ireturn, 1))]
theorem dh_318 : dchk cX11_award dl_318 = true := by decide +kernel
theorem dX11_award_113 : decode cX11_award 113 = .ok (.getfield 220, 3) := dget dh_318 (k := 0) rfl
theorem dX11_award_116 : decode cX11_award 116 = .ok (.iload_n 1, 1) := dget dh_318 (k := 1) rfl
theorem dX11_award_117 : decode cX11_award 117 = .ok (.iaload, 1) := dget dh_318 (k := 2) rfl
theorem dX11_award_118 : decode cX11_award 118 = .ok (.invokevirtual 223, 3) := dget dh_318 (k := 3) rfl
theorem dX11_award_121 : decode cX11_award 121 = .ok (.aload_n 0, 1) := dget dh_318 (k := 4) rfl
theorem dX11_award_122 : decode cX11_award 122 = .ok (.iload_n 1, 1) := dget dh_318 (k := 5) rfl
theorem dX11_award_123 : decode cX11_award 123 = .ok (.iload_n 2, 1) := dget dh_318 (k := 6) rfl
theorem dX11_award_124 : decode cX11_award 124 = .ok (.iload 6, 2) := dget dh_318 (k := 7) rfl
theorem dX11_award_126 : decode cX11_award 126 = .ok (.invokevirtual 227, 3) := dget dh_318 (k := 8) rfl
theorem dX11_award_129 : decode cX11_award 129 = .ok (.istore 7, 2) := dget dh_318 (k := 9) rfl
theorem dX11_award_131 : decode cX11_award 131 = .ok (.iload_n 3, 1) := dget dh_318 (k := 10) rfl
theorem dX11_award_132 : decode cX11_award 132 = .ok (.ifCond .ne 15, 3) := dget dh_318 (k := 11) rfl
theorem dX11_award_135 : decode cX11_award 135 = .ok (.aload_n 0, 1) := dget dh_318 (k := 12) rfl
theorem dX11_award_136 : decode cX11_award 136 = .ok (.iload_n 1, 1) := dget dh_318 (k := 13) rfl
theorem dX11_award_137 : decode cX11_award 137 = .ok (.iload 7, 2) := dget dh_318 (k := 14) rfl
theorem dX11_award_139 : decode cX11_award 139 = .ok (.iload 6, 2) := dget dh_318 (k := 15) rfl
theorem dX11_award_141 : decode cX11_award 141 = .ok (.invokevirtual 231, 3) := dget dh_318 (k := 16) rfl
theorem dX11_award_144 : decode cX11_award 144 = .ok (.goto 5, 3) := dget dh_318 (k := 17) rfl
theorem dX11_award_147 : decode cX11_award 147 = .ok (.iload 7, 2) := dget dh_318 (k := 18) rfl
theorem dX11_award_149 : decode cX11_award 149 = .ok (.ireturn, 1) := dget dh_318 (k := 19) rfl
def dl_319 : List (Nat × (Instr × Nat)) := [(0, (.aload_n 0, 1)), (1, (.getfield 61, 3)), (4, (.getfield 199, 3)), (7, (.iload_n 1, 1)), (8, (.iaload, 1)), (9, (.istore 4, 2)), (11, (.iload_n 2, 1)), (12, (.tableswitch 76 1 7 #[44, 46, 46, 76, 48, 76, 48], 44)), (56, (.iconst 0, 1)), (57, (.ireturn, 1)), (58, (.iload_n 3, 1)), (59, (.ireturn, 1)), (60, (.iload 4, 2)), (62, (.iload_n 3, 1)), (63, (.aload_n 0, 1)), (64, (.getfield 50, 3)), (67, (.bipush 112, 2)), (69, (.aload_n 0, 1)), (70, (.getfield 54, 3)), (73, (.bipush 100, 2))]
theorem dh_319 : dchk cX11_awarded dl_319 = true := by decide +kernel
theorem dX11_awarded_0 : decode cX11_awarded 0 = .ok (.aload_n 0, 1) := dget dh_319 (k := 0) rfl
theorem dX11_awarded_1 : decode cX11_awarded 1 = .ok (.getfield 61, 3) := dget dh_319 (k := 1) rfl
theorem dX11_awarded_4 : decode cX11_awarded 4 = .ok (.getfield 199, 3) := dget dh_319 (k := 2) rfl
theorem dX11_awarded_7 : decode cX11_awarded 7 = .ok (.iload_n 1, 1) := dget dh_319 (k := 3) rfl
theorem dX11_awarded_8 : decode cX11_awarded 8 = .ok (.iaload, 1) := dget dh_319 (k := 4) rfl
theorem dX11_awarded_9 : decode cX11_awarded 9 = .ok (.istore 4, 2) := dget dh_319 (k := 5) rfl
theorem dX11_awarded_11 : decode cX11_awarded 11 = .ok (.iload_n 2, 1) := dget dh_319 (k := 6) rfl
theorem dX11_awarded_12 : decode cX11_awarded 12 = .ok (.tableswitch 76 1 7 #[44, 46, 46, 76, 48, 76, 48], 44) := dget dh_319 (k := 7) rfl
theorem dX11_awarded_56 : decode cX11_awarded 56 = .ok (.iconst 0, 1) := dget dh_319 (k := 8) rfl
theorem dX11_awarded_57 : decode cX11_awarded 57 = .ok (.ireturn, 1) := dget dh_319 (k := 9) rfl
theorem dX11_awarded_58 : decode cX11_awarded 58 = .ok (.iload_n 3, 1) := dget dh_319 (k := 10) rfl
theorem dX11_awarded_59 : decode cX11_awarded 59 = .ok (.ireturn, 1) := dget dh_319 (k := 11) rfl
theorem dX11_awarded_60 : decode cX11_awarded 60 = .ok (.iload 4, 2) := dget dh_319 (k := 12) rfl
theorem dX11_awarded_62 : decode cX11_awarded 62 = .ok (.iload_n 3, 1) := dget dh_319 (k := 13) rfl
theorem dX11_awarded_63 : decode cX11_awarded 63 = .ok (.aload_n 0, 1) := dget dh_319 (k := 14) rfl
theorem dX11_awarded_64 : decode cX11_awarded 64 = .ok (.getfield 50, 3) := dget dh_319 (k := 15) rfl
theorem dX11_awarded_67 : decode cX11_awarded 67 = .ok (.bipush 112, 2) := dget dh_319 (k := 16) rfl
theorem dX11_awarded_69 : decode cX11_awarded 69 = .ok (.aload_n 0, 1) := dget dh_319 (k := 17) rfl
theorem dX11_awarded_70 : decode cX11_awarded 70 = .ok (.getfield 54, 3) := dget dh_319 (k := 18) rfl
theorem dX11_awarded_73 : decode cX11_awarded 73 = .ok (.bipush 100, 2) := dget dh_319 (k := 19) rfl
def dl_320 : List (Nat × (Instr × Nat)) := [(75, (.bipush 100, 2)), (77, (.invokevirtual 357, 3)), (80, (.imul, 1)), (81, (.bipush 100, 2)), (83, (.idiv, 1)), (84, (.invokestatic 329, 3)), (87, (.ireturn, 1)), (88, (.iload 4, 2)), (90, (.ireturn, 1))]
theorem dh_320 : dchk cX11_awarded dl_320 = true := by decide +kernel
theorem dX11_awarded_75 : decode cX11_awarded 75 = .ok (.bipush 100, 2) := dget dh_320 (k := 0) rfl
theorem dX11_awarded_77 : decode cX11_awarded 77 = .ok (.invokevirtual 357, 3) := dget dh_320 (k := 1) rfl
theorem dX11_awarded_80 : decode cX11_awarded 80 = .ok (.imul, 1) := dget dh_320 (k := 2) rfl
theorem dX11_awarded_81 : decode cX11_awarded 81 = .ok (.bipush 100, 2) := dget dh_320 (k := 3) rfl
theorem dX11_awarded_83 : decode cX11_awarded 83 = .ok (.idiv, 1) := dget dh_320 (k := 4) rfl
theorem dX11_awarded_84 : decode cX11_awarded 84 = .ok (.invokestatic 329, 3) := dget dh_320 (k := 5) rfl
theorem dX11_awarded_87 : decode cX11_awarded 87 = .ok (.ireturn, 1) := dget dh_320 (k := 6) rfl
theorem dX11_awarded_88 : decode cX11_awarded 88 = .ok (.iload 4, 2) := dget dh_320 (k := 7) rfl
theorem dX11_awarded_90 : decode cX11_awarded 90 = .ok (.ireturn, 1) := dget dh_320 (k := 8) rfl
def dl_321 : List (Nat × (Instr × Nat)) := [(0, (.iconst 0, 1)), (1, (.istore_n 3, 1)), (2, (.iconst 0, 1)), (3, (.istore 4, 2)), (5, (.iload 4, 2)), (7, (.aload_n 0, 1)), (8, (.getfield 61, 3)), (11, (.getfield 320, 3)), (14, (.if_icmp .ge 38, 3)), (17, (.aload_n 0, 1)), (18, (.getfield 61, 3)), (21, (.getfield 212, 3)), (24, (.iload 4, 2)), (26, (.iaload, 1)), (27, (.iload_n 1, 1)), (28, (.if_icmp .ne 18, 3)), (31, (.iload_n 3, 1)), (32, (.iconst 0, 1)), (33, (.aload_n 0, 1)), (34, (.iload 4, 2))]
theorem dh_321 : dchk cX11_awards dl_321 = true := by decide +kernel
theorem dX11_awards_0 : decode cX11_awards 0 = .ok (.iconst 0, 1) := dget dh_321 (k := 0) rfl
theorem dX11_awards_1 : decode cX11_awards 1 = .ok (.istore_n 3, 1) := dget dh_321 (k := 1) rfl
theorem dX11_awards_2 : decode cX11_awards 2 = .ok (.iconst 0, 1) := dget dh_321 (k := 2) rfl
theorem dX11_awards_3 : decode cX11_awards 3 = .ok (.istore 4, 2) := dget dh_321 (k := 3) rfl
theorem dX11_awards_5 : decode cX11_awards 5 = .ok (.iload 4, 2) := dget dh_321 (k := 4) rfl
theorem dX11_awards_7 : decode cX11_awards 7 = .ok (.aload_n 0, 1) := dget dh_321 (k := 5) rfl
theorem dX11_awards_8 : decode cX11_awards 8 = .ok (.getfield 61, 3) := dget dh_321 (k := 6) rfl
theorem dX11_awards_11 : decode cX11_awards 11 = .ok (.getfield 320, 3) := dget dh_321 (k := 7) rfl
theorem dX11_awards_14 : decode cX11_awards 14 = .ok (.if_icmp .ge 38, 3) := dget dh_321 (k := 8) rfl
theorem dX11_awards_17 : decode cX11_awards 17 = .ok (.aload_n 0, 1) := dget dh_321 (k := 9) rfl
theorem dX11_awards_18 : decode cX11_awards 18 = .ok (.getfield 61, 3) := dget dh_321 (k := 10) rfl
theorem dX11_awards_21 : decode cX11_awards 21 = .ok (.getfield 212, 3) := dget dh_321 (k := 11) rfl
theorem dX11_awards_24 : decode cX11_awards 24 = .ok (.iload 4, 2) := dget dh_321 (k := 12) rfl
theorem dX11_awards_26 : decode cX11_awards 26 = .ok (.iaload, 1) := dget dh_321 (k := 13) rfl
theorem dX11_awards_27 : decode cX11_awards 27 = .ok (.iload_n 1, 1) := dget dh_321 (k := 14) rfl
theorem dX11_awards_28 : decode cX11_awards 28 = .ok (.if_icmp .ne 18, 3) := dget dh_321 (k := 15) rfl
theorem dX11_awards_31 : decode cX11_awards 31 = .ok (.iload_n 3, 1) := dget dh_321 (k := 16) rfl
theorem dX11_awards_32 : decode cX11_awards 32 = .ok (.iconst 0, 1) := dget dh_321 (k := 17) rfl
theorem dX11_awards_33 : decode cX11_awards 33 = .ok (.aload_n 0, 1) := dget dh_321 (k := 18) rfl
theorem dX11_awards_34 : decode cX11_awards 34 = .ok (.iload 4, 2) := dget dh_321 (k := 19) rfl
def dl_322 : List (Nat × (Instr × Nat)) := [(36, (.iload_n 2, 1)), (37, (.iconst 0, 1)), (38, (.invokevirtual 326, 3)), (41, (.invokestatic 329, 3)), (44, (.iadd, 1)), (45, (.istore_n 3, 1)), (46, (.iinc 4 1, 3)), (49, (.goto (-44), 3)), (52, (.iload_n 3, 1)), (53, (.ireturn, 1))]
theorem dh_322 : dchk cX11_awards dl_322 = true := by decide +kernel
theorem dX11_awards_36 : decode cX11_awards 36 = .ok (.iload_n 2, 1) := dget dh_322 (k := 0) rfl
theorem dX11_awards_37 : decode cX11_awards 37 = .ok (.iconst 0, 1) := dget dh_322 (k := 1) rfl
theorem dX11_awards_38 : decode cX11_awards 38 = .ok (.invokevirtual 326, 3) := dget dh_322 (k := 2) rfl
theorem dX11_awards_41 : decode cX11_awards 41 = .ok (.invokestatic 329, 3) := dget dh_322 (k := 3) rfl
theorem dX11_awards_44 : decode cX11_awards 44 = .ok (.iadd, 1) := dget dh_322 (k := 4) rfl
theorem dX11_awards_45 : decode cX11_awards 45 = .ok (.istore_n 3, 1) := dget dh_322 (k := 5) rfl
theorem dX11_awards_46 : decode cX11_awards 46 = .ok (.iinc 4 1, 3) := dget dh_322 (k := 6) rfl
theorem dX11_awards_49 : decode cX11_awards 49 = .ok (.goto (-44), 3) := dget dh_322 (k := 7) rfl
theorem dX11_awards_52 : decode cX11_awards 52 = .ok (.iload_n 3, 1) := dget dh_322 (k := 8) rfl
theorem dX11_awards_53 : decode cX11_awards 53 = .ok (.ireturn, 1) := dget dh_322 (k := 9) rfl
def dl_323 : List (Nat × (Instr × Nat)) := [(0, (.aload_n 0, 1)), (1, (.iload_n 1, 1)), (2, (.invokevirtual 108, 3)), (5, (.astore 4, 2)), (7, (.aload 4, 2)), (9, (.ifnull 32, 3)), (12, (.iload_n 2, 1)), (13, (.invokestatic 186, 3)), (16, (.ifCond .eq 25, 3)), (19, (.iload_n 3, 1)), (20, (.iconst 0, 1)), (21, (.iconst 4, 1)), (22, (.invokestatic 93, 3)), (25, (.ifCond .eq 16, 3)), (28, (.iconst 4, 1)), (29, (.iload_n 3, 1)), (30, (.imul, 1)), (31, (.aload_n 0, 1)), (32, (.getfield 36, 3)), (35, (.getfield 141, 3))]
theorem dh_323 : dchk cX11_check dl_323 = true := by decide +kernel
theorem dX11_check_0 : decode cX11_check 0 = .ok (.aload_n 0, 1) := dget dh_323 (k := 0) rfl
theorem dX11_check_1 : decode cX11_check 1 = .ok (.iload_n 1, 1) := dget dh_323 (k := 1) rfl
theorem dX11_check_2 : decode cX11_check 2 = .ok (.invokevirtual 108, 3) := dget dh_323 (k := 2) rfl
theorem dX11_check_5 : decode cX11_check 5 = .ok (.astore 4, 2) := dget dh_323 (k := 3) rfl
theorem dX11_check_7 : decode cX11_check 7 = .ok (.aload 4, 2) := dget dh_323 (k := 4) rfl
theorem dX11_check_9 : decode cX11_check 9 = .ok (.ifnull 32, 3) := dget dh_323 (k := 5) rfl
theorem dX11_check_12 : decode cX11_check 12 = .ok (.iload_n 2, 1) := dget dh_323 (k := 6) rfl
theorem dX11_check_13 : decode cX11_check 13 = .ok (.invokestatic 186, 3) := dget dh_323 (k := 7) rfl
theorem dX11_check_16 : decode cX11_check 16 = .ok (.ifCond .eq 25, 3) := dget dh_323 (k := 8) rfl
theorem dX11_check_19 : decode cX11_check 19 = .ok (.iload_n 3, 1) := dget dh_323 (k := 9) rfl
theorem dX11_check_20 : decode cX11_check 20 = .ok (.iconst 0, 1) := dget dh_323 (k := 10) rfl
theorem dX11_check_21 : decode cX11_check 21 = .ok (.iconst 4, 1) := dget dh_323 (k := 11) rfl
theorem dX11_check_22 : decode cX11_check 22 = .ok (.invokestatic 93, 3) := dget dh_323 (k := 12) rfl
theorem dX11_check_25 : decode cX11_check 25 = .ok (.ifCond .eq 16, 3) := dget dh_323 (k := 13) rfl
theorem dX11_check_28 : decode cX11_check 28 = .ok (.iconst 4, 1) := dget dh_323 (k := 14) rfl
theorem dX11_check_29 : decode cX11_check 29 = .ok (.iload_n 3, 1) := dget dh_323 (k := 15) rfl
theorem dX11_check_30 : decode cX11_check 30 = .ok (.imul, 1) := dget dh_323 (k := 16) rfl
theorem dX11_check_31 : decode cX11_check 31 = .ok (.aload_n 0, 1) := dget dh_323 (k := 17) rfl
theorem dX11_check_32 : decode cX11_check 32 = .ok (.getfield 36, 3) := dget dh_323 (k := 18) rfl
theorem dX11_check_35 : decode cX11_check 35 = .ok (.getfield 141, 3) := dget dh_323 (k := 19) rfl
def dl_324 : List (Nat × (Instr × Nat)) := [(38, (.if_icmp .le 6, 3)), (41, (.bipush (-2), 2)), (43, (.ireturn, 1)), (44, (.aload_n 0, 1)), (45, (.getfield 75, 3)), (48, (.aload_n 0, 1)), (49, (.aload 4, 2)), (51, (.aload_n 0, 1)), (52, (.iload_n 1, 1)), (53, (.iload_n 2, 1)), (54, (.invokevirtual 234, 3)), (57, (.invokevirtual 238, 3)), (60, (.aload 4, 2)), (62, (.invokevirtual 241, 3)), (65, (.aload_n 0, 1)), (66, (.getfield 75, 3)), (69, (.aload_n 0, 1)), (70, (.getfield 36, 3)), (73, (.iload_n 3, 1)), (74, (.aload 4, 2))]
theorem dh_324 : dchk cX11_check dl_324 = true := by decide +kernel
theorem dX11_check_38 : decode cX11_check 38 = .ok (.if_icmp .le 6, 3) := dget dh_324 (k := 0) rfl
theorem dX11_check_41 : decode cX11_check 41 = .ok (.bipush (-2), 2) := dget dh_324 (k := 1) rfl
theorem dX11_check_43 : decode cX11_check 43 = .ok (.ireturn, 1) := dget dh_324 (k := 2) rfl
theorem dX11_check_44 : decode cX11_check 44 = .ok (.aload_n 0, 1) := dget dh_324 (k := 3) rfl
theorem dX11_check_45 : decode cX11_check 45 = .ok (.getfield 75, 3) := dget dh_324 (k := 4) rfl
theorem dX11_check_48 : decode cX11_check 48 = .ok (.aload_n 0, 1) := dget dh_324 (k := 5) rfl
theorem dX11_check_49 : decode cX11_check 49 = .ok (.aload 4, 2) := dget dh_324 (k := 6) rfl
theorem dX11_check_51 : decode cX11_check 51 = .ok (.aload_n 0, 1) := dget dh_324 (k := 7) rfl
theorem dX11_check_52 : decode cX11_check 52 = .ok (.iload_n 1, 1) := dget dh_324 (k := 8) rfl
theorem dX11_check_53 : decode cX11_check 53 = .ok (.iload_n 2, 1) := dget dh_324 (k := 9) rfl
theorem dX11_check_54 : decode cX11_check 54 = .ok (.invokevirtual 234, 3) := dget dh_324 (k := 10) rfl
theorem dX11_check_57 : decode cX11_check 57 = .ok (.invokevirtual 238, 3) := dget dh_324 (k := 11) rfl
theorem dX11_check_60 : decode cX11_check 60 = .ok (.aload 4, 2) := dget dh_324 (k := 12) rfl
theorem dX11_check_62 : decode cX11_check 62 = .ok (.invokevirtual 241, 3) := dget dh_324 (k := 13) rfl
theorem dX11_check_65 : decode cX11_check 65 = .ok (.aload_n 0, 1) := dget dh_324 (k := 14) rfl
theorem dX11_check_66 : decode cX11_check 66 = .ok (.getfield 75, 3) := dget dh_324 (k := 15) rfl
theorem dX11_check_69 : decode cX11_check 69 = .ok (.aload_n 0, 1) := dget dh_324 (k := 16) rfl
theorem dX11_check_70 : decode cX11_check 70 = .ok (.getfield 36, 3) := dget dh_324 (k := 17) rfl
theorem dX11_check_73 : decode cX11_check 73 = .ok (.iload_n 3, 1) := dget dh_324 (k := 18) rfl
theorem dX11_check_74 : decode cX11_check 74 = .ok (.aload 4, 2) := dget dh_324 (k := 19) rfl
def dl_325 : List (Nat × (Instr × Nat)) := [(76, (.getfield 112, 3)), (79, (.invokestatic 336, 3)), (82, (.invokevirtual 339, 3)), (85, (.istore 5, 2)), (87, (.aload_n 0, 1)), (88, (.getfield 36, 3)), (91, (.iconst 0, 1)), (92, (.putfield 141, 3)), (95, (.iload 5, 2)), (97, (.iload_n 3, 1)), (98, (.if_icmp .ne 16, 3)), (101, (.iload_n 3, 1)), (102, (.aload 4, 2)), (104, (.getfield 112, 3)), (107, (.if_icmp .ne 7, 3)), (110, (.iconst (-1), 1)), (111, (.goto 5, 3)), (114, (.iload 5, 2)), (116, (.ireturn, 1))]
theorem dh_325 : dchk cX11_check dl_325 = true := by decide +kernel
theorem dX11_check_76 : decode cX11_check 76 = .ok (.getfield 112, 3) := dget dh_325 (k := 0) rfl
theorem dX11_check_79 : decode cX11_check 79 = .ok (.invokestatic 336, 3) := dget dh_325 (k := 1) rfl
theorem dX11_check_82 : decode cX11_check 82 = .ok (.invokevirtual 339, 3) := dget dh_325 (k := 2) rfl
theorem dX11_check_85 : decode cX11_check 85 = .ok (.istore 5, 2) := dget dh_325 (k := 3) rfl
theorem dX11_check_87 : decode cX11_check 87 = .ok (.aload_n 0, 1) := dget dh_325 (k := 4) rfl
theorem dX11_check_88 : decode cX11_check 88 = .ok (.getfield 36, 3) := dget dh_325 (k := 5) rfl
theorem dX11_check_91 : decode cX11_check 91 = .ok (.iconst 0, 1) := dget dh_325 (k := 6) rfl
theorem dX11_check_92 : decode cX11_check 92 = .ok (.putfield 141, 3) := dget dh_325 (k := 7) rfl
theorem dX11_check_95 : decode cX11_check 95 = .ok (.iload 5, 2) := dget dh_325 (k := 8) rfl
theorem dX11_check_97 : decode cX11_check 97 = .ok (.iload_n 3, 1) := dget dh_325 (k := 9) rfl
theorem dX11_check_98 : decode cX11_check 98 = .ok (.if_icmp .ne 16, 3) := dget dh_325 (k := 10) rfl
theorem dX11_check_101 : decode cX11_check 101 = .ok (.iload_n 3, 1) := dget dh_325 (k := 11) rfl
theorem dX11_check_102 : decode cX11_check 102 = .ok (.aload 4, 2) := dget dh_325 (k := 12) rfl
theorem dX11_check_104 : decode cX11_check 104 = .ok (.getfield 112, 3) := dget dh_325 (k := 13) rfl
theorem dX11_check_107 : decode cX11_check 107 = .ok (.if_icmp .ne 7, 3) := dget dh_325 (k := 14) rfl
theorem dX11_check_110 : decode cX11_check 110 = .ok (.iconst (-1), 1) := dget dh_325 (k := 15) rfl
theorem dX11_check_111 : decode cX11_check 111 = .ok (.goto 5, 3) := dget dh_325 (k := 16) rfl
theorem dX11_check_114 : decode cX11_check 114 = .ok (.iload 5, 2) := dget dh_325 (k := 17) rfl
theorem dX11_check_116 : decode cX11_check 116 = .ok (.ireturn, 1) := dget dh_325 (k := 18) rfl
def dl_326 : List (Nat × (Instr × Nat)) := [(0, (.aload_n 0, 1)), (1, (.iload_n 1, 1)), (2, (.invokevirtual 108, 3)), (5, (.astore 6, 2)), (7, (.aload 6, 2)), (9, (.ifnull 50, 3)), (12, (.iload_n 2, 1)), (13, (.iconst 0, 1)), (14, (.aload 6, 2)), (16, (.getfield 124, 3)), (19, (.getfield 157, 3)), (22, (.iconst 1, 1)), (23, (.isub, 1)), (24, (.invokestatic 93, 3)), (27, (.ifCond .eq 32, 3)), (30, (.iload_n 3, 1)), (31, (.iconst 0, 1)), (32, (.bipush 9, 2)), (34, (.invokestatic 93, 3)), (37, (.ifCond .eq 22, 3))]
theorem dh_326 : dchk cX11_claim dl_326 = true := by decide +kernel
theorem dX11_claim_0 : decode cX11_claim 0 = .ok (.aload_n 0, 1) := dget dh_326 (k := 0) rfl
theorem dX11_claim_1 : decode cX11_claim 1 = .ok (.iload_n 1, 1) := dget dh_326 (k := 1) rfl
theorem dX11_claim_2 : decode cX11_claim 2 = .ok (.invokevirtual 108, 3) := dget dh_326 (k := 2) rfl
theorem dX11_claim_5 : decode cX11_claim 5 = .ok (.astore 6, 2) := dget dh_326 (k := 3) rfl
theorem dX11_claim_7 : decode cX11_claim 7 = .ok (.aload 6, 2) := dget dh_326 (k := 4) rfl
theorem dX11_claim_9 : decode cX11_claim 9 = .ok (.ifnull 50, 3) := dget dh_326 (k := 5) rfl
theorem dX11_claim_12 : decode cX11_claim 12 = .ok (.iload_n 2, 1) := dget dh_326 (k := 6) rfl
theorem dX11_claim_13 : decode cX11_claim 13 = .ok (.iconst 0, 1) := dget dh_326 (k := 7) rfl
theorem dX11_claim_14 : decode cX11_claim 14 = .ok (.aload 6, 2) := dget dh_326 (k := 8) rfl
theorem dX11_claim_16 : decode cX11_claim 16 = .ok (.getfield 124, 3) := dget dh_326 (k := 9) rfl
theorem dX11_claim_19 : decode cX11_claim 19 = .ok (.getfield 157, 3) := dget dh_326 (k := 10) rfl
theorem dX11_claim_22 : decode cX11_claim 22 = .ok (.iconst 1, 1) := dget dh_326 (k := 11) rfl
theorem dX11_claim_23 : decode cX11_claim 23 = .ok (.isub, 1) := dget dh_326 (k := 12) rfl
theorem dX11_claim_24 : decode cX11_claim 24 = .ok (.invokestatic 93, 3) := dget dh_326 (k := 13) rfl
theorem dX11_claim_27 : decode cX11_claim 27 = .ok (.ifCond .eq 32, 3) := dget dh_326 (k := 14) rfl
theorem dX11_claim_30 : decode cX11_claim 30 = .ok (.iload_n 3, 1) := dget dh_326 (k := 15) rfl
theorem dX11_claim_31 : decode cX11_claim 31 = .ok (.iconst 0, 1) := dget dh_326 (k := 16) rfl
theorem dX11_claim_32 : decode cX11_claim 32 = .ok (.bipush 9, 2) := dget dh_326 (k := 17) rfl
theorem dX11_claim_34 : decode cX11_claim 34 = .ok (.invokestatic 93, 3) := dget dh_326 (k := 18) rfl
theorem dX11_claim_37 : decode cX11_claim 37 = .ok (.ifCond .eq 22, 3) := dget dh_326 (k := 19) rfl
def dl_327 : List (Nat × (Instr × Nat)) := [(40, (.iload 4, 2)), (42, (.iconst 0, 1)), (43, (.bipush 7, 2)), (45, (.invokestatic 93, 3)), (48, (.ifCond .eq 11, 3)), (51, (.iload 5, 2)), (53, (.invokestatic 186, 3)), (56, (.ifCond .ne 5, 3)), (59, (.iconst (-1), 1)), (60, (.ireturn, 1)), (61, (.aload_n 0, 1)), (62, (.getfield 61, 3)), (65, (.iload_n 1, 1)), (66, (.iload_n 2, 1)), (67, (.invokevirtual 189, 3)), (70, (.ifCond .eq 6, 3)), (73, (.bipush (-2), 2)), (75, (.ireturn, 1)), (76, (.aload_n 0, 1)), (77, (.getfield 61, 3))]
theorem dh_327 : dchk cX11_claim dl_327 = true := by decide +kernel
theorem dX11_claim_40 : decode cX11_claim 40 = .ok (.iload 4, 2) := dget dh_327 (k := 0) rfl
theorem dX11_claim_42 : decode cX11_claim 42 = .ok (.iconst 0, 1) := dget dh_327 (k := 1) rfl
theorem dX11_claim_43 : decode cX11_claim 43 = .ok (.bipush 7, 2) := dget dh_327 (k := 2) rfl
theorem dX11_claim_45 : decode cX11_claim 45 = .ok (.invokestatic 93, 3) := dget dh_327 (k := 3) rfl
theorem dX11_claim_48 : decode cX11_claim 48 = .ok (.ifCond .eq 11, 3) := dget dh_327 (k := 4) rfl
theorem dX11_claim_51 : decode cX11_claim 51 = .ok (.iload 5, 2) := dget dh_327 (k := 5) rfl
theorem dX11_claim_53 : decode cX11_claim 53 = .ok (.invokestatic 186, 3) := dget dh_327 (k := 6) rfl
theorem dX11_claim_56 : decode cX11_claim 56 = .ok (.ifCond .ne 5, 3) := dget dh_327 (k := 7) rfl
theorem dX11_claim_59 : decode cX11_claim 59 = .ok (.iconst (-1), 1) := dget dh_327 (k := 8) rfl
theorem dX11_claim_60 : decode cX11_claim 60 = .ok (.ireturn, 1) := dget dh_327 (k := 9) rfl
theorem dX11_claim_61 : decode cX11_claim 61 = .ok (.aload_n 0, 1) := dget dh_327 (k := 10) rfl
theorem dX11_claim_62 : decode cX11_claim 62 = .ok (.getfield 61, 3) := dget dh_327 (k := 11) rfl
theorem dX11_claim_65 : decode cX11_claim 65 = .ok (.iload_n 1, 1) := dget dh_327 (k := 12) rfl
theorem dX11_claim_66 : decode cX11_claim 66 = .ok (.iload_n 2, 1) := dget dh_327 (k := 13) rfl
theorem dX11_claim_67 : decode cX11_claim 67 = .ok (.invokevirtual 189, 3) := dget dh_327 (k := 14) rfl
theorem dX11_claim_70 : decode cX11_claim 70 = .ok (.ifCond .eq 6, 3) := dget dh_327 (k := 15) rfl
theorem dX11_claim_73 : decode cX11_claim 73 = .ok (.bipush (-2), 2) := dget dh_327 (k := 16) rfl
theorem dX11_claim_75 : decode cX11_claim 75 = .ok (.ireturn, 1) := dget dh_327 (k := 17) rfl
theorem dX11_claim_76 : decode cX11_claim 76 = .ok (.aload_n 0, 1) := dget dh_327 (k := 18) rfl
theorem dX11_claim_77 : decode cX11_claim 77 = .ok (.getfield 61, 3) := dget dh_327 (k := 19) rfl
def dl_328 : List (Nat × (Instr × Nat)) := [(80, (.iload_n 1, 1)), (81, (.iload_n 2, 1)), (82, (.iload_n 3, 1)), (83, (.iload 4, 2)), (85, (.iload 5, 2)), (87, (.invokevirtual 193, 3)), (90, (.ireturn, 1))]
theorem dh_328 : dchk cX11_claim dl_328 = true := by decide +kernel
theorem dX11_claim_80 : decode cX11_claim 80 = .ok (.iload_n 1, 1) := dget dh_328 (k := 0) rfl
theorem dX11_claim_81 : decode cX11_claim 81 = .ok (.iload_n 2, 1) := dget dh_328 (k := 1) rfl
theorem dX11_claim_82 : decode cX11_claim 82 = .ok (.iload_n 3, 1) := dget dh_328 (k := 2) rfl
theorem dX11_claim_83 : decode cX11_claim 83 = .ok (.iload 4, 2) := dget dh_328 (k := 3) rfl
theorem dX11_claim_85 : decode cX11_claim 85 = .ok (.iload 5, 2) := dget dh_328 (k := 4) rfl
theorem dX11_claim_87 : decode cX11_claim 87 = .ok (.invokevirtual 193, 3) := dget dh_328 (k := 5) rfl
theorem dX11_claim_90 : decode cX11_claim 90 = .ok (.ireturn, 1) := dget dh_328 (k := 6) rfl
def dl_329 : List (Nat × (Instr × Nat)) := [(0, (.iload_n 1, 1)), (1, (.bipush 30, 2)), (3, (.if_icmp .lt 31, 3)), (6, (.aload_n 0, 1)), (7, (.iload_n 1, 1)), (8, (.bipush 30, 2)), (10, (.isub, 1)), (11, (.invokevirtual 196, 3)), (14, (.ifCond .eq 18, 3)), (17, (.aload_n 0, 1)), (18, (.getfield 61, 3)), (21, (.getfield 212, 3)), (24, (.iload_n 1, 1)), (25, (.bipush 30, 2)), (27, (.isub, 1)), (28, (.iaload, 1)), (29, (.goto 4, 3)), (32, (.iconst (-1), 1)), (33, (.ireturn, 1)), (34, (.iload_n 1, 1))]
theorem dh_329 : dchk cX11_count dl_329 = true := by decide +kernel
theorem dX11_count_0 : decode cX11_count 0 = .ok (.iload_n 1, 1) := dget dh_329 (k := 0) rfl
theorem dX11_count_1 : decode cX11_count 1 = .ok (.bipush 30, 2) := dget dh_329 (k := 1) rfl
theorem dX11_count_3 : decode cX11_count 3 = .ok (.if_icmp .lt 31, 3) := dget dh_329 (k := 2) rfl
theorem dX11_count_6 : decode cX11_count 6 = .ok (.aload_n 0, 1) := dget dh_329 (k := 3) rfl
theorem dX11_count_7 : decode cX11_count 7 = .ok (.iload_n 1, 1) := dget dh_329 (k := 4) rfl
theorem dX11_count_8 : decode cX11_count 8 = .ok (.bipush 30, 2) := dget dh_329 (k := 5) rfl
theorem dX11_count_10 : decode cX11_count 10 = .ok (.isub, 1) := dget dh_329 (k := 6) rfl
theorem dX11_count_11 : decode cX11_count 11 = .ok (.invokevirtual 196, 3) := dget dh_329 (k := 7) rfl
theorem dX11_count_14 : decode cX11_count 14 = .ok (.ifCond .eq 18, 3) := dget dh_329 (k := 8) rfl
theorem dX11_count_17 : decode cX11_count 17 = .ok (.aload_n 0, 1) := dget dh_329 (k := 9) rfl
theorem dX11_count_18 : decode cX11_count 18 = .ok (.getfield 61, 3) := dget dh_329 (k := 10) rfl
theorem dX11_count_21 : decode cX11_count 21 = .ok (.getfield 212, 3) := dget dh_329 (k := 11) rfl
theorem dX11_count_24 : decode cX11_count 24 = .ok (.iload_n 1, 1) := dget dh_329 (k := 12) rfl
theorem dX11_count_25 : decode cX11_count 25 = .ok (.bipush 30, 2) := dget dh_329 (k := 13) rfl
theorem dX11_count_27 : decode cX11_count 27 = .ok (.isub, 1) := dget dh_329 (k := 14) rfl
theorem dX11_count_28 : decode cX11_count 28 = .ok (.iaload, 1) := dget dh_329 (k := 15) rfl
theorem dX11_count_29 : decode cX11_count 29 = .ok (.goto 4, 3) := dget dh_329 (k := 16) rfl
theorem dX11_count_32 : decode cX11_count 32 = .ok (.iconst (-1), 1) := dget dh_329 (k := 17) rfl
theorem dX11_count_33 : decode cX11_count 33 = .ok (.ireturn, 1) := dget dh_329 (k := 18) rfl
theorem dX11_count_34 : decode cX11_count 34 = .ok (.iload_n 1, 1) := dget dh_329 (k := 19) rfl
def dl_330 : List (Nat × (Instr × Nat)) := [(35, (.bipush 10, 2)), (37, (.if_icmp .lt 42, 3)), (40, (.aload_n 0, 1)), (41, (.iload_n 1, 1)), (42, (.bipush 10, 2)), (44, (.irem, 1)), (45, (.invokevirtual 108, 3)), (48, (.astore_n 2, 1)), (49, (.aload_n 2, 1)), (50, (.ifnonnull 5, 3)), (53, (.iconst (-1), 1)), (54, (.ireturn, 1)), (55, (.iload_n 1, 1)), (56, (.bipush 20, 2)), (58, (.if_icmp .ge 13, 3)), (61, (.aload_n 2, 1)), (62, (.getfield 124, 3)), (65, (.getfield 157, 3)), (68, (.goto 10, 3)), (71, (.aload_n 2, 1))]
theorem dh_330 : dchk cX11_count dl_330 = true := by decide +kernel
theorem dX11_count_35 : decode cX11_count 35 = .ok (.bipush 10, 2) := dget dh_330 (k := 0) rfl
theorem dX11_count_37 : decode cX11_count 37 = .ok (.if_icmp .lt 42, 3) := dget dh_330 (k := 1) rfl
theorem dX11_count_40 : decode cX11_count 40 = .ok (.aload_n 0, 1) := dget dh_330 (k := 2) rfl
theorem dX11_count_41 : decode cX11_count 41 = .ok (.iload_n 1, 1) := dget dh_330 (k := 3) rfl
theorem dX11_count_42 : decode cX11_count 42 = .ok (.bipush 10, 2) := dget dh_330 (k := 4) rfl
theorem dX11_count_44 : decode cX11_count 44 = .ok (.irem, 1) := dget dh_330 (k := 5) rfl
theorem dX11_count_45 : decode cX11_count 45 = .ok (.invokevirtual 108, 3) := dget dh_330 (k := 6) rfl
theorem dX11_count_48 : decode cX11_count 48 = .ok (.astore_n 2, 1) := dget dh_330 (k := 7) rfl
theorem dX11_count_49 : decode cX11_count 49 = .ok (.aload_n 2, 1) := dget dh_330 (k := 8) rfl
theorem dX11_count_50 : decode cX11_count 50 = .ok (.ifnonnull 5, 3) := dget dh_330 (k := 9) rfl
theorem dX11_count_53 : decode cX11_count 53 = .ok (.iconst (-1), 1) := dget dh_330 (k := 10) rfl
theorem dX11_count_54 : decode cX11_count 54 = .ok (.ireturn, 1) := dget dh_330 (k := 11) rfl
theorem dX11_count_55 : decode cX11_count 55 = .ok (.iload_n 1, 1) := dget dh_330 (k := 12) rfl
theorem dX11_count_56 : decode cX11_count 56 = .ok (.bipush 20, 2) := dget dh_330 (k := 13) rfl
theorem dX11_count_58 : decode cX11_count 58 = .ok (.if_icmp .ge 13, 3) := dget dh_330 (k := 14) rfl
theorem dX11_count_61 : decode cX11_count 61 = .ok (.aload_n 2, 1) := dget dh_330 (k := 15) rfl
theorem dX11_count_62 : decode cX11_count 62 = .ok (.getfield 124, 3) := dget dh_330 (k := 16) rfl
theorem dX11_count_65 : decode cX11_count 65 = .ok (.getfield 157, 3) := dget dh_330 (k := 17) rfl
theorem dX11_count_68 : decode cX11_count 68 = .ok (.goto 10, 3) := dget dh_330 (k := 18) rfl
theorem dX11_count_71 : decode cX11_count 71 = .ok (.aload_n 2, 1) := dget dh_330 (k := 19) rfl
def dl_331 : List (Nat × (Instr × Nat)) := [(72, (.getfield 138, 3)), (75, (.getfield 157, 3)), (78, (.ireturn, 1)), (79, (.iload_n 1, 1)), (80, (.tableswitch 97 0 6 #[44, 49, 57, 65, 73, 81, 89], 44)), (124, (.aload_n 0, 1)), (125, (.getfield 22, 3)), (128, (.ireturn, 1)), (129, (.aload_n 0, 1)), (130, (.getfield 61, 3)), (133, (.getfield 320, 3)), (136, (.ireturn, 1)), (137, (.aload_n 0, 1)), (138, (.getfield 50, 3)), (141, (.getfield 154, 3)), (144, (.ireturn, 1)), (145, (.aload_n 0, 1)), (146, (.getfield 36, 3)), (149, (.getfield 141, 3)), (152, (.ireturn, 1))]
theorem dh_331 : dchk cX11_count dl_331 = true := by decide +kernel
theorem dX11_count_72 : decode cX11_count 72 = .ok (.getfield 138, 3) := dget dh_331 (k := 0) rfl
theorem dX11_count_75 : decode cX11_count 75 = .ok (.getfield 157, 3) := dget dh_331 (k := 1) rfl
theorem dX11_count_78 : decode cX11_count 78 = .ok (.ireturn, 1) := dget dh_331 (k := 2) rfl
theorem dX11_count_79 : decode cX11_count 79 = .ok (.iload_n 1, 1) := dget dh_331 (k := 3) rfl
theorem dX11_count_80 : decode cX11_count 80 = .ok (.tableswitch 97 0 6 #[44, 49, 57, 65, 73, 81, 89], 44) := dget dh_331 (k := 4) rfl
theorem dX11_count_124 : decode cX11_count 124 = .ok (.aload_n 0, 1) := dget dh_331 (k := 5) rfl
theorem dX11_count_125 : decode cX11_count 125 = .ok (.getfield 22, 3) := dget dh_331 (k := 6) rfl
theorem dX11_count_128 : decode cX11_count 128 = .ok (.ireturn, 1) := dget dh_331 (k := 7) rfl
theorem dX11_count_129 : decode cX11_count 129 = .ok (.aload_n 0, 1) := dget dh_331 (k := 8) rfl
theorem dX11_count_130 : decode cX11_count 130 = .ok (.getfield 61, 3) := dget dh_331 (k := 9) rfl
theorem dX11_count_133 : decode cX11_count 133 = .ok (.getfield 320, 3) := dget dh_331 (k := 10) rfl
theorem dX11_count_136 : decode cX11_count 136 = .ok (.ireturn, 1) := dget dh_331 (k := 11) rfl
theorem dX11_count_137 : decode cX11_count 137 = .ok (.aload_n 0, 1) := dget dh_331 (k := 12) rfl
theorem dX11_count_138 : decode cX11_count 138 = .ok (.getfield 50, 3) := dget dh_331 (k := 13) rfl
theorem dX11_count_141 : decode cX11_count 141 = .ok (.getfield 154, 3) := dget dh_331 (k := 14) rfl
theorem dX11_count_144 : decode cX11_count 144 = .ok (.ireturn, 1) := dget dh_331 (k := 15) rfl
theorem dX11_count_145 : decode cX11_count 145 = .ok (.aload_n 0, 1) := dget dh_331 (k := 16) rfl
theorem dX11_count_146 : decode cX11_count 146 = .ok (.getfield 36, 3) := dget dh_331 (k := 17) rfl
theorem dX11_count_149 : decode cX11_count 149 = .ok (.getfield 141, 3) := dget dh_331 (k := 18) rfl
theorem dX11_count_152 : decode cX11_count 152 = .ok (.ireturn, 1) := dget dh_331 (k := 19) rfl
def dl_332 : List (Nat × (Instr × Nat)) := [(153, (.aload_n 0, 1)), (154, (.getfield 82, 3)), (157, (.getfield 282, 3)), (160, (.ireturn, 1)), (161, (.aload_n 0, 1)), (162, (.getfield 89, 3)), (165, (.getfield 342, 3)), (168, (.ireturn, 1)), (169, (.aload_n 0, 1)), (170, (.getfield 61, 3)), (173, (.getfield 274, 3)), (176, (.ireturn, 1)), (177, (.iconst (-1), 1)), (178, (.ireturn, 1))]
theorem dh_332 : dchk cX11_count dl_332 = true := by decide +kernel
theorem dX11_count_153 : decode cX11_count 153 = .ok (.aload_n 0, 1) := dget dh_332 (k := 0) rfl
theorem dX11_count_154 : decode cX11_count 154 = .ok (.getfield 82, 3) := dget dh_332 (k := 1) rfl
theorem dX11_count_157 : decode cX11_count 157 = .ok (.getfield 282, 3) := dget dh_332 (k := 2) rfl
theorem dX11_count_160 : decode cX11_count 160 = .ok (.ireturn, 1) := dget dh_332 (k := 3) rfl
theorem dX11_count_161 : decode cX11_count 161 = .ok (.aload_n 0, 1) := dget dh_332 (k := 4) rfl
theorem dX11_count_162 : decode cX11_count 162 = .ok (.getfield 89, 3) := dget dh_332 (k := 5) rfl
theorem dX11_count_165 : decode cX11_count 165 = .ok (.getfield 342, 3) := dget dh_332 (k := 6) rfl
theorem dX11_count_168 : decode cX11_count 168 = .ok (.ireturn, 1) := dget dh_332 (k := 7) rfl
theorem dX11_count_169 : decode cX11_count 169 = .ok (.aload_n 0, 1) := dget dh_332 (k := 8) rfl
theorem dX11_count_170 : decode cX11_count 170 = .ok (.getfield 61, 3) := dget dh_332 (k := 9) rfl
theorem dX11_count_173 : decode cX11_count 173 = .ok (.getfield 274, 3) := dget dh_332 (k := 10) rfl
theorem dX11_count_176 : decode cX11_count 176 = .ok (.ireturn, 1) := dget dh_332 (k := 11) rfl
theorem dX11_count_177 : decode cX11_count 177 = .ok (.iconst (-1), 1) := dget dh_332 (k := 12) rfl
theorem dX11_count_178 : decode cX11_count 178 = .ok (.ireturn, 1) := dget dh_332 (k := 13) rfl
def dl_333 : List (Nat × (Instr × Nat)) := [(0, (.aload_n 0, 1)), (1, (.getfield 54, 3)), (4, (.iconst 0, 1)), (5, (.aload_n 1, 1)), (6, (.getfield 124, 3)), (9, (.getfield 323, 3)), (12, (.iload_n 2, 1)), (13, (.iaload, 1)), (14, (.iastore, 1)), (15, (.aload_n 0, 1)), (16, (.getfield 54, 3)), (19, (.iconst 1, 1)), (20, (.aload_n 1, 1)), (21, (.getfield 124, 3)), (24, (.getfield 367, 3)), (27, (.iload_n 2, 1)), (28, (.iaload, 1)), (29, (.iastore, 1)), (30, (.aload_n 0, 1)), (31, (.getfield 54, 3))]
theorem dh_333 : dchk cX11_describe dl_333 = true := by decide +kernel
theorem dX11_describe_0 : decode cX11_describe 0 = .ok (.aload_n 0, 1) := dget dh_333 (k := 0) rfl
theorem dX11_describe_1 : decode cX11_describe 1 = .ok (.getfield 54, 3) := dget dh_333 (k := 1) rfl
theorem dX11_describe_4 : decode cX11_describe 4 = .ok (.iconst 0, 1) := dget dh_333 (k := 2) rfl
theorem dX11_describe_5 : decode cX11_describe 5 = .ok (.aload_n 1, 1) := dget dh_333 (k := 3) rfl
theorem dX11_describe_6 : decode cX11_describe 6 = .ok (.getfield 124, 3) := dget dh_333 (k := 4) rfl
theorem dX11_describe_9 : decode cX11_describe 9 = .ok (.getfield 323, 3) := dget dh_333 (k := 5) rfl
theorem dX11_describe_12 : decode cX11_describe 12 = .ok (.iload_n 2, 1) := dget dh_333 (k := 6) rfl
theorem dX11_describe_13 : decode cX11_describe 13 = .ok (.iaload, 1) := dget dh_333 (k := 7) rfl
theorem dX11_describe_14 : decode cX11_describe 14 = .ok (.iastore, 1) := dget dh_333 (k := 8) rfl
theorem dX11_describe_15 : decode cX11_describe 15 = .ok (.aload_n 0, 1) := dget dh_333 (k := 9) rfl
theorem dX11_describe_16 : decode cX11_describe 16 = .ok (.getfield 54, 3) := dget dh_333 (k := 10) rfl
theorem dX11_describe_19 : decode cX11_describe 19 = .ok (.iconst 1, 1) := dget dh_333 (k := 11) rfl
theorem dX11_describe_20 : decode cX11_describe 20 = .ok (.aload_n 1, 1) := dget dh_333 (k := 12) rfl
theorem dX11_describe_21 : decode cX11_describe 21 = .ok (.getfield 124, 3) := dget dh_333 (k := 13) rfl
theorem dX11_describe_24 : decode cX11_describe 24 = .ok (.getfield 367, 3) := dget dh_333 (k := 14) rfl
theorem dX11_describe_27 : decode cX11_describe 27 = .ok (.iload_n 2, 1) := dget dh_333 (k := 15) rfl
theorem dX11_describe_28 : decode cX11_describe 28 = .ok (.iaload, 1) := dget dh_333 (k := 16) rfl
theorem dX11_describe_29 : decode cX11_describe 29 = .ok (.iastore, 1) := dget dh_333 (k := 17) rfl
theorem dX11_describe_30 : decode cX11_describe 30 = .ok (.aload_n 0, 1) := dget dh_333 (k := 18) rfl
theorem dX11_describe_31 : decode cX11_describe 31 = .ok (.getfield 54, 3) := dget dh_333 (k := 19) rfl
def dl_334 : List (Nat × (Instr × Nat)) := [(34, (.iconst 2, 1)), (35, (.aload_n 1, 1)), (36, (.getfield 124, 3)), (39, (.getfield 361, 3)), (42, (.iload_n 2, 1)), (43, (.iaload, 1)), (44, (.iastore, 1)), (45, (.aload_n 0, 1)), (46, (.getfield 54, 3)), (49, (.iconst 3, 1)), (50, (.aload_n 1, 1)), (51, (.iload_n 2, 1)), (52, (.invokevirtual 364, 3)), (55, (.iastore, 1)), (56, (.aload_n 0, 1)), (57, (.getfield 54, 3)), (60, (.iconst 4, 1)), (61, (.aload_n 1, 1)), (62, (.getfield 124, 3)), (65, (.getfield 352, 3))]
theorem dh_334 : dchk cX11_describe dl_334 = true := by decide +kernel
theorem dX11_describe_34 : decode cX11_describe 34 = .ok (.iconst 2, 1) := dget dh_334 (k := 0) rfl
theorem dX11_describe_35 : decode cX11_describe 35 = .ok (.aload_n 1, 1) := dget dh_334 (k := 1) rfl
theorem dX11_describe_36 : decode cX11_describe 36 = .ok (.getfield 124, 3) := dget dh_334 (k := 2) rfl
theorem dX11_describe_39 : decode cX11_describe 39 = .ok (.getfield 361, 3) := dget dh_334 (k := 3) rfl
theorem dX11_describe_42 : decode cX11_describe 42 = .ok (.iload_n 2, 1) := dget dh_334 (k := 4) rfl
theorem dX11_describe_43 : decode cX11_describe 43 = .ok (.iaload, 1) := dget dh_334 (k := 5) rfl
theorem dX11_describe_44 : decode cX11_describe 44 = .ok (.iastore, 1) := dget dh_334 (k := 6) rfl
theorem dX11_describe_45 : decode cX11_describe 45 = .ok (.aload_n 0, 1) := dget dh_334 (k := 7) rfl
theorem dX11_describe_46 : decode cX11_describe 46 = .ok (.getfield 54, 3) := dget dh_334 (k := 8) rfl
theorem dX11_describe_49 : decode cX11_describe 49 = .ok (.iconst 3, 1) := dget dh_334 (k := 9) rfl
theorem dX11_describe_50 : decode cX11_describe 50 = .ok (.aload_n 1, 1) := dget dh_334 (k := 10) rfl
theorem dX11_describe_51 : decode cX11_describe 51 = .ok (.iload_n 2, 1) := dget dh_334 (k := 11) rfl
theorem dX11_describe_52 : decode cX11_describe 52 = .ok (.invokevirtual 364, 3) := dget dh_334 (k := 12) rfl
theorem dX11_describe_55 : decode cX11_describe 55 = .ok (.iastore, 1) := dget dh_334 (k := 13) rfl
theorem dX11_describe_56 : decode cX11_describe 56 = .ok (.aload_n 0, 1) := dget dh_334 (k := 14) rfl
theorem dX11_describe_57 : decode cX11_describe 57 = .ok (.getfield 54, 3) := dget dh_334 (k := 15) rfl
theorem dX11_describe_60 : decode cX11_describe 60 = .ok (.iconst 4, 1) := dget dh_334 (k := 16) rfl
theorem dX11_describe_61 : decode cX11_describe 61 = .ok (.aload_n 1, 1) := dget dh_334 (k := 17) rfl
theorem dX11_describe_62 : decode cX11_describe 62 = .ok (.getfield 124, 3) := dget dh_334 (k := 18) rfl
theorem dX11_describe_65 : decode cX11_describe 65 = .ok (.getfield 352, 3) := dget dh_334 (k := 19) rfl
def dl_335 : List (Nat × (Instr × Nat)) := [(68, (.iload_n 2, 1)), (69, (.iaload, 1)), (70, (.aload_n 1, 1)), (71, (.invokevirtual 171, 3)), (74, (.iadd, 1)), (75, (.iastore, 1)), (76, (.aload_n 0, 1)), (77, (.aload_n 1, 1)), (78, (.invokevirtual 370, 3)), (81, (.aload_n 0, 1)), (82, (.getfield 54, 3)), (85, (.bipush 8, 2)), (87, (.iload_n 3, 1)), (88, (.iastore, 1)), (89, (.aload_n 0, 1)), (90, (.getfield 54, 3)), (93, (.bipush 9, 2)), (95, (.iload 4, 2)), (97, (.iastore, 1)), (98, (.return_, 1))]
theorem dh_335 : dchk cX11_describe dl_335 = true := by decide +kernel
theorem dX11_describe_68 : decode cX11_describe 68 = .ok (.iload_n 2, 1) := dget dh_335 (k := 0) rfl
theorem dX11_describe_69 : decode cX11_describe 69 = .ok (.iaload, 1) := dget dh_335 (k := 1) rfl
theorem dX11_describe_70 : decode cX11_describe 70 = .ok (.aload_n 1, 1) := dget dh_335 (k := 2) rfl
theorem dX11_describe_71 : decode cX11_describe 71 = .ok (.invokevirtual 171, 3) := dget dh_335 (k := 3) rfl
theorem dX11_describe_74 : decode cX11_describe 74 = .ok (.iadd, 1) := dget dh_335 (k := 4) rfl
theorem dX11_describe_75 : decode cX11_describe 75 = .ok (.iastore, 1) := dget dh_335 (k := 5) rfl
theorem dX11_describe_76 : decode cX11_describe 76 = .ok (.aload_n 0, 1) := dget dh_335 (k := 6) rfl
theorem dX11_describe_77 : decode cX11_describe 77 = .ok (.aload_n 1, 1) := dget dh_335 (k := 7) rfl
theorem dX11_describe_78 : decode cX11_describe 78 = .ok (.invokevirtual 370, 3) := dget dh_335 (k := 8) rfl
theorem dX11_describe_81 : decode cX11_describe 81 = .ok (.aload_n 0, 1) := dget dh_335 (k := 9) rfl
theorem dX11_describe_82 : decode cX11_describe 82 = .ok (.getfield 54, 3) := dget dh_335 (k := 10) rfl
theorem dX11_describe_85 : decode cX11_describe 85 = .ok (.bipush 8, 2) := dget dh_335 (k := 11) rfl
theorem dX11_describe_87 : decode cX11_describe 87 = .ok (.iload_n 3, 1) := dget dh_335 (k := 12) rfl
theorem dX11_describe_88 : decode cX11_describe 88 = .ok (.iastore, 1) := dget dh_335 (k := 13) rfl
theorem dX11_describe_89 : decode cX11_describe 89 = .ok (.aload_n 0, 1) := dget dh_335 (k := 14) rfl
theorem dX11_describe_90 : decode cX11_describe 90 = .ok (.getfield 54, 3) := dget dh_335 (k := 15) rfl
theorem dX11_describe_93 : decode cX11_describe 93 = .ok (.bipush 9, 2) := dget dh_335 (k := 16) rfl
theorem dX11_describe_95 : decode cX11_describe 95 = .ok (.iload 4, 2) := dget dh_335 (k := 17) rfl
theorem dX11_describe_97 : decode cX11_describe 97 = .ok (.iastore, 1) := dget dh_335 (k := 18) rfl
theorem dX11_describe_98 : decode cX11_describe 98 = .ok (.return_, 1) := dget dh_335 (k := 19) rfl
def dl_336 : List (Nat × (Instr × Nat)) := [(0, (.aload_n 0, 1)), (1, (.getfield 54, 3)), (4, (.iconst 5, 1)), (5, (.aload_n 1, 1)), (6, (.invokevirtual 171, 3)), (9, (.iastore, 1)), (10, (.aload_n 0, 1)), (11, (.getfield 54, 3)), (14, (.bipush 6, 2)), (16, (.aload_n 1, 1)), (17, (.getfield 112, 3)), (20, (.iastore, 1)), (21, (.aload_n 0, 1)), (22, (.getfield 54, 3)), (25, (.bipush 7, 2)), (27, (.aload_n 1, 1)), (28, (.getfield 349, 3)), (31, (.iastore, 1)), (32, (.return_, 1))]
theorem dh_336 : dchk cX11_describeHome dl_336 = true := by decide +kernel
theorem dX11_describeHome_0 : decode cX11_describeHome 0 = .ok (.aload_n 0, 1) := dget dh_336 (k := 0) rfl
theorem dX11_describeHome_1 : decode cX11_describeHome 1 = .ok (.getfield 54, 3) := dget dh_336 (k := 1) rfl
theorem dX11_describeHome_4 : decode cX11_describeHome 4 = .ok (.iconst 5, 1) := dget dh_336 (k := 2) rfl
theorem dX11_describeHome_5 : decode cX11_describeHome 5 = .ok (.aload_n 1, 1) := dget dh_336 (k := 3) rfl
theorem dX11_describeHome_6 : decode cX11_describeHome 6 = .ok (.invokevirtual 171, 3) := dget dh_336 (k := 4) rfl
theorem dX11_describeHome_9 : decode cX11_describeHome 9 = .ok (.iastore, 1) := dget dh_336 (k := 5) rfl
theorem dX11_describeHome_10 : decode cX11_describeHome 10 = .ok (.aload_n 0, 1) := dget dh_336 (k := 6) rfl
theorem dX11_describeHome_11 : decode cX11_describeHome 11 = .ok (.getfield 54, 3) := dget dh_336 (k := 7) rfl
theorem dX11_describeHome_14 : decode cX11_describeHome 14 = .ok (.bipush 6, 2) := dget dh_336 (k := 8) rfl
theorem dX11_describeHome_16 : decode cX11_describeHome 16 = .ok (.aload_n 1, 1) := dget dh_336 (k := 9) rfl
theorem dX11_describeHome_17 : decode cX11_describeHome 17 = .ok (.getfield 112, 3) := dget dh_336 (k := 10) rfl
theorem dX11_describeHome_20 : decode cX11_describeHome 20 = .ok (.iastore, 1) := dget dh_336 (k := 11) rfl
theorem dX11_describeHome_21 : decode cX11_describeHome 21 = .ok (.aload_n 0, 1) := dget dh_336 (k := 12) rfl
theorem dX11_describeHome_22 : decode cX11_describeHome 22 = .ok (.getfield 54, 3) := dget dh_336 (k := 13) rfl
theorem dX11_describeHome_25 : decode cX11_describeHome 25 = .ok (.bipush 7, 2) := dget dh_336 (k := 14) rfl
theorem dX11_describeHome_27 : decode cX11_describeHome 27 = .ok (.aload_n 1, 1) := dget dh_336 (k := 15) rfl
theorem dX11_describeHome_28 : decode cX11_describeHome 28 = .ok (.getfield 349, 3) := dget dh_336 (k := 16) rfl
theorem dX11_describeHome_31 : decode cX11_describeHome 31 = .ok (.iastore, 1) := dget dh_336 (k := 17) rfl
theorem dX11_describeHome_32 : decode cX11_describeHome 32 = .ok (.return_, 1) := dget dh_336 (k := 18) rfl
def dl_337 : List (Nat × (Instr × Nat)) := [(0, (.aload_n 0, 1)), (1, (.iload_n 1, 1)), (2, (.invokevirtual 108, 3)), (5, (.astore_n 2, 1)), (6, (.aload_n 2, 1)), (7, (.ifnonnull 5, 3)), (10, (.iconst (-1), 1)), (11, (.ireturn, 1)), (12, (.aload_n 2, 1)), (13, (.invokevirtual 277, 3)), (16, (.ifCond .eq 6, 3)), (19, (.bipush (-2), 2)), (21, (.ireturn, 1)), (22, (.aload_n 0, 1)), (23, (.getfield 61, 3)), (26, (.getfield 274, 3)), (29, (.istore_n 3, 1)), (30, (.iconst 0, 1)), (31, (.istore 4, 2)), (33, (.iload 4, 2))]
theorem dh_337 : dchk cX11_draw dl_337 = true := by decide +kernel
theorem dX11_draw_0 : decode cX11_draw 0 = .ok (.aload_n 0, 1) := dget dh_337 (k := 0) rfl
theorem dX11_draw_1 : decode cX11_draw 1 = .ok (.iload_n 1, 1) := dget dh_337 (k := 1) rfl
theorem dX11_draw_2 : decode cX11_draw 2 = .ok (.invokevirtual 108, 3) := dget dh_337 (k := 2) rfl
theorem dX11_draw_5 : decode cX11_draw 5 = .ok (.astore_n 2, 1) := dget dh_337 (k := 3) rfl
theorem dX11_draw_6 : decode cX11_draw 6 = .ok (.aload_n 2, 1) := dget dh_337 (k := 4) rfl
theorem dX11_draw_7 : decode cX11_draw 7 = .ok (.ifnonnull 5, 3) := dget dh_337 (k := 5) rfl
theorem dX11_draw_10 : decode cX11_draw 10 = .ok (.iconst (-1), 1) := dget dh_337 (k := 6) rfl
theorem dX11_draw_11 : decode cX11_draw 11 = .ok (.ireturn, 1) := dget dh_337 (k := 7) rfl
theorem dX11_draw_12 : decode cX11_draw 12 = .ok (.aload_n 2, 1) := dget dh_337 (k := 8) rfl
theorem dX11_draw_13 : decode cX11_draw 13 = .ok (.invokevirtual 277, 3) := dget dh_337 (k := 9) rfl
theorem dX11_draw_16 : decode cX11_draw 16 = .ok (.ifCond .eq 6, 3) := dget dh_337 (k := 10) rfl
theorem dX11_draw_19 : decode cX11_draw 19 = .ok (.bipush (-2), 2) := dget dh_337 (k := 11) rfl
theorem dX11_draw_21 : decode cX11_draw 21 = .ok (.ireturn, 1) := dget dh_337 (k := 12) rfl
theorem dX11_draw_22 : decode cX11_draw 22 = .ok (.aload_n 0, 1) := dget dh_337 (k := 13) rfl
theorem dX11_draw_23 : decode cX11_draw 23 = .ok (.getfield 61, 3) := dget dh_337 (k := 14) rfl
theorem dX11_draw_26 : decode cX11_draw 26 = .ok (.getfield 274, 3) := dget dh_337 (k := 15) rfl
theorem dX11_draw_29 : decode cX11_draw 29 = .ok (.istore_n 3, 1) := dget dh_337 (k := 16) rfl
theorem dX11_draw_30 : decode cX11_draw 30 = .ok (.iconst 0, 1) := dget dh_337 (k := 17) rfl
theorem dX11_draw_31 : decode cX11_draw 31 = .ok (.istore 4, 2) := dget dh_337 (k := 18) rfl
theorem dX11_draw_33 : decode cX11_draw 33 = .ok (.iload 4, 2) := dget dh_337 (k := 19) rfl
def dl_338 : List (Nat × (Instr × Nat)) := [(35, (.ldc_w 281, 3)), (38, (.if_icmp .ge 48, 3)), (41, (.sipush 25173, 3)), (44, (.iload_n 3, 1)), (45, (.imul, 1)), (46, (.sipush 13849, 3)), (49, (.iadd, 1)), (50, (.ldc_w 273, 3)), (53, (.iand, 1)), (54, (.istore_n 3, 1)), (55, (.aload_n 2, 1)), (56, (.getfield 270, 3)), (59, (.iload_n 3, 1)), (60, (.bipush 6, 2)), (62, (.irem, 1)), (63, (.baload, 1)), (64, (.ifCond .ne 16, 3)), (67, (.aload_n 0, 1)), (68, (.getfield 61, 3)), (71, (.iload_n 3, 1))]
theorem dh_338 : dchk cX11_draw dl_338 = true := by decide +kernel
theorem dX11_draw_35 : decode cX11_draw 35 = .ok (.ldc_w 281, 3) := dget dh_338 (k := 0) rfl
theorem dX11_draw_38 : decode cX11_draw 38 = .ok (.if_icmp .ge 48, 3) := dget dh_338 (k := 1) rfl
theorem dX11_draw_41 : decode cX11_draw 41 = .ok (.sipush 25173, 3) := dget dh_338 (k := 2) rfl
theorem dX11_draw_44 : decode cX11_draw 44 = .ok (.iload_n 3, 1) := dget dh_338 (k := 3) rfl
theorem dX11_draw_45 : decode cX11_draw 45 = .ok (.imul, 1) := dget dh_338 (k := 4) rfl
theorem dX11_draw_46 : decode cX11_draw 46 = .ok (.sipush 13849, 3) := dget dh_338 (k := 5) rfl
theorem dX11_draw_49 : decode cX11_draw 49 = .ok (.iadd, 1) := dget dh_338 (k := 6) rfl
theorem dX11_draw_50 : decode cX11_draw 50 = .ok (.ldc_w 273, 3) := dget dh_338 (k := 7) rfl
theorem dX11_draw_53 : decode cX11_draw 53 = .ok (.iand, 1) := dget dh_338 (k := 8) rfl
theorem dX11_draw_54 : decode cX11_draw 54 = .ok (.istore_n 3, 1) := dget dh_338 (k := 9) rfl
theorem dX11_draw_55 : decode cX11_draw 55 = .ok (.aload_n 2, 1) := dget dh_338 (k := 10) rfl
theorem dX11_draw_56 : decode cX11_draw 56 = .ok (.getfield 270, 3) := dget dh_338 (k := 11) rfl
theorem dX11_draw_59 : decode cX11_draw 59 = .ok (.iload_n 3, 1) := dget dh_338 (k := 12) rfl
theorem dX11_draw_60 : decode cX11_draw 60 = .ok (.bipush 6, 2) := dget dh_338 (k := 13) rfl
theorem dX11_draw_62 : decode cX11_draw 62 = .ok (.irem, 1) := dget dh_338 (k := 14) rfl
theorem dX11_draw_63 : decode cX11_draw 63 = .ok (.baload, 1) := dget dh_338 (k := 15) rfl
theorem dX11_draw_64 : decode cX11_draw 64 = .ok (.ifCond .ne 16, 3) := dget dh_338 (k := 16) rfl
theorem dX11_draw_67 : decode cX11_draw 67 = .ok (.aload_n 0, 1) := dget dh_338 (k := 17) rfl
theorem dX11_draw_68 : decode cX11_draw 68 = .ok (.getfield 61, 3) := dget dh_338 (k := 18) rfl
theorem dX11_draw_71 : decode cX11_draw 71 = .ok (.iload_n 3, 1) := dget dh_338 (k := 19) rfl
def dl_339 : List (Nat × (Instr × Nat)) := [(72, (.putfield 274, 3)), (75, (.iload_n 3, 1)), (76, (.bipush 6, 2)), (78, (.irem, 1)), (79, (.ireturn, 1)), (80, (.iinc 4 1, 3)), (83, (.goto (-50), 3)), (86, (.bipush (-2), 2)), (88, (.ireturn, 1))]
theorem dh_339 : dchk cX11_draw dl_339 = true := by decide +kernel
theorem dX11_draw_72 : decode cX11_draw 72 = .ok (.putfield 274, 3) := dget dh_339 (k := 0) rfl
theorem dX11_draw_75 : decode cX11_draw 75 = .ok (.iload_n 3, 1) := dget dh_339 (k := 1) rfl
theorem dX11_draw_76 : decode cX11_draw 76 = .ok (.bipush 6, 2) := dget dh_339 (k := 2) rfl
theorem dX11_draw_78 : decode cX11_draw 78 = .ok (.irem, 1) := dget dh_339 (k := 3) rfl
theorem dX11_draw_79 : decode cX11_draw 79 = .ok (.ireturn, 1) := dget dh_339 (k := 4) rfl
theorem dX11_draw_80 : decode cX11_draw 80 = .ok (.iinc 4 1, 3) := dget dh_339 (k := 5) rfl
theorem dX11_draw_83 : decode cX11_draw 83 = .ok (.goto (-50), 3) := dget dh_339 (k := 6) rfl
theorem dX11_draw_86 : decode cX11_draw 86 = .ok (.bipush (-2), 2) := dget dh_339 (k := 7) rfl
theorem dX11_draw_88 : decode cX11_draw 88 = .ok (.ireturn, 1) := dget dh_339 (k := 8) rfl
def dl_340 : List (Nat × (Instr × Nat)) := [(0, (.aload_n 0, 1)), (1, (.aload_n 1, 1)), (2, (.iload_n 2, 1)), (3, (.iconst 0, 1)), (4, (.iconst 0, 1)), (5, (.invokevirtual 223, 3)), (8, (.aload_n 0, 1)), (9, (.getfield 50, 3)), (12, (.bipush 102, 2)), (14, (.aload_n 0, 1)), (15, (.getfield 54, 3)), (18, (.iconst 0, 1)), (19, (.bipush 9, 2)), (21, (.invokevirtual 357, 3)), (24, (.ireturn, 1))]
theorem dh_340 : dchk cX11_fairWear dl_340 = true := by decide +kernel
theorem dX11_fairWear_0 : decode cX11_fairWear 0 = .ok (.aload_n 0, 1) := dget dh_340 (k := 0) rfl
theorem dX11_fairWear_1 : decode cX11_fairWear 1 = .ok (.aload_n 1, 1) := dget dh_340 (k := 1) rfl
theorem dX11_fairWear_2 : decode cX11_fairWear 2 = .ok (.iload_n 2, 1) := dget dh_340 (k := 2) rfl
theorem dX11_fairWear_3 : decode cX11_fairWear 3 = .ok (.iconst 0, 1) := dget dh_340 (k := 3) rfl
theorem dX11_fairWear_4 : decode cX11_fairWear 4 = .ok (.iconst 0, 1) := dget dh_340 (k := 4) rfl
theorem dX11_fairWear_5 : decode cX11_fairWear 5 = .ok (.invokevirtual 223, 3) := dget dh_340 (k := 5) rfl
theorem dX11_fairWear_8 : decode cX11_fairWear 8 = .ok (.aload_n 0, 1) := dget dh_340 (k := 6) rfl
theorem dX11_fairWear_9 : decode cX11_fairWear 9 = .ok (.getfield 50, 3) := dget dh_340 (k := 7) rfl
theorem dX11_fairWear_12 : decode cX11_fairWear 12 = .ok (.bipush 102, 2) := dget dh_340 (k := 8) rfl
theorem dX11_fairWear_14 : decode cX11_fairWear 14 = .ok (.aload_n 0, 1) := dget dh_340 (k := 9) rfl
theorem dX11_fairWear_15 : decode cX11_fairWear 15 = .ok (.getfield 54, 3) := dget dh_340 (k := 10) rfl
theorem dX11_fairWear_18 : decode cX11_fairWear 18 = .ok (.iconst 0, 1) := dget dh_340 (k := 11) rfl
theorem dX11_fairWear_19 : decode cX11_fairWear 19 = .ok (.bipush 9, 2) := dget dh_340 (k := 12) rfl
theorem dX11_fairWear_21 : decode cX11_fairWear 21 = .ok (.invokevirtual 357, 3) := dget dh_340 (k := 13) rfl
theorem dX11_fairWear_24 : decode cX11_fairWear 24 = .ok (.ireturn, 1) := dget dh_340 (k := 14) rfl
def dl_341 : List (Nat × (Instr × Nat)) := [(0, (.aload_n 0, 1)), (1, (.iload_n 1, 1)), (2, (.invokevirtual 108, 3)), (5, (.astore 6, 2)), (7, (.aload 6, 2)), (9, (.ifnull 25, 3)), (12, (.iload_n 2, 1)), (13, (.iload_n 3, 1)), (14, (.iload 4, 2)), (16, (.invokestatic 121, 3)), (19, (.ifCond .eq 15, 3)), (22, (.iload 5, 2)), (24, (.iconst 0, 1)), (25, (.sipush 360, 3)), (28, (.invokestatic 93, 3)), (31, (.ifCond .ne 5, 3)), (34, (.iconst (-1), 1)), (35, (.ireturn, 1)), (36, (.aload_n 0, 1)), (37, (.aload 6, 2))]
theorem dh_341 : dchk cX11_first dl_341 = true := by decide +kernel
theorem dX11_first_0 : decode cX11_first 0 = .ok (.aload_n 0, 1) := dget dh_341 (k := 0) rfl
theorem dX11_first_1 : decode cX11_first 1 = .ok (.iload_n 1, 1) := dget dh_341 (k := 1) rfl
theorem dX11_first_2 : decode cX11_first 2 = .ok (.invokevirtual 108, 3) := dget dh_341 (k := 2) rfl
theorem dX11_first_5 : decode cX11_first 5 = .ok (.astore 6, 2) := dget dh_341 (k := 3) rfl
theorem dX11_first_7 : decode cX11_first 7 = .ok (.aload 6, 2) := dget dh_341 (k := 4) rfl
theorem dX11_first_9 : decode cX11_first 9 = .ok (.ifnull 25, 3) := dget dh_341 (k := 5) rfl
theorem dX11_first_12 : decode cX11_first 12 = .ok (.iload_n 2, 1) := dget dh_341 (k := 6) rfl
theorem dX11_first_13 : decode cX11_first 13 = .ok (.iload_n 3, 1) := dget dh_341 (k := 7) rfl
theorem dX11_first_14 : decode cX11_first 14 = .ok (.iload 4, 2) := dget dh_341 (k := 8) rfl
theorem dX11_first_16 : decode cX11_first 16 = .ok (.invokestatic 121, 3) := dget dh_341 (k := 9) rfl
theorem dX11_first_19 : decode cX11_first 19 = .ok (.ifCond .eq 15, 3) := dget dh_341 (k := 10) rfl
theorem dX11_first_22 : decode cX11_first 22 = .ok (.iload 5, 2) := dget dh_341 (k := 11) rfl
theorem dX11_first_24 : decode cX11_first 24 = .ok (.iconst 0, 1) := dget dh_341 (k := 12) rfl
theorem dX11_first_25 : decode cX11_first 25 = .ok (.sipush 360, 3) := dget dh_341 (k := 13) rfl
theorem dX11_first_28 : decode cX11_first 28 = .ok (.invokestatic 93, 3) := dget dh_341 (k := 14) rfl
theorem dX11_first_31 : decode cX11_first 31 = .ok (.ifCond .ne 5, 3) := dget dh_341 (k := 15) rfl
theorem dX11_first_34 : decode cX11_first 34 = .ok (.iconst (-1), 1) := dget dh_341 (k := 16) rfl
theorem dX11_first_35 : decode cX11_first 35 = .ok (.ireturn, 1) := dget dh_341 (k := 17) rfl
theorem dX11_first_36 : decode cX11_first 36 = .ok (.aload_n 0, 1) := dget dh_341 (k := 18) rfl
theorem dX11_first_37 : decode cX11_first 37 = .ok (.aload 6, 2) := dget dh_341 (k := 19) rfl
def dl_342 : List (Nat × (Instr × Nat)) := [(39, (.aload 6, 2)), (41, (.getfield 124, 3)), (44, (.iload_n 2, 1)), (45, (.iload_n 3, 1)), (46, (.iload 4, 2)), (48, (.iload 5, 2)), (50, (.invokevirtual 128, 3)), (53, (.iload_n 2, 1)), (54, (.iload_n 3, 1)), (55, (.invokevirtual 134, 3)), (58, (.ireturn, 1))]
theorem dh_342 : dchk cX11_first dl_342 = true := by decide +kernel
theorem dX11_first_39 : decode cX11_first 39 = .ok (.aload 6, 2) := dget dh_342 (k := 0) rfl
theorem dX11_first_41 : decode cX11_first 41 = .ok (.getfield 124, 3) := dget dh_342 (k := 1) rfl
theorem dX11_first_44 : decode cX11_first 44 = .ok (.iload_n 2, 1) := dget dh_342 (k := 2) rfl
theorem dX11_first_45 : decode cX11_first 45 = .ok (.iload_n 3, 1) := dget dh_342 (k := 3) rfl
theorem dX11_first_46 : decode cX11_first 46 = .ok (.iload 4, 2) := dget dh_342 (k := 4) rfl
theorem dX11_first_48 : decode cX11_first 48 = .ok (.iload 5, 2) := dget dh_342 (k := 5) rfl
theorem dX11_first_50 : decode cX11_first 50 = .ok (.invokevirtual 128, 3) := dget dh_342 (k := 6) rfl
theorem dX11_first_53 : decode cX11_first 53 = .ok (.iload_n 2, 1) := dget dh_342 (k := 7) rfl
theorem dX11_first_54 : decode cX11_first 54 = .ok (.iload_n 3, 1) := dget dh_342 (k := 8) rfl
theorem dX11_first_55 : decode cX11_first 55 = .ok (.invokevirtual 134, 3) := dget dh_342 (k := 9) rfl
theorem dX11_first_58 : decode cX11_first 58 = .ok (.ireturn, 1) := dget dh_342 (k := 10) rfl
def dl_343 : List (Nat × (Instr × Nat)) := [(0, (.aload_n 0, 1)), (1, (.iload_n 1, 1)), (2, (.invokevirtual 108, 3)), (5, (.astore_n 3, 1)), (6, (.aload_n 3, 1)), (7, (.ifnull 20, 3)), (10, (.iload_n 2, 1)), (11, (.iconst 0, 1)), (12, (.aload_n 3, 1)), (13, (.getfield 138, 3)), (16, (.getfield 157, 3)), (19, (.iconst 1, 1)), (20, (.isub, 1)), (21, (.invokestatic 93, 3)), (24, (.ifCond .ne 5, 3)), (27, (.iconst (-1), 1)), (28, (.ireturn, 1)), (29, (.aload_n 3, 1)), (30, (.iload_n 2, 1)), (31, (.invokevirtual 182, 3))]
theorem dh_343 : dchk cX11_isNew dl_343 = true := by decide +kernel
theorem dX11_isNew_0 : decode cX11_isNew 0 = .ok (.aload_n 0, 1) := dget dh_343 (k := 0) rfl
theorem dX11_isNew_1 : decode cX11_isNew 1 = .ok (.iload_n 1, 1) := dget dh_343 (k := 1) rfl
theorem dX11_isNew_2 : decode cX11_isNew 2 = .ok (.invokevirtual 108, 3) := dget dh_343 (k := 2) rfl
theorem dX11_isNew_5 : decode cX11_isNew 5 = .ok (.astore_n 3, 1) := dget dh_343 (k := 3) rfl
theorem dX11_isNew_6 : decode cX11_isNew 6 = .ok (.aload_n 3, 1) := dget dh_343 (k := 4) rfl
theorem dX11_isNew_7 : decode cX11_isNew 7 = .ok (.ifnull 20, 3) := dget dh_343 (k := 5) rfl
theorem dX11_isNew_10 : decode cX11_isNew 10 = .ok (.iload_n 2, 1) := dget dh_343 (k := 6) rfl
theorem dX11_isNew_11 : decode cX11_isNew 11 = .ok (.iconst 0, 1) := dget dh_343 (k := 7) rfl
theorem dX11_isNew_12 : decode cX11_isNew 12 = .ok (.aload_n 3, 1) := dget dh_343 (k := 8) rfl
theorem dX11_isNew_13 : decode cX11_isNew 13 = .ok (.getfield 138, 3) := dget dh_343 (k := 9) rfl
theorem dX11_isNew_16 : decode cX11_isNew 16 = .ok (.getfield 157, 3) := dget dh_343 (k := 10) rfl
theorem dX11_isNew_19 : decode cX11_isNew 19 = .ok (.iconst 1, 1) := dget dh_343 (k := 11) rfl
theorem dX11_isNew_20 : decode cX11_isNew 20 = .ok (.isub, 1) := dget dh_343 (k := 12) rfl
theorem dX11_isNew_21 : decode cX11_isNew 21 = .ok (.invokestatic 93, 3) := dget dh_343 (k := 13) rfl
theorem dX11_isNew_24 : decode cX11_isNew 24 = .ok (.ifCond .ne 5, 3) := dget dh_343 (k := 14) rfl
theorem dX11_isNew_27 : decode cX11_isNew 27 = .ok (.iconst (-1), 1) := dget dh_343 (k := 15) rfl
theorem dX11_isNew_28 : decode cX11_isNew 28 = .ok (.ireturn, 1) := dget dh_343 (k := 16) rfl
theorem dX11_isNew_29 : decode cX11_isNew 29 = .ok (.aload_n 3, 1) := dget dh_343 (k := 17) rfl
theorem dX11_isNew_30 : decode cX11_isNew 30 = .ok (.iload_n 2, 1) := dget dh_343 (k := 18) rfl
theorem dX11_isNew_31 : decode cX11_isNew 31 = .ok (.invokevirtual 182, 3) := dget dh_343 (k := 19) rfl
def dl_344 : List (Nat × (Instr × Nat)) := [(34, (.ifCond .eq 7, 3)), (37, (.iconst 0, 1)), (38, (.goto 4, 3)), (41, (.iconst 1, 1)), (42, (.ireturn, 1))]
theorem dh_344 : dchk cX11_isNew dl_344 = true := by decide +kernel
theorem dX11_isNew_34 : decode cX11_isNew 34 = .ok (.ifCond .eq 7, 3) := dget dh_344 (k := 0) rfl
theorem dX11_isNew_37 : decode cX11_isNew 37 = .ok (.iconst 0, 1) := dget dh_344 (k := 1) rfl
theorem dX11_isNew_38 : decode cX11_isNew 38 = .ok (.goto 4, 3) := dget dh_344 (k := 2) rfl
theorem dX11_isNew_41 : decode cX11_isNew 41 = .ok (.iconst 1, 1) := dget dh_344 (k := 3) rfl
theorem dX11_isNew_42 : decode cX11_isNew 42 = .ok (.ireturn, 1) := dget dh_344 (k := 4) rfl
def dl_345 : List (Nat × (Instr × Nat)) := [(0, (.aload_n 0, 1)), (1, (.iload_n 1, 1)), (2, (.invokevirtual 108, 3)), (5, (.astore 4, 2)), (7, (.aload 4, 2)), (9, (.ifnull 10, 3)), (12, (.iload_n 2, 1)), (13, (.invokestatic 186, 3)), (16, (.ifCond .ne 5, 3)), (19, (.iconst (-1), 1)), (20, (.ireturn, 1)), (21, (.iload_n 3, 1)), (22, (.bipush 10, 2)), (24, (.if_icmp .lt 49, 3)), (27, (.iload_n 3, 1)), (28, (.bipush 10, 2)), (30, (.isub, 1)), (31, (.aload 4, 2)), (33, (.getfield 112, 3)), (36, (.if_icmp .ge 37, 3))]
theorem dh_345 : dchk cX11_judged dl_345 = true := by decide +kernel
theorem dX11_judged_0 : decode cX11_judged 0 = .ok (.aload_n 0, 1) := dget dh_345 (k := 0) rfl
theorem dX11_judged_1 : decode cX11_judged 1 = .ok (.iload_n 1, 1) := dget dh_345 (k := 1) rfl
theorem dX11_judged_2 : decode cX11_judged 2 = .ok (.invokevirtual 108, 3) := dget dh_345 (k := 2) rfl
theorem dX11_judged_5 : decode cX11_judged 5 = .ok (.astore 4, 2) := dget dh_345 (k := 3) rfl
theorem dX11_judged_7 : decode cX11_judged 7 = .ok (.aload 4, 2) := dget dh_345 (k := 4) rfl
theorem dX11_judged_9 : decode cX11_judged 9 = .ok (.ifnull 10, 3) := dget dh_345 (k := 5) rfl
theorem dX11_judged_12 : decode cX11_judged 12 = .ok (.iload_n 2, 1) := dget dh_345 (k := 6) rfl
theorem dX11_judged_13 : decode cX11_judged 13 = .ok (.invokestatic 186, 3) := dget dh_345 (k := 7) rfl
theorem dX11_judged_16 : decode cX11_judged 16 = .ok (.ifCond .ne 5, 3) := dget dh_345 (k := 8) rfl
theorem dX11_judged_19 : decode cX11_judged 19 = .ok (.iconst (-1), 1) := dget dh_345 (k := 9) rfl
theorem dX11_judged_20 : decode cX11_judged 20 = .ok (.ireturn, 1) := dget dh_345 (k := 10) rfl
theorem dX11_judged_21 : decode cX11_judged 21 = .ok (.iload_n 3, 1) := dget dh_345 (k := 11) rfl
theorem dX11_judged_22 : decode cX11_judged 22 = .ok (.bipush 10, 2) := dget dh_345 (k := 12) rfl
theorem dX11_judged_24 : decode cX11_judged 24 = .ok (.if_icmp .lt 49, 3) := dget dh_345 (k := 13) rfl
theorem dX11_judged_27 : decode cX11_judged 27 = .ok (.iload_n 3, 1) := dget dh_345 (k := 14) rfl
theorem dX11_judged_28 : decode cX11_judged 28 = .ok (.bipush 10, 2) := dget dh_345 (k := 15) rfl
theorem dX11_judged_30 : decode cX11_judged 30 = .ok (.isub, 1) := dget dh_345 (k := 16) rfl
theorem dX11_judged_31 : decode cX11_judged 31 = .ok (.aload 4, 2) := dget dh_345 (k := 17) rfl
theorem dX11_judged_33 : decode cX11_judged 33 = .ok (.getfield 112, 3) := dget dh_345 (k := 18) rfl
theorem dX11_judged_36 : decode cX11_judged 36 = .ok (.if_icmp .ge 37, 3) := dget dh_345 (k := 19) rfl
def dl_346 : List (Nat × (Instr × Nat)) := [(39, (.aload_n 0, 1)), (40, (.getfield 75, 3)), (43, (.aload_n 0, 1)), (44, (.aload 4, 2)), (46, (.aload_n 0, 1)), (47, (.iload_n 1, 1)), (48, (.iload_n 2, 1)), (49, (.invokevirtual 234, 3)), (52, (.invokevirtual 238, 3)), (55, (.aload 4, 2)), (57, (.invokevirtual 241, 3)), (60, (.aload_n 0, 1)), (61, (.getfield 75, 3)), (64, (.getfield 245, 3)), (67, (.iload_n 3, 1)), (68, (.bipush 10, 2)), (70, (.isub, 1)), (71, (.iaload, 1)), (72, (.ireturn, 1)), (73, (.iload_n 3, 1))]
theorem dh_346 : dchk cX11_judged dl_346 = true := by decide +kernel
theorem dX11_judged_39 : decode cX11_judged 39 = .ok (.aload_n 0, 1) := dget dh_346 (k := 0) rfl
theorem dX11_judged_40 : decode cX11_judged 40 = .ok (.getfield 75, 3) := dget dh_346 (k := 1) rfl
theorem dX11_judged_43 : decode cX11_judged 43 = .ok (.aload_n 0, 1) := dget dh_346 (k := 2) rfl
theorem dX11_judged_44 : decode cX11_judged 44 = .ok (.aload 4, 2) := dget dh_346 (k := 3) rfl
theorem dX11_judged_46 : decode cX11_judged 46 = .ok (.aload_n 0, 1) := dget dh_346 (k := 4) rfl
theorem dX11_judged_47 : decode cX11_judged 47 = .ok (.iload_n 1, 1) := dget dh_346 (k := 5) rfl
theorem dX11_judged_48 : decode cX11_judged 48 = .ok (.iload_n 2, 1) := dget dh_346 (k := 6) rfl
theorem dX11_judged_49 : decode cX11_judged 49 = .ok (.invokevirtual 234, 3) := dget dh_346 (k := 7) rfl
theorem dX11_judged_52 : decode cX11_judged 52 = .ok (.invokevirtual 238, 3) := dget dh_346 (k := 8) rfl
theorem dX11_judged_55 : decode cX11_judged 55 = .ok (.aload 4, 2) := dget dh_346 (k := 9) rfl
theorem dX11_judged_57 : decode cX11_judged 57 = .ok (.invokevirtual 241, 3) := dget dh_346 (k := 10) rfl
theorem dX11_judged_60 : decode cX11_judged 60 = .ok (.aload_n 0, 1) := dget dh_346 (k := 11) rfl
theorem dX11_judged_61 : decode cX11_judged 61 = .ok (.getfield 75, 3) := dget dh_346 (k := 12) rfl
theorem dX11_judged_64 : decode cX11_judged 64 = .ok (.getfield 245, 3) := dget dh_346 (k := 13) rfl
theorem dX11_judged_67 : decode cX11_judged 67 = .ok (.iload_n 3, 1) := dget dh_346 (k := 14) rfl
theorem dX11_judged_68 : decode cX11_judged 68 = .ok (.bipush 10, 2) := dget dh_346 (k := 15) rfl
theorem dX11_judged_70 : decode cX11_judged 70 = .ok (.isub, 1) := dget dh_346 (k := 16) rfl
theorem dX11_judged_71 : decode cX11_judged 71 = .ok (.iaload, 1) := dget dh_346 (k := 17) rfl
theorem dX11_judged_72 : decode cX11_judged 72 = .ok (.ireturn, 1) := dget dh_346 (k := 18) rfl
theorem dX11_judged_73 : decode cX11_judged 73 = .ok (.iload_n 3, 1) := dget dh_346 (k := 19) rfl
def dl_347 : List (Nat × (Instr × Nat)) := [(74, (.tableswitch 76 0 3 #[30, 43, 62, 69], 30)), (104, (.aload_n 0, 1)), (105, (.aload 4, 2)), (107, (.aload_n 0, 1)), (108, (.iload_n 1, 1)), (109, (.iload_n 2, 1)), (110, (.invokevirtual 234, 3)), (113, (.invokevirtual 248, 3)), (116, (.ireturn, 1)), (117, (.aload 4, 2)), (119, (.getfield 251, 3)), (122, (.aload_n 0, 1)), (123, (.aload 4, 2)), (125, (.aload_n 0, 1)), (126, (.iload_n 1, 1)), (127, (.iload_n 2, 1)), (128, (.invokevirtual 234, 3)), (131, (.invokevirtual 248, 3)), (134, (.isub, 1)), (135, (.ireturn, 1))]
theorem dh_347 : dchk cX11_judged dl_347 = true := by decide +kernel
theorem dX11_judged_74 : decode cX11_judged 74 = .ok (.tableswitch 76 0 3 #[30, 43, 62, 69], 30) := dget dh_347 (k := 0) rfl
theorem dX11_judged_104 : decode cX11_judged 104 = .ok (.aload_n 0, 1) := dget dh_347 (k := 1) rfl
theorem dX11_judged_105 : decode cX11_judged 105 = .ok (.aload 4, 2) := dget dh_347 (k := 2) rfl
theorem dX11_judged_107 : decode cX11_judged 107 = .ok (.aload_n 0, 1) := dget dh_347 (k := 3) rfl
theorem dX11_judged_108 : decode cX11_judged 108 = .ok (.iload_n 1, 1) := dget dh_347 (k := 4) rfl
theorem dX11_judged_109 : decode cX11_judged 109 = .ok (.iload_n 2, 1) := dget dh_347 (k := 5) rfl
theorem dX11_judged_110 : decode cX11_judged 110 = .ok (.invokevirtual 234, 3) := dget dh_347 (k := 6) rfl
theorem dX11_judged_113 : decode cX11_judged 113 = .ok (.invokevirtual 248, 3) := dget dh_347 (k := 7) rfl
theorem dX11_judged_116 : decode cX11_judged 116 = .ok (.ireturn, 1) := dget dh_347 (k := 8) rfl
theorem dX11_judged_117 : decode cX11_judged 117 = .ok (.aload 4, 2) := dget dh_347 (k := 9) rfl
theorem dX11_judged_119 : decode cX11_judged 119 = .ok (.getfield 251, 3) := dget dh_347 (k := 10) rfl
theorem dX11_judged_122 : decode cX11_judged 122 = .ok (.aload_n 0, 1) := dget dh_347 (k := 11) rfl
theorem dX11_judged_123 : decode cX11_judged 123 = .ok (.aload 4, 2) := dget dh_347 (k := 12) rfl
theorem dX11_judged_125 : decode cX11_judged 125 = .ok (.aload_n 0, 1) := dget dh_347 (k := 13) rfl
theorem dX11_judged_126 : decode cX11_judged 126 = .ok (.iload_n 1, 1) := dget dh_347 (k := 14) rfl
theorem dX11_judged_127 : decode cX11_judged 127 = .ok (.iload_n 2, 1) := dget dh_347 (k := 15) rfl
theorem dX11_judged_128 : decode cX11_judged 128 = .ok (.invokevirtual 234, 3) := dget dh_347 (k := 16) rfl
theorem dX11_judged_131 : decode cX11_judged 131 = .ok (.invokevirtual 248, 3) := dget dh_347 (k := 17) rfl
theorem dX11_judged_134 : decode cX11_judged 134 = .ok (.isub, 1) := dget dh_347 (k := 18) rfl
theorem dX11_judged_135 : decode cX11_judged 135 = .ok (.ireturn, 1) := dget dh_347 (k := 19) rfl
def dl_348 : List (Nat × (Instr × Nat)) := [(136, (.aload_n 0, 1)), (137, (.aload 4, 2)), (139, (.invokevirtual 254, 3)), (142, (.ireturn, 1)), (143, (.aload_n 0, 1)), (144, (.iload_n 1, 1)), (145, (.iload_n 2, 1)), (146, (.invokevirtual 234, 3)), (149, (.ireturn, 1)), (150, (.iconst (-1), 1)), (151, (.ireturn, 1))]
theorem dh_348 : dchk cX11_judged dl_348 = true := by decide +kernel
theorem dX11_judged_136 : decode cX11_judged 136 = .ok (.aload_n 0, 1) := dget dh_348 (k := 0) rfl
theorem dX11_judged_137 : decode cX11_judged 137 = .ok (.aload 4, 2) := dget dh_348 (k := 1) rfl
theorem dX11_judged_139 : decode cX11_judged 139 = .ok (.invokevirtual 254, 3) := dget dh_348 (k := 2) rfl
theorem dX11_judged_142 : decode cX11_judged 142 = .ok (.ireturn, 1) := dget dh_348 (k := 3) rfl
theorem dX11_judged_143 : decode cX11_judged 143 = .ok (.aload_n 0, 1) := dget dh_348 (k := 4) rfl
theorem dX11_judged_144 : decode cX11_judged 144 = .ok (.iload_n 1, 1) := dget dh_348 (k := 5) rfl
theorem dX11_judged_145 : decode cX11_judged 145 = .ok (.iload_n 2, 1) := dget dh_348 (k := 6) rfl
theorem dX11_judged_146 : decode cX11_judged 146 = .ok (.invokevirtual 234, 3) := dget dh_348 (k := 7) rfl
theorem dX11_judged_149 : decode cX11_judged 149 = .ok (.ireturn, 1) := dget dh_348 (k := 8) rfl
theorem dX11_judged_150 : decode cX11_judged 150 = .ok (.iconst (-1), 1) := dget dh_348 (k := 9) rfl
theorem dX11_judged_151 : decode cX11_judged 151 = .ok (.ireturn, 1) := dget dh_348 (k := 10) rfl
def dl_349 : List (Nat × (Instr × Nat)) := [(0, (.aload_n 0, 1)), (1, (.iload_n 2, 1)), (2, (.invokevirtual 108, 3)), (5, (.astore 4, 2)), (7, (.aload 4, 2)), (9, (.ifnull 23, 3)), (12, (.iload_n 1, 1)), (13, (.iconst 0, 1)), (14, (.iconst 5, 1)), (15, (.invokestatic 93, 3)), (18, (.ifCond .eq 14, 3)), (21, (.aload 4, 2)), (23, (.getfield 270, 3)), (26, (.iload_n 1, 1)), (27, (.baload, 1)), (28, (.iload_n 3, 1)), (29, (.if_icmp .ne 5, 3)), (32, (.iconst 0, 1)), (33, (.ireturn, 1)), (34, (.aload 4, 2))]
theorem dh_349 : dchk cX11_kin dl_349 = true := by decide +kernel
theorem dX11_kin_0 : decode cX11_kin 0 = .ok (.aload_n 0, 1) := dget dh_349 (k := 0) rfl
theorem dX11_kin_1 : decode cX11_kin 1 = .ok (.iload_n 2, 1) := dget dh_349 (k := 1) rfl
theorem dX11_kin_2 : decode cX11_kin 2 = .ok (.invokevirtual 108, 3) := dget dh_349 (k := 2) rfl
theorem dX11_kin_5 : decode cX11_kin 5 = .ok (.astore 4, 2) := dget dh_349 (k := 3) rfl
theorem dX11_kin_7 : decode cX11_kin 7 = .ok (.aload 4, 2) := dget dh_349 (k := 4) rfl
theorem dX11_kin_9 : decode cX11_kin 9 = .ok (.ifnull 23, 3) := dget dh_349 (k := 5) rfl
theorem dX11_kin_12 : decode cX11_kin 12 = .ok (.iload_n 1, 1) := dget dh_349 (k := 6) rfl
theorem dX11_kin_13 : decode cX11_kin 13 = .ok (.iconst 0, 1) := dget dh_349 (k := 7) rfl
theorem dX11_kin_14 : decode cX11_kin 14 = .ok (.iconst 5, 1) := dget dh_349 (k := 8) rfl
theorem dX11_kin_15 : decode cX11_kin 15 = .ok (.invokestatic 93, 3) := dget dh_349 (k := 9) rfl
theorem dX11_kin_18 : decode cX11_kin 18 = .ok (.ifCond .eq 14, 3) := dget dh_349 (k := 10) rfl
theorem dX11_kin_21 : decode cX11_kin 21 = .ok (.aload 4, 2) := dget dh_349 (k := 11) rfl
theorem dX11_kin_23 : decode cX11_kin 23 = .ok (.getfield 270, 3) := dget dh_349 (k := 12) rfl
theorem dX11_kin_26 : decode cX11_kin 26 = .ok (.iload_n 1, 1) := dget dh_349 (k := 13) rfl
theorem dX11_kin_27 : decode cX11_kin 27 = .ok (.baload, 1) := dget dh_349 (k := 14) rfl
theorem dX11_kin_28 : decode cX11_kin 28 = .ok (.iload_n 3, 1) := dget dh_349 (k := 15) rfl
theorem dX11_kin_29 : decode cX11_kin 29 = .ok (.if_icmp .ne 5, 3) := dget dh_349 (k := 16) rfl
theorem dX11_kin_32 : decode cX11_kin 32 = .ok (.iconst 0, 1) := dget dh_349 (k := 17) rfl
theorem dX11_kin_33 : decode cX11_kin 33 = .ok (.ireturn, 1) := dget dh_349 (k := 18) rfl
theorem dX11_kin_34 : decode cX11_kin 34 = .ok (.aload 4, 2) := dget dh_349 (k := 19) rfl
def dl_350 : List (Nat × (Instr × Nat)) := [(36, (.getfield 270, 3)), (39, (.iload_n 1, 1)), (40, (.iload_n 3, 1)), (41, (.bastore, 1)), (42, (.iconst 1, 1)), (43, (.ireturn, 1))]
theorem dh_350 : dchk cX11_kin dl_350 = true := by decide +kernel
theorem dX11_kin_36 : decode cX11_kin 36 = .ok (.getfield 270, 3) := dget dh_350 (k := 0) rfl
theorem dX11_kin_39 : decode cX11_kin 39 = .ok (.iload_n 1, 1) := dget dh_350 (k := 1) rfl
theorem dX11_kin_40 : decode cX11_kin 40 = .ok (.iload_n 3, 1) := dget dh_350 (k := 2) rfl
theorem dX11_kin_41 : decode cX11_kin 41 = .ok (.bastore, 1) := dget dh_350 (k := 3) rfl
theorem dX11_kin_42 : decode cX11_kin 42 = .ok (.iconst 1, 1) := dget dh_350 (k := 4) rfl
theorem dX11_kin_43 : decode cX11_kin 43 = .ok (.ireturn, 1) := dget dh_350 (k := 5) rfl
def dl_351 : List (Nat × (Instr × Nat)) := [(0, (.aload_n 0, 1)), (1, (.iload_n 1, 1)), (2, (.invokevirtual 108, 3)), (5, (.astore 5, 2)), (7, (.aload 5, 2)), (9, (.ifnull 13, 3)), (12, (.iload_n 2, 1)), (13, (.iload_n 3, 1)), (14, (.iload 4, 2)), (16, (.invokestatic 121, 3)), (19, (.ifCond .ne 5, 3)), (22, (.iconst (-1), 1)), (23, (.ireturn, 1)), (24, (.aload_n 0, 1)), (25, (.aload 5, 2)), (27, (.aload 5, 2)), (29, (.getfield 138, 3)), (32, (.iload_n 2, 1)), (33, (.iload_n 3, 1)), (34, (.iload 4, 2))]
theorem dh_351 : dchk cX11_last dl_351 = true := by decide +kernel
theorem dX11_last_0 : decode cX11_last 0 = .ok (.aload_n 0, 1) := dget dh_351 (k := 0) rfl
theorem dX11_last_1 : decode cX11_last 1 = .ok (.iload_n 1, 1) := dget dh_351 (k := 1) rfl
theorem dX11_last_2 : decode cX11_last 2 = .ok (.invokevirtual 108, 3) := dget dh_351 (k := 2) rfl
theorem dX11_last_5 : decode cX11_last 5 = .ok (.astore 5, 2) := dget dh_351 (k := 3) rfl
theorem dX11_last_7 : decode cX11_last 7 = .ok (.aload 5, 2) := dget dh_351 (k := 4) rfl
theorem dX11_last_9 : decode cX11_last 9 = .ok (.ifnull 13, 3) := dget dh_351 (k := 5) rfl
theorem dX11_last_12 : decode cX11_last 12 = .ok (.iload_n 2, 1) := dget dh_351 (k := 6) rfl
theorem dX11_last_13 : decode cX11_last 13 = .ok (.iload_n 3, 1) := dget dh_351 (k := 7) rfl
theorem dX11_last_14 : decode cX11_last 14 = .ok (.iload 4, 2) := dget dh_351 (k := 8) rfl
theorem dX11_last_16 : decode cX11_last 16 = .ok (.invokestatic 121, 3) := dget dh_351 (k := 9) rfl
theorem dX11_last_19 : decode cX11_last 19 = .ok (.ifCond .ne 5, 3) := dget dh_351 (k := 10) rfl
theorem dX11_last_22 : decode cX11_last 22 = .ok (.iconst (-1), 1) := dget dh_351 (k := 11) rfl
theorem dX11_last_23 : decode cX11_last 23 = .ok (.ireturn, 1) := dget dh_351 (k := 12) rfl
theorem dX11_last_24 : decode cX11_last 24 = .ok (.aload_n 0, 1) := dget dh_351 (k := 13) rfl
theorem dX11_last_25 : decode cX11_last 25 = .ok (.aload 5, 2) := dget dh_351 (k := 14) rfl
theorem dX11_last_27 : decode cX11_last 27 = .ok (.aload 5, 2) := dget dh_351 (k := 15) rfl
theorem dX11_last_29 : decode cX11_last 29 = .ok (.getfield 138, 3) := dget dh_351 (k := 16) rfl
theorem dX11_last_32 : decode cX11_last 32 = .ok (.iload_n 2, 1) := dget dh_351 (k := 17) rfl
theorem dX11_last_33 : decode cX11_last 33 = .ok (.iload_n 3, 1) := dget dh_351 (k := 18) rfl
theorem dX11_last_34 : decode cX11_last 34 = .ok (.iload 4, 2) := dget dh_351 (k := 19) rfl
def dl_352 : List (Nat × (Instr × Nat)) := [(36, (.iconst 0, 1)), (37, (.invokevirtual 128, 3)), (40, (.iload_n 2, 1)), (41, (.iload_n 3, 1)), (42, (.invokevirtual 134, 3)), (45, (.ireturn, 1))]
theorem dh_352 : dchk cX11_last dl_352 = true := by decide +kernel
theorem dX11_last_36 : decode cX11_last 36 = .ok (.iconst 0, 1) := dget dh_352 (k := 0) rfl
theorem dX11_last_37 : decode cX11_last 37 = .ok (.invokevirtual 128, 3) := dget dh_352 (k := 1) rfl
theorem dX11_last_40 : decode cX11_last 40 = .ok (.iload_n 2, 1) := dget dh_352 (k := 2) rfl
theorem dX11_last_41 : decode cX11_last 41 = .ok (.iload_n 3, 1) := dget dh_352 (k := 3) rfl
theorem dX11_last_42 : decode cX11_last 42 = .ok (.invokevirtual 134, 3) := dget dh_352 (k := 4) rfl
theorem dX11_last_45 : decode cX11_last 45 = .ok (.ireturn, 1) := dget dh_352 (k := 5) rfl
def dl_353 : List (Nat × (Instr × Nat)) := [(0, (.aload_n 0, 1)), (1, (.iload_n 1, 1)), (2, (.invokevirtual 108, 3)), (5, (.astore 4, 2)), (7, (.aload 4, 2)), (9, (.ifnull 31, 3)), (12, (.iload_n 2, 1)), (13, (.iconst 0, 1)), (14, (.aload 4, 2)), (16, (.getfield 124, 3)), (19, (.getfield 157, 3)), (22, (.iconst 1, 1)), (23, (.isub, 1)), (24, (.invokestatic 93, 3)), (27, (.ifCond .eq 13, 3)), (30, (.iload_n 3, 1)), (31, (.iconst 0, 1)), (32, (.bipush 30, 2)), (34, (.invokestatic 93, 3)), (37, (.ifCond .ne 5, 3))]
theorem dh_353 : dchk cX11_led dl_353 = true := by decide +kernel
theorem dX11_led_0 : decode cX11_led 0 = .ok (.aload_n 0, 1) := dget dh_353 (k := 0) rfl
theorem dX11_led_1 : decode cX11_led 1 = .ok (.iload_n 1, 1) := dget dh_353 (k := 1) rfl
theorem dX11_led_2 : decode cX11_led 2 = .ok (.invokevirtual 108, 3) := dget dh_353 (k := 2) rfl
theorem dX11_led_5 : decode cX11_led 5 = .ok (.astore 4, 2) := dget dh_353 (k := 3) rfl
theorem dX11_led_7 : decode cX11_led 7 = .ok (.aload 4, 2) := dget dh_353 (k := 4) rfl
theorem dX11_led_9 : decode cX11_led 9 = .ok (.ifnull 31, 3) := dget dh_353 (k := 5) rfl
theorem dX11_led_12 : decode cX11_led 12 = .ok (.iload_n 2, 1) := dget dh_353 (k := 6) rfl
theorem dX11_led_13 : decode cX11_led 13 = .ok (.iconst 0, 1) := dget dh_353 (k := 7) rfl
theorem dX11_led_14 : decode cX11_led 14 = .ok (.aload 4, 2) := dget dh_353 (k := 8) rfl
theorem dX11_led_16 : decode cX11_led 16 = .ok (.getfield 124, 3) := dget dh_353 (k := 9) rfl
theorem dX11_led_19 : decode cX11_led 19 = .ok (.getfield 157, 3) := dget dh_353 (k := 10) rfl
theorem dX11_led_22 : decode cX11_led 22 = .ok (.iconst 1, 1) := dget dh_353 (k := 11) rfl
theorem dX11_led_23 : decode cX11_led 23 = .ok (.isub, 1) := dget dh_353 (k := 12) rfl
theorem dX11_led_24 : decode cX11_led 24 = .ok (.invokestatic 93, 3) := dget dh_353 (k := 13) rfl
theorem dX11_led_27 : decode cX11_led 27 = .ok (.ifCond .eq 13, 3) := dget dh_353 (k := 14) rfl
theorem dX11_led_30 : decode cX11_led 30 = .ok (.iload_n 3, 1) := dget dh_353 (k := 15) rfl
theorem dX11_led_31 : decode cX11_led 31 = .ok (.iconst 0, 1) := dget dh_353 (k := 16) rfl
theorem dX11_led_32 : decode cX11_led 32 = .ok (.bipush 30, 2) := dget dh_353 (k := 17) rfl
theorem dX11_led_34 : decode cX11_led 34 = .ok (.invokestatic 93, 3) := dget dh_353 (k := 18) rfl
theorem dX11_led_37 : decode cX11_led 37 = .ok (.ifCond .ne 5, 3) := dget dh_353 (k := 19) rfl
def dl_354 : List (Nat × (Instr × Nat)) := [(40, (.iconst (-1), 1)), (41, (.ireturn, 1)), (42, (.aload_n 0, 1)), (43, (.aload 4, 2)), (45, (.iload_n 2, 1)), (46, (.bipush 12, 2)), (48, (.iload_n 3, 1)), (49, (.imul, 1)), (50, (.invokevirtual 175, 3)), (53, (.ireturn, 1))]
theorem dh_354 : dchk cX11_led dl_354 = true := by decide +kernel
theorem dX11_led_40 : decode cX11_led 40 = .ok (.iconst (-1), 1) := dget dh_354 (k := 0) rfl
theorem dX11_led_41 : decode cX11_led 41 = .ok (.ireturn, 1) := dget dh_354 (k := 1) rfl
theorem dX11_led_42 : decode cX11_led 42 = .ok (.aload_n 0, 1) := dget dh_354 (k := 2) rfl
theorem dX11_led_43 : decode cX11_led 43 = .ok (.aload 4, 2) := dget dh_354 (k := 3) rfl
theorem dX11_led_45 : decode cX11_led 45 = .ok (.iload_n 2, 1) := dget dh_354 (k := 4) rfl
theorem dX11_led_46 : decode cX11_led 46 = .ok (.bipush 12, 2) := dget dh_354 (k := 5) rfl
theorem dX11_led_48 : decode cX11_led 48 = .ok (.iload_n 3, 1) := dget dh_354 (k := 6) rfl
theorem dX11_led_49 : decode cX11_led 49 = .ok (.imul, 1) := dget dh_354 (k := 7) rfl
theorem dX11_led_50 : decode cX11_led 50 = .ok (.invokevirtual 175, 3) := dget dh_354 (k := 8) rfl
theorem dX11_led_53 : decode cX11_led 53 = .ok (.ireturn, 1) := dget dh_354 (k := 9) rfl
def dl_355 : List (Nat × (Instr × Nat)) := [(0, (.aload_n 1, 1)), (1, (.getfield 124, 3)), (4, (.getfield 361, 3)), (7, (.iload_n 2, 1)), (8, (.iaload, 1)), (9, (.istore 4, 2)), (11, (.iconst 0, 1)), (12, (.iload 4, 2)), (14, (.iload_n 3, 1)), (15, (.isub, 1)), (16, (.invokestatic 329, 3)), (19, (.aload_n 1, 1)), (20, (.iload_n 2, 1)), (21, (.invokevirtual 364, 3)), (24, (.isub, 1)), (25, (.istore 5, 2)), (27, (.iload 5, 2)), (29, (.ifCond .le 8, 3)), (32, (.iload 4, 2)), (34, (.ifCond .gt 5, 3))]
theorem dh_355 : dchk cX11_lost dl_355 = true := by decide +kernel
theorem dX11_lost_0 : decode cX11_lost 0 = .ok (.aload_n 1, 1) := dget dh_355 (k := 0) rfl
theorem dX11_lost_1 : decode cX11_lost 1 = .ok (.getfield 124, 3) := dget dh_355 (k := 1) rfl
theorem dX11_lost_4 : decode cX11_lost 4 = .ok (.getfield 361, 3) := dget dh_355 (k := 2) rfl
theorem dX11_lost_7 : decode cX11_lost 7 = .ok (.iload_n 2, 1) := dget dh_355 (k := 3) rfl
theorem dX11_lost_8 : decode cX11_lost 8 = .ok (.iaload, 1) := dget dh_355 (k := 4) rfl
theorem dX11_lost_9 : decode cX11_lost 9 = .ok (.istore 4, 2) := dget dh_355 (k := 5) rfl
theorem dX11_lost_11 : decode cX11_lost 11 = .ok (.iconst 0, 1) := dget dh_355 (k := 6) rfl
theorem dX11_lost_12 : decode cX11_lost 12 = .ok (.iload 4, 2) := dget dh_355 (k := 7) rfl
theorem dX11_lost_14 : decode cX11_lost 14 = .ok (.iload_n 3, 1) := dget dh_355 (k := 8) rfl
theorem dX11_lost_15 : decode cX11_lost 15 = .ok (.isub, 1) := dget dh_355 (k := 9) rfl
theorem dX11_lost_16 : decode cX11_lost 16 = .ok (.invokestatic 329, 3) := dget dh_355 (k := 10) rfl
theorem dX11_lost_19 : decode cX11_lost 19 = .ok (.aload_n 1, 1) := dget dh_355 (k := 11) rfl
theorem dX11_lost_20 : decode cX11_lost 20 = .ok (.iload_n 2, 1) := dget dh_355 (k := 12) rfl
theorem dX11_lost_21 : decode cX11_lost 21 = .ok (.invokevirtual 364, 3) := dget dh_355 (k := 13) rfl
theorem dX11_lost_24 : decode cX11_lost 24 = .ok (.isub, 1) := dget dh_355 (k := 14) rfl
theorem dX11_lost_25 : decode cX11_lost 25 = .ok (.istore 5, 2) := dget dh_355 (k := 15) rfl
theorem dX11_lost_27 : decode cX11_lost 27 = .ok (.iload 5, 2) := dget dh_355 (k := 16) rfl
theorem dX11_lost_29 : decode cX11_lost 29 = .ok (.ifCond .le 8, 3) := dget dh_355 (k := 17) rfl
theorem dX11_lost_32 : decode cX11_lost 32 = .ok (.iload 4, 2) := dget dh_355 (k := 18) rfl
theorem dX11_lost_34 : decode cX11_lost 34 = .ok (.ifCond .gt 5, 3) := dget dh_355 (k := 19) rfl
def dl_356 : List (Nat × (Instr × Nat)) := [(37, (.iconst 0, 1)), (38, (.ireturn, 1)), (39, (.aload_n 0, 1)), (40, (.aload_n 1, 1)), (41, (.iload_n 2, 1)), (42, (.aload_n 1, 1)), (43, (.invokevirtual 171, 3)), (46, (.invokevirtual 175, 3)), (49, (.iload 5, 2)), (51, (.imul, 1)), (52, (.iload 4, 2)), (54, (.idiv, 1)), (55, (.ireturn, 1))]
theorem dh_356 : dchk cX11_lost dl_356 = true := by decide +kernel
theorem dX11_lost_37 : decode cX11_lost 37 = .ok (.iconst 0, 1) := dget dh_356 (k := 0) rfl
theorem dX11_lost_38 : decode cX11_lost 38 = .ok (.ireturn, 1) := dget dh_356 (k := 1) rfl
theorem dX11_lost_39 : decode cX11_lost 39 = .ok (.aload_n 0, 1) := dget dh_356 (k := 2) rfl
theorem dX11_lost_40 : decode cX11_lost 40 = .ok (.aload_n 1, 1) := dget dh_356 (k := 3) rfl
theorem dX11_lost_41 : decode cX11_lost 41 = .ok (.iload_n 2, 1) := dget dh_356 (k := 4) rfl
theorem dX11_lost_42 : decode cX11_lost 42 = .ok (.aload_n 1, 1) := dget dh_356 (k := 5) rfl
theorem dX11_lost_43 : decode cX11_lost 43 = .ok (.invokevirtual 171, 3) := dget dh_356 (k := 6) rfl
theorem dX11_lost_46 : decode cX11_lost 46 = .ok (.invokevirtual 175, 3) := dget dh_356 (k := 7) rfl
theorem dX11_lost_49 : decode cX11_lost 49 = .ok (.iload 5, 2) := dget dh_356 (k := 8) rfl
theorem dX11_lost_51 : decode cX11_lost 51 = .ok (.imul, 1) := dget dh_356 (k := 9) rfl
theorem dX11_lost_52 : decode cX11_lost 52 = .ok (.iload 4, 2) := dget dh_356 (k := 10) rfl
theorem dX11_lost_54 : decode cX11_lost 54 = .ok (.idiv, 1) := dget dh_356 (k := 11) rfl
theorem dX11_lost_55 : decode cX11_lost 55 = .ok (.ireturn, 1) := dget dh_356 (k := 12) rfl
def dl_357 : List (Nat × (Instr × Nat)) := [(0, (.aload_n 0, 1)), (1, (.iload_n 1, 1)), (2, (.invokevirtual 108, 3)), (5, (.ifnonnull 5, 3)), (8, (.iconst (-1), 1)), (9, (.ireturn, 1)), (10, (.aload_n 0, 1)), (11, (.getfield 61, 3)), (14, (.iload_n 1, 1)), (15, (.invokevirtual 264, 3)), (18, (.ifCond .ne 6, 3)), (21, (.bipush (-2), 2)), (23, (.ireturn, 1)), (24, (.aload_n 0, 1)), (25, (.getfield 61, 3)), (28, (.getfield 258, 3)), (31, (.iload_n 1, 1)), (32, (.iaload, 1)), (33, (.istore_n 2, 1)), (34, (.aload_n 0, 1))]
theorem dh_357 : dchk cX11_met dl_357 = true := by decide +kernel
theorem dX11_met_0 : decode cX11_met 0 = .ok (.aload_n 0, 1) := dget dh_357 (k := 0) rfl
theorem dX11_met_1 : decode cX11_met 1 = .ok (.iload_n 1, 1) := dget dh_357 (k := 1) rfl
theorem dX11_met_2 : decode cX11_met 2 = .ok (.invokevirtual 108, 3) := dget dh_357 (k := 2) rfl
theorem dX11_met_5 : decode cX11_met 5 = .ok (.ifnonnull 5, 3) := dget dh_357 (k := 3) rfl
theorem dX11_met_8 : decode cX11_met 8 = .ok (.iconst (-1), 1) := dget dh_357 (k := 4) rfl
theorem dX11_met_9 : decode cX11_met 9 = .ok (.ireturn, 1) := dget dh_357 (k := 5) rfl
theorem dX11_met_10 : decode cX11_met 10 = .ok (.aload_n 0, 1) := dget dh_357 (k := 6) rfl
theorem dX11_met_11 : decode cX11_met 11 = .ok (.getfield 61, 3) := dget dh_357 (k := 7) rfl
theorem dX11_met_14 : decode cX11_met 14 = .ok (.iload_n 1, 1) := dget dh_357 (k := 8) rfl
theorem dX11_met_15 : decode cX11_met 15 = .ok (.invokevirtual 264, 3) := dget dh_357 (k := 9) rfl
theorem dX11_met_18 : decode cX11_met 18 = .ok (.ifCond .ne 6, 3) := dget dh_357 (k := 10) rfl
theorem dX11_met_21 : decode cX11_met 21 = .ok (.bipush (-2), 2) := dget dh_357 (k := 11) rfl
theorem dX11_met_23 : decode cX11_met 23 = .ok (.ireturn, 1) := dget dh_357 (k := 12) rfl
theorem dX11_met_24 : decode cX11_met 24 = .ok (.aload_n 0, 1) := dget dh_357 (k := 13) rfl
theorem dX11_met_25 : decode cX11_met 25 = .ok (.getfield 61, 3) := dget dh_357 (k := 14) rfl
theorem dX11_met_28 : decode cX11_met 28 = .ok (.getfield 258, 3) := dget dh_357 (k := 15) rfl
theorem dX11_met_31 : decode cX11_met 31 = .ok (.iload_n 1, 1) := dget dh_357 (k := 16) rfl
theorem dX11_met_32 : decode cX11_met 32 = .ok (.iaload, 1) := dget dh_357 (k := 17) rfl
theorem dX11_met_33 : decode cX11_met 33 = .ok (.istore_n 2, 1) := dget dh_357 (k := 18) rfl
theorem dX11_met_34 : decode cX11_met 34 = .ok (.aload_n 0, 1) := dget dh_357 (k := 19) rfl
def dl_358 : List (Nat × (Instr × Nat)) := [(35, (.getfield 61, 3)), (38, (.getfield 261, 3)), (41, (.iload_n 1, 1)), (42, (.iaload, 1)), (43, (.istore_n 3, 1)), (44, (.iload_n 2, 1)), (45, (.iload_n 3, 1)), (46, (.if_icmp .le 14, 3)), (49, (.aload_n 0, 1)), (50, (.getfield 61, 3)), (53, (.iload_n 1, 1)), (54, (.invokevirtual 267, 3)), (57, (.bipush (-3), 2)), (59, (.ireturn, 1)), (60, (.iload_n 2, 1)), (61, (.iload_n 3, 1)), (62, (.iadd, 1)), (63, (.iconst 2, 1)), (64, (.idiv, 1)), (65, (.ireturn, 1))]
theorem dh_358 : dchk cX11_met dl_358 = true := by decide +kernel
theorem dX11_met_35 : decode cX11_met 35 = .ok (.getfield 61, 3) := dget dh_358 (k := 0) rfl
theorem dX11_met_38 : decode cX11_met 38 = .ok (.getfield 261, 3) := dget dh_358 (k := 1) rfl
theorem dX11_met_41 : decode cX11_met 41 = .ok (.iload_n 1, 1) := dget dh_358 (k := 2) rfl
theorem dX11_met_42 : decode cX11_met 42 = .ok (.iaload, 1) := dget dh_358 (k := 3) rfl
theorem dX11_met_43 : decode cX11_met 43 = .ok (.istore_n 3, 1) := dget dh_358 (k := 4) rfl
theorem dX11_met_44 : decode cX11_met 44 = .ok (.iload_n 2, 1) := dget dh_358 (k := 5) rfl
theorem dX11_met_45 : decode cX11_met 45 = .ok (.iload_n 3, 1) := dget dh_358 (k := 6) rfl
theorem dX11_met_46 : decode cX11_met 46 = .ok (.if_icmp .le 14, 3) := dget dh_358 (k := 7) rfl
theorem dX11_met_49 : decode cX11_met 49 = .ok (.aload_n 0, 1) := dget dh_358 (k := 8) rfl
theorem dX11_met_50 : decode cX11_met 50 = .ok (.getfield 61, 3) := dget dh_358 (k := 9) rfl
theorem dX11_met_53 : decode cX11_met 53 = .ok (.iload_n 1, 1) := dget dh_358 (k := 10) rfl
theorem dX11_met_54 : decode cX11_met 54 = .ok (.invokevirtual 267, 3) := dget dh_358 (k := 11) rfl
theorem dX11_met_57 : decode cX11_met 57 = .ok (.bipush (-3), 2) := dget dh_358 (k := 12) rfl
theorem dX11_met_59 : decode cX11_met 59 = .ok (.ireturn, 1) := dget dh_358 (k := 13) rfl
theorem dX11_met_60 : decode cX11_met 60 = .ok (.iload_n 2, 1) := dget dh_358 (k := 14) rfl
theorem dX11_met_61 : decode cX11_met 61 = .ok (.iload_n 3, 1) := dget dh_358 (k := 15) rfl
theorem dX11_met_62 : decode cX11_met 62 = .ok (.iadd, 1) := dget dh_358 (k := 16) rfl
theorem dX11_met_63 : decode cX11_met 63 = .ok (.iconst 2, 1) := dget dh_358 (k := 17) rfl
theorem dX11_met_64 : decode cX11_met 64 = .ok (.idiv, 1) := dget dh_358 (k := 18) rfl
theorem dX11_met_65 : decode cX11_met 65 = .ok (.ireturn, 1) := dget dh_358 (k := 19) rfl
def dl_359 : List (Nat × (Instr × Nat)) := [(0, (.aload_n 0, 1)), (1, (.iload_n 1, 1)), (2, (.invokevirtual 108, 3)), (5, (.ifnull 13, 3)), (8, (.iload_n 3, 1)), (9, (.iconst 0, 1)), (10, (.ldc 104, 2)), (12, (.invokestatic 93, 3)), (15, (.ifCond .ne 5, 3)), (18, (.iconst (-1), 1)), (19, (.ireturn, 1)), (20, (.iload_n 2, 1)), (21, (.ifCond .eq 16, 3)), (24, (.aload_n 0, 1)), (25, (.getfield 61, 3)), (28, (.getfield 258, 3)), (31, (.iload_n 1, 1)), (32, (.iload_n 3, 1)), (33, (.iastore, 1)), (34, (.goto 13, 3))]
theorem dh_359 : dchk cX11_offer dl_359 = true := by decide +kernel
theorem dX11_offer_0 : decode cX11_offer 0 = .ok (.aload_n 0, 1) := dget dh_359 (k := 0) rfl
theorem dX11_offer_1 : decode cX11_offer 1 = .ok (.iload_n 1, 1) := dget dh_359 (k := 1) rfl
theorem dX11_offer_2 : decode cX11_offer 2 = .ok (.invokevirtual 108, 3) := dget dh_359 (k := 2) rfl
theorem dX11_offer_5 : decode cX11_offer 5 = .ok (.ifnull 13, 3) := dget dh_359 (k := 3) rfl
theorem dX11_offer_8 : decode cX11_offer 8 = .ok (.iload_n 3, 1) := dget dh_359 (k := 4) rfl
theorem dX11_offer_9 : decode cX11_offer 9 = .ok (.iconst 0, 1) := dget dh_359 (k := 5) rfl
theorem dX11_offer_10 : decode cX11_offer 10 = .ok (.ldc 104, 2) := dget dh_359 (k := 6) rfl
theorem dX11_offer_12 : decode cX11_offer 12 = .ok (.invokestatic 93, 3) := dget dh_359 (k := 7) rfl
theorem dX11_offer_15 : decode cX11_offer 15 = .ok (.ifCond .ne 5, 3) := dget dh_359 (k := 8) rfl
theorem dX11_offer_18 : decode cX11_offer 18 = .ok (.iconst (-1), 1) := dget dh_359 (k := 9) rfl
theorem dX11_offer_19 : decode cX11_offer 19 = .ok (.ireturn, 1) := dget dh_359 (k := 10) rfl
theorem dX11_offer_20 : decode cX11_offer 20 = .ok (.iload_n 2, 1) := dget dh_359 (k := 11) rfl
theorem dX11_offer_21 : decode cX11_offer 21 = .ok (.ifCond .eq 16, 3) := dget dh_359 (k := 12) rfl
theorem dX11_offer_24 : decode cX11_offer 24 = .ok (.aload_n 0, 1) := dget dh_359 (k := 13) rfl
theorem dX11_offer_25 : decode cX11_offer 25 = .ok (.getfield 61, 3) := dget dh_359 (k := 14) rfl
theorem dX11_offer_28 : decode cX11_offer 28 = .ok (.getfield 258, 3) := dget dh_359 (k := 15) rfl
theorem dX11_offer_31 : decode cX11_offer 31 = .ok (.iload_n 1, 1) := dget dh_359 (k := 16) rfl
theorem dX11_offer_32 : decode cX11_offer 32 = .ok (.iload_n 3, 1) := dget dh_359 (k := 17) rfl
theorem dX11_offer_33 : decode cX11_offer 33 = .ok (.iastore, 1) := dget dh_359 (k := 18) rfl
theorem dX11_offer_34 : decode cX11_offer 34 = .ok (.goto 13, 3) := dget dh_359 (k := 19) rfl
def dl_360 : List (Nat × (Instr × Nat)) := [(37, (.aload_n 0, 1)), (38, (.getfield 61, 3)), (41, (.getfield 261, 3)), (44, (.iload_n 1, 1)), (45, (.iload_n 3, 1)), (46, (.iastore, 1)), (47, (.aload_n 0, 1)), (48, (.getfield 61, 3)), (51, (.iload_n 1, 1)), (52, (.invokevirtual 264, 3)), (55, (.ifCond .eq 7, 3)), (58, (.iconst 1, 1)), (59, (.goto 4, 3)), (62, (.iconst 0, 1)), (63, (.ireturn, 1))]
theorem dh_360 : dchk cX11_offer dl_360 = true := by decide +kernel
theorem dX11_offer_37 : decode cX11_offer 37 = .ok (.aload_n 0, 1) := dget dh_360 (k := 0) rfl
theorem dX11_offer_38 : decode cX11_offer 38 = .ok (.getfield 61, 3) := dget dh_360 (k := 1) rfl
theorem dX11_offer_41 : decode cX11_offer 41 = .ok (.getfield 261, 3) := dget dh_360 (k := 2) rfl
theorem dX11_offer_44 : decode cX11_offer 44 = .ok (.iload_n 1, 1) := dget dh_360 (k := 3) rfl
theorem dX11_offer_45 : decode cX11_offer 45 = .ok (.iload_n 3, 1) := dget dh_360 (k := 4) rfl
theorem dX11_offer_46 : decode cX11_offer 46 = .ok (.iastore, 1) := dget dh_360 (k := 5) rfl
theorem dX11_offer_47 : decode cX11_offer 47 = .ok (.aload_n 0, 1) := dget dh_360 (k := 6) rfl
theorem dX11_offer_48 : decode cX11_offer 48 = .ok (.getfield 61, 3) := dget dh_360 (k := 7) rfl
theorem dX11_offer_51 : decode cX11_offer 51 = .ok (.iload_n 1, 1) := dget dh_360 (k := 8) rfl
theorem dX11_offer_52 : decode cX11_offer 52 = .ok (.invokevirtual 264, 3) := dget dh_360 (k := 9) rfl
theorem dX11_offer_55 : decode cX11_offer 55 = .ok (.ifCond .eq 7, 3) := dget dh_360 (k := 10) rfl
theorem dX11_offer_58 : decode cX11_offer 58 = .ok (.iconst 1, 1) := dget dh_360 (k := 11) rfl
theorem dX11_offer_59 : decode cX11_offer 59 = .ok (.goto 4, 3) := dget dh_360 (k := 12) rfl
theorem dX11_offer_62 : decode cX11_offer 62 = .ok (.iconst 0, 1) := dget dh_360 (k := 13) rfl
theorem dX11_offer_63 : decode cX11_offer 63 = .ok (.ireturn, 1) := dget dh_360 (k := 14) rfl
def dl_361 : List (Nat × (Instr × Nat)) := [(0, (.aload_n 0, 1)), (1, (.iload_n 1, 1)), (2, (.invokevirtual 108, 3)), (5, (.astore 4, 2)), (7, (.aload 4, 2)), (9, (.ifnull 22, 3)), (12, (.iload_n 2, 1)), (13, (.iconst 0, 1)), (14, (.iconst 2, 1)), (15, (.invokestatic 93, 3)), (18, (.ifCond .eq 13, 3)), (21, (.iload_n 3, 1)), (22, (.iconst 0, 1)), (23, (.ldc 104, 2)), (25, (.invokestatic 93, 3)), (28, (.ifCond .ne 5, 3)), (31, (.iconst 0, 1)), (32, (.ireturn, 1)), (33, (.aload 4, 2)), (35, (.getfield 118, 3))]
theorem dh_361 : dchk cX11_owes dl_361 = true := by decide +kernel
theorem dX11_owes_0 : decode cX11_owes 0 = .ok (.aload_n 0, 1) := dget dh_361 (k := 0) rfl
theorem dX11_owes_1 : decode cX11_owes 1 = .ok (.iload_n 1, 1) := dget dh_361 (k := 1) rfl
theorem dX11_owes_2 : decode cX11_owes 2 = .ok (.invokevirtual 108, 3) := dget dh_361 (k := 2) rfl
theorem dX11_owes_5 : decode cX11_owes 5 = .ok (.astore 4, 2) := dget dh_361 (k := 3) rfl
theorem dX11_owes_7 : decode cX11_owes 7 = .ok (.aload 4, 2) := dget dh_361 (k := 4) rfl
theorem dX11_owes_9 : decode cX11_owes 9 = .ok (.ifnull 22, 3) := dget dh_361 (k := 5) rfl
theorem dX11_owes_12 : decode cX11_owes 12 = .ok (.iload_n 2, 1) := dget dh_361 (k := 6) rfl
theorem dX11_owes_13 : decode cX11_owes 13 = .ok (.iconst 0, 1) := dget dh_361 (k := 7) rfl
theorem dX11_owes_14 : decode cX11_owes 14 = .ok (.iconst 2, 1) := dget dh_361 (k := 8) rfl
theorem dX11_owes_15 : decode cX11_owes 15 = .ok (.invokestatic 93, 3) := dget dh_361 (k := 9) rfl
theorem dX11_owes_18 : decode cX11_owes 18 = .ok (.ifCond .eq 13, 3) := dget dh_361 (k := 10) rfl
theorem dX11_owes_21 : decode cX11_owes 21 = .ok (.iload_n 3, 1) := dget dh_361 (k := 11) rfl
theorem dX11_owes_22 : decode cX11_owes 22 = .ok (.iconst 0, 1) := dget dh_361 (k := 12) rfl
theorem dX11_owes_23 : decode cX11_owes 23 = .ok (.ldc 104, 2) := dget dh_361 (k := 13) rfl
theorem dX11_owes_25 : decode cX11_owes 25 = .ok (.invokestatic 93, 3) := dget dh_361 (k := 14) rfl
theorem dX11_owes_28 : decode cX11_owes 28 = .ok (.ifCond .ne 5, 3) := dget dh_361 (k := 15) rfl
theorem dX11_owes_31 : decode cX11_owes 31 = .ok (.iconst 0, 1) := dget dh_361 (k := 16) rfl
theorem dX11_owes_32 : decode cX11_owes 32 = .ok (.ireturn, 1) := dget dh_361 (k := 17) rfl
theorem dX11_owes_33 : decode cX11_owes 33 = .ok (.aload 4, 2) := dget dh_361 (k := 18) rfl
theorem dX11_owes_35 : decode cX11_owes 35 = .ok (.getfield 118, 3) := dget dh_361 (k := 19) rfl
def dl_362 : List (Nat × (Instr × Nat)) := [(38, (.iload_n 2, 1)), (39, (.iload_n 3, 1)), (40, (.iastore, 1)), (41, (.iconst 1, 1)), (42, (.ireturn, 1))]
theorem dh_362 : dchk cX11_owes dl_362 = true := by decide +kernel
theorem dX11_owes_38 : decode cX11_owes 38 = .ok (.iload_n 2, 1) := dget dh_362 (k := 0) rfl
theorem dX11_owes_39 : decode cX11_owes 39 = .ok (.iload_n 3, 1) := dget dh_362 (k := 1) rfl
theorem dX11_owes_40 : decode cX11_owes 40 = .ok (.iastore, 1) := dget dh_362 (k := 2) rfl
theorem dX11_owes_41 : decode cX11_owes 41 = .ok (.iconst 1, 1) := dget dh_362 (k := 3) rfl
theorem dX11_owes_42 : decode cX11_owes 42 = .ok (.ireturn, 1) := dget dh_362 (k := 4) rfl
def dl_363 : List (Nat × (Instr × Nat)) := [(0, (.aload_n 1, 1)), (1, (.getfield 251, 3)), (4, (.aload_n 0, 1)), (5, (.aload_n 1, 1)), (6, (.iload_n 2, 1)), (7, (.invokevirtual 248, 3)), (10, (.isub, 1)), (11, (.aload_n 0, 1)), (12, (.aload_n 1, 1)), (13, (.invokevirtual 254, 3)), (16, (.iadd, 1)), (17, (.ireturn, 1))]
theorem dh_363 : dchk cX11_paidBack dl_363 = true := by decide +kernel
theorem dX11_paidBack_0 : decode cX11_paidBack 0 = .ok (.aload_n 1, 1) := dget dh_363 (k := 0) rfl
theorem dX11_paidBack_1 : decode cX11_paidBack 1 = .ok (.getfield 251, 3) := dget dh_363 (k := 1) rfl
theorem dX11_paidBack_4 : decode cX11_paidBack 4 = .ok (.aload_n 0, 1) := dget dh_363 (k := 2) rfl
theorem dX11_paidBack_5 : decode cX11_paidBack 5 = .ok (.aload_n 1, 1) := dget dh_363 (k := 3) rfl
theorem dX11_paidBack_6 : decode cX11_paidBack 6 = .ok (.iload_n 2, 1) := dget dh_363 (k := 4) rfl
theorem dX11_paidBack_7 : decode cX11_paidBack 7 = .ok (.invokevirtual 248, 3) := dget dh_363 (k := 5) rfl
theorem dX11_paidBack_10 : decode cX11_paidBack 10 = .ok (.isub, 1) := dget dh_363 (k := 6) rfl
theorem dX11_paidBack_11 : decode cX11_paidBack 11 = .ok (.aload_n 0, 1) := dget dh_363 (k := 7) rfl
theorem dX11_paidBack_12 : decode cX11_paidBack 12 = .ok (.aload_n 1, 1) := dget dh_363 (k := 8) rfl
theorem dX11_paidBack_13 : decode cX11_paidBack 13 = .ok (.invokevirtual 254, 3) := dget dh_363 (k := 9) rfl
theorem dX11_paidBack_16 : decode cX11_paidBack 16 = .ok (.iadd, 1) := dget dh_363 (k := 10) rfl
theorem dX11_paidBack_17 : decode cX11_paidBack 17 = .ok (.ireturn, 1) := dget dh_363 (k := 11) rfl
def dl_364 : List (Nat × (Instr × Nat)) := [(0, (.aload_n 0, 1)), (1, (.iload_n 1, 1)), (2, (.invokevirtual 108, 3)), (5, (.astore 4, 2)), (7, (.aload 4, 2)), (9, (.ifnull 28, 3)), (12, (.iload_n 2, 1)), (13, (.iconst 0, 1)), (14, (.aload 4, 2)), (16, (.getfield 112, 3)), (19, (.iconst 1, 1)), (20, (.isub, 1)), (21, (.invokestatic 93, 3)), (24, (.ifCond .eq 13, 3)), (27, (.iload_n 3, 1)), (28, (.iconst 0, 1)), (29, (.bipush 99, 2)), (31, (.invokestatic 93, 3)), (34, (.ifCond .ne 5, 3)), (37, (.iconst 0, 1))]
theorem dh_364 : dchk cX11_part dl_364 = true := by decide +kernel
theorem dX11_part_0 : decode cX11_part 0 = .ok (.aload_n 0, 1) := dget dh_364 (k := 0) rfl
theorem dX11_part_1 : decode cX11_part 1 = .ok (.iload_n 1, 1) := dget dh_364 (k := 1) rfl
theorem dX11_part_2 : decode cX11_part 2 = .ok (.invokevirtual 108, 3) := dget dh_364 (k := 2) rfl
theorem dX11_part_5 : decode cX11_part 5 = .ok (.astore 4, 2) := dget dh_364 (k := 3) rfl
theorem dX11_part_7 : decode cX11_part 7 = .ok (.aload 4, 2) := dget dh_364 (k := 4) rfl
theorem dX11_part_9 : decode cX11_part 9 = .ok (.ifnull 28, 3) := dget dh_364 (k := 5) rfl
theorem dX11_part_12 : decode cX11_part 12 = .ok (.iload_n 2, 1) := dget dh_364 (k := 6) rfl
theorem dX11_part_13 : decode cX11_part 13 = .ok (.iconst 0, 1) := dget dh_364 (k := 7) rfl
theorem dX11_part_14 : decode cX11_part 14 = .ok (.aload 4, 2) := dget dh_364 (k := 8) rfl
theorem dX11_part_16 : decode cX11_part 16 = .ok (.getfield 112, 3) := dget dh_364 (k := 9) rfl
theorem dX11_part_19 : decode cX11_part 19 = .ok (.iconst 1, 1) := dget dh_364 (k := 10) rfl
theorem dX11_part_20 : decode cX11_part 20 = .ok (.isub, 1) := dget dh_364 (k := 11) rfl
theorem dX11_part_21 : decode cX11_part 21 = .ok (.invokestatic 93, 3) := dget dh_364 (k := 12) rfl
theorem dX11_part_24 : decode cX11_part 24 = .ok (.ifCond .eq 13, 3) := dget dh_364 (k := 13) rfl
theorem dX11_part_27 : decode cX11_part 27 = .ok (.iload_n 3, 1) := dget dh_364 (k := 14) rfl
theorem dX11_part_28 : decode cX11_part 28 = .ok (.iconst 0, 1) := dget dh_364 (k := 15) rfl
theorem dX11_part_29 : decode cX11_part 29 = .ok (.bipush 99, 2) := dget dh_364 (k := 16) rfl
theorem dX11_part_31 : decode cX11_part 31 = .ok (.invokestatic 93, 3) := dget dh_364 (k := 17) rfl
theorem dX11_part_34 : decode cX11_part 34 = .ok (.ifCond .ne 5, 3) := dget dh_364 (k := 18) rfl
theorem dX11_part_37 : decode cX11_part 37 = .ok (.iconst 0, 1) := dget dh_364 (k := 19) rfl
def dl_365 : List (Nat × (Instr × Nat)) := [(38, (.ireturn, 1)), (39, (.aload 4, 2)), (41, (.getfield 115, 3)), (44, (.iload_n 2, 1)), (45, (.iload_n 3, 1)), (46, (.iastore, 1)), (47, (.iconst 1, 1)), (48, (.ireturn, 1))]
theorem dh_365 : dchk cX11_part dl_365 = true := by decide +kernel
theorem dX11_part_38 : decode cX11_part 38 = .ok (.ireturn, 1) := dget dh_365 (k := 0) rfl
theorem dX11_part_39 : decode cX11_part 39 = .ok (.aload 4, 2) := dget dh_365 (k := 1) rfl
theorem dX11_part_41 : decode cX11_part 41 = .ok (.getfield 115, 3) := dget dh_365 (k := 2) rfl
theorem dX11_part_44 : decode cX11_part 44 = .ok (.iload_n 2, 1) := dget dh_365 (k := 3) rfl
theorem dX11_part_45 : decode cX11_part 45 = .ok (.iload_n 3, 1) := dget dh_365 (k := 4) rfl
theorem dX11_part_46 : decode cX11_part 46 = .ok (.iastore, 1) := dget dh_365 (k := 5) rfl
theorem dX11_part_47 : decode cX11_part 47 = .ok (.iconst 1, 1) := dget dh_365 (k := 6) rfl
theorem dX11_part_48 : decode cX11_part 48 = .ok (.ireturn, 1) := dget dh_365 (k := 7) rfl
def dl_366 : List (Nat × (Instr × Nat)) := [(0, (.aload_n 1, 1)), (1, (.getfield 384, 3)), (4, (.ifCond .eq 5, 3)), (7, (.iconst 0, 1)), (8, (.ireturn, 1)), (9, (.iconst 0, 1)), (10, (.istore_n 2, 1)), (11, (.iload_n 2, 1)), (12, (.bipush 10, 2)), (14, (.if_icmp .ge 16, 3)), (17, (.aload_n 0, 1)), (18, (.getfield 54, 3)), (21, (.iload_n 2, 1)), (22, (.iconst 0, 1)), (23, (.iastore, 1)), (24, (.iinc 2 1, 3)), (27, (.goto (-16), 3)), (30, (.aload_n 0, 1)), (31, (.aload_n 1, 1)), (32, (.invokevirtual 370, 3))]
theorem dh_366 : dchk cX11_penalty dl_366 = true := by decide +kernel
theorem dX11_penalty_0 : decode cX11_penalty 0 = .ok (.aload_n 1, 1) := dget dh_366 (k := 0) rfl
theorem dX11_penalty_1 : decode cX11_penalty 1 = .ok (.getfield 384, 3) := dget dh_366 (k := 1) rfl
theorem dX11_penalty_4 : decode cX11_penalty 4 = .ok (.ifCond .eq 5, 3) := dget dh_366 (k := 2) rfl
theorem dX11_penalty_7 : decode cX11_penalty 7 = .ok (.iconst 0, 1) := dget dh_366 (k := 3) rfl
theorem dX11_penalty_8 : decode cX11_penalty 8 = .ok (.ireturn, 1) := dget dh_366 (k := 4) rfl
theorem dX11_penalty_9 : decode cX11_penalty 9 = .ok (.iconst 0, 1) := dget dh_366 (k := 5) rfl
theorem dX11_penalty_10 : decode cX11_penalty 10 = .ok (.istore_n 2, 1) := dget dh_366 (k := 6) rfl
theorem dX11_penalty_11 : decode cX11_penalty 11 = .ok (.iload_n 2, 1) := dget dh_366 (k := 7) rfl
theorem dX11_penalty_12 : decode cX11_penalty 12 = .ok (.bipush 10, 2) := dget dh_366 (k := 8) rfl
theorem dX11_penalty_14 : decode cX11_penalty 14 = .ok (.if_icmp .ge 16, 3) := dget dh_366 (k := 9) rfl
theorem dX11_penalty_17 : decode cX11_penalty 17 = .ok (.aload_n 0, 1) := dget dh_366 (k := 10) rfl
theorem dX11_penalty_18 : decode cX11_penalty 18 = .ok (.getfield 54, 3) := dget dh_366 (k := 11) rfl
theorem dX11_penalty_21 : decode cX11_penalty 21 = .ok (.iload_n 2, 1) := dget dh_366 (k := 12) rfl
theorem dX11_penalty_22 : decode cX11_penalty 22 = .ok (.iconst 0, 1) := dget dh_366 (k := 13) rfl
theorem dX11_penalty_23 : decode cX11_penalty 23 = .ok (.iastore, 1) := dget dh_366 (k := 14) rfl
theorem dX11_penalty_24 : decode cX11_penalty 24 = .ok (.iinc 2 1, 3) := dget dh_366 (k := 15) rfl
theorem dX11_penalty_27 : decode cX11_penalty 27 = .ok (.goto (-16), 3) := dget dh_366 (k := 16) rfl
theorem dX11_penalty_30 : decode cX11_penalty 30 = .ok (.aload_n 0, 1) := dget dh_366 (k := 17) rfl
theorem dX11_penalty_31 : decode cX11_penalty 31 = .ok (.aload_n 1, 1) := dget dh_366 (k := 18) rfl
theorem dX11_penalty_32 : decode cX11_penalty 32 = .ok (.invokevirtual 370, 3) := dget dh_366 (k := 19) rfl
def dl_367 : List (Nat × (Instr × Nat)) := [(35, (.aload_n 1, 1)), (36, (.getfield 251, 3)), (39, (.aload_n 0, 1)), (40, (.getfield 50, 3)), (43, (.bipush 116, 2)), (45, (.aload_n 0, 1)), (46, (.getfield 54, 3)), (49, (.iconst 0, 1)), (50, (.bipush 9, 2)), (52, (.invokevirtual 357, 3)), (55, (.imul, 1)), (56, (.ireturn, 1))]
theorem dh_367 : dchk cX11_penalty dl_367 = true := by decide +kernel
theorem dX11_penalty_35 : decode cX11_penalty 35 = .ok (.aload_n 1, 1) := dget dh_367 (k := 0) rfl
theorem dX11_penalty_36 : decode cX11_penalty 36 = .ok (.getfield 251, 3) := dget dh_367 (k := 1) rfl
theorem dX11_penalty_39 : decode cX11_penalty 39 = .ok (.aload_n 0, 1) := dget dh_367 (k := 2) rfl
theorem dX11_penalty_40 : decode cX11_penalty 40 = .ok (.getfield 50, 3) := dget dh_367 (k := 3) rfl
theorem dX11_penalty_43 : decode cX11_penalty 43 = .ok (.bipush 116, 2) := dget dh_367 (k := 4) rfl
theorem dX11_penalty_45 : decode cX11_penalty 45 = .ok (.aload_n 0, 1) := dget dh_367 (k := 5) rfl
theorem dX11_penalty_46 : decode cX11_penalty 46 = .ok (.getfield 54, 3) := dget dh_367 (k := 6) rfl
theorem dX11_penalty_49 : decode cX11_penalty 49 = .ok (.iconst 0, 1) := dget dh_367 (k := 7) rfl
theorem dX11_penalty_50 : decode cX11_penalty 50 = .ok (.bipush 9, 2) := dget dh_367 (k := 8) rfl
theorem dX11_penalty_52 : decode cX11_penalty 52 = .ok (.invokevirtual 357, 3) := dget dh_367 (k := 9) rfl
theorem dX11_penalty_55 : decode cX11_penalty 55 = .ok (.imul, 1) := dget dh_367 (k := 10) rfl
theorem dX11_penalty_56 : decode cX11_penalty 56 = .ok (.ireturn, 1) := dget dh_367 (k := 11) rfl
def dl_368 : List (Nat × (Instr × Nat)) := [(0, (.iload_n 3, 1)), (1, (.ifCond .ne 5, 3)), (4, (.iconst 1, 1)), (5, (.ireturn, 1)), (6, (.aload_n 0, 1)), (7, (.getfield 61, 3)), (10, (.getfield 199, 3)), (13, (.iload_n 1, 1)), (14, (.iaload, 1)), (15, (.iload_n 3, 1)), (16, (.if_icmp .lt 5, 3)), (19, (.iconst 2, 1)), (20, (.ireturn, 1)), (21, (.aload_n 0, 1)), (22, (.getfield 61, 3)), (25, (.iload_n 1, 1)), (26, (.iload_n 2, 1)), (27, (.invokevirtual 374, 3)), (30, (.ifCond .ne 46, 3)), (33, (.aload_n 0, 1))]
theorem dh_368 : dchk cX11_reason dl_368 = true := by decide +kernel
theorem dX11_reason_0 : decode cX11_reason 0 = .ok (.iload_n 3, 1) := dget dh_368 (k := 0) rfl
theorem dX11_reason_1 : decode cX11_reason 1 = .ok (.ifCond .ne 5, 3) := dget dh_368 (k := 1) rfl
theorem dX11_reason_4 : decode cX11_reason 4 = .ok (.iconst 1, 1) := dget dh_368 (k := 2) rfl
theorem dX11_reason_5 : decode cX11_reason 5 = .ok (.ireturn, 1) := dget dh_368 (k := 3) rfl
theorem dX11_reason_6 : decode cX11_reason 6 = .ok (.aload_n 0, 1) := dget dh_368 (k := 4) rfl
theorem dX11_reason_7 : decode cX11_reason 7 = .ok (.getfield 61, 3) := dget dh_368 (k := 5) rfl
theorem dX11_reason_10 : decode cX11_reason 10 = .ok (.getfield 199, 3) := dget dh_368 (k := 6) rfl
theorem dX11_reason_13 : decode cX11_reason 13 = .ok (.iload_n 1, 1) := dget dh_368 (k := 7) rfl
theorem dX11_reason_14 : decode cX11_reason 14 = .ok (.iaload, 1) := dget dh_368 (k := 8) rfl
theorem dX11_reason_15 : decode cX11_reason 15 = .ok (.iload_n 3, 1) := dget dh_368 (k := 9) rfl
theorem dX11_reason_16 : decode cX11_reason 16 = .ok (.if_icmp .lt 5, 3) := dget dh_368 (k := 10) rfl
theorem dX11_reason_19 : decode cX11_reason 19 = .ok (.iconst 2, 1) := dget dh_368 (k := 11) rfl
theorem dX11_reason_20 : decode cX11_reason 20 = .ok (.ireturn, 1) := dget dh_368 (k := 12) rfl
theorem dX11_reason_21 : decode cX11_reason 21 = .ok (.aload_n 0, 1) := dget dh_368 (k := 13) rfl
theorem dX11_reason_22 : decode cX11_reason 22 = .ok (.getfield 61, 3) := dget dh_368 (k := 14) rfl
theorem dX11_reason_25 : decode cX11_reason 25 = .ok (.iload_n 1, 1) := dget dh_368 (k := 15) rfl
theorem dX11_reason_26 : decode cX11_reason 26 = .ok (.iload_n 2, 1) := dget dh_368 (k := 16) rfl
theorem dX11_reason_27 : decode cX11_reason 27 = .ok (.invokevirtual 374, 3) := dget dh_368 (k := 17) rfl
theorem dX11_reason_30 : decode cX11_reason 30 = .ok (.ifCond .ne 46, 3) := dget dh_368 (k := 18) rfl
theorem dX11_reason_33 : decode cX11_reason 33 = .ok (.aload_n 0, 1) := dget dh_368 (k := 19) rfl
def dl_369 : List (Nat × (Instr × Nat)) := [(34, (.getfield 50, 3)), (37, (.bipush 100, 2)), (39, (.aload_n 0, 1)), (40, (.getfield 54, 3)), (43, (.sipush 999, 3)), (46, (.sipush 999, 3)), (49, (.invokevirtual 357, 3)), (52, (.istore 4, 2)), (54, (.iload_n 2, 1)), (55, (.aload_n 0, 1)), (56, (.getfield 61, 3)), (59, (.getfield 202, 3)), (62, (.iload_n 1, 1)), (63, (.iaload, 1)), (64, (.isub, 1)), (65, (.iload 4, 2)), (67, (.if_icmp .le 7, 3)), (70, (.iconst 3, 1)), (71, (.goto 4, 3)), (74, (.iconst 4, 1))]
theorem dh_369 : dchk cX11_reason dl_369 = true := by decide +kernel
theorem dX11_reason_34 : decode cX11_reason 34 = .ok (.getfield 50, 3) := dget dh_369 (k := 0) rfl
theorem dX11_reason_37 : decode cX11_reason 37 = .ok (.bipush 100, 2) := dget dh_369 (k := 1) rfl
theorem dX11_reason_39 : decode cX11_reason 39 = .ok (.aload_n 0, 1) := dget dh_369 (k := 2) rfl
theorem dX11_reason_40 : decode cX11_reason 40 = .ok (.getfield 54, 3) := dget dh_369 (k := 3) rfl
theorem dX11_reason_43 : decode cX11_reason 43 = .ok (.sipush 999, 3) := dget dh_369 (k := 4) rfl
theorem dX11_reason_46 : decode cX11_reason 46 = .ok (.sipush 999, 3) := dget dh_369 (k := 5) rfl
theorem dX11_reason_49 : decode cX11_reason 49 = .ok (.invokevirtual 357, 3) := dget dh_369 (k := 6) rfl
theorem dX11_reason_52 : decode cX11_reason 52 = .ok (.istore 4, 2) := dget dh_369 (k := 7) rfl
theorem dX11_reason_54 : decode cX11_reason 54 = .ok (.iload_n 2, 1) := dget dh_369 (k := 8) rfl
theorem dX11_reason_55 : decode cX11_reason 55 = .ok (.aload_n 0, 1) := dget dh_369 (k := 9) rfl
theorem dX11_reason_56 : decode cX11_reason 56 = .ok (.getfield 61, 3) := dget dh_369 (k := 10) rfl
theorem dX11_reason_59 : decode cX11_reason 59 = .ok (.getfield 202, 3) := dget dh_369 (k := 11) rfl
theorem dX11_reason_62 : decode cX11_reason 62 = .ok (.iload_n 1, 1) := dget dh_369 (k := 12) rfl
theorem dX11_reason_63 : decode cX11_reason 63 = .ok (.iaload, 1) := dget dh_369 (k := 13) rfl
theorem dX11_reason_64 : decode cX11_reason 64 = .ok (.isub, 1) := dget dh_369 (k := 14) rfl
theorem dX11_reason_65 : decode cX11_reason 65 = .ok (.iload 4, 2) := dget dh_369 (k := 15) rfl
theorem dX11_reason_67 : decode cX11_reason 67 = .ok (.if_icmp .le 7, 3) := dget dh_369 (k := 16) rfl
theorem dX11_reason_70 : decode cX11_reason 70 = .ok (.iconst 3, 1) := dget dh_369 (k := 17) rfl
theorem dX11_reason_71 : decode cX11_reason 71 = .ok (.goto 4, 3) := dget dh_369 (k := 18) rfl
theorem dX11_reason_74 : decode cX11_reason 74 = .ok (.iconst 4, 1) := dget dh_369 (k := 19) rfl
def dl_370 : List (Nat × (Instr × Nat)) := [(75, (.ireturn, 1)), (76, (.aload_n 0, 1)), (77, (.getfield 50, 3)), (80, (.bipush 98, 2)), (82, (.aload_n 0, 1)), (83, (.getfield 54, 3)), (86, (.invokevirtual 377, 3)), (89, (.ifCond .eq 22, 3)), (92, (.aload_n 0, 1)), (93, (.getfield 61, 3)), (96, (.getfield 208, 3)), (99, (.iload_n 1, 1)), (100, (.baload, 1)), (101, (.ifCond .eq 8, 3)), (104, (.bipush 6, 2)), (106, (.goto 4, 3)), (109, (.iconst 5, 1)), (110, (.ireturn, 1)), (111, (.aload_n 0, 1)), (112, (.getfield 61, 3))]
theorem dh_370 : dchk cX11_reason dl_370 = true := by decide +kernel
theorem dX11_reason_75 : decode cX11_reason 75 = .ok (.ireturn, 1) := dget dh_370 (k := 0) rfl
theorem dX11_reason_76 : decode cX11_reason 76 = .ok (.aload_n 0, 1) := dget dh_370 (k := 1) rfl
theorem dX11_reason_77 : decode cX11_reason 77 = .ok (.getfield 50, 3) := dget dh_370 (k := 2) rfl
theorem dX11_reason_80 : decode cX11_reason 80 = .ok (.bipush 98, 2) := dget dh_370 (k := 3) rfl
theorem dX11_reason_82 : decode cX11_reason 82 = .ok (.aload_n 0, 1) := dget dh_370 (k := 4) rfl
theorem dX11_reason_83 : decode cX11_reason 83 = .ok (.getfield 54, 3) := dget dh_370 (k := 5) rfl
theorem dX11_reason_86 : decode cX11_reason 86 = .ok (.invokevirtual 377, 3) := dget dh_370 (k := 6) rfl
theorem dX11_reason_89 : decode cX11_reason 89 = .ok (.ifCond .eq 22, 3) := dget dh_370 (k := 7) rfl
theorem dX11_reason_92 : decode cX11_reason 92 = .ok (.aload_n 0, 1) := dget dh_370 (k := 8) rfl
theorem dX11_reason_93 : decode cX11_reason 93 = .ok (.getfield 61, 3) := dget dh_370 (k := 9) rfl
theorem dX11_reason_96 : decode cX11_reason 96 = .ok (.getfield 208, 3) := dget dh_370 (k := 10) rfl
theorem dX11_reason_99 : decode cX11_reason 99 = .ok (.iload_n 1, 1) := dget dh_370 (k := 11) rfl
theorem dX11_reason_100 : decode cX11_reason 100 = .ok (.baload, 1) := dget dh_370 (k := 12) rfl
theorem dX11_reason_101 : decode cX11_reason 101 = .ok (.ifCond .eq 8, 3) := dget dh_370 (k := 13) rfl
theorem dX11_reason_104 : decode cX11_reason 104 = .ok (.bipush 6, 2) := dget dh_370 (k := 14) rfl
theorem dX11_reason_106 : decode cX11_reason 106 = .ok (.goto 4, 3) := dget dh_370 (k := 15) rfl
theorem dX11_reason_109 : decode cX11_reason 109 = .ok (.iconst 5, 1) := dget dh_370 (k := 16) rfl
theorem dX11_reason_110 : decode cX11_reason 110 = .ok (.ireturn, 1) := dget dh_370 (k := 17) rfl
theorem dX11_reason_111 : decode cX11_reason 111 = .ok (.aload_n 0, 1) := dget dh_370 (k := 18) rfl
theorem dX11_reason_112 : decode cX11_reason 112 = .ok (.getfield 61, 3) := dget dh_370 (k := 19) rfl
def dl_371 : List (Nat × (Instr × Nat)) := [(115, (.getfield 220, 3)), (118, (.iload_n 1, 1)), (119, (.iaload, 1)), (120, (.istore 4, 2)), (122, (.iload 4, 2)), (124, (.iconst 1, 1)), (125, (.iand, 1)), (126, (.ifCond .eq 16, 3)), (129, (.iload 4, 2)), (131, (.bipush 6, 2)), (133, (.iand, 1)), (134, (.ifCond .eq 8, 3)), (137, (.bipush 7, 2)), (139, (.goto 5, 3)), (142, (.bipush 8, 2)), (144, (.ireturn, 1))]
theorem dh_371 : dchk cX11_reason dl_371 = true := by decide +kernel
theorem dX11_reason_115 : decode cX11_reason 115 = .ok (.getfield 220, 3) := dget dh_371 (k := 0) rfl
theorem dX11_reason_118 : decode cX11_reason 118 = .ok (.iload_n 1, 1) := dget dh_371 (k := 1) rfl
theorem dX11_reason_119 : decode cX11_reason 119 = .ok (.iaload, 1) := dget dh_371 (k := 2) rfl
theorem dX11_reason_120 : decode cX11_reason 120 = .ok (.istore 4, 2) := dget dh_371 (k := 3) rfl
theorem dX11_reason_122 : decode cX11_reason 122 = .ok (.iload 4, 2) := dget dh_371 (k := 4) rfl
theorem dX11_reason_124 : decode cX11_reason 124 = .ok (.iconst 1, 1) := dget dh_371 (k := 5) rfl
theorem dX11_reason_125 : decode cX11_reason 125 = .ok (.iand, 1) := dget dh_371 (k := 6) rfl
theorem dX11_reason_126 : decode cX11_reason 126 = .ok (.ifCond .eq 16, 3) := dget dh_371 (k := 7) rfl
theorem dX11_reason_129 : decode cX11_reason 129 = .ok (.iload 4, 2) := dget dh_371 (k := 8) rfl
theorem dX11_reason_131 : decode cX11_reason 131 = .ok (.bipush 6, 2) := dget dh_371 (k := 9) rfl
theorem dX11_reason_133 : decode cX11_reason 133 = .ok (.iand, 1) := dget dh_371 (k := 10) rfl
theorem dX11_reason_134 : decode cX11_reason 134 = .ok (.ifCond .eq 8, 3) := dget dh_371 (k := 11) rfl
theorem dX11_reason_137 : decode cX11_reason 137 = .ok (.bipush 7, 2) := dget dh_371 (k := 12) rfl
theorem dX11_reason_139 : decode cX11_reason 139 = .ok (.goto 5, 3) := dget dh_371 (k := 13) rfl
theorem dX11_reason_142 : decode cX11_reason 142 = .ok (.bipush 8, 2) := dget dh_371 (k := 14) rfl
theorem dX11_reason_144 : decode cX11_reason 144 = .ok (.ireturn, 1) := dget dh_371 (k := 15) rfl
def dl_372 : List (Nat × (Instr × Nat)) := [(0, (.aload_n 0, 1)), (1, (.iload_n 1, 1)), (2, (.invokevirtual 108, 3)), (5, (.astore 4, 2)), (7, (.aload 4, 2)), (9, (.ifnull 21, 3)), (12, (.iload_n 2, 1)), (13, (.iconst 0, 1)), (14, (.aload 4, 2)), (16, (.getfield 124, 3)), (19, (.getfield 157, 3)), (22, (.iconst 1, 1)), (23, (.isub, 1)), (24, (.invokestatic 93, 3)), (27, (.ifCond .ne 5, 3)), (30, (.iconst (-1), 1)), (31, (.ireturn, 1)), (32, (.iload_n 3, 1)), (33, (.tableswitch 86 0 4 #[35, 43, 50, 58, 71], 35)), (68, (.aload 4, 2))]
theorem dh_372 : dchk cX11_thing dl_372 = true := by decide +kernel
theorem dX11_thing_0 : decode cX11_thing 0 = .ok (.aload_n 0, 1) := dget dh_372 (k := 0) rfl
theorem dX11_thing_1 : decode cX11_thing 1 = .ok (.iload_n 1, 1) := dget dh_372 (k := 1) rfl
theorem dX11_thing_2 : decode cX11_thing 2 = .ok (.invokevirtual 108, 3) := dget dh_372 (k := 2) rfl
theorem dX11_thing_5 : decode cX11_thing 5 = .ok (.astore 4, 2) := dget dh_372 (k := 3) rfl
theorem dX11_thing_7 : decode cX11_thing 7 = .ok (.aload 4, 2) := dget dh_372 (k := 4) rfl
theorem dX11_thing_9 : decode cX11_thing 9 = .ok (.ifnull 21, 3) := dget dh_372 (k := 5) rfl
theorem dX11_thing_12 : decode cX11_thing 12 = .ok (.iload_n 2, 1) := dget dh_372 (k := 6) rfl
theorem dX11_thing_13 : decode cX11_thing 13 = .ok (.iconst 0, 1) := dget dh_372 (k := 7) rfl
theorem dX11_thing_14 : decode cX11_thing 14 = .ok (.aload 4, 2) := dget dh_372 (k := 8) rfl
theorem dX11_thing_16 : decode cX11_thing 16 = .ok (.getfield 124, 3) := dget dh_372 (k := 9) rfl
theorem dX11_thing_19 : decode cX11_thing 19 = .ok (.getfield 157, 3) := dget dh_372 (k := 10) rfl
theorem dX11_thing_22 : decode cX11_thing 22 = .ok (.iconst 1, 1) := dget dh_372 (k := 11) rfl
theorem dX11_thing_23 : decode cX11_thing 23 = .ok (.isub, 1) := dget dh_372 (k := 12) rfl
theorem dX11_thing_24 : decode cX11_thing 24 = .ok (.invokestatic 93, 3) := dget dh_372 (k := 13) rfl
theorem dX11_thing_27 : decode cX11_thing 27 = .ok (.ifCond .ne 5, 3) := dget dh_372 (k := 14) rfl
theorem dX11_thing_30 : decode cX11_thing 30 = .ok (.iconst (-1), 1) := dget dh_372 (k := 15) rfl
theorem dX11_thing_31 : decode cX11_thing 31 = .ok (.ireturn, 1) := dget dh_372 (k := 16) rfl
theorem dX11_thing_32 : decode cX11_thing 32 = .ok (.iload_n 3, 1) := dget dh_372 (k := 17) rfl
theorem dX11_thing_33 : decode cX11_thing 33 = .ok (.tableswitch 86 0 4 #[35, 43, 50, 58, 71], 35) := dget dh_372 (k := 18) rfl
theorem dX11_thing_68 : decode cX11_thing 68 = .ok (.aload 4, 2) := dget dh_372 (k := 19) rfl
def dl_373 : List (Nat × (Instr × Nat)) := [(70, (.getfield 160, 3)), (73, (.iload_n 2, 1)), (74, (.iaload, 1)), (75, (.ireturn, 1)), (76, (.aload 4, 2)), (78, (.iload_n 2, 1)), (79, (.invokevirtual 163, 3)), (82, (.ireturn, 1)), (83, (.aload_n 0, 1)), (84, (.aload 4, 2)), (86, (.iload_n 2, 1)), (87, (.invokevirtual 167, 3)), (90, (.ireturn, 1)), (91, (.aload_n 0, 1)), (92, (.aload 4, 2)), (94, (.iload_n 2, 1)), (95, (.aload 4, 2)), (97, (.invokevirtual 171, 3)), (100, (.invokevirtual 175, 3)), (103, (.ireturn, 1))]
theorem dh_373 : dchk cX11_thing dl_373 = true := by decide +kernel
theorem dX11_thing_70 : decode cX11_thing 70 = .ok (.getfield 160, 3) := dget dh_373 (k := 0) rfl
theorem dX11_thing_73 : decode cX11_thing 73 = .ok (.iload_n 2, 1) := dget dh_373 (k := 1) rfl
theorem dX11_thing_74 : decode cX11_thing 74 = .ok (.iaload, 1) := dget dh_373 (k := 2) rfl
theorem dX11_thing_75 : decode cX11_thing 75 = .ok (.ireturn, 1) := dget dh_373 (k := 3) rfl
theorem dX11_thing_76 : decode cX11_thing 76 = .ok (.aload 4, 2) := dget dh_373 (k := 4) rfl
theorem dX11_thing_78 : decode cX11_thing 78 = .ok (.iload_n 2, 1) := dget dh_373 (k := 5) rfl
theorem dX11_thing_79 : decode cX11_thing 79 = .ok (.invokevirtual 163, 3) := dget dh_373 (k := 6) rfl
theorem dX11_thing_82 : decode cX11_thing 82 = .ok (.ireturn, 1) := dget dh_373 (k := 7) rfl
theorem dX11_thing_83 : decode cX11_thing 83 = .ok (.aload_n 0, 1) := dget dh_373 (k := 8) rfl
theorem dX11_thing_84 : decode cX11_thing 84 = .ok (.aload 4, 2) := dget dh_373 (k := 9) rfl
theorem dX11_thing_86 : decode cX11_thing 86 = .ok (.iload_n 2, 1) := dget dh_373 (k := 10) rfl
theorem dX11_thing_87 : decode cX11_thing 87 = .ok (.invokevirtual 167, 3) := dget dh_373 (k := 11) rfl
theorem dX11_thing_90 : decode cX11_thing 90 = .ok (.ireturn, 1) := dget dh_373 (k := 12) rfl
theorem dX11_thing_91 : decode cX11_thing 91 = .ok (.aload_n 0, 1) := dget dh_373 (k := 13) rfl
theorem dX11_thing_92 : decode cX11_thing 92 = .ok (.aload 4, 2) := dget dh_373 (k := 14) rfl
theorem dX11_thing_94 : decode cX11_thing 94 = .ok (.iload_n 2, 1) := dget dh_373 (k := 15) rfl
theorem dX11_thing_95 : decode cX11_thing 95 = .ok (.aload 4, 2) := dget dh_373 (k := 16) rfl
theorem dX11_thing_97 : decode cX11_thing 97 = .ok (.invokevirtual 171, 3) := dget dh_373 (k := 17) rfl
theorem dX11_thing_100 : decode cX11_thing 100 = .ok (.invokevirtual 175, 3) := dget dh_373 (k := 18) rfl
theorem dX11_thing_103 : decode cX11_thing 103 = .ok (.ireturn, 1) := dget dh_373 (k := 19) rfl
def dl_374 : List (Nat × (Instr × Nat)) := [(104, (.aload_n 0, 1)), (105, (.aload 4, 2)), (107, (.iload_n 2, 1)), (108, (.aload_n 0, 1)), (109, (.aload 4, 2)), (111, (.iload_n 2, 1)), (112, (.invokevirtual 167, 3)), (115, (.invokevirtual 179, 3)), (118, (.ireturn, 1)), (119, (.iconst (-1), 1)), (120, (.ireturn, 1))]
theorem dh_374 : dchk cX11_thing dl_374 = true := by decide +kernel
theorem dX11_thing_104 : decode cX11_thing 104 = .ok (.aload_n 0, 1) := dget dh_374 (k := 0) rfl
theorem dX11_thing_105 : decode cX11_thing 105 = .ok (.aload 4, 2) := dget dh_374 (k := 1) rfl
theorem dX11_thing_107 : decode cX11_thing 107 = .ok (.iload_n 2, 1) := dget dh_374 (k := 2) rfl
theorem dX11_thing_108 : decode cX11_thing 108 = .ok (.aload_n 0, 1) := dget dh_374 (k := 3) rfl
theorem dX11_thing_109 : decode cX11_thing 109 = .ok (.aload 4, 2) := dget dh_374 (k := 4) rfl
theorem dX11_thing_111 : decode cX11_thing 111 = .ok (.iload_n 2, 1) := dget dh_374 (k := 5) rfl
theorem dX11_thing_112 : decode cX11_thing 112 = .ok (.invokevirtual 167, 3) := dget dh_374 (k := 6) rfl
theorem dX11_thing_115 : decode cX11_thing 115 = .ok (.invokevirtual 179, 3) := dget dh_374 (k := 7) rfl
theorem dX11_thing_118 : decode cX11_thing 118 = .ok (.ireturn, 1) := dget dh_374 (k := 8) rfl
theorem dX11_thing_119 : decode cX11_thing 119 = .ok (.iconst (-1), 1) := dget dh_374 (k := 9) rfl
theorem dX11_thing_120 : decode cX11_thing 120 = .ok (.ireturn, 1) := dget dh_374 (k := 10) rfl
def dl_375 : List (Nat × (Instr × Nat)) := [(0, (.aload_n 1, 1)), (1, (.getfield 251, 3)), (4, (.iload_n 2, 1)), (5, (.aload_n 1, 1)), (6, (.invokevirtual 381, 3)), (9, (.iadd, 1)), (10, (.invokestatic 336, 3)), (13, (.ireturn, 1))]
theorem dh_375 : dchk cX11_toOwner dl_375 = true := by decide +kernel
theorem dX11_toOwner_0 : decode cX11_toOwner 0 = .ok (.aload_n 1, 1) := dget dh_375 (k := 0) rfl
theorem dX11_toOwner_1 : decode cX11_toOwner 1 = .ok (.getfield 251, 3) := dget dh_375 (k := 1) rfl
theorem dX11_toOwner_4 : decode cX11_toOwner 4 = .ok (.iload_n 2, 1) := dget dh_375 (k := 2) rfl
theorem dX11_toOwner_5 : decode cX11_toOwner 5 = .ok (.aload_n 1, 1) := dget dh_375 (k := 3) rfl
theorem dX11_toOwner_6 : decode cX11_toOwner 6 = .ok (.invokevirtual 381, 3) := dget dh_375 (k := 4) rfl
theorem dX11_toOwner_9 : decode cX11_toOwner 9 = .ok (.iadd, 1) := dget dh_375 (k := 5) rfl
theorem dX11_toOwner_10 : decode cX11_toOwner 10 = .ok (.invokestatic 336, 3) := dget dh_375 (k := 6) rfl
theorem dX11_toOwner_13 : decode cX11_toOwner 13 = .ok (.ireturn, 1) := dget dh_375 (k := 7) rfl
def dl_376 : List (Nat × (Instr × Nat)) := [(0, (.aload_n 1, 1)), (1, (.getfield 124, 3)), (4, (.astore 4, 2)), (6, (.aload_n 0, 1)), (7, (.getfield 10, 3)), (10, (.aload 4, 2)), (12, (.getfield 323, 3)), (15, (.iload_n 2, 1)), (16, (.iaload, 1)), (17, (.aload_n 1, 1)), (18, (.getfield 349, 3)), (21, (.aload 4, 2)), (23, (.getfield 352, 3)), (26, (.iload_n 2, 1)), (27, (.iaload, 1)), (28, (.iload_n 3, 1)), (29, (.iadd, 1)), (30, (.invokevirtual 355, 3)), (33, (.ireturn, 1))]
theorem dh_376 : dchk cX11_worth dl_376 = true := by decide +kernel
theorem dX11_worth_0 : decode cX11_worth 0 = .ok (.aload_n 1, 1) := dget dh_376 (k := 0) rfl
theorem dX11_worth_1 : decode cX11_worth 1 = .ok (.getfield 124, 3) := dget dh_376 (k := 1) rfl
theorem dX11_worth_4 : decode cX11_worth 4 = .ok (.astore 4, 2) := dget dh_376 (k := 2) rfl
theorem dX11_worth_6 : decode cX11_worth 6 = .ok (.aload_n 0, 1) := dget dh_376 (k := 3) rfl
theorem dX11_worth_7 : decode cX11_worth 7 = .ok (.getfield 10, 3) := dget dh_376 (k := 4) rfl
theorem dX11_worth_10 : decode cX11_worth 10 = .ok (.aload 4, 2) := dget dh_376 (k := 5) rfl
theorem dX11_worth_12 : decode cX11_worth 12 = .ok (.getfield 323, 3) := dget dh_376 (k := 6) rfl
theorem dX11_worth_15 : decode cX11_worth 15 = .ok (.iload_n 2, 1) := dget dh_376 (k := 7) rfl
theorem dX11_worth_16 : decode cX11_worth 16 = .ok (.iaload, 1) := dget dh_376 (k := 8) rfl
theorem dX11_worth_17 : decode cX11_worth 17 = .ok (.aload_n 1, 1) := dget dh_376 (k := 9) rfl
theorem dX11_worth_18 : decode cX11_worth 18 = .ok (.getfield 349, 3) := dget dh_376 (k := 10) rfl
theorem dX11_worth_21 : decode cX11_worth 21 = .ok (.aload 4, 2) := dget dh_376 (k := 11) rfl
theorem dX11_worth_23 : decode cX11_worth 23 = .ok (.getfield 352, 3) := dget dh_376 (k := 12) rfl
theorem dX11_worth_26 : decode cX11_worth 26 = .ok (.iload_n 2, 1) := dget dh_376 (k := 13) rfl
theorem dX11_worth_27 : decode cX11_worth 27 = .ok (.iaload, 1) := dget dh_376 (k := 14) rfl
theorem dX11_worth_28 : decode cX11_worth 28 = .ok (.iload_n 3, 1) := dget dh_376 (k := 15) rfl
theorem dX11_worth_29 : decode cX11_worth 29 = .ok (.iadd, 1) := dget dh_376 (k := 16) rfl
theorem dX11_worth_30 : decode cX11_worth 30 = .ok (.invokevirtual 355, 3) := dget dh_376 (k := 17) rfl
theorem dX11_worth_33 : decode cX11_worth 33 = .ok (.ireturn, 1) := dget dh_376 (k := 18) rfl
set_option maxHeartbeats 4000000 in
set_option maxRecDepth 100000 in
theorem c_X11_part.y (l : Launch) (D : va_G) (cy : Nat → ClassId) (a : Nat → Nat) (i : Nat → Int32) (r : Nat → Nat → Int32) (q : Nat → Option Nat) (tl : va_W) (p0 p1 p2 : Int32) (sz : Nat) (hRi : yRi i) (hRr : yRr r) (hh : 0 ≤ p0.toInt ∧ p0.toInt < (i 0).toInt) (hq : q p0.toNatClampNeg = some (a 61)) : Met l yX11_part (Cond.code yX11_part cX11_part 5 (some .boolean) :: gT) { frames := 3, cells := 0, slots := 0, locals := 67 } (va_Pc [.ref (a 0), .int p0, .int p1, .int p2] (rQ D cy (xW cy a i r q (a 20) (a 12) ++ (hW cy a i r ++ tl)) sz)) (va_Qi (fun (z : Int32) (u : Nat → Nat → Int32) => yRr u ∧ mEr [62] r u ∧ True) (fun (u : Nat → Nat → Int32) t => va_P D vwCl (xW cy a i u q (a 20) (a 12) ++ (hW cy a i u ++ tl)) t.heap ∧ va_K D vwCl (vT cy) t ∧ va_D (va_A (xW cy a i r q (a 20) (a 12) ++ (hW cy a i r ++ tl)) sz) (xW cy a i u q (a 20) (a 12) ++ (hW cy a i u ++ tl))) (va_A (xW cy a i r q (a 20) (a 12) ++ (hW cy a i r ++ tl)) sz)) 0 0 (va_A (xW cy a i r q (a 20) (a 12) ++ (hW cy a i r ++ tl)) sz) := by
  refine Met.ofQ (cc := cX11_part) (maxL := 5) (ret := (some .boolean)) (by decide) rfl ?_
  intro p e s m args below meth c s₁ B hml hv Q hQ
  obtain ⟨rfl, hsz, hP, hK, hD0⟩ := hv
  have hx := B.exec
  have hb := B.bytes
  have hr := B.returns
  have hlocks := B.notSynchronized
  have hT : ∀ w ∈ gT, w.before _ s = true := fun w h => atoms_spec (ws := (Cond.code yX11_part cX11_part 5 (some .boolean) :: gT)) B.pre w (List.mem_cons_of_mem _ h)
  have hown : s.vm.findClass RX11 = some m.cls := findClass_of_methodNamed B.named
  subst hsz
  have hD := hD0.self (sz := s.heap.size)
  generalize hAe : va_A (xW cy a i r q (a 20) (a 12) ++ (hW cy a i r ++ tl)) s.heap.size = A at hD hQ
  have hA : ∀ q : Nat, s.heap.size ≤ q → A q := fun q h => by rw [← hAe]; exact Or.inr h
  have hS : va_S A s.heap s.heap [] := va_S.rf
  have hl := lv_entry ([.ref (a 0), .int p0, .int p1, .int p2]) (n := 5) (Nat.le_of_ble_eq_true rfl)
  rw [lg_entry_eq]
  generalize (lg_sl ([.ref (a 0), .int p0, .int p1, .int p2]) ++ List.replicate (5 - (lg_sl ([.ref (a 0), .int p0, .int p1, .int p2])).length) Slot.unset).toArray = ls at hl ⊢
  have hl : lv_has ls 5 [(0, .ref (a 0)), (1, .int p0), (2, .int p1), (3, .int p2)] := hl
  have hEi : mEi [] i i := Ei_rf
  have hEr : mEr [62] r r := Er_rf
  have hg0 : 0 ≤ (i 0).toInt ∧ (i 0).toInt ≤ 6 := hRi 0
  refine lv_aload_n hx hb dX11_part_0 rfl (lv_at hl 0 rfl) ?_
  refine lv_iload_n hx hb dX11_part_1 rfl (lv_at hl 1 rfl) ?_
  refine va_csq (W.runV (As := [.int p0]) (rest := []) ⟨hx, hb, hml, hown, hT⟩ (c_X11_homeAt l D cy a i r q (hW cy a i r ++ tl) p0 hRi hRr) (cwV 1 hT (gV t_443 t_444 t_445 t_446 t_2) rfl rfl rfl (by decide +kernel) ⟨Nat.le_of_ble_eq_true rfl, Nat.le_of_ble_eq_true rfl⟩) (rP_v hP hK (va_recv hK hP (ci := 11) (q0 := 0) rfl rfl)) rfl rfl hl.1 rfl (lv_room (Nat.le_of_ble_eq_true rfl)) dX11_part_2 ⟨Nat.le_of_ble_eq_true rfl, Nat.le_of_ble_eq_true rfl⟩) (fun r_1 hr_1 => ?_)
  obtain rfl : r_1 = some (a 61) := (hr_1.1 hh).trans hq
  refine W.eq (g2 := F0 m 5 ls [.ref (a 61)]) rfl ?_
  refine lv_astore (lv' := [(4, .ref (a 61)), (0, .ref (a 0)), (1, .int p0), (2, .int p1), (3, .int p2)]) hx hb dX11_part_5 hl (by decide) rfl (fun ls hl => ?_)
  refine lv_aload hx hb dX11_part_7 (lv_at hl 0 rfl) ?_
  refine lv_ifnull hx hb dX11_part_9 ?_
  refine lv_iload_n hx hb dX11_part_12 rfl (lv_at hl 3 rfl) ?_
  refine lv_iconst (v := 0) hx hb dX11_part_13 (by decide) ?_
  refine lv_aload hx hb dX11_part_14 (lv_at hl 0 rfl) ?_
  refine va_get (D := D) (ci := 3) (v := .int (i 18)) (C := RX3) (T := TX3) (N := 12) hx hb hT iX3 hown hK hP 61 rfl rfl 1 (by decide) (hT _ t_447) (fun _ h9 => h9) rfl dX11_part_16 ?_
  have hg_2 : 1 ≤ (i 18).toInt ∧ (i 18).toInt ≤ 4 := hRi 18
  refine lv_iconst (v := 1) hx hb dX11_part_19 (by decide) ?_
  refine lv_isub hx hb dX11_part_20 ?_
  refine lv_topi (fun v_3 ev_3 => ?_)
  have hv_3 : v_3.toInt = (i 18).toInt - 1 := by rw [ev_3]; have := b_rg (i 18); exact i_sub (a := (i 18).toInt) (b := 1) rfl rfl (by omega) (by omega)
  refine vp_callSi (W.runS (As := [.int p1, .int 0, .int v_3]) (rest := []) ⟨hx, hb, hml, hown, hT⟩ (c_X11_within l p1 0 v_3) (va_cwS 3 hT (gS t_1 t_3 t_4 t_2) rfl rfl rfl (by decide +kernel) ⟨Nat.le_of_ble_eq_true rfl, Nat.le_of_ble_eq_true rfl⟩) preT rfl rfl hl.1 rfl (lv_room (Nat.le_of_ble_eq_true rfl)) dX11_part_21 ⟨Nat.le_of_ble_eq_true rfl, Nat.le_of_ble_eq_true rfl⟩) (fun r_4 hr_4 => ?_)
  have hr_4 : BR r_4 (0 ≤ p1.toInt ∧ p1.toInt ≤ v_3.toInt) 1 0 := hr_4
  rcases hr_4 with ⟨rfl, h_5⟩ | ⟨rfl, h_5⟩
  · skip
    refine lv_if_eq (tgt := 37) hx hb dX11_part_24 (by decide) (fun c_6 => absurd c_6 (by decide)) (fun c_6 => ?_)
    refine lv_iload_n hx hb dX11_part_27 rfl (lv_at hl 4 rfl) ?_
    refine lv_iconst (v := 0) hx hb dX11_part_28 (by decide) ?_
    refine lv_bipush (v := 99) hx hb dX11_part_29 (by decide) ?_
    refine vp_callSi (W.runS (As := [.int p2, .int 0, .int 99]) (rest := []) ⟨hx, hb, hml, hown, hT⟩ (c_X11_within l p2 0 99) (va_cwS 3 hT (gS t_1 t_3 t_4 t_2) rfl rfl rfl (by decide +kernel) ⟨Nat.le_of_ble_eq_true rfl, Nat.le_of_ble_eq_true rfl⟩) preT rfl rfl hl.1 rfl (lv_room (Nat.le_of_ble_eq_true rfl)) dX11_part_31 ⟨Nat.le_of_ble_eq_true rfl, Nat.le_of_ble_eq_true rfl⟩) (fun r_7 hr_7 => ?_)
    have hr_7 : BR r_7 (0 ≤ p2.toInt ∧ p2.toInt ≤ 99) 1 0 := hr_7
    rcases hr_7 with ⟨rfl, h_8⟩ | ⟨rfl, h_8⟩
    · skip
      refine lv_if_ne (tgt := 39) hx hb dX11_part_34 (by decide) (fun c_9 => ?_) (fun c_9 => absurd c_9 (by decide))
      refine lv_aload hx hb dX11_part_39 (lv_at hl 0 rfl) ?_
      refine va_get (D := D) (ci := 3) (v := .ref (a 62)) (C := RX3) (T := TX3) (N := 12) hx hb hT iX3 hown hK hP 61 rfl rfl 6 (by decide) (hT _ t_448) (fun _ h9 => h9) rfl dX11_part_41 ?_
      refine lv_iload_n hx hb dX11_part_44 rfl (lv_at hl 3 rfl) ?_
      refine lv_iload_n hx hb dX11_part_45 rfl (lv_at hl 4 rfl) ?_
      refine va_iast hx hb hK hP hD hS 62 0 rfl rfl (vp_inI (by omega) (by omega)) dX11_part_46 (fun H locs hP hD hS => ?_)
      rw [yS62] at hP hD
      have hRr : yRr (va_up r 62 (upd (r 62) p1.toNatClampNeg p2)) := Yr_upd hRr 62 (p1.toNatClampNeg) p2 ⟨by show (0 : Int) ≤ p2.toInt; omega, by show p2.toInt ≤ (99 : Int); omega⟩
      have hEr : mEr [62] _ (va_up r 62 (upd (r 62) p1.toNatClampNeg p2)) := Er_up hEr 62 _ (by decide)
      refine lv_iconst (v := 1) hx hb dX11_part_47 (by decide) ?_
      subst hQ
      exact W.zret hx hb hr rfl (fun t ht hW => ⟨⟨_, (va_up r 62 (upd (r 62) p1.toNatClampNeg p2)), rfl, ⟨hRr, hEr, trivial⟩, by rw [ht]; exact hP, va_K.moved hW.alike hK, hD⟩, hS.F ht⟩) hS.2.2 dX11_part_48
    · skip
      refine lv_if_ne (tgt := 39) hx hb dX11_part_34 (by decide) (fun c_10 => absurd (by decide) c_10) (fun c_10 => ?_)
      refine lv_iconst (v := 0) hx hb dX11_part_37 (by decide) ?_
      subst hQ
      exact W.zret hx hb hr rfl (fun t ht hW => ⟨⟨_, r, rfl, ⟨hRr, hEr, trivial⟩, by rw [ht]; exact hP, va_K.moved hW.alike hK, hD⟩, hS.F ht⟩) hS.2.2 dX11_part_38
  · skip
    refine lv_if_eq (tgt := 37) hx hb dX11_part_24 (by decide) (fun c_11 => ?_) (fun c_11 => absurd (by decide) c_11)
    refine lv_iconst (v := 0) hx hb dX11_part_37 (by decide) ?_
    subst hQ
    exact W.zret hx hb hr rfl (fun t ht hW => ⟨⟨_, r, rfl, ⟨hRr, hEr, trivial⟩, by rw [ht]; exact hP, va_K.moved hW.alike hK, hD⟩, hS.F ht⟩) hS.2.2 dX11_part_38
set_option maxHeartbeats 4000000 in
set_option maxRecDepth 100000 in
theorem c_X11_part.b (l : Launch) (D : va_G) (cy : Nat → ClassId) (a : Nat → Nat) (i : Nat → Int32) (r : Nat → Nat → Int32) (q : Nat → Option Nat) (tl : va_W) (p0 p1 p2 : Int32) (hRi : yRi i) (hRr : yRr r) (hh : ¬ (0 ≤ p0.toInt ∧ p0.toInt < (i 0).toInt)) : Met l yX11_part (Cond.code yX11_part cX11_part 5 (some .boolean) :: gT) { frames := 3, cells := 0, slots := 0, locals := 67 } (va_Pc [.ref (a 0), .int p0, .int p1, .int p2] (rP D cy (xW cy a i r q (a 20) (a 12) ++ tl))) (vp_Si (fun z => z = 0)) 0 0 (fun _ => False) := by
  refine Met.ofQ (cc := cX11_part) (maxL := 5) (ret := (some .boolean)) (by decide) rfl ?_
  intro p e s m args below meth c s₁ B hml hv Q hQ
  obtain ⟨rfl, hP, hK⟩ := hv
  have hx := B.exec
  have hb := B.bytes
  have hr := B.returns
  have hlocks := B.notSynchronized
  have hT : ∀ w ∈ gT, w.before _ s = true := fun w h => atoms_spec (ws := (Cond.code yX11_part cX11_part 5 (some .boolean) :: gT)) B.pre w (List.mem_cons_of_mem _ h)
  have hown : s.vm.findClass RX11 = some m.cls := findClass_of_methodNamed B.named
  have hl := lv_entry ([.ref (a 0), .int p0, .int p1, .int p2]) (n := 5) (Nat.le_of_ble_eq_true rfl)
  rw [lg_entry_eq]
  generalize (lg_sl ([.ref (a 0), .int p0, .int p1, .int p2]) ++ List.replicate (5 - (lg_sl ([.ref (a 0), .int p0, .int p1, .int p2])).length) Slot.unset).toArray = ls at hl ⊢
  have hl : lv_has ls 5 [(0, .ref (a 0)), (1, .int p0), (2, .int p1), (3, .int p2)] := hl
  have hEi : mEi [] i i := Ei_rf
  have hEr : mEr [] r r := Er_rf
  refine lv_aload_n hx hb dX11_part_0 rfl (lv_at hl 0 rfl) ?_
  refine lv_iload_n hx hb dX11_part_1 rfl (lv_at hl 1 rfl) ?_
  refine va_csq (W.runV (As := [.int p0]) (rest := []) ⟨hx, hb, hml, hown, hT⟩ (c_X11_homeAt l D cy a i r q tl p0 hRi hRr) (cwV 1 hT (gV t_443 t_444 t_445 t_446 t_2) rfl rfl rfl (by decide +kernel) ⟨Nat.le_of_ble_eq_true rfl, Nat.le_of_ble_eq_true rfl⟩) (rP_v hP hK (va_recv hK hP (ci := 11) (q0 := 0) rfl rfl)) rfl rfl hl.1 rfl (lv_room (Nat.le_of_ble_eq_true rfl)) dX11_part_2 ⟨Nat.le_of_ble_eq_true rfl, Nat.le_of_ble_eq_true rfl⟩) (fun r_1 hr_1 => ?_)
  obtain rfl : r_1 = none := hr_1.2 hh
  refine W.eq (g2 := F0 m 5 ls [.null]) rfl ?_
  refine lv_astoreN (lv' := [(4, .null), (0, .ref (a 0)), (1, .int p0), (2, .int p1), (3, .int p2)]) hx hb dX11_part_5 hl (by decide) rfl (fun ls hl => ?_)
  refine lv_aloadN hx hb dX11_part_7 (lv_at hl 0 rfl) ?_
  refine lv_ifnullN (tgt := 37) hx hb dX11_part_9 (by decide) ?_
  refine lv_iconst (v := 0) hx hb dX11_part_37 (by decide) ?_
  subst hQ
  exact W.zret hx hb hr rfl (fun t ht hW => ⟨_, rfl, rfl, ht⟩) (fun q hq => absurd hq List.not_mem_nil) dX11_part_38
set_option maxHeartbeats 4000000 in
set_option maxRecDepth 100000 in
theorem c_X11_owes.y (l : Launch) (D : va_G) (cy : Nat → ClassId) (a : Nat → Nat) (i : Nat → Int32) (r : Nat → Nat → Int32) (q : Nat → Option Nat) (tl : va_W) (p0 p1 p2 : Int32) (sz : Nat) (hRi : yRi i) (hRr : yRr r) (hh : 0 ≤ p0.toInt ∧ p0.toInt < (i 0).toInt) (hq : q p0.toNatClampNeg = some (a 61)) : Met l yX11_owes (Cond.code yX11_owes cX11_owes 5 (some .boolean) :: gT) { frames := 3, cells := 0, slots := 0, locals := 67 } (va_Pc [.ref (a 0), .int p0, .int p1, .int p2] (rQ D cy (xW cy a i r q (a 20) (a 12) ++ (hW cy a i r ++ tl)) sz)) (va_Qi (fun (z : Int32) (u : Nat → Nat → Int32) => yRr u ∧ mEr [63] r u ∧ True) (fun (u : Nat → Nat → Int32) t => va_P D vwCl (xW cy a i u q (a 20) (a 12) ++ (hW cy a i u ++ tl)) t.heap ∧ va_K D vwCl (vT cy) t ∧ va_D (va_A (xW cy a i r q (a 20) (a 12) ++ (hW cy a i r ++ tl)) sz) (xW cy a i u q (a 20) (a 12) ++ (hW cy a i u ++ tl))) (va_A (xW cy a i r q (a 20) (a 12) ++ (hW cy a i r ++ tl)) sz)) 0 0 (va_A (xW cy a i r q (a 20) (a 12) ++ (hW cy a i r ++ tl)) sz) := by
  refine Met.ofQ (cc := cX11_owes) (maxL := 5) (ret := (some .boolean)) (by decide) rfl ?_
  intro p e s m args below meth c s₁ B hml hv Q hQ
  obtain ⟨rfl, hsz, hP, hK, hD0⟩ := hv
  have hx := B.exec
  have hb := B.bytes
  have hr := B.returns
  have hlocks := B.notSynchronized
  have hT : ∀ w ∈ gT, w.before _ s = true := fun w h => atoms_spec (ws := (Cond.code yX11_owes cX11_owes 5 (some .boolean) :: gT)) B.pre w (List.mem_cons_of_mem _ h)
  have hown : s.vm.findClass RX11 = some m.cls := findClass_of_methodNamed B.named
  subst hsz
  have hD := hD0.self (sz := s.heap.size)
  generalize hAe : va_A (xW cy a i r q (a 20) (a 12) ++ (hW cy a i r ++ tl)) s.heap.size = A at hD hQ
  have hA : ∀ q : Nat, s.heap.size ≤ q → A q := fun q h => by rw [← hAe]; exact Or.inr h
  have hS : va_S A s.heap s.heap [] := va_S.rf
  have hl := lv_entry ([.ref (a 0), .int p0, .int p1, .int p2]) (n := 5) (Nat.le_of_ble_eq_true rfl)
  rw [lg_entry_eq]
  generalize (lg_sl ([.ref (a 0), .int p0, .int p1, .int p2]) ++ List.replicate (5 - (lg_sl ([.ref (a 0), .int p0, .int p1, .int p2])).length) Slot.unset).toArray = ls at hl ⊢
  have hl : lv_has ls 5 [(0, .ref (a 0)), (1, .int p0), (2, .int p1), (3, .int p2)] := hl
  have hEi : mEi [] i i := Ei_rf
  have hEr : mEr [63] r r := Er_rf
  have hg0 : 0 ≤ (i 0).toInt ∧ (i 0).toInt ≤ 6 := hRi 0
  refine lv_aload_n hx hb dX11_owes_0 rfl (lv_at hl 0 rfl) ?_
  refine lv_iload_n hx hb dX11_owes_1 rfl (lv_at hl 1 rfl) ?_
  refine va_csq (W.runV (As := [.int p0]) (rest := []) ⟨hx, hb, hml, hown, hT⟩ (c_X11_homeAt l D cy a i r q (hW cy a i r ++ tl) p0 hRi hRr) (cwV 1 hT (gV t_443 t_444 t_445 t_446 t_2) rfl rfl rfl (by decide +kernel) ⟨Nat.le_of_ble_eq_true rfl, Nat.le_of_ble_eq_true rfl⟩) (rP_v hP hK (va_recv hK hP (ci := 11) (q0 := 0) rfl rfl)) rfl rfl hl.1 rfl (lv_room (Nat.le_of_ble_eq_true rfl)) dX11_owes_2 ⟨Nat.le_of_ble_eq_true rfl, Nat.le_of_ble_eq_true rfl⟩) (fun r_1 hr_1 => ?_)
  obtain rfl : r_1 = some (a 61) := (hr_1.1 hh).trans hq
  refine W.eq (g2 := F0 m 5 ls [.ref (a 61)]) rfl ?_
  refine lv_astore (lv' := [(4, .ref (a 61)), (0, .ref (a 0)), (1, .int p0), (2, .int p1), (3, .int p2)]) hx hb dX11_owes_5 hl (by decide) rfl (fun ls hl => ?_)
  refine lv_aload hx hb dX11_owes_7 (lv_at hl 0 rfl) ?_
  refine lv_ifnull hx hb dX11_owes_9 ?_
  refine lv_iload_n hx hb dX11_owes_12 rfl (lv_at hl 3 rfl) ?_
  refine lv_iconst (v := 0) hx hb dX11_owes_13 (by decide) ?_
  refine lv_iconst (v := 2) hx hb dX11_owes_14 (by decide) ?_
  refine vp_callSi (W.runS (As := [.int p1, .int 0, .int 2]) (rest := []) ⟨hx, hb, hml, hown, hT⟩ (c_X11_within l p1 0 2) (va_cwS 3 hT (gS t_1 t_3 t_4 t_2) rfl rfl rfl (by decide +kernel) ⟨Nat.le_of_ble_eq_true rfl, Nat.le_of_ble_eq_true rfl⟩) preT rfl rfl hl.1 rfl (lv_room (Nat.le_of_ble_eq_true rfl)) dX11_owes_15 ⟨Nat.le_of_ble_eq_true rfl, Nat.le_of_ble_eq_true rfl⟩) (fun r_2 hr_2 => ?_)
  have hr_2 : BR r_2 (0 ≤ p1.toInt ∧ p1.toInt ≤ 2) 1 0 := hr_2
  rcases hr_2 with ⟨rfl, h_3⟩ | ⟨rfl, h_3⟩
  · skip
    refine lv_if_eq (tgt := 31) hx hb dX11_owes_18 (by decide) (fun c_4 => absurd c_4 (by decide)) (fun c_4 => ?_)
    refine lv_iload_n hx hb dX11_owes_21 rfl (lv_at hl 4 rfl) ?_
    refine lv_iconst (v := 0) hx hb dX11_owes_22 (by decide) ?_
    refine lv_ldc (v := 999999) hx hb hown (hT _ t_277) dX11_owes_23 ?_
    refine vp_callSi (W.runS (As := [.int p2, .int 0, .int 999999]) (rest := []) ⟨hx, hb, hml, hown, hT⟩ (c_X11_within l p2 0 999999) (va_cwS 3 hT (gS t_1 t_3 t_4 t_2) rfl rfl rfl (by decide +kernel) ⟨Nat.le_of_ble_eq_true rfl, Nat.le_of_ble_eq_true rfl⟩) preT rfl rfl hl.1 rfl (lv_room (Nat.le_of_ble_eq_true rfl)) dX11_owes_25 ⟨Nat.le_of_ble_eq_true rfl, Nat.le_of_ble_eq_true rfl⟩) (fun r_5 hr_5 => ?_)
    have hr_5 : BR r_5 (0 ≤ p2.toInt ∧ p2.toInt ≤ 999999) 1 0 := hr_5
    rcases hr_5 with ⟨rfl, h_6⟩ | ⟨rfl, h_6⟩
    · skip
      refine lv_if_ne (tgt := 33) hx hb dX11_owes_28 (by decide) (fun c_7 => ?_) (fun c_7 => absurd c_7 (by decide))
      refine lv_aload hx hb dX11_owes_33 (lv_at hl 0 rfl) ?_
      refine va_get (D := D) (ci := 3) (v := .ref (a 63)) (C := RX3) (T := TX3) (N := 12) hx hb hT iX3 hown hK hP 61 rfl rfl 7 (by decide) (hT _ t_449) (fun _ h9 => h9) rfl dX11_owes_35 ?_
      refine lv_iload_n hx hb dX11_owes_38 rfl (lv_at hl 3 rfl) ?_
      refine lv_iload_n hx hb dX11_owes_39 rfl (lv_at hl 4 rfl) ?_
      refine va_iast hx hb hK hP hD hS 63 0 rfl rfl (vp_inI (by omega) (by omega)) dX11_owes_40 (fun H locs hP hD hS => ?_)
      rw [yS63] at hP hD
      have hRr : yRr (va_up r 63 (upd (r 63) p1.toNatClampNeg p2)) := Yr_upd hRr 63 (p1.toNatClampNeg) p2 ⟨by show (0 : Int) ≤ p2.toInt; omega, by show p2.toInt ≤ (999999 : Int); omega⟩
      have hEr : mEr [63] _ (va_up r 63 (upd (r 63) p1.toNatClampNeg p2)) := Er_up hEr 63 _ (by decide)
      refine lv_iconst (v := 1) hx hb dX11_owes_41 (by decide) ?_
      subst hQ
      exact W.zret hx hb hr rfl (fun t ht hW => ⟨⟨_, (va_up r 63 (upd (r 63) p1.toNatClampNeg p2)), rfl, ⟨hRr, hEr, trivial⟩, by rw [ht]; exact hP, va_K.moved hW.alike hK, hD⟩, hS.F ht⟩) hS.2.2 dX11_owes_42
    · skip
      refine lv_if_ne (tgt := 33) hx hb dX11_owes_28 (by decide) (fun c_8 => absurd (by decide) c_8) (fun c_8 => ?_)
      refine lv_iconst (v := 0) hx hb dX11_owes_31 (by decide) ?_
      subst hQ
      exact W.zret hx hb hr rfl (fun t ht hW => ⟨⟨_, r, rfl, ⟨hRr, hEr, trivial⟩, by rw [ht]; exact hP, va_K.moved hW.alike hK, hD⟩, hS.F ht⟩) hS.2.2 dX11_owes_32
  · skip
    refine lv_if_eq (tgt := 31) hx hb dX11_owes_18 (by decide) (fun c_9 => ?_) (fun c_9 => absurd (by decide) c_9)
    refine lv_iconst (v := 0) hx hb dX11_owes_31 (by decide) ?_
    subst hQ
    exact W.zret hx hb hr rfl (fun t ht hW => ⟨⟨_, r, rfl, ⟨hRr, hEr, trivial⟩, by rw [ht]; exact hP, va_K.moved hW.alike hK, hD⟩, hS.F ht⟩) hS.2.2 dX11_owes_32
set_option maxHeartbeats 4000000 in
set_option maxRecDepth 100000 in
theorem c_X11_owes.b (l : Launch) (D : va_G) (cy : Nat → ClassId) (a : Nat → Nat) (i : Nat → Int32) (r : Nat → Nat → Int32) (q : Nat → Option Nat) (tl : va_W) (p0 p1 p2 : Int32) (hRi : yRi i) (hRr : yRr r) (hh : ¬ (0 ≤ p0.toInt ∧ p0.toInt < (i 0).toInt)) : Met l yX11_owes (Cond.code yX11_owes cX11_owes 5 (some .boolean) :: gT) { frames := 3, cells := 0, slots := 0, locals := 67 } (va_Pc [.ref (a 0), .int p0, .int p1, .int p2] (rP D cy (xW cy a i r q (a 20) (a 12) ++ tl))) (vp_Si (fun z => z = 0)) 0 0 (fun _ => False) := by
  refine Met.ofQ (cc := cX11_owes) (maxL := 5) (ret := (some .boolean)) (by decide) rfl ?_
  intro p e s m args below meth c s₁ B hml hv Q hQ
  obtain ⟨rfl, hP, hK⟩ := hv
  have hx := B.exec
  have hb := B.bytes
  have hr := B.returns
  have hlocks := B.notSynchronized
  have hT : ∀ w ∈ gT, w.before _ s = true := fun w h => atoms_spec (ws := (Cond.code yX11_owes cX11_owes 5 (some .boolean) :: gT)) B.pre w (List.mem_cons_of_mem _ h)
  have hown : s.vm.findClass RX11 = some m.cls := findClass_of_methodNamed B.named
  have hl := lv_entry ([.ref (a 0), .int p0, .int p1, .int p2]) (n := 5) (Nat.le_of_ble_eq_true rfl)
  rw [lg_entry_eq]
  generalize (lg_sl ([.ref (a 0), .int p0, .int p1, .int p2]) ++ List.replicate (5 - (lg_sl ([.ref (a 0), .int p0, .int p1, .int p2])).length) Slot.unset).toArray = ls at hl ⊢
  have hl : lv_has ls 5 [(0, .ref (a 0)), (1, .int p0), (2, .int p1), (3, .int p2)] := hl
  have hEi : mEi [] i i := Ei_rf
  have hEr : mEr [] r r := Er_rf
  refine lv_aload_n hx hb dX11_owes_0 rfl (lv_at hl 0 rfl) ?_
  refine lv_iload_n hx hb dX11_owes_1 rfl (lv_at hl 1 rfl) ?_
  refine va_csq (W.runV (As := [.int p0]) (rest := []) ⟨hx, hb, hml, hown, hT⟩ (c_X11_homeAt l D cy a i r q tl p0 hRi hRr) (cwV 1 hT (gV t_443 t_444 t_445 t_446 t_2) rfl rfl rfl (by decide +kernel) ⟨Nat.le_of_ble_eq_true rfl, Nat.le_of_ble_eq_true rfl⟩) (rP_v hP hK (va_recv hK hP (ci := 11) (q0 := 0) rfl rfl)) rfl rfl hl.1 rfl (lv_room (Nat.le_of_ble_eq_true rfl)) dX11_owes_2 ⟨Nat.le_of_ble_eq_true rfl, Nat.le_of_ble_eq_true rfl⟩) (fun r_1 hr_1 => ?_)
  obtain rfl : r_1 = none := hr_1.2 hh
  refine W.eq (g2 := F0 m 5 ls [.null]) rfl ?_
  refine lv_astoreN (lv' := [(4, .null), (0, .ref (a 0)), (1, .int p0), (2, .int p1), (3, .int p2)]) hx hb dX11_owes_5 hl (by decide) rfl (fun ls hl => ?_)
  refine lv_aloadN hx hb dX11_owes_7 (lv_at hl 0 rfl) ?_
  refine lv_ifnullN (tgt := 31) hx hb dX11_owes_9 (by decide) ?_
  refine lv_iconst (v := 0) hx hb dX11_owes_31 (by decide) ?_
  subst hQ
  exact W.zret hx hb hr rfl (fun t ht hW => ⟨_, rfl, rfl, ht⟩) (fun q hq => absurd hq List.not_mem_nil) dX11_owes_32
set_option maxHeartbeats 4000000 in
set_option maxRecDepth 100000 in
theorem c_X11_first.y (l : Launch) (D : va_G) (cy : Nat → ClassId) (a : Nat → Nat) (i : Nat → Int32) (r : Nat → Nat → Int32) (q : Nat → Option Nat) (tl : va_W) (p0 p1 p2 p3 p4 : Int32) (sz : Nat) (hRi : yRi i) (hRr : yRr r) (hh : 0 ≤ p0.toInt ∧ p0.toInt < (i 0).toInt) (hq : q p0.toNatClampNeg = some (a 61)) : Met l yX11_first (Cond.code yX11_first cX11_first 7 (some .int) :: gT) { frames := 5, cells := 0, slots := 0, locals := 122 } (va_Pc [.ref (a 0), .int p0, .int p1, .int p2, .int p3, .int p4] (rQ D cy (xW cy a i r q (a 20) (a 12) ++ (hW cy a i r ++ tl)) sz)) (va_Qi (fun (z : Int32) (u : (Nat → Int32) × (Nat → Nat → Int32)) => yRi u.1 ∧ yRr u.2 ∧ mEi [23] i u.1 ∧ mEr [6, 7, 66, 67, 68, 69, 75] r u.2 ∧ True) (fun (u : (Nat → Int32) × (Nat → Nat → Int32)) t => va_P D vwCl (xW cy a u.1 u.2 q (a 20) (a 12) ++ (hW cy a u.1 u.2 ++ tl)) t.heap ∧ va_K D vwCl (vT cy) t ∧ va_D (va_A (xW cy a i r q (a 20) (a 12) ++ (hW cy a i r ++ tl)) sz) (xW cy a u.1 u.2 q (a 20) (a 12) ++ (hW cy a u.1 u.2 ++ tl))) (va_A (xW cy a i r q (a 20) (a 12) ++ (hW cy a i r ++ tl)) sz)) 0 0 (va_A (xW cy a i r q (a 20) (a 12) ++ (hW cy a i r ++ tl)) sz) := by
  refine Met.ofQ (cc := cX11_first) (maxL := 7) (ret := (some .int)) (by decide) rfl ?_
  intro p e s m args below meth c s₁ B hml hv Q hQ
  obtain ⟨rfl, hsz, hP, hK, hD0⟩ := hv
  have hx := B.exec
  have hb := B.bytes
  have hr := B.returns
  have hlocks := B.notSynchronized
  have hT : ∀ w ∈ gT, w.before _ s = true := fun w h => atoms_spec (ws := (Cond.code yX11_first cX11_first 7 (some .int) :: gT)) B.pre w (List.mem_cons_of_mem _ h)
  have hown : s.vm.findClass RX11 = some m.cls := findClass_of_methodNamed B.named
  subst hsz
  have hD := hD0.self (sz := s.heap.size)
  generalize hAe : va_A (xW cy a i r q (a 20) (a 12) ++ (hW cy a i r ++ tl)) s.heap.size = A at hD hQ
  have hA : ∀ q : Nat, s.heap.size ≤ q → A q := fun q h => by rw [← hAe]; exact Or.inr h
  have hS : va_S A s.heap s.heap [] := va_S.rf
  have hl := lv_entry ([.ref (a 0), .int p0, .int p1, .int p2, .int p3, .int p4]) (n := 7) (Nat.le_of_ble_eq_true rfl)
  rw [lg_entry_eq]
  generalize (lg_sl ([.ref (a 0), .int p0, .int p1, .int p2, .int p3, .int p4]) ++ List.replicate (7 - (lg_sl ([.ref (a 0), .int p0, .int p1, .int p2, .int p3, .int p4])).length) Slot.unset).toArray = ls at hl ⊢
  have hl : lv_has ls 7 [(0, .ref (a 0)), (1, .int p0), (2, .int p1), (3, .int p2), (4, .int p3), (5, .int p4)] := hl
  have hEi : mEi [23] i i := Ei_rf
  have hEr : mEr [6, 7, 66, 67, 68, 69, 75] r r := Er_rf
  have hg0 : 0 ≤ (i 0).toInt ∧ (i 0).toInt ≤ 6 := hRi 0
  refine lv_aload_n hx hb dX11_first_0 rfl (lv_at hl 0 rfl) ?_
  refine lv_iload_n hx hb dX11_first_1 rfl (lv_at hl 1 rfl) ?_
  refine va_csq (W.runV (As := [.int p0]) (rest := []) ⟨hx, hb, hml, hown, hT⟩ (c_X11_homeAt l D cy a i r q (hW cy a i r ++ tl) p0 hRi hRr) (cwV 1 hT (gV t_443 t_444 t_445 t_446 t_2) rfl rfl rfl (by decide +kernel) ⟨Nat.le_of_ble_eq_true rfl, Nat.le_of_ble_eq_true rfl⟩) (rP_v hP hK (va_recv hK hP (ci := 11) (q0 := 0) rfl rfl)) rfl rfl hl.1 rfl (lv_room (Nat.le_of_ble_eq_true rfl)) dX11_first_2 ⟨Nat.le_of_ble_eq_true rfl, Nat.le_of_ble_eq_true rfl⟩) (fun r_1 hr_1 => ?_)
  obtain rfl : r_1 = some (a 61) := (hr_1.1 hh).trans hq
  refine W.eq (g2 := F0 m 5 ls [.ref (a 61)]) rfl ?_
  refine lv_astore (lv' := [(6, .ref (a 61)), (0, .ref (a 0)), (1, .int p0), (2, .int p1), (3, .int p2), (4, .int p3), (5, .int p4)]) hx hb dX11_first_5 hl (by decide) rfl (fun ls hl => ?_)
  refine lv_aload hx hb dX11_first_7 (lv_at hl 0 rfl) ?_
  refine lv_ifnull hx hb dX11_first_9 ?_
  refine lv_iload_n hx hb dX11_first_12 rfl (lv_at hl 3 rfl) ?_
  refine lv_iload_n hx hb dX11_first_13 rfl (lv_at hl 4 rfl) ?_
  refine lv_iload hx hb dX11_first_14 (lv_at hl 5 rfl) ?_
  refine vp_callSi (W.runS (As := [.int p1, .int p2, .int p3]) (rest := []) ⟨hx, hb, hml, hown, hT⟩ (c_X11_isThing l p1 p2 p3) (va_cwS 3 hT (gS t_450 t_451 t_452 t_2) rfl rfl rfl (by decide +kernel) ⟨Nat.le_of_ble_eq_true rfl, Nat.le_of_ble_eq_true rfl⟩) preT rfl rfl hl.1 rfl (lv_room (Nat.le_of_ble_eq_true rfl)) dX11_first_16 ⟨Nat.le_of_ble_eq_true rfl, Nat.le_of_ble_eq_true rfl⟩) (fun r_2 hr_2 => ?_)
  have hr_2 : BR r_2 ((0 ≤ p1.toInt ∧ p1.toInt ≤ 9) ∧ (0 ≤ p2.toInt ∧ p2.toInt ≤ 7) ∧ (1 ≤ p3.toInt ∧ p3.toInt ≤ 9)) 1 0 := hr_2
  rcases hr_2 with ⟨rfl, h_3⟩ | ⟨rfl, h_3⟩
  · skip
    refine lv_if_eq (tgt := 34) hx hb dX11_first_19 (by decide) (fun c_4 => absurd c_4 (by decide)) (fun c_4 => ?_)
    refine lv_iload hx hb dX11_first_22 (lv_at hl 6 rfl) ?_
    refine lv_iconst (v := 0) hx hb dX11_first_24 (by decide) ?_
    refine lv_sipush (v := 360) hx hb dX11_first_25 (by decide) ?_
    refine vp_callSi (W.runS (As := [.int p4, .int 0, .int 360]) (rest := []) ⟨hx, hb, hml, hown, hT⟩ (c_X11_within l p4 0 360) (va_cwS 3 hT (gS t_1 t_3 t_4 t_2) rfl rfl rfl (by decide +kernel) ⟨Nat.le_of_ble_eq_true rfl, Nat.le_of_ble_eq_true rfl⟩) preT rfl rfl hl.1 rfl (lv_room (Nat.le_of_ble_eq_true rfl)) dX11_first_28 ⟨Nat.le_of_ble_eq_true rfl, Nat.le_of_ble_eq_true rfl⟩) (fun r_5 hr_5 => ?_)
    have hr_5 : BR r_5 (0 ≤ p4.toInt ∧ p4.toInt ≤ 360) 1 0 := hr_5
    rcases hr_5 with ⟨rfl, h_6⟩ | ⟨rfl, h_6⟩
    · skip
      refine lv_if_ne (tgt := 36) hx hb dX11_first_31 (by decide) (fun c_7 => ?_) (fun c_7 => absurd c_7 (by decide))
      refine lv_aload_n hx hb dX11_first_36 rfl (lv_at hl 1 rfl) ?_
      refine lv_aload hx hb dX11_first_37 (lv_at hl 0 rfl) ?_
      refine lv_aload hx hb dX11_first_39 (lv_at hl 0 rfl) ?_
      refine va_get (D := D) (ci := 3) (v := .ref (a 65)) (C := RX3) (T := TX3) (N := 12) hx hb hT iX3 hown hK hP 61 rfl rfl 9 (by decide) (hT _ t_453) (fun _ h9 => h9) rfl dX11_first_41 ?_
      refine lv_iload_n hx hb dX11_first_44 rfl (lv_at hl 3 rfl) ?_
      refine lv_iload_n hx hb dX11_first_45 rfl (lv_at hl 4 rfl) ?_
      refine lv_iload hx hb dX11_first_46 (lv_at hl 5 rfl) ?_
      refine lv_iload hx hb dX11_first_48 (lv_at hl 6 rfl) ?_
      have hF_8 := rF hD hS hA
      refine va_calli (va_runV (As := [.int p1, .int p2, .int p3, .int p4]) (rest := [.ref (a 61), .ref (a 0)]) ⟨hx, hb, hml, hown, hT⟩ (c_X10_add_r65 l D cy a i r q tl p1 p2 p3 p4 _ hRi hRr (by first | omega | decide) (by first | omega | decide) (by first | omega | decide) (by first | omega | decide)) (cwV 4 hT (gV t_454 t_455 t_456 t_457 t_413) rfl rfl rfl (by decide +kernel) ⟨Nat.le_of_ble_eq_true rfl, Nat.le_of_ble_eq_true rfl⟩) (rQ_v hP hK hD (va_recv hK hP (ci := 10) (q0 := 65) rfl rfl)) rfl rfl hl.1 rfl (lv_room (Nat.le_of_ble_eq_true rfl)) dX11_first_50 ⟨Nat.le_of_ble_eq_true rfl, Nat.le_of_ble_eq_true rfl⟩) hS (fun q _ h => hF_8 q h) hF_8 (fun r_9 u_10 t H1 locs ht hvm hr_9 hB hz1 hk1 hS => ?_)
      obtain ⟨i10, r10⟩ := u_10
      obtain ⟨hP, hK1, hD1⟩ := hB
      rw [ht] at hP
      have hD := hD1.weaken (fun k q _ h => hF_8 q.1 h)
      obtain ⟨hRi, hRr, hE1, hE2, hr_9⟩ := hr_9
      have hRi : yRi i10 := hRi
      have hE1 : mEi [23] i i10 := hE1
      have hRr : yRr r10 := hRr
      have hE2 : mEr [66, 67, 68, 69] r r10 := hE2
      have hP : va_P D vwCl (xW cy a i10 r10 q (a 20) (a 12) ++ (hW cy a i10 r10 ++ tl)) H1 := hP
      have hD : va_D A (xW cy a i10 r10 q (a 20) (a 12) ++ (hW cy a i10 r10 ++ tl)) := hD
      have hEi : mEi [23] _ i10 := Ei_tr hEi hE1 (by decide)
      have hEr : mEr [6, 7, 66, 67, 68, 69, 75] _ r10 := Er_tr hEr hE2 (by decide)
      refine lv_iload_n hx hb dX11_first_53 rfl (lv_at hl 3 rfl) ?_
      refine lv_iload_n hx hb dX11_first_54 rfl (lv_at hl 4 rfl) ?_
      have hF_11 := rF hD hS hA
      refine va_calli (va_runV (As := [.ref (a 61), .int r_9, .int p1, .int p2]) (rest := []) ⟨hx, hb, hml, hown, hT⟩ (c_X11_listed l D cy a i10 r10 q tl r_9 p1 p2 _ hRi hRr) (cwV 4 hT (gV t_458 t_459 t_460 t_461 t_2) rfl rfl rfl (by decide +kernel) ⟨Nat.le_of_ble_eq_true rfl, Nat.le_of_ble_eq_true rfl⟩) (rQ_v hP hK hD (va_recv hK hP (ci := 11) (q0 := 0) rfl rfl)) rfl rfl hl.1 rfl (lv_room (Nat.le_of_ble_eq_true rfl)) dX11_first_55 ⟨Nat.le_of_ble_eq_true rfl, Nat.le_of_ble_eq_true rfl⟩) hS (fun q _ h => hF_11 q h) hF_11 (fun r_12 u_13 t H1 locs ht hvm hr_12 hB hz1 hk1 hS => ?_)
      obtain ⟨r13, rfl⟩ : ∃ z, z = u_13 := ⟨_, rfl⟩
      obtain ⟨hP, hK1, hD1⟩ := hB
      rw [ht] at hP
      have hD := hD1.weaken (fun k q _ h => hF_11 q.1 h)
      obtain ⟨hRr, hE2, hr_12⟩ := hr_12
      have hRr : yRr r13 := hRr
      have hE2 : mEr [6, 7, 75] r10 r13 := hE2
      have hP : va_P D vwCl (xW cy a i10 r13 q (a 20) (a 12) ++ (hW cy a i10 r13 ++ tl)) H1 := hP
      have hD : va_D A (xW cy a i10 r13 q (a 20) (a 12) ++ (hW cy a i10 r13 ++ tl)) := hD
      have hEr : mEr [6, 7, 66, 67, 68, 69, 75] _ r13 := Er_tr hEr hE2 (by decide)
      subst hQ
      exact W.iret (v := r_12) hx hb hr (fun t ht hW => ⟨⟨_, (i10, r13), rfl, ⟨hRi, hRr, hEi, hEr, trivial⟩, by rw [ht]; exact hP, va_K.moved hW.alike hK, hD⟩, hS.F ht⟩) hS.2.2 dX11_first_58
    · skip
      refine lv_if_ne (tgt := 36) hx hb dX11_first_31 (by decide) (fun c_14 => absurd (by decide) c_14) (fun c_14 => ?_)
      refine lv_iconst (v := (-1)) hx hb dX11_first_34 (by decide) ?_
      subst hQ
      exact W.iret (v := (-1)) hx hb hr (fun t ht hW => ⟨⟨_, (i, r), rfl, ⟨hRi, hRr, hEi, hEr, trivial⟩, by rw [ht]; exact hP, va_K.moved hW.alike hK, hD⟩, hS.F ht⟩) hS.2.2 dX11_first_35
  · skip
    refine lv_if_eq (tgt := 34) hx hb dX11_first_19 (by decide) (fun c_15 => ?_) (fun c_15 => absurd (by decide) c_15)
    refine lv_iconst (v := (-1)) hx hb dX11_first_34 (by decide) ?_
    subst hQ
    exact W.iret (v := (-1)) hx hb hr (fun t ht hW => ⟨⟨_, (i, r), rfl, ⟨hRi, hRr, hEi, hEr, trivial⟩, by rw [ht]; exact hP, va_K.moved hW.alike hK, hD⟩, hS.F ht⟩) hS.2.2 dX11_first_35
set_option maxHeartbeats 4000000 in
set_option maxRecDepth 100000 in
theorem c_X11_first.b (l : Launch) (D : va_G) (cy : Nat → ClassId) (a : Nat → Nat) (i : Nat → Int32) (r : Nat → Nat → Int32) (q : Nat → Option Nat) (tl : va_W) (p0 p1 p2 p3 p4 : Int32) (hRi : yRi i) (hRr : yRr r) (hh : ¬ (0 ≤ p0.toInt ∧ p0.toInt < (i 0).toInt)) : Met l yX11_first (Cond.code yX11_first cX11_first 7 (some .int) :: gT) { frames := 3, cells := 0, slots := 0, locals := 67 } (va_Pc [.ref (a 0), .int p0, .int p1, .int p2, .int p3, .int p4] (rP D cy (xW cy a i r q (a 20) (a 12) ++ tl))) (vp_Si (fun z => z = (-1))) 0 0 (fun _ => False) := by
  refine Met.ofQ (cc := cX11_first) (maxL := 7) (ret := (some .int)) (by decide) rfl ?_
  intro p e s m args below meth c s₁ B hml hv Q hQ
  obtain ⟨rfl, hP, hK⟩ := hv
  have hx := B.exec
  have hb := B.bytes
  have hr := B.returns
  have hlocks := B.notSynchronized
  have hT : ∀ w ∈ gT, w.before _ s = true := fun w h => atoms_spec (ws := (Cond.code yX11_first cX11_first 7 (some .int) :: gT)) B.pre w (List.mem_cons_of_mem _ h)
  have hown : s.vm.findClass RX11 = some m.cls := findClass_of_methodNamed B.named
  have hl := lv_entry ([.ref (a 0), .int p0, .int p1, .int p2, .int p3, .int p4]) (n := 7) (Nat.le_of_ble_eq_true rfl)
  rw [lg_entry_eq]
  generalize (lg_sl ([.ref (a 0), .int p0, .int p1, .int p2, .int p3, .int p4]) ++ List.replicate (7 - (lg_sl ([.ref (a 0), .int p0, .int p1, .int p2, .int p3, .int p4])).length) Slot.unset).toArray = ls at hl ⊢
  have hl : lv_has ls 7 [(0, .ref (a 0)), (1, .int p0), (2, .int p1), (3, .int p2), (4, .int p3), (5, .int p4)] := hl
  have hEi : mEi [] i i := Ei_rf
  have hEr : mEr [] r r := Er_rf
  refine lv_aload_n hx hb dX11_first_0 rfl (lv_at hl 0 rfl) ?_
  refine lv_iload_n hx hb dX11_first_1 rfl (lv_at hl 1 rfl) ?_
  refine va_csq (W.runV (As := [.int p0]) (rest := []) ⟨hx, hb, hml, hown, hT⟩ (c_X11_homeAt l D cy a i r q tl p0 hRi hRr) (cwV 1 hT (gV t_443 t_444 t_445 t_446 t_2) rfl rfl rfl (by decide +kernel) ⟨Nat.le_of_ble_eq_true rfl, Nat.le_of_ble_eq_true rfl⟩) (rP_v hP hK (va_recv hK hP (ci := 11) (q0 := 0) rfl rfl)) rfl rfl hl.1 rfl (lv_room (Nat.le_of_ble_eq_true rfl)) dX11_first_2 ⟨Nat.le_of_ble_eq_true rfl, Nat.le_of_ble_eq_true rfl⟩) (fun r_1 hr_1 => ?_)
  obtain rfl : r_1 = none := hr_1.2 hh
  refine W.eq (g2 := F0 m 5 ls [.null]) rfl ?_
  refine lv_astoreN (lv' := [(6, .null), (0, .ref (a 0)), (1, .int p0), (2, .int p1), (3, .int p2), (4, .int p3), (5, .int p4)]) hx hb dX11_first_5 hl (by decide) rfl (fun ls hl => ?_)
  refine lv_aloadN hx hb dX11_first_7 (lv_at hl 0 rfl) ?_
  refine lv_ifnullN (tgt := 34) hx hb dX11_first_9 (by decide) ?_
  refine lv_iconst (v := (-1)) hx hb dX11_first_34 (by decide) ?_
  subst hQ
  exact W.iret (v := (-1)) hx hb hr (fun t ht hW => ⟨_, rfl, rfl, ht⟩) (fun q hq => absurd hq List.not_mem_nil) dX11_first_35
set_option maxHeartbeats 4000000 in
set_option maxRecDepth 100000 in
theorem c_X11_last.y (l : Launch) (D : va_G) (cy : Nat → ClassId) (a : Nat → Nat) (i : Nat → Int32) (r : Nat → Nat → Int32) (q : Nat → Option Nat) (tl : va_W) (p0 p1 p2 p3 : Int32) (sz : Nat) (hRi : yRi i) (hRr : yRr r) (hh : 0 ≤ p0.toInt ∧ p0.toInt < (i 0).toInt) (hq : q p0.toNatClampNeg = some (a 61)) : Met l yX11_last (Cond.code yX11_last cX11_last 6 (some .int) :: gT) { frames := 5, cells := 0, slots := 0, locals := 122 } (va_Pc [.ref (a 0), .int p0, .int p1, .int p2, .int p3] (rQ D cy (xW cy a i r q (a 20) (a 12) ++ (hW cy a i r ++ tl)) sz)) (va_Qi (fun (z : Int32) (u : (Nat → Int32) × (Nat → Nat → Int32)) => yRi u.1 ∧ yRr u.2 ∧ mEi [24] i u.1 ∧ mEr [6, 7, 71, 72, 73, 74, 75] r u.2 ∧ True) (fun (u : (Nat → Int32) × (Nat → Nat → Int32)) t => va_P D vwCl (xW cy a u.1 u.2 q (a 20) (a 12) ++ (hW cy a u.1 u.2 ++ tl)) t.heap ∧ va_K D vwCl (vT cy) t ∧ va_D (va_A (xW cy a i r q (a 20) (a 12) ++ (hW cy a i r ++ tl)) sz) (xW cy a u.1 u.2 q (a 20) (a 12) ++ (hW cy a u.1 u.2 ++ tl))) (va_A (xW cy a i r q (a 20) (a 12) ++ (hW cy a i r ++ tl)) sz)) 0 0 (va_A (xW cy a i r q (a 20) (a 12) ++ (hW cy a i r ++ tl)) sz) := by
  refine Met.ofQ (cc := cX11_last) (maxL := 6) (ret := (some .int)) (by decide) rfl ?_
  intro p e s m args below meth c s₁ B hml hv Q hQ
  obtain ⟨rfl, hsz, hP, hK, hD0⟩ := hv
  have hx := B.exec
  have hb := B.bytes
  have hr := B.returns
  have hlocks := B.notSynchronized
  have hT : ∀ w ∈ gT, w.before _ s = true := fun w h => atoms_spec (ws := (Cond.code yX11_last cX11_last 6 (some .int) :: gT)) B.pre w (List.mem_cons_of_mem _ h)
  have hown : s.vm.findClass RX11 = some m.cls := findClass_of_methodNamed B.named
  subst hsz
  have hD := hD0.self (sz := s.heap.size)
  generalize hAe : va_A (xW cy a i r q (a 20) (a 12) ++ (hW cy a i r ++ tl)) s.heap.size = A at hD hQ
  have hA : ∀ q : Nat, s.heap.size ≤ q → A q := fun q h => by rw [← hAe]; exact Or.inr h
  have hS : va_S A s.heap s.heap [] := va_S.rf
  have hl := lv_entry ([.ref (a 0), .int p0, .int p1, .int p2, .int p3]) (n := 6) (Nat.le_of_ble_eq_true rfl)
  rw [lg_entry_eq]
  generalize (lg_sl ([.ref (a 0), .int p0, .int p1, .int p2, .int p3]) ++ List.replicate (6 - (lg_sl ([.ref (a 0), .int p0, .int p1, .int p2, .int p3])).length) Slot.unset).toArray = ls at hl ⊢
  have hl : lv_has ls 6 [(0, .ref (a 0)), (1, .int p0), (2, .int p1), (3, .int p2), (4, .int p3)] := hl
  have hEi : mEi [24] i i := Ei_rf
  have hEr : mEr [6, 7, 71, 72, 73, 74, 75] r r := Er_rf
  have hg0 : 0 ≤ (i 0).toInt ∧ (i 0).toInt ≤ 6 := hRi 0
  refine lv_aload_n hx hb dX11_last_0 rfl (lv_at hl 0 rfl) ?_
  refine lv_iload_n hx hb dX11_last_1 rfl (lv_at hl 1 rfl) ?_
  refine va_csq (W.runV (As := [.int p0]) (rest := []) ⟨hx, hb, hml, hown, hT⟩ (c_X11_homeAt l D cy a i r q (hW cy a i r ++ tl) p0 hRi hRr) (cwV 1 hT (gV t_443 t_444 t_445 t_446 t_2) rfl rfl rfl (by decide +kernel) ⟨Nat.le_of_ble_eq_true rfl, Nat.le_of_ble_eq_true rfl⟩) (rP_v hP hK (va_recv hK hP (ci := 11) (q0 := 0) rfl rfl)) rfl rfl hl.1 rfl (lv_room (Nat.le_of_ble_eq_true rfl)) dX11_last_2 ⟨Nat.le_of_ble_eq_true rfl, Nat.le_of_ble_eq_true rfl⟩) (fun r_1 hr_1 => ?_)
  obtain rfl : r_1 = some (a 61) := (hr_1.1 hh).trans hq
  refine W.eq (g2 := F0 m 5 ls [.ref (a 61)]) rfl ?_
  refine lv_astore (lv' := [(5, .ref (a 61)), (0, .ref (a 0)), (1, .int p0), (2, .int p1), (3, .int p2), (4, .int p3)]) hx hb dX11_last_5 hl (by decide) rfl (fun ls hl => ?_)
  refine lv_aload hx hb dX11_last_7 (lv_at hl 0 rfl) ?_
  refine lv_ifnull hx hb dX11_last_9 ?_
  refine lv_iload_n hx hb dX11_last_12 rfl (lv_at hl 3 rfl) ?_
  refine lv_iload_n hx hb dX11_last_13 rfl (lv_at hl 4 rfl) ?_
  refine lv_iload hx hb dX11_last_14 (lv_at hl 5 rfl) ?_
  refine vp_callSi (W.runS (As := [.int p1, .int p2, .int p3]) (rest := []) ⟨hx, hb, hml, hown, hT⟩ (c_X11_isThing l p1 p2 p3) (va_cwS 3 hT (gS t_450 t_451 t_452 t_2) rfl rfl rfl (by decide +kernel) ⟨Nat.le_of_ble_eq_true rfl, Nat.le_of_ble_eq_true rfl⟩) preT rfl rfl hl.1 rfl (lv_room (Nat.le_of_ble_eq_true rfl)) dX11_last_16 ⟨Nat.le_of_ble_eq_true rfl, Nat.le_of_ble_eq_true rfl⟩) (fun r_2 hr_2 => ?_)
  have hr_2 : BR r_2 ((0 ≤ p1.toInt ∧ p1.toInt ≤ 9) ∧ (0 ≤ p2.toInt ∧ p2.toInt ≤ 7) ∧ (1 ≤ p3.toInt ∧ p3.toInt ≤ 9)) 1 0 := hr_2
  rcases hr_2 with ⟨rfl, h_3⟩ | ⟨rfl, h_3⟩
  · skip
    refine lv_if_ne (tgt := 24) hx hb dX11_last_19 (by decide) (fun c_4 => ?_) (fun c_4 => absurd c_4 (by decide))
    refine lv_aload_n hx hb dX11_last_24 rfl (lv_at hl 1 rfl) ?_
    refine lv_aload hx hb dX11_last_25 (lv_at hl 0 rfl) ?_
    refine lv_aload hx hb dX11_last_27 (lv_at hl 0 rfl) ?_
    refine va_get (D := D) (ci := 3) (v := .ref (a 70)) (C := RX3) (T := TX3) (N := 12) hx hb hT iX3 hown hK hP 61 rfl rfl 10 (by decide) (hT _ t_462) (fun _ h9 => h9) rfl dX11_last_29 ?_
    refine lv_iload_n hx hb dX11_last_32 rfl (lv_at hl 3 rfl) ?_
    refine lv_iload_n hx hb dX11_last_33 rfl (lv_at hl 4 rfl) ?_
    refine lv_iload hx hb dX11_last_34 (lv_at hl 5 rfl) ?_
    refine lv_iconst (v := 0) hx hb dX11_last_36 (by decide) ?_
    have hF_5 := rF hD hS hA
    refine va_calli (va_runV (As := [.int p1, .int p2, .int p3, .int 0]) (rest := [.ref (a 61), .ref (a 0)]) ⟨hx, hb, hml, hown, hT⟩ (c_X10_add_r70 l D cy a i r q tl p1 p2 p3 0 _ hRi hRr (by first | omega | decide) (by first | omega | decide) (by first | omega | decide) (by first | omega | decide)) (cwV 4 hT (gV t_454 t_455 t_456 t_457 t_413) rfl rfl rfl (by decide +kernel) ⟨Nat.le_of_ble_eq_true rfl, Nat.le_of_ble_eq_true rfl⟩) (rQ_v hP hK hD (va_recv hK hP (ci := 10) (q0 := 70) rfl rfl)) rfl rfl hl.1 rfl (lv_room (Nat.le_of_ble_eq_true rfl)) dX11_last_37 ⟨Nat.le_of_ble_eq_true rfl, Nat.le_of_ble_eq_true rfl⟩) hS (fun q _ h => hF_5 q h) hF_5 (fun r_6 u_7 t H1 locs ht hvm hr_6 hB hz1 hk1 hS => ?_)
    obtain ⟨i7, r7⟩ := u_7
    obtain ⟨hP, hK1, hD1⟩ := hB
    rw [ht] at hP
    have hD := hD1.weaken (fun k q _ h => hF_5 q.1 h)
    obtain ⟨hRi, hRr, hE1, hE2, hr_6⟩ := hr_6
    have hRi : yRi i7 := hRi
    have hE1 : mEi [24] i i7 := hE1
    have hRr : yRr r7 := hRr
    have hE2 : mEr [71, 72, 73, 74] r r7 := hE2
    have hP : va_P D vwCl (xW cy a i7 r7 q (a 20) (a 12) ++ (hW cy a i7 r7 ++ tl)) H1 := hP
    have hD : va_D A (xW cy a i7 r7 q (a 20) (a 12) ++ (hW cy a i7 r7 ++ tl)) := hD
    have hEi : mEi [24] _ i7 := Ei_tr hEi hE1 (by decide)
    have hEr : mEr [6, 7, 71, 72, 73, 74, 75] _ r7 := Er_tr hEr hE2 (by decide)
    refine lv_iload_n hx hb dX11_last_40 rfl (lv_at hl 3 rfl) ?_
    refine lv_iload_n hx hb dX11_last_41 rfl (lv_at hl 4 rfl) ?_
    have hF_8 := rF hD hS hA
    refine va_calli (va_runV (As := [.ref (a 61), .int r_6, .int p1, .int p2]) (rest := []) ⟨hx, hb, hml, hown, hT⟩ (c_X11_listed l D cy a i7 r7 q tl r_6 p1 p2 _ hRi hRr) (cwV 4 hT (gV t_458 t_459 t_460 t_461 t_2) rfl rfl rfl (by decide +kernel) ⟨Nat.le_of_ble_eq_true rfl, Nat.le_of_ble_eq_true rfl⟩) (rQ_v hP hK hD (va_recv hK hP (ci := 11) (q0 := 0) rfl rfl)) rfl rfl hl.1 rfl (lv_room (Nat.le_of_ble_eq_true rfl)) dX11_last_42 ⟨Nat.le_of_ble_eq_true rfl, Nat.le_of_ble_eq_true rfl⟩) hS (fun q _ h => hF_8 q h) hF_8 (fun r_9 u_10 t H1 locs ht hvm hr_9 hB hz1 hk1 hS => ?_)
    obtain ⟨r10, rfl⟩ : ∃ z, z = u_10 := ⟨_, rfl⟩
    obtain ⟨hP, hK1, hD1⟩ := hB
    rw [ht] at hP
    have hD := hD1.weaken (fun k q _ h => hF_8 q.1 h)
    obtain ⟨hRr, hE2, hr_9⟩ := hr_9
    have hRr : yRr r10 := hRr
    have hE2 : mEr [6, 7, 75] r7 r10 := hE2
    have hP : va_P D vwCl (xW cy a i7 r10 q (a 20) (a 12) ++ (hW cy a i7 r10 ++ tl)) H1 := hP
    have hD : va_D A (xW cy a i7 r10 q (a 20) (a 12) ++ (hW cy a i7 r10 ++ tl)) := hD
    have hEr : mEr [6, 7, 71, 72, 73, 74, 75] _ r10 := Er_tr hEr hE2 (by decide)
    subst hQ
    exact W.iret (v := r_9) hx hb hr (fun t ht hW => ⟨⟨_, (i7, r10), rfl, ⟨hRi, hRr, hEi, hEr, trivial⟩, by rw [ht]; exact hP, va_K.moved hW.alike hK, hD⟩, hS.F ht⟩) hS.2.2 dX11_last_45
  · skip
    refine lv_if_ne (tgt := 24) hx hb dX11_last_19 (by decide) (fun c_11 => absurd (by decide) c_11) (fun c_11 => ?_)
    refine lv_iconst (v := (-1)) hx hb dX11_last_22 (by decide) ?_
    subst hQ
    exact W.iret (v := (-1)) hx hb hr (fun t ht hW => ⟨⟨_, (i, r), rfl, ⟨hRi, hRr, hEi, hEr, trivial⟩, by rw [ht]; exact hP, va_K.moved hW.alike hK, hD⟩, hS.F ht⟩) hS.2.2 dX11_last_23
set_option maxHeartbeats 4000000 in
set_option maxRecDepth 100000 in
theorem c_X11_last.b (l : Launch) (D : va_G) (cy : Nat → ClassId) (a : Nat → Nat) (i : Nat → Int32) (r : Nat → Nat → Int32) (q : Nat → Option Nat) (tl : va_W) (p0 p1 p2 p3 : Int32) (hRi : yRi i) (hRr : yRr r) (hh : ¬ (0 ≤ p0.toInt ∧ p0.toInt < (i 0).toInt)) : Met l yX11_last (Cond.code yX11_last cX11_last 6 (some .int) :: gT) { frames := 3, cells := 0, slots := 0, locals := 67 } (va_Pc [.ref (a 0), .int p0, .int p1, .int p2, .int p3] (rP D cy (xW cy a i r q (a 20) (a 12) ++ tl))) (vp_Si (fun z => z = (-1))) 0 0 (fun _ => False) := by
  refine Met.ofQ (cc := cX11_last) (maxL := 6) (ret := (some .int)) (by decide) rfl ?_
  intro p e s m args below meth c s₁ B hml hv Q hQ
  obtain ⟨rfl, hP, hK⟩ := hv
  have hx := B.exec
  have hb := B.bytes
  have hr := B.returns
  have hlocks := B.notSynchronized
  have hT : ∀ w ∈ gT, w.before _ s = true := fun w h => atoms_spec (ws := (Cond.code yX11_last cX11_last 6 (some .int) :: gT)) B.pre w (List.mem_cons_of_mem _ h)
  have hown : s.vm.findClass RX11 = some m.cls := findClass_of_methodNamed B.named
  have hl := lv_entry ([.ref (a 0), .int p0, .int p1, .int p2, .int p3]) (n := 6) (Nat.le_of_ble_eq_true rfl)
  rw [lg_entry_eq]
  generalize (lg_sl ([.ref (a 0), .int p0, .int p1, .int p2, .int p3]) ++ List.replicate (6 - (lg_sl ([.ref (a 0), .int p0, .int p1, .int p2, .int p3])).length) Slot.unset).toArray = ls at hl ⊢
  have hl : lv_has ls 6 [(0, .ref (a 0)), (1, .int p0), (2, .int p1), (3, .int p2), (4, .int p3)] := hl
  have hEi : mEi [] i i := Ei_rf
  have hEr : mEr [] r r := Er_rf
  refine lv_aload_n hx hb dX11_last_0 rfl (lv_at hl 0 rfl) ?_
  refine lv_iload_n hx hb dX11_last_1 rfl (lv_at hl 1 rfl) ?_
  refine va_csq (W.runV (As := [.int p0]) (rest := []) ⟨hx, hb, hml, hown, hT⟩ (c_X11_homeAt l D cy a i r q tl p0 hRi hRr) (cwV 1 hT (gV t_443 t_444 t_445 t_446 t_2) rfl rfl rfl (by decide +kernel) ⟨Nat.le_of_ble_eq_true rfl, Nat.le_of_ble_eq_true rfl⟩) (rP_v hP hK (va_recv hK hP (ci := 11) (q0 := 0) rfl rfl)) rfl rfl hl.1 rfl (lv_room (Nat.le_of_ble_eq_true rfl)) dX11_last_2 ⟨Nat.le_of_ble_eq_true rfl, Nat.le_of_ble_eq_true rfl⟩) (fun r_1 hr_1 => ?_)
  obtain rfl : r_1 = none := hr_1.2 hh
  refine W.eq (g2 := F0 m 5 ls [.null]) rfl ?_
  refine lv_astoreN (lv' := [(5, .null), (0, .ref (a 0)), (1, .int p0), (2, .int p1), (3, .int p2), (4, .int p3)]) hx hb dX11_last_5 hl (by decide) rfl (fun ls hl => ?_)
  refine lv_aloadN hx hb dX11_last_7 (lv_at hl 0 rfl) ?_
  refine lv_ifnullN (tgt := 22) hx hb dX11_last_9 (by decide) ?_
  refine lv_iconst (v := (-1)) hx hb dX11_last_22 (by decide) ?_
  subst hQ
  exact W.iret (v := (-1)) hx hb hr (fun t ht hW => ⟨_, rfl, rfl, ht⟩) (fun q hq => absurd hq List.not_mem_nil) dX11_last_23
set_option maxHeartbeats 4000000 in
set_option maxRecDepth 100000 in
theorem c_X11_isNew.y (l : Launch) (D : va_G) (cy : Nat → ClassId) (a : Nat → Nat) (i : Nat → Int32) (r : Nat → Nat → Int32) (q : Nat → Option Nat) (tl : va_W) (p0 p1 : Int32) (hRi : yRi i) (hRr : yRr r) (hh : 0 ≤ p0.toInt ∧ p0.toInt < (i 0).toInt) (hq : q p0.toNatClampNeg = some (a 61)) : Met l yX11_isNew (Cond.code yX11_isNew cX11_isNew 4 (some .int) :: gT) { frames := 3, cells := 0, slots := 0, locals := 67 } (va_Pc [.ref (a 0), .int p0, .int p1] (rP D cy (xW cy a i r q (a 20) (a 12) ++ (hW cy a i r ++ tl)))) (vp_Si (fun z => True)) 0 0 (fun _ => False) := by
  refine Met.ofQ (cc := cX11_isNew) (maxL := 4) (ret := (some .int)) (by decide) rfl ?_
  intro p e s m args below meth c s₁ B hml hv Q hQ
  obtain ⟨rfl, hP, hK⟩ := hv
  have hx := B.exec
  have hb := B.bytes
  have hr := B.returns
  have hlocks := B.notSynchronized
  have hT : ∀ w ∈ gT, w.before _ s = true := fun w h => atoms_spec (ws := (Cond.code yX11_isNew cX11_isNew 4 (some .int) :: gT)) B.pre w (List.mem_cons_of_mem _ h)
  have hown : s.vm.findClass RX11 = some m.cls := findClass_of_methodNamed B.named
  have hl := lv_entry ([.ref (a 0), .int p0, .int p1]) (n := 4) (Nat.le_of_ble_eq_true rfl)
  rw [lg_entry_eq]
  generalize (lg_sl ([.ref (a 0), .int p0, .int p1]) ++ List.replicate (4 - (lg_sl ([.ref (a 0), .int p0, .int p1])).length) Slot.unset).toArray = ls at hl ⊢
  have hl : lv_has ls 4 [(0, .ref (a 0)), (1, .int p0), (2, .int p1)] := hl
  have hEi : mEi [] i i := Ei_rf
  have hEr : mEr [] r r := Er_rf
  have hg0 : 0 ≤ (i 0).toInt ∧ (i 0).toInt ≤ 6 := hRi 0
  refine lv_aload_n hx hb dX11_isNew_0 rfl (lv_at hl 0 rfl) ?_
  refine lv_iload_n hx hb dX11_isNew_1 rfl (lv_at hl 1 rfl) ?_
  refine va_csq (W.runV (As := [.int p0]) (rest := []) ⟨hx, hb, hml, hown, hT⟩ (c_X11_homeAt l D cy a i r q (hW cy a i r ++ tl) p0 hRi hRr) (cwV 1 hT (gV t_443 t_444 t_445 t_446 t_2) rfl rfl rfl (by decide +kernel) ⟨Nat.le_of_ble_eq_true rfl, Nat.le_of_ble_eq_true rfl⟩) (rP_v hP hK (va_recv hK hP (ci := 11) (q0 := 0) rfl rfl)) rfl rfl hl.1 rfl (lv_room (Nat.le_of_ble_eq_true rfl)) dX11_isNew_2 ⟨Nat.le_of_ble_eq_true rfl, Nat.le_of_ble_eq_true rfl⟩) (fun r_1 hr_1 => ?_)
  obtain rfl : r_1 = some (a 61) := (hr_1.1 hh).trans hq
  refine W.eq (g2 := F0 m 5 ls [.ref (a 61)]) rfl ?_
  refine lv_astore_n (lv' := [(3, .ref (a 61)), (0, .ref (a 0)), (1, .int p0), (2, .int p1)]) hx hb dX11_isNew_5 rfl hl (by decide) rfl (fun ls hl => ?_)
  refine lv_aload_n hx hb dX11_isNew_6 rfl (lv_at hl 0 rfl) ?_
  refine lv_ifnull hx hb dX11_isNew_7 ?_
  refine lv_iload_n hx hb dX11_isNew_10 rfl (lv_at hl 3 rfl) ?_
  refine lv_iconst (v := 0) hx hb dX11_isNew_11 (by decide) ?_
  refine lv_aload_n hx hb dX11_isNew_12 rfl (lv_at hl 0 rfl) ?_
  refine va_get (D := D) (ci := 3) (v := .ref (a 70)) (C := RX3) (T := TX3) (N := 12) hx hb hT iX3 hown hK hP 61 rfl rfl 10 (by decide) (hT _ t_462) (fun _ h9 => h9) rfl dX11_isNew_13 ?_
  refine va_get (D := D) (ci := 10) (v := .int (i 24)) (C := RX10) (T := TX10) (N := 5) hx hb hT iX10 hown hK hP 70 rfl rfl 0 (by decide) (hT _ t_463) (fun _ h9 => h9) rfl dX11_isNew_16 ?_
  have hg_2 : 0 ≤ (i 24).toInt ∧ (i 24).toInt ≤ 20 := hRi 24
  refine lv_iconst (v := 1) hx hb dX11_isNew_19 (by decide) ?_
  refine lv_isub hx hb dX11_isNew_20 ?_
  refine lv_topi (fun v_3 ev_3 => ?_)
  have hv_3 : v_3.toInt = (i 24).toInt - 1 := by rw [ev_3]; have := b_rg (i 24); exact i_sub (a := (i 24).toInt) (b := 1) rfl rfl (by omega) (by omega)
  refine vp_callSi (W.runS (As := [.int p1, .int 0, .int v_3]) (rest := []) ⟨hx, hb, hml, hown, hT⟩ (c_X11_within l p1 0 v_3) (va_cwS 3 hT (gS t_1 t_3 t_4 t_2) rfl rfl rfl (by decide +kernel) ⟨Nat.le_of_ble_eq_true rfl, Nat.le_of_ble_eq_true rfl⟩) preT rfl rfl hl.1 rfl (lv_room (Nat.le_of_ble_eq_true rfl)) dX11_isNew_21 ⟨Nat.le_of_ble_eq_true rfl, Nat.le_of_ble_eq_true rfl⟩) (fun r_4 hr_4 => ?_)
  have hr_4 : BR r_4 (0 ≤ p1.toInt ∧ p1.toInt ≤ v_3.toInt) 1 0 := hr_4
  rcases hr_4 with ⟨rfl, h_5⟩ | ⟨rfl, h_5⟩
  · skip
    refine lv_if_ne (tgt := 29) hx hb dX11_isNew_24 (by decide) (fun c_6 => ?_) (fun c_6 => absurd c_6 (by decide))
    refine lv_aload_n hx hb dX11_isNew_29 rfl (lv_at hl 0 rfl) ?_
    refine lv_iload_n hx hb dX11_isNew_30 rfl (lv_at hl 3 rfl) ?_
    refine vp_callSi (W.runV (As := [.int p1]) (rest := []) ⟨hx, hb, hml, hown, hT⟩ (c_X3_isJoinedTo l D cy a i r q tl p1 hRi hRr) (cwV 1 hT (gV t_464 t_465 t_466 t_467 t_391) rfl rfl rfl (by decide +kernel) ⟨Nat.le_of_ble_eq_true rfl, Nat.le_of_ble_eq_true rfl⟩) (rP_v hP hK (va_recv hK hP (ci := 3) (q0 := 61) rfl rfl)) rfl rfl hl.1 rfl (lv_room (Nat.le_of_ble_eq_true rfl)) dX11_isNew_31 ⟨Nat.le_of_ble_eq_true rfl, Nat.le_of_ble_eq_true rfl⟩) (fun r_7 hr_7 => ?_)
    rcases hr_7 with rfl | rfl
    · skip
      refine lv_if_eq (tgt := 41) hx hb dX11_isNew_34 (by decide) (fun c_8 => ?_) (fun c_8 => absurd (by decide) c_8)
      refine lv_iconst (v := 1) hx hb dX11_isNew_41 (by decide) ?_
      subst hQ
      exact W.iret (v := 1) hx hb hr (fun t ht hW => ⟨_, rfl, trivial, ht⟩) (fun q hq => absurd hq List.not_mem_nil) dX11_isNew_42
    · skip
      refine lv_if_eq (tgt := 41) hx hb dX11_isNew_34 (by decide) (fun c_9 => absurd c_9 (by decide)) (fun c_9 => ?_)
      refine lv_iconst (v := 0) hx hb dX11_isNew_37 (by decide) ?_
      refine lv_goto (tgt := 42) hx hb dX11_isNew_38 (by decide) ?_
      subst hQ
      exact W.iret (v := 0) hx hb hr (fun t ht hW => ⟨_, rfl, trivial, ht⟩) (fun q hq => absurd hq List.not_mem_nil) dX11_isNew_42
  · skip
    refine lv_if_ne (tgt := 29) hx hb dX11_isNew_24 (by decide) (fun c_10 => absurd (by decide) c_10) (fun c_10 => ?_)
    refine lv_iconst (v := (-1)) hx hb dX11_isNew_27 (by decide) ?_
    subst hQ
    exact W.iret (v := (-1)) hx hb hr (fun t ht hW => ⟨_, rfl, trivial, ht⟩) (fun q hq => absurd hq List.not_mem_nil) dX11_isNew_28
set_option maxHeartbeats 4000000 in
set_option maxRecDepth 100000 in
theorem c_X11_isNew.b (l : Launch) (D : va_G) (cy : Nat → ClassId) (a : Nat → Nat) (i : Nat → Int32) (r : Nat → Nat → Int32) (q : Nat → Option Nat) (tl : va_W) (p0 p1 : Int32) (hRi : yRi i) (hRr : yRr r) (hh : ¬ (0 ≤ p0.toInt ∧ p0.toInt < (i 0).toInt)) : Met l yX11_isNew (Cond.code yX11_isNew cX11_isNew 4 (some .int) :: gT) { frames := 3, cells := 0, slots := 0, locals := 67 } (va_Pc [.ref (a 0), .int p0, .int p1] (rP D cy (xW cy a i r q (a 20) (a 12) ++ tl))) (vp_Si (fun z => z = (-1))) 0 0 (fun _ => False) := by
  refine Met.ofQ (cc := cX11_isNew) (maxL := 4) (ret := (some .int)) (by decide) rfl ?_
  intro p e s m args below meth c s₁ B hml hv Q hQ
  obtain ⟨rfl, hP, hK⟩ := hv
  have hx := B.exec
  have hb := B.bytes
  have hr := B.returns
  have hlocks := B.notSynchronized
  have hT : ∀ w ∈ gT, w.before _ s = true := fun w h => atoms_spec (ws := (Cond.code yX11_isNew cX11_isNew 4 (some .int) :: gT)) B.pre w (List.mem_cons_of_mem _ h)
  have hown : s.vm.findClass RX11 = some m.cls := findClass_of_methodNamed B.named
  have hl := lv_entry ([.ref (a 0), .int p0, .int p1]) (n := 4) (Nat.le_of_ble_eq_true rfl)
  rw [lg_entry_eq]
  generalize (lg_sl ([.ref (a 0), .int p0, .int p1]) ++ List.replicate (4 - (lg_sl ([.ref (a 0), .int p0, .int p1])).length) Slot.unset).toArray = ls at hl ⊢
  have hl : lv_has ls 4 [(0, .ref (a 0)), (1, .int p0), (2, .int p1)] := hl
  have hEi : mEi [] i i := Ei_rf
  have hEr : mEr [] r r := Er_rf
  refine lv_aload_n hx hb dX11_isNew_0 rfl (lv_at hl 0 rfl) ?_
  refine lv_iload_n hx hb dX11_isNew_1 rfl (lv_at hl 1 rfl) ?_
  refine va_csq (W.runV (As := [.int p0]) (rest := []) ⟨hx, hb, hml, hown, hT⟩ (c_X11_homeAt l D cy a i r q tl p0 hRi hRr) (cwV 1 hT (gV t_443 t_444 t_445 t_446 t_2) rfl rfl rfl (by decide +kernel) ⟨Nat.le_of_ble_eq_true rfl, Nat.le_of_ble_eq_true rfl⟩) (rP_v hP hK (va_recv hK hP (ci := 11) (q0 := 0) rfl rfl)) rfl rfl hl.1 rfl (lv_room (Nat.le_of_ble_eq_true rfl)) dX11_isNew_2 ⟨Nat.le_of_ble_eq_true rfl, Nat.le_of_ble_eq_true rfl⟩) (fun r_1 hr_1 => ?_)
  obtain rfl : r_1 = none := hr_1.2 hh
  refine W.eq (g2 := F0 m 5 ls [.null]) rfl ?_
  refine lv_astore_nN (lv' := [(3, .null), (0, .ref (a 0)), (1, .int p0), (2, .int p1)]) hx hb dX11_isNew_5 rfl hl (by decide) rfl (fun ls hl => ?_)
  refine lv_aload_nN hx hb dX11_isNew_6 rfl (lv_at hl 0 rfl) ?_
  refine lv_ifnullN (tgt := 27) hx hb dX11_isNew_7 (by decide) ?_
  refine lv_iconst (v := (-1)) hx hb dX11_isNew_27 (by decide) ?_
  subst hQ
  exact W.iret (v := (-1)) hx hb hr (fun t ht hW => ⟨_, rfl, rfl, ht⟩) (fun q hq => absurd hq List.not_mem_nil) dX11_isNew_28
set_option maxHeartbeats 4000000 in
set_option maxRecDepth 100000 in
theorem c_X11_offer.y (l : Launch) (D : va_G) (cy : Nat → ClassId) (a : Nat → Nat) (i : Nat → Int32) (r : Nat → Nat → Int32) (q : Nat → Option Nat) (tl : va_W) (p0 p1 p2 : Int32) (sz : Nat) (hRi : yRi i) (hRr : yRr r) (hh : 0 ≤ p0.toInt ∧ p0.toInt < (i 0).toInt) (hq : q p0.toNatClampNeg = some (a 61)) : Met l yX11_offer (Cond.code yX11_offer cX11_offer 4 (some .int) :: gT) { frames := 3, cells := 0, slots := 0, locals := 67 } (va_Pc [.ref (a 0), .int p0, .int p1, .int p2] (rQ D cy (xW cy a i r q (a 20) (a 12) ++ (hW cy a i r ++ tl)) sz)) (va_Qi (fun (z : Int32) (u : Nat → Nat → Int32) => yRr u ∧ mEr [38, 39] r u ∧ True) (fun (u : Nat → Nat → Int32) t => va_P D vwCl (xW cy a i u q (a 20) (a 12) ++ (hW cy a i u ++ tl)) t.heap ∧ va_K D vwCl (vT cy) t ∧ va_D (va_A (xW cy a i r q (a 20) (a 12) ++ (hW cy a i r ++ tl)) sz) (xW cy a i u q (a 20) (a 12) ++ (hW cy a i u ++ tl))) (va_A (xW cy a i r q (a 20) (a 12) ++ (hW cy a i r ++ tl)) sz)) 0 0 (va_A (xW cy a i r q (a 20) (a 12) ++ (hW cy a i r ++ tl)) sz) := by
  refine Met.ofQ (cc := cX11_offer) (maxL := 4) (ret := (some .int)) (by decide) rfl ?_
  intro p e s m args below meth c s₁ B hml hv Q hQ
  obtain ⟨rfl, hsz, hP, hK, hD0⟩ := hv
  have hx := B.exec
  have hb := B.bytes
  have hr := B.returns
  have hlocks := B.notSynchronized
  have hT : ∀ w ∈ gT, w.before _ s = true := fun w h => atoms_spec (ws := (Cond.code yX11_offer cX11_offer 4 (some .int) :: gT)) B.pre w (List.mem_cons_of_mem _ h)
  have hown : s.vm.findClass RX11 = some m.cls := findClass_of_methodNamed B.named
  subst hsz
  have hD := hD0.self (sz := s.heap.size)
  generalize hAe : va_A (xW cy a i r q (a 20) (a 12) ++ (hW cy a i r ++ tl)) s.heap.size = A at hD hQ
  have hA : ∀ q : Nat, s.heap.size ≤ q → A q := fun q h => by rw [← hAe]; exact Or.inr h
  have hS : va_S A s.heap s.heap [] := va_S.rf
  have hl := lv_entry ([.ref (a 0), .int p0, .int p1, .int p2]) (n := 4) (Nat.le_of_ble_eq_true rfl)
  rw [lg_entry_eq]
  generalize (lg_sl ([.ref (a 0), .int p0, .int p1, .int p2]) ++ List.replicate (4 - (lg_sl ([.ref (a 0), .int p0, .int p1, .int p2])).length) Slot.unset).toArray = ls at hl ⊢
  have hl : lv_has ls 4 [(0, .ref (a 0)), (1, .int p0), (2, .int p1), (3, .int p2)] := hl
  have hEi : mEi [] i i := Ei_rf
  have hEr : mEr [38, 39] r r := Er_rf
  have hg0 : 0 ≤ (i 0).toInt ∧ (i 0).toInt ≤ 6 := hRi 0
  refine lv_aload_n hx hb dX11_offer_0 rfl (lv_at hl 0 rfl) ?_
  refine lv_iload_n hx hb dX11_offer_1 rfl (lv_at hl 1 rfl) ?_
  refine va_csq (W.runV (As := [.int p0]) (rest := []) ⟨hx, hb, hml, hown, hT⟩ (c_X11_homeAt l D cy a i r q (hW cy a i r ++ tl) p0 hRi hRr) (cwV 1 hT (gV t_443 t_444 t_445 t_446 t_2) rfl rfl rfl (by decide +kernel) ⟨Nat.le_of_ble_eq_true rfl, Nat.le_of_ble_eq_true rfl⟩) (rP_v hP hK (va_recv hK hP (ci := 11) (q0 := 0) rfl rfl)) rfl rfl hl.1 rfl (lv_room (Nat.le_of_ble_eq_true rfl)) dX11_offer_2 ⟨Nat.le_of_ble_eq_true rfl, Nat.le_of_ble_eq_true rfl⟩) (fun r_1 hr_1 => ?_)
  obtain rfl : r_1 = some (a 61) := (hr_1.1 hh).trans hq
  refine W.eq (g2 := F0 m 5 ls [.ref (a 61)]) rfl ?_
  refine lv_ifnull hx hb dX11_offer_5 ?_
  refine lv_iload_n hx hb dX11_offer_8 rfl (lv_at hl 3 rfl) ?_
  refine lv_iconst (v := 0) hx hb dX11_offer_9 (by decide) ?_
  refine lv_ldc (v := 999999) hx hb hown (hT _ t_277) dX11_offer_10 ?_
  refine vp_callSi (W.runS (As := [.int p2, .int 0, .int 999999]) (rest := []) ⟨hx, hb, hml, hown, hT⟩ (c_X11_within l p2 0 999999) (va_cwS 3 hT (gS t_1 t_3 t_4 t_2) rfl rfl rfl (by decide +kernel) ⟨Nat.le_of_ble_eq_true rfl, Nat.le_of_ble_eq_true rfl⟩) preT rfl rfl hl.1 rfl (lv_room (Nat.le_of_ble_eq_true rfl)) dX11_offer_12 ⟨Nat.le_of_ble_eq_true rfl, Nat.le_of_ble_eq_true rfl⟩) (fun r_2 hr_2 => ?_)
  have hr_2 : BR r_2 (0 ≤ p2.toInt ∧ p2.toInt ≤ 999999) 1 0 := hr_2
  rcases hr_2 with ⟨rfl, h_3⟩ | ⟨rfl, h_3⟩
  · skip
    refine lv_if_ne (tgt := 20) hx hb dX11_offer_15 (by decide) (fun c_4 => ?_) (fun c_4 => absurd c_4 (by decide))
    refine lv_iload_n hx hb dX11_offer_20 rfl (lv_at hl 2 rfl) ?_
    refine lv_if_eq (tgt := 37) hx hb dX11_offer_21 (by decide) (fun c_5 => ?_) (fun c_5 => ?_)
    · have c_5 : p1.toInt = 0 := b_eq c_5
      refine lv_aload_n hx hb dX11_offer_37 rfl (lv_at hl 0 rfl) ?_
      refine va_get (D := D) (ci := 11) (v := .ref (a 29)) (C := RX11) (T := TX11) (N := 14) hx hb hT iX11 hown hK hP 0 rfl rfl 8 (by decide) (hT _ t_265) (fun _ h9 => h9) rfl dX11_offer_38 ?_
      refine va_get (D := D) (ci := 1) (v := .ref (a 39)) (C := RX1) (T := TX1) (N := 12) hx hb hT iX1 hown hK hP 29 rfl rfl 10 (by decide) (hT _ t_468) (fun _ h9 => h9) rfl dX11_offer_41 ?_
      refine lv_iload_n hx hb dX11_offer_44 rfl (lv_at hl 1 rfl) ?_
      refine lv_iload_n hx hb dX11_offer_45 rfl (lv_at hl 3 rfl) ?_
      refine va_iast hx hb hK hP hD hS 39 0 rfl rfl (vp_inI (by omega) (by omega)) dX11_offer_46 (fun H locs hP hD hS => ?_)
      rw [yS39] at hP hD
      have hRr : yRr (va_up r 39 (upd (r 39) p0.toNatClampNeg p2)) := Yr_upd hRr 39 (p0.toNatClampNeg) p2 ⟨by show (-1 : Int) ≤ p2.toInt; omega, by show p2.toInt ≤ (999999 : Int); omega⟩
      have hEr : mEr [38, 39] _ (va_up r 39 (upd (r 39) p0.toNatClampNeg p2)) := Er_up hEr 39 _ (by decide)
      refine lv_aload_n hx hb dX11_offer_47 rfl (lv_at hl 0 rfl) ?_
      refine va_get (D := D) (ci := 11) (v := .ref (a 29)) (C := RX11) (T := TX11) (N := 14) hx hb hT iX11 hown hK hP 0 rfl rfl 8 (by decide) (hT _ t_265) (fun _ h9 => h9) rfl dX11_offer_48 ?_
      refine lv_iload_n hx hb dX11_offer_51 rfl (lv_at hl 1 rfl) ?_
      refine vp_callSi (W.runV (As := [.int p0]) (rest := []) ⟨hx, hb, hml, hown, hT⟩ (c_X1_hasBothOffers l D cy a i (va_up r 39 (upd (r 39) p0.toNatClampNeg p2)) q (hW cy a i (va_up r 39 (upd (r 39) p0.toNatClampNeg p2)) ++ tl) p0 hRi hRr (by first | omega | decide)) (cwV 1 hT (gV t_469 t_470 t_471 t_472 t_356) rfl rfl rfl (by decide +kernel) ⟨Nat.le_of_ble_eq_true rfl, Nat.le_of_ble_eq_true rfl⟩) (rP_v hP hK (va_recv hK hP (ci := 1) (q0 := 29) rfl rfl)) rfl rfl hl.1 rfl (lv_room (Nat.le_of_ble_eq_true rfl)) dX11_offer_52 ⟨Nat.le_of_ble_eq_true rfl, Nat.le_of_ble_eq_true rfl⟩) (fun r_6 hr_6 => ?_)
      rcases hr_6 with rfl | rfl
      · skip
        refine lv_if_eq (tgt := 62) hx hb dX11_offer_55 (by decide) (fun c_7 => ?_) (fun c_7 => absurd (by decide) c_7)
        refine lv_iconst (v := 0) hx hb dX11_offer_62 (by decide) ?_
        subst hQ
        exact W.iret (v := 0) hx hb hr (fun t ht hW => ⟨⟨_, (va_up r 39 (upd (r 39) p0.toNatClampNeg p2)), rfl, ⟨hRr, hEr, trivial⟩, by rw [ht]; exact hP, va_K.moved hW.alike hK, hD⟩, hS.F ht⟩) hS.2.2 dX11_offer_63
      · skip
        refine lv_if_eq (tgt := 62) hx hb dX11_offer_55 (by decide) (fun c_8 => absurd c_8 (by decide)) (fun c_8 => ?_)
        refine lv_iconst (v := 1) hx hb dX11_offer_58 (by decide) ?_
        refine lv_goto (tgt := 63) hx hb dX11_offer_59 (by decide) ?_
        subst hQ
        exact W.iret (v := 1) hx hb hr (fun t ht hW => ⟨⟨_, (va_up r 39 (upd (r 39) p0.toNatClampNeg p2)), rfl, ⟨hRr, hEr, trivial⟩, by rw [ht]; exact hP, va_K.moved hW.alike hK, hD⟩, hS.F ht⟩) hS.2.2 dX11_offer_63
    · have c_5 : p1.toInt ≠ 0 := b_ne c_5
      refine lv_aload_n hx hb dX11_offer_24 rfl (lv_at hl 0 rfl) ?_
      refine va_get (D := D) (ci := 11) (v := .ref (a 29)) (C := RX11) (T := TX11) (N := 14) hx hb hT iX11 hown hK hP 0 rfl rfl 8 (by decide) (hT _ t_265) (fun _ h9 => h9) rfl dX11_offer_25 ?_
      refine va_get (D := D) (ci := 1) (v := .ref (a 38)) (C := RX1) (T := TX1) (N := 12) hx hb hT iX1 hown hK hP 29 rfl rfl 9 (by decide) (hT _ t_473) (fun _ h9 => h9) rfl dX11_offer_28 ?_
      refine lv_iload_n hx hb dX11_offer_31 rfl (lv_at hl 1 rfl) ?_
      refine lv_iload_n hx hb dX11_offer_32 rfl (lv_at hl 3 rfl) ?_
      refine va_iast hx hb hK hP hD hS 38 0 rfl rfl (vp_inI (by omega) (by omega)) dX11_offer_33 (fun H locs hP hD hS => ?_)
      rw [yS38] at hP hD
      have hRr : yRr (va_up r 38 (upd (r 38) p0.toNatClampNeg p2)) := Yr_upd hRr 38 (p0.toNatClampNeg) p2 ⟨by show (-1 : Int) ≤ p2.toInt; omega, by show p2.toInt ≤ (999999 : Int); omega⟩
      have hEr : mEr [38, 39] _ (va_up r 38 (upd (r 38) p0.toNatClampNeg p2)) := Er_up hEr 38 _ (by decide)
      refine lv_goto (tgt := 47) hx hb dX11_offer_34 (by decide) ?_
      refine lv_aload_n hx hb dX11_offer_47 rfl (lv_at hl 0 rfl) ?_
      refine va_get (D := D) (ci := 11) (v := .ref (a 29)) (C := RX11) (T := TX11) (N := 14) hx hb hT iX11 hown hK hP 0 rfl rfl 8 (by decide) (hT _ t_265) (fun _ h9 => h9) rfl dX11_offer_48 ?_
      refine lv_iload_n hx hb dX11_offer_51 rfl (lv_at hl 1 rfl) ?_
      refine vp_callSi (W.runV (As := [.int p0]) (rest := []) ⟨hx, hb, hml, hown, hT⟩ (c_X1_hasBothOffers l D cy a i (va_up r 38 (upd (r 38) p0.toNatClampNeg p2)) q (hW cy a i (va_up r 38 (upd (r 38) p0.toNatClampNeg p2)) ++ tl) p0 hRi hRr (by first | omega | decide)) (cwV 1 hT (gV t_469 t_470 t_471 t_472 t_356) rfl rfl rfl (by decide +kernel) ⟨Nat.le_of_ble_eq_true rfl, Nat.le_of_ble_eq_true rfl⟩) (rP_v hP hK (va_recv hK hP (ci := 1) (q0 := 29) rfl rfl)) rfl rfl hl.1 rfl (lv_room (Nat.le_of_ble_eq_true rfl)) dX11_offer_52 ⟨Nat.le_of_ble_eq_true rfl, Nat.le_of_ble_eq_true rfl⟩) (fun r_9 hr_9 => ?_)
      rcases hr_9 with rfl | rfl
      · skip
        refine lv_if_eq (tgt := 62) hx hb dX11_offer_55 (by decide) (fun c_10 => ?_) (fun c_10 => absurd (by decide) c_10)
        refine lv_iconst (v := 0) hx hb dX11_offer_62 (by decide) ?_
        subst hQ
        exact W.iret (v := 0) hx hb hr (fun t ht hW => ⟨⟨_, (va_up r 38 (upd (r 38) p0.toNatClampNeg p2)), rfl, ⟨hRr, hEr, trivial⟩, by rw [ht]; exact hP, va_K.moved hW.alike hK, hD⟩, hS.F ht⟩) hS.2.2 dX11_offer_63
      · skip
        refine lv_if_eq (tgt := 62) hx hb dX11_offer_55 (by decide) (fun c_11 => absurd c_11 (by decide)) (fun c_11 => ?_)
        refine lv_iconst (v := 1) hx hb dX11_offer_58 (by decide) ?_
        refine lv_goto (tgt := 63) hx hb dX11_offer_59 (by decide) ?_
        subst hQ
        exact W.iret (v := 1) hx hb hr (fun t ht hW => ⟨⟨_, (va_up r 38 (upd (r 38) p0.toNatClampNeg p2)), rfl, ⟨hRr, hEr, trivial⟩, by rw [ht]; exact hP, va_K.moved hW.alike hK, hD⟩, hS.F ht⟩) hS.2.2 dX11_offer_63
  · skip
    refine lv_if_ne (tgt := 20) hx hb dX11_offer_15 (by decide) (fun c_12 => absurd (by decide) c_12) (fun c_12 => ?_)
    refine lv_iconst (v := (-1)) hx hb dX11_offer_18 (by decide) ?_
    subst hQ
    exact W.iret (v := (-1)) hx hb hr (fun t ht hW => ⟨⟨_, r, rfl, ⟨hRr, hEr, trivial⟩, by rw [ht]; exact hP, va_K.moved hW.alike hK, hD⟩, hS.F ht⟩) hS.2.2 dX11_offer_19
set_option maxHeartbeats 4000000 in
set_option maxRecDepth 100000 in
theorem c_X11_offer.b (l : Launch) (D : va_G) (cy : Nat → ClassId) (a : Nat → Nat) (i : Nat → Int32) (r : Nat → Nat → Int32) (q : Nat → Option Nat) (tl : va_W) (p0 p1 p2 : Int32) (hRi : yRi i) (hRr : yRr r) (hh : ¬ (0 ≤ p0.toInt ∧ p0.toInt < (i 0).toInt)) : Met l yX11_offer (Cond.code yX11_offer cX11_offer 4 (some .int) :: gT) { frames := 3, cells := 0, slots := 0, locals := 67 } (va_Pc [.ref (a 0), .int p0, .int p1, .int p2] (rP D cy (xW cy a i r q (a 20) (a 12) ++ tl))) (vp_Si (fun z => z = (-1))) 0 0 (fun _ => False) := by
  refine Met.ofQ (cc := cX11_offer) (maxL := 4) (ret := (some .int)) (by decide) rfl ?_
  intro p e s m args below meth c s₁ B hml hv Q hQ
  obtain ⟨rfl, hP, hK⟩ := hv
  have hx := B.exec
  have hb := B.bytes
  have hr := B.returns
  have hlocks := B.notSynchronized
  have hT : ∀ w ∈ gT, w.before _ s = true := fun w h => atoms_spec (ws := (Cond.code yX11_offer cX11_offer 4 (some .int) :: gT)) B.pre w (List.mem_cons_of_mem _ h)
  have hown : s.vm.findClass RX11 = some m.cls := findClass_of_methodNamed B.named
  have hl := lv_entry ([.ref (a 0), .int p0, .int p1, .int p2]) (n := 4) (Nat.le_of_ble_eq_true rfl)
  rw [lg_entry_eq]
  generalize (lg_sl ([.ref (a 0), .int p0, .int p1, .int p2]) ++ List.replicate (4 - (lg_sl ([.ref (a 0), .int p0, .int p1, .int p2])).length) Slot.unset).toArray = ls at hl ⊢
  have hl : lv_has ls 4 [(0, .ref (a 0)), (1, .int p0), (2, .int p1), (3, .int p2)] := hl
  have hEi : mEi [] i i := Ei_rf
  have hEr : mEr [] r r := Er_rf
  refine lv_aload_n hx hb dX11_offer_0 rfl (lv_at hl 0 rfl) ?_
  refine lv_iload_n hx hb dX11_offer_1 rfl (lv_at hl 1 rfl) ?_
  refine va_csq (W.runV (As := [.int p0]) (rest := []) ⟨hx, hb, hml, hown, hT⟩ (c_X11_homeAt l D cy a i r q tl p0 hRi hRr) (cwV 1 hT (gV t_443 t_444 t_445 t_446 t_2) rfl rfl rfl (by decide +kernel) ⟨Nat.le_of_ble_eq_true rfl, Nat.le_of_ble_eq_true rfl⟩) (rP_v hP hK (va_recv hK hP (ci := 11) (q0 := 0) rfl rfl)) rfl rfl hl.1 rfl (lv_room (Nat.le_of_ble_eq_true rfl)) dX11_offer_2 ⟨Nat.le_of_ble_eq_true rfl, Nat.le_of_ble_eq_true rfl⟩) (fun r_1 hr_1 => ?_)
  obtain rfl : r_1 = none := hr_1.2 hh
  refine W.eq (g2 := F0 m 5 ls [.null]) rfl ?_
  refine lv_ifnullN (tgt := 18) hx hb dX11_offer_5 (by decide) ?_
  refine lv_iconst (v := (-1)) hx hb dX11_offer_18 (by decide) ?_
  subst hQ
  exact W.iret (v := (-1)) hx hb hr (fun t ht hW => ⟨_, rfl, rfl, ht⟩) (fun q hq => absurd hq List.not_mem_nil) dX11_offer_19
set_option maxHeartbeats 4000000 in
set_option maxRecDepth 100000 in
theorem c_X11_met.y (l : Launch) (D : va_G) (cy : Nat → ClassId) (a : Nat → Nat) (i : Nat → Int32) (r : Nat → Nat → Int32) (q : Nat → Option Nat) (tl : va_W) (p0 : Int32) (sz : Nat) (hRi : yRi i) (hRr : yRr r) (hh : 0 ≤ p0.toInt ∧ p0.toInt < (i 0).toInt) (hq : q p0.toNatClampNeg = some (a 61)) : Met l yX11_met (Cond.code yX11_met cX11_met 4 (some .int) :: gT) { frames := 3, cells := 0, slots := 0, locals := 67 } (va_Pc [.ref (a 0), .int p0] (rQ D cy (xW cy a i r q (a 20) (a 12) ++ (hW cy a i r ++ tl)) sz)) (va_Qi (fun (z : Int32) (u : Nat → Nat → Int32) => yRr u ∧ mEr [38, 39] r u ∧ True) (fun (u : Nat → Nat → Int32) t => va_P D vwCl (xW cy a i u q (a 20) (a 12) ++ (hW cy a i u ++ tl)) t.heap ∧ va_K D vwCl (vT cy) t ∧ va_D (va_A (xW cy a i r q (a 20) (a 12) ++ (hW cy a i r ++ tl)) sz) (xW cy a i u q (a 20) (a 12) ++ (hW cy a i u ++ tl))) (va_A (xW cy a i r q (a 20) (a 12) ++ (hW cy a i r ++ tl)) sz)) 0 0 (va_A (xW cy a i r q (a 20) (a 12) ++ (hW cy a i r ++ tl)) sz) := by
  refine Met.ofQ (cc := cX11_met) (maxL := 4) (ret := (some .int)) (by decide) rfl ?_
  intro p e s m args below meth c s₁ B hml hv Q hQ
  obtain ⟨rfl, hsz, hP, hK, hD0⟩ := hv
  have hx := B.exec
  have hb := B.bytes
  have hr := B.returns
  have hlocks := B.notSynchronized
  have hT : ∀ w ∈ gT, w.before _ s = true := fun w h => atoms_spec (ws := (Cond.code yX11_met cX11_met 4 (some .int) :: gT)) B.pre w (List.mem_cons_of_mem _ h)
  have hown : s.vm.findClass RX11 = some m.cls := findClass_of_methodNamed B.named
  subst hsz
  have hD := hD0.self (sz := s.heap.size)
  generalize hAe : va_A (xW cy a i r q (a 20) (a 12) ++ (hW cy a i r ++ tl)) s.heap.size = A at hD hQ
  have hA : ∀ q : Nat, s.heap.size ≤ q → A q := fun q h => by rw [← hAe]; exact Or.inr h
  have hS : va_S A s.heap s.heap [] := va_S.rf
  have hl := lv_entry ([.ref (a 0), .int p0]) (n := 4) (Nat.le_of_ble_eq_true rfl)
  rw [lg_entry_eq]
  generalize (lg_sl ([.ref (a 0), .int p0]) ++ List.replicate (4 - (lg_sl ([.ref (a 0), .int p0])).length) Slot.unset).toArray = ls at hl ⊢
  have hl : lv_has ls 4 [(0, .ref (a 0)), (1, .int p0)] := hl
  have hEi : mEi [] i i := Ei_rf
  have hEr : mEr [38, 39] r r := Er_rf
  have hg0 : 0 ≤ (i 0).toInt ∧ (i 0).toInt ≤ 6 := hRi 0
  refine lv_aload_n hx hb dX11_met_0 rfl (lv_at hl 0 rfl) ?_
  refine lv_iload_n hx hb dX11_met_1 rfl (lv_at hl 1 rfl) ?_
  refine va_csq (W.runV (As := [.int p0]) (rest := []) ⟨hx, hb, hml, hown, hT⟩ (c_X11_homeAt l D cy a i r q (hW cy a i r ++ tl) p0 hRi hRr) (cwV 1 hT (gV t_443 t_444 t_445 t_446 t_2) rfl rfl rfl (by decide +kernel) ⟨Nat.le_of_ble_eq_true rfl, Nat.le_of_ble_eq_true rfl⟩) (rP_v hP hK (va_recv hK hP (ci := 11) (q0 := 0) rfl rfl)) rfl rfl hl.1 rfl (lv_room (Nat.le_of_ble_eq_true rfl)) dX11_met_2 ⟨Nat.le_of_ble_eq_true rfl, Nat.le_of_ble_eq_true rfl⟩) (fun r_1 hr_1 => ?_)
  obtain rfl : r_1 = some (a 61) := (hr_1.1 hh).trans hq
  refine W.eq (g2 := F0 m 5 ls [.ref (a 61)]) rfl ?_
  refine lv_ifnonnull (tgt := 10) hx hb dX11_met_5 (by decide) ?_
  refine lv_aload_n hx hb dX11_met_10 rfl (lv_at hl 0 rfl) ?_
  refine va_get (D := D) (ci := 11) (v := .ref (a 29)) (C := RX11) (T := TX11) (N := 14) hx hb hT iX11 hown hK hP 0 rfl rfl 8 (by decide) (hT _ t_265) (fun _ h9 => h9) rfl dX11_met_11 ?_
  refine lv_iload_n hx hb dX11_met_14 rfl (lv_at hl 1 rfl) ?_
  refine vp_callSi (W.runV (As := [.int p0]) (rest := []) ⟨hx, hb, hml, hown, hT⟩ (c_X1_hasBothOffers l D cy a i r q (hW cy a i r ++ tl) p0 hRi hRr (by first | omega | decide)) (cwV 1 hT (gV t_469 t_470 t_471 t_472 t_356) rfl rfl rfl (by decide +kernel) ⟨Nat.le_of_ble_eq_true rfl, Nat.le_of_ble_eq_true rfl⟩) (rP_v hP hK (va_recv hK hP (ci := 1) (q0 := 29) rfl rfl)) rfl rfl hl.1 rfl (lv_room (Nat.le_of_ble_eq_true rfl)) dX11_met_15 ⟨Nat.le_of_ble_eq_true rfl, Nat.le_of_ble_eq_true rfl⟩) (fun r_2 hr_2 => ?_)
  rcases hr_2 with rfl | rfl
  · skip
    refine lv_if_ne (tgt := 24) hx hb dX11_met_18 (by decide) (fun c_3 => absurd (by decide) c_3) (fun c_3 => ?_)
    refine lv_bipush (v := (-2)) hx hb dX11_met_21 (by decide) ?_
    subst hQ
    exact W.iret (v := (-2)) hx hb hr (fun t ht hW => ⟨⟨_, r, rfl, ⟨hRr, hEr, trivial⟩, by rw [ht]; exact hP, va_K.moved hW.alike hK, hD⟩, hS.F ht⟩) hS.2.2 dX11_met_23
  · skip
    refine lv_if_ne (tgt := 24) hx hb dX11_met_18 (by decide) (fun c_4 => ?_) (fun c_4 => absurd c_4 (by decide))
    refine lv_aload_n hx hb dX11_met_24 rfl (lv_at hl 0 rfl) ?_
    refine va_get (D := D) (ci := 11) (v := .ref (a 29)) (C := RX11) (T := TX11) (N := 14) hx hb hT iX11 hown hK hP 0 rfl rfl 8 (by decide) (hT _ t_265) (fun _ h9 => h9) rfl dX11_met_25 ?_
    refine va_get (D := D) (ci := 1) (v := .ref (a 38)) (C := RX1) (T := TX1) (N := 12) hx hb hT iX1 hown hK hP 29 rfl rfl 9 (by decide) (hT _ t_473) (fun _ h9 => h9) rfl dX11_met_28 ?_
    refine lv_iload_n hx hb dX11_met_31 rfl (lv_at hl 1 rfl) ?_
    refine va_iald hx hb hK hP 38 0 rfl rfl (vp_inI (by omega) (by omega)) dX11_met_32 ?_
    refine lv_topi (fun v_5 ev_5 => ?_)
    have hgv_5 : -1 ≤ v_5.toInt ∧ v_5.toInt ≤ 999999 := by rw [ev_5]; exact hRr 38 _
    refine lv_istore_n (lv' := [(2, .int v_5), (0, .ref (a 0)), (1, .int p0)]) hx hb dX11_met_33 rfl hl (by decide) rfl (fun ls hl => ?_)
    refine lv_aload_n hx hb dX11_met_34 rfl (lv_at hl 1 rfl) ?_
    refine va_get (D := D) (ci := 11) (v := .ref (a 29)) (C := RX11) (T := TX11) (N := 14) hx hb hT iX11 hown hK hP 0 rfl rfl 8 (by decide) (hT _ t_265) (fun _ h9 => h9) rfl dX11_met_35 ?_
    refine va_get (D := D) (ci := 1) (v := .ref (a 39)) (C := RX1) (T := TX1) (N := 12) hx hb hT iX1 hown hK hP 29 rfl rfl 10 (by decide) (hT _ t_468) (fun _ h9 => h9) rfl dX11_met_38 ?_
    refine lv_iload_n hx hb dX11_met_41 rfl (lv_at hl 2 rfl) ?_
    refine va_iald hx hb hK hP 39 0 rfl rfl (vp_inI (by omega) (by omega)) dX11_met_42 ?_
    refine lv_topi (fun v_6 ev_6 => ?_)
    have hgv_6 : -1 ≤ v_6.toInt ∧ v_6.toInt ≤ 999999 := by rw [ev_6]; exact hRr 39 _
    refine lv_istore_n (lv' := [(3, .int v_6), (2, .int v_5), (0, .ref (a 0)), (1, .int p0)]) hx hb dX11_met_43 rfl hl (by decide) rfl (fun ls hl => ?_)
    refine lv_iload_n hx hb dX11_met_44 rfl (lv_at hl 1 rfl) ?_
    refine lv_iload_n hx hb dX11_met_45 rfl (lv_at hl 0 rfl) ?_
    refine lv_icmp_le (tgt := 60) hx hb dX11_met_46 (by decide) (fun c_7 => ?_) (fun c_7 => ?_)
    · have c_7 : v_5.toInt ≤ v_6.toInt := b_le c_7
      refine lv_iload_n hx hb dX11_met_60 rfl (lv_at hl 1 rfl) ?_
      refine lv_iload_n hx hb dX11_met_61 rfl (lv_at hl 0 rfl) ?_
      refine lv_iadd hx hb dX11_met_62 ?_
      refine lv_topi (fun v_8 ev_8 => ?_)
      have hv_8 : v_8.toInt = v_5.toInt + v_6.toInt := by rw [ev_8]; have := b_rg v_5; have := b_rg v_6; exact i_add (a := v_5.toInt) (b := v_6.toInt) rfl rfl (by omega) (by omega)
      refine lv_iconst (v := 2) hx hb dX11_met_63 (by decide) ?_
      refine lv_idiv hx hb dX11_met_64 (by decide) ?_
      refine lv_topi (fun v_9 ev_9 => ?_)
      subst hQ
      exact W.iret (v := v_9) hx hb hr (fun t ht hW => ⟨⟨_, r, rfl, ⟨hRr, hEr, trivial⟩, by rw [ht]; exact hP, va_K.moved hW.alike hK, hD⟩, hS.F ht⟩) hS.2.2 dX11_met_65
    · have c_7 : v_6.toInt < v_5.toInt := b_nle c_7
      refine lv_aload_n hx hb dX11_met_49 rfl (lv_at hl 2 rfl) ?_
      refine va_get (D := D) (ci := 11) (v := .ref (a 29)) (C := RX11) (T := TX11) (N := 14) hx hb hT iX11 hown hK hP 0 rfl rfl 8 (by decide) (hT _ t_265) (fun _ h9 => h9) rfl dX11_met_50 ?_
      refine lv_iload_n hx hb dX11_met_53 rfl (lv_at hl 3 rfl) ?_
      have hF_10 := rF hD hS hA
      refine va_callv (va_runV (As := [.int p0]) (rest := []) ⟨hx, hb, hml, hown, hT⟩ (c_X1_dropOffers l D cy a i r q (hW cy a i r ++ tl) p0 _ hRi hRr (by first | omega | decide)) (cwV 1 hT (gV t_474 t_475 t_476 t_477 t_356) rfl rfl rfl (by decide +kernel) ⟨Nat.le_of_ble_eq_true rfl, Nat.le_of_ble_eq_true rfl⟩) (rQ_v hP hK hD (va_recv hK hP (ci := 1) (q0 := 29) rfl rfl)) rfl rfl hl.1 rfl (lv_room (Nat.le_of_ble_eq_true rfl)) dX11_met_54 ⟨Nat.le_of_ble_eq_true rfl, Nat.le_of_ble_eq_true rfl⟩) hS (fun q _ h => hF_10 q h) hF_10 (fun u_12 t H1 locs ht hvm hr_11 hB hz1 hk1 hS => ?_)
      obtain ⟨r12, rfl⟩ : ∃ z, z = u_12 := ⟨_, rfl⟩
      obtain ⟨hP, hK1, hD1⟩ := hB
      rw [ht] at hP
      have hD := hD1.weaken (fun k q _ h => hF_10 q.1 h)
      obtain ⟨hRr, hE2, hr_11⟩ := hr_11
      have hRr : yRr r12 := hRr
      have hE2 : mEr [38, 39] r r12 := hE2
      have hwe : hW cy a i r12 = hW cy a i r := hW_eqE (Ei_rf (T := [])) hE2 rfl rfl
      have hP : va_P D vwCl (xW cy a i r12 q (a 20) (a 12) ++ (hW cy a i r12 ++ tl)) H1 := by rw [hwe]; exact hP
      have hD : va_D A (xW cy a i r12 q (a 20) (a 12) ++ (hW cy a i r12 ++ tl)) := by rw [hwe]; exact hD
      have hEr : mEr [38, 39] _ r12 := Er_tr hEr hE2 (by decide)
      refine lv_bipush (v := (-3)) hx hb dX11_met_57 (by decide) ?_
      subst hQ
      exact W.iret (v := (-3)) hx hb hr (fun t ht hW => ⟨⟨_, r12, rfl, ⟨hRr, hEr, trivial⟩, by rw [ht]; exact hP, va_K.moved hW.alike hK, hD⟩, hS.F ht⟩) hS.2.2 dX11_met_59
set_option maxHeartbeats 4000000 in
set_option maxRecDepth 100000 in
theorem c_X11_met.b (l : Launch) (D : va_G) (cy : Nat → ClassId) (a : Nat → Nat) (i : Nat → Int32) (r : Nat → Nat → Int32) (q : Nat → Option Nat) (tl : va_W) (p0 : Int32) (hRi : yRi i) (hRr : yRr r) (hh : ¬ (0 ≤ p0.toInt ∧ p0.toInt < (i 0).toInt)) : Met l yX11_met (Cond.code yX11_met cX11_met 4 (some .int) :: gT) { frames := 3, cells := 0, slots := 0, locals := 67 } (va_Pc [.ref (a 0), .int p0] (rP D cy (xW cy a i r q (a 20) (a 12) ++ tl))) (vp_Si (fun z => z = (-1))) 0 0 (fun _ => False) := by
  refine Met.ofQ (cc := cX11_met) (maxL := 4) (ret := (some .int)) (by decide) rfl ?_
  intro p e s m args below meth c s₁ B hml hv Q hQ
  obtain ⟨rfl, hP, hK⟩ := hv
  have hx := B.exec
  have hb := B.bytes
  have hr := B.returns
  have hlocks := B.notSynchronized
  have hT : ∀ w ∈ gT, w.before _ s = true := fun w h => atoms_spec (ws := (Cond.code yX11_met cX11_met 4 (some .int) :: gT)) B.pre w (List.mem_cons_of_mem _ h)
  have hown : s.vm.findClass RX11 = some m.cls := findClass_of_methodNamed B.named
  have hl := lv_entry ([.ref (a 0), .int p0]) (n := 4) (Nat.le_of_ble_eq_true rfl)
  rw [lg_entry_eq]
  generalize (lg_sl ([.ref (a 0), .int p0]) ++ List.replicate (4 - (lg_sl ([.ref (a 0), .int p0])).length) Slot.unset).toArray = ls at hl ⊢
  have hl : lv_has ls 4 [(0, .ref (a 0)), (1, .int p0)] := hl
  have hEi : mEi [] i i := Ei_rf
  have hEr : mEr [] r r := Er_rf
  refine lv_aload_n hx hb dX11_met_0 rfl (lv_at hl 0 rfl) ?_
  refine lv_iload_n hx hb dX11_met_1 rfl (lv_at hl 1 rfl) ?_
  refine va_csq (W.runV (As := [.int p0]) (rest := []) ⟨hx, hb, hml, hown, hT⟩ (c_X11_homeAt l D cy a i r q tl p0 hRi hRr) (cwV 1 hT (gV t_443 t_444 t_445 t_446 t_2) rfl rfl rfl (by decide +kernel) ⟨Nat.le_of_ble_eq_true rfl, Nat.le_of_ble_eq_true rfl⟩) (rP_v hP hK (va_recv hK hP (ci := 11) (q0 := 0) rfl rfl)) rfl rfl hl.1 rfl (lv_room (Nat.le_of_ble_eq_true rfl)) dX11_met_2 ⟨Nat.le_of_ble_eq_true rfl, Nat.le_of_ble_eq_true rfl⟩) (fun r_1 hr_1 => ?_)
  obtain rfl : r_1 = none := hr_1.2 hh
  refine W.eq (g2 := F0 m 5 ls [.null]) rfl ?_
  refine lv_ifnonnullN hx hb dX11_met_5 ?_
  refine lv_iconst (v := (-1)) hx hb dX11_met_8 (by decide) ?_
  subst hQ
  exact W.iret (v := (-1)) hx hb hr (fun t ht hW => ⟨_, rfl, rfl, ht⟩) (fun q hq => absurd hq List.not_mem_nil) dX11_met_9
set_option maxHeartbeats 4000000 in
set_option maxRecDepth 100000 in
theorem c_X11_kin.y (l : Launch) (D : va_G) (cy : Nat → ClassId) (a : Nat → Nat) (i : Nat → Int32) (r : Nat → Nat → Int32) (q : Nat → Option Nat) (tl : va_W) (p0 p1 p2 : Int32) (sz : Nat) (hRi : yRi i) (hRr : yRr r) (hh : 0 ≤ p1.toInt ∧ p1.toInt < (i 0).toInt) (hq : q p1.toNatClampNeg = some (a 61)) : Met l yX11_kin (Cond.code yX11_kin cX11_kin 5 (some .boolean) :: gT) { frames := 3, cells := 0, slots := 0, locals := 67 } (va_Pc [.ref (a 0), .int p0, .int p1, .int p2] (rQ D cy (xW cy a i r q (a 20) (a 12) ++ (hW cy a i r ++ tl)) sz)) (va_Qi (fun (z : Int32) (u : Nat → Nat → Int32) => yRr u ∧ mEr [64] r u ∧ True) (fun (u : Nat → Nat → Int32) t => va_P D vwCl (xW cy a i u q (a 20) (a 12) ++ (hW cy a i u ++ tl)) t.heap ∧ va_K D vwCl (vT cy) t ∧ va_D (va_A (xW cy a i r q (a 20) (a 12) ++ (hW cy a i r ++ tl)) sz) (xW cy a i u q (a 20) (a 12) ++ (hW cy a i u ++ tl))) (va_A (xW cy a i r q (a 20) (a 12) ++ (hW cy a i r ++ tl)) sz)) 0 0 (va_A (xW cy a i r q (a 20) (a 12) ++ (hW cy a i r ++ tl)) sz) := by
  refine Met.ofQ (cc := cX11_kin) (maxL := 5) (ret := (some .boolean)) (by decide) rfl ?_
  intro p e s m args below meth c s₁ B hml hv Q hQ
  obtain ⟨rfl, hsz, hP, hK, hD0⟩ := hv
  have hx := B.exec
  have hb := B.bytes
  have hr := B.returns
  have hlocks := B.notSynchronized
  have hT : ∀ w ∈ gT, w.before _ s = true := fun w h => atoms_spec (ws := (Cond.code yX11_kin cX11_kin 5 (some .boolean) :: gT)) B.pre w (List.mem_cons_of_mem _ h)
  have hown : s.vm.findClass RX11 = some m.cls := findClass_of_methodNamed B.named
  subst hsz
  have hD := hD0.self (sz := s.heap.size)
  generalize hAe : va_A (xW cy a i r q (a 20) (a 12) ++ (hW cy a i r ++ tl)) s.heap.size = A at hD hQ
  have hA : ∀ q : Nat, s.heap.size ≤ q → A q := fun q h => by rw [← hAe]; exact Or.inr h
  have hS : va_S A s.heap s.heap [] := va_S.rf
  have hl := lv_entry ([.ref (a 0), .int p0, .int p1, .int p2]) (n := 5) (Nat.le_of_ble_eq_true rfl)
  rw [lg_entry_eq]
  generalize (lg_sl ([.ref (a 0), .int p0, .int p1, .int p2]) ++ List.replicate (5 - (lg_sl ([.ref (a 0), .int p0, .int p1, .int p2])).length) Slot.unset).toArray = ls at hl ⊢
  have hl : lv_has ls 5 [(0, .ref (a 0)), (1, .int p0), (2, .int p1), (3, .int p2)] := hl
  have hEi : mEi [] i i := Ei_rf
  have hEr : mEr [64] r r := Er_rf
  have hg0 : 0 ≤ (i 0).toInt ∧ (i 0).toInt ≤ 6 := hRi 0
  refine lv_aload_n hx hb dX11_kin_0 rfl (lv_at hl 0 rfl) ?_
  refine lv_iload_n hx hb dX11_kin_1 rfl (lv_at hl 2 rfl) ?_
  refine va_csq (W.runV (As := [.int p1]) (rest := []) ⟨hx, hb, hml, hown, hT⟩ (c_X11_homeAt l D cy a i r q (hW cy a i r ++ tl) p1 hRi hRr) (cwV 1 hT (gV t_443 t_444 t_445 t_446 t_2) rfl rfl rfl (by decide +kernel) ⟨Nat.le_of_ble_eq_true rfl, Nat.le_of_ble_eq_true rfl⟩) (rP_v hP hK (va_recv hK hP (ci := 11) (q0 := 0) rfl rfl)) rfl rfl hl.1 rfl (lv_room (Nat.le_of_ble_eq_true rfl)) dX11_kin_2 ⟨Nat.le_of_ble_eq_true rfl, Nat.le_of_ble_eq_true rfl⟩) (fun r_1 hr_1 => ?_)
  obtain rfl : r_1 = some (a 61) := (hr_1.1 hh).trans hq
  refine W.eq (g2 := F0 m 5 ls [.ref (a 61)]) rfl ?_
  refine lv_astore (lv' := [(4, .ref (a 61)), (0, .ref (a 0)), (1, .int p0), (2, .int p1), (3, .int p2)]) hx hb dX11_kin_5 hl (by decide) rfl (fun ls hl => ?_)
  refine lv_aload hx hb dX11_kin_7 (lv_at hl 0 rfl) ?_
  refine lv_ifnull hx hb dX11_kin_9 ?_
  refine lv_iload_n hx hb dX11_kin_12 rfl (lv_at hl 2 rfl) ?_
  refine lv_iconst (v := 0) hx hb dX11_kin_13 (by decide) ?_
  refine lv_iconst (v := 5) hx hb dX11_kin_14 (by decide) ?_
  refine vp_callSi (W.runS (As := [.int p0, .int 0, .int 5]) (rest := []) ⟨hx, hb, hml, hown, hT⟩ (c_X11_within l p0 0 5) (va_cwS 3 hT (gS t_1 t_3 t_4 t_2) rfl rfl rfl (by decide +kernel) ⟨Nat.le_of_ble_eq_true rfl, Nat.le_of_ble_eq_true rfl⟩) preT rfl rfl hl.1 rfl (lv_room (Nat.le_of_ble_eq_true rfl)) dX11_kin_15 ⟨Nat.le_of_ble_eq_true rfl, Nat.le_of_ble_eq_true rfl⟩) (fun r_2 hr_2 => ?_)
  have hr_2 : BR r_2 (0 ≤ p0.toInt ∧ p0.toInt ≤ 5) 1 0 := hr_2
  rcases hr_2 with ⟨rfl, h_3⟩ | ⟨rfl, h_3⟩
  · skip
    refine lv_if_eq (tgt := 32) hx hb dX11_kin_18 (by decide) (fun c_4 => absurd c_4 (by decide)) (fun c_4 => ?_)
    refine lv_aload hx hb dX11_kin_21 (lv_at hl 0 rfl) ?_
    refine va_get (D := D) (ci := 3) (v := .ref (a 64)) (C := RX3) (T := TX3) (N := 12) hx hb hT iX3 hown hK hP 61 rfl rfl 8 (by decide) (hT _ t_478) (fun _ h9 => h9) rfl dX11_kin_23 ?_
    refine lv_iload_n hx hb dX11_kin_26 rfl (lv_at hl 2 rfl) ?_
    refine va_zald hx hb hK hP 64 2 rfl rfl (vp_inI (by omega) (by omega)) dX11_kin_27 ?_
    refine lv_topi (fun v_5 ev_5 => ?_)
    refine lv_iload_n hx hb dX11_kin_28 rfl (lv_at hl 4 rfl) ?_
    refine lv_icmp_ne (tgt := 34) hx hb dX11_kin_29 (by decide) (fun c_6 => ?_) (fun c_6 => ?_)
    · have c_6 : v_5.toInt ≠ p2.toInt := b_ne c_6
      refine lv_aload hx hb dX11_kin_34 (lv_at hl 0 rfl) ?_
      refine va_get (D := D) (ci := 3) (v := .ref (a 64)) (C := RX3) (T := TX3) (N := 12) hx hb hT iX3 hown hK hP 61 rfl rfl 8 (by decide) (hT _ t_478) (fun _ h9 => h9) rfl dX11_kin_36 ?_
      refine lv_iload_n hx hb dX11_kin_39 rfl (lv_at hl 2 rfl) ?_
      refine lv_iload_n hx hb dX11_kin_40 rfl (lv_at hl 4 rfl) ?_
      refine va_zast hx hb hK hP hD hS 64 2 rfl rfl (vp_inI (by omega) (by omega)) dX11_kin_41 (fun H locs hP hD hS => ?_)
      rw [yS64] at hP hD
      have hRr : yRr (va_up r 64 (upd (r 64) p0.toNatClampNeg (vp_nar .boolean p2))) := Yr_upd hRr 64 (p0.toNatClampNeg) (vp_nar .boolean p2) (b_rg _)
      have hEr : mEr [64] _ (va_up r 64 (upd (r 64) p0.toNatClampNeg (vp_nar .boolean p2))) := Er_up hEr 64 _ (by decide)
      refine lv_iconst (v := 1) hx hb dX11_kin_42 (by decide) ?_
      subst hQ
      exact W.zret hx hb hr rfl (fun t ht hW => ⟨⟨_, (va_up r 64 (upd (r 64) p0.toNatClampNeg (vp_nar .boolean p2))), rfl, ⟨hRr, hEr, trivial⟩, by rw [ht]; exact hP, va_K.moved hW.alike hK, hD⟩, hS.F ht⟩) hS.2.2 dX11_kin_43
    · have c_6 : v_5.toInt = p2.toInt := b_nne c_6
      refine lv_iconst (v := 0) hx hb dX11_kin_32 (by decide) ?_
      subst hQ
      exact W.zret hx hb hr rfl (fun t ht hW => ⟨⟨_, r, rfl, ⟨hRr, hEr, trivial⟩, by rw [ht]; exact hP, va_K.moved hW.alike hK, hD⟩, hS.F ht⟩) hS.2.2 dX11_kin_33
  · skip
    refine lv_if_eq (tgt := 32) hx hb dX11_kin_18 (by decide) (fun c_7 => ?_) (fun c_7 => absurd (by decide) c_7)
    refine lv_iconst (v := 0) hx hb dX11_kin_32 (by decide) ?_
    subst hQ
    exact W.zret hx hb hr rfl (fun t ht hW => ⟨⟨_, r, rfl, ⟨hRr, hEr, trivial⟩, by rw [ht]; exact hP, va_K.moved hW.alike hK, hD⟩, hS.F ht⟩) hS.2.2 dX11_kin_33
set_option maxHeartbeats 4000000 in
set_option maxRecDepth 100000 in
theorem c_X11_kin.b (l : Launch) (D : va_G) (cy : Nat → ClassId) (a : Nat → Nat) (i : Nat → Int32) (r : Nat → Nat → Int32) (q : Nat → Option Nat) (tl : va_W) (p0 p1 p2 : Int32) (hRi : yRi i) (hRr : yRr r) (hh : ¬ (0 ≤ p1.toInt ∧ p1.toInt < (i 0).toInt)) : Met l yX11_kin (Cond.code yX11_kin cX11_kin 5 (some .boolean) :: gT) { frames := 3, cells := 0, slots := 0, locals := 67 } (va_Pc [.ref (a 0), .int p0, .int p1, .int p2] (rP D cy (xW cy a i r q (a 20) (a 12) ++ tl))) (vp_Si (fun z => z = 0)) 0 0 (fun _ => False) := by
  refine Met.ofQ (cc := cX11_kin) (maxL := 5) (ret := (some .boolean)) (by decide) rfl ?_
  intro p e s m args below meth c s₁ B hml hv Q hQ
  obtain ⟨rfl, hP, hK⟩ := hv
  have hx := B.exec
  have hb := B.bytes
  have hr := B.returns
  have hlocks := B.notSynchronized
  have hT : ∀ w ∈ gT, w.before _ s = true := fun w h => atoms_spec (ws := (Cond.code yX11_kin cX11_kin 5 (some .boolean) :: gT)) B.pre w (List.mem_cons_of_mem _ h)
  have hown : s.vm.findClass RX11 = some m.cls := findClass_of_methodNamed B.named
  have hl := lv_entry ([.ref (a 0), .int p0, .int p1, .int p2]) (n := 5) (Nat.le_of_ble_eq_true rfl)
  rw [lg_entry_eq]
  generalize (lg_sl ([.ref (a 0), .int p0, .int p1, .int p2]) ++ List.replicate (5 - (lg_sl ([.ref (a 0), .int p0, .int p1, .int p2])).length) Slot.unset).toArray = ls at hl ⊢
  have hl : lv_has ls 5 [(0, .ref (a 0)), (1, .int p0), (2, .int p1), (3, .int p2)] := hl
  have hEi : mEi [] i i := Ei_rf
  have hEr : mEr [] r r := Er_rf
  refine lv_aload_n hx hb dX11_kin_0 rfl (lv_at hl 0 rfl) ?_
  refine lv_iload_n hx hb dX11_kin_1 rfl (lv_at hl 2 rfl) ?_
  refine va_csq (W.runV (As := [.int p1]) (rest := []) ⟨hx, hb, hml, hown, hT⟩ (c_X11_homeAt l D cy a i r q tl p1 hRi hRr) (cwV 1 hT (gV t_443 t_444 t_445 t_446 t_2) rfl rfl rfl (by decide +kernel) ⟨Nat.le_of_ble_eq_true rfl, Nat.le_of_ble_eq_true rfl⟩) (rP_v hP hK (va_recv hK hP (ci := 11) (q0 := 0) rfl rfl)) rfl rfl hl.1 rfl (lv_room (Nat.le_of_ble_eq_true rfl)) dX11_kin_2 ⟨Nat.le_of_ble_eq_true rfl, Nat.le_of_ble_eq_true rfl⟩) (fun r_1 hr_1 => ?_)
  obtain rfl : r_1 = none := hr_1.2 hh
  refine W.eq (g2 := F0 m 5 ls [.null]) rfl ?_
  refine lv_astoreN (lv' := [(4, .null), (0, .ref (a 0)), (1, .int p0), (2, .int p1), (3, .int p2)]) hx hb dX11_kin_5 hl (by decide) rfl (fun ls hl => ?_)
  refine lv_aloadN hx hb dX11_kin_7 (lv_at hl 0 rfl) ?_
  refine lv_ifnullN (tgt := 32) hx hb dX11_kin_9 (by decide) ?_
  refine lv_iconst (v := 0) hx hb dX11_kin_32 (by decide) ?_
  subst hQ
  exact W.zret hx hb hr rfl (fun t ht hW => ⟨_, rfl, rfl, ht⟩) (fun q hq => absurd hq List.not_mem_nil) dX11_kin_33
set_option maxHeartbeats 4000000 in
set_option maxRecDepth 100000 in
theorem c_X11_claim.y (l : Launch) (D : va_G) (cy : Nat → ClassId) (a : Nat → Nat) (i : Nat → Int32) (r : Nat → Nat → Int32) (q : Nat → Option Nat) (tl : va_W) (p0 p1 p2 p3 p4 : Int32) (sz : Nat) (hRi : yRi i) (hRr : yRr r) (hh : 0 ≤ p0.toInt ∧ p0.toInt < (i 0).toInt) (hq : q p0.toNatClampNeg = some (a 61)) : Met l yX11_claim (Cond.code yX11_claim cX11_claim 7 (some .int) :: gT) { frames := 3, cells := 0, slots := 0, locals := 67 } (va_Pc [.ref (a 0), .int p0, .int p1, .int p2, .int p3, .int p4] (rQ D cy (xW cy a i r q (a 20) (a 12) ++ (hW cy a i r ++ tl)) sz)) (va_Qi (fun (z : Int32) (u : (Nat → Int32) × (Nat → Nat → Int32)) => yRi u.1 ∧ yRr u.2 ∧ mEi [10] i u.1 ∧ mEr [30, 31, 32, 33, 34, 35, 36, 37] r u.2 ∧ True) (fun (u : (Nat → Int32) × (Nat → Nat → Int32)) t => va_P D vwCl (xW cy a u.1 u.2 q (a 20) (a 12) ++ (hW cy a u.1 u.2 ++ tl)) t.heap ∧ va_K D vwCl (vT cy) t ∧ va_D (va_A (xW cy a i r q (a 20) (a 12) ++ (hW cy a i r ++ tl)) sz) (xW cy a u.1 u.2 q (a 20) (a 12) ++ (hW cy a u.1 u.2 ++ tl))) (va_A (xW cy a i r q (a 20) (a 12) ++ (hW cy a i r ++ tl)) sz)) 0 0 (va_A (xW cy a i r q (a 20) (a 12) ++ (hW cy a i r ++ tl)) sz) := by
  refine Met.ofQ (cc := cX11_claim) (maxL := 7) (ret := (some .int)) (by decide) rfl ?_
  intro p e s m args below meth c s₁ B hml hv Q hQ
  obtain ⟨rfl, hsz, hP, hK, hD0⟩ := hv
  have hx := B.exec
  have hb := B.bytes
  have hr := B.returns
  have hlocks := B.notSynchronized
  have hT : ∀ w ∈ gT, w.before _ s = true := fun w h => atoms_spec (ws := (Cond.code yX11_claim cX11_claim 7 (some .int) :: gT)) B.pre w (List.mem_cons_of_mem _ h)
  have hown : s.vm.findClass RX11 = some m.cls := findClass_of_methodNamed B.named
  subst hsz
  have hD := hD0.self (sz := s.heap.size)
  generalize hAe : va_A (xW cy a i r q (a 20) (a 12) ++ (hW cy a i r ++ tl)) s.heap.size = A at hD hQ
  have hA : ∀ q : Nat, s.heap.size ≤ q → A q := fun q h => by rw [← hAe]; exact Or.inr h
  have hS : va_S A s.heap s.heap [] := va_S.rf
  have hl := lv_entry ([.ref (a 0), .int p0, .int p1, .int p2, .int p3, .int p4]) (n := 7) (Nat.le_of_ble_eq_true rfl)
  rw [lg_entry_eq]
  generalize (lg_sl ([.ref (a 0), .int p0, .int p1, .int p2, .int p3, .int p4]) ++ List.replicate (7 - (lg_sl ([.ref (a 0), .int p0, .int p1, .int p2, .int p3, .int p4])).length) Slot.unset).toArray = ls at hl ⊢
  have hl : lv_has ls 7 [(0, .ref (a 0)), (1, .int p0), (2, .int p1), (3, .int p2), (4, .int p3), (5, .int p4)] := hl
  have hEi : mEi [10] i i := Ei_rf
  have hEr : mEr [30, 31, 32, 33, 34, 35, 36, 37] r r := Er_rf
  have hg0 : 0 ≤ (i 0).toInt ∧ (i 0).toInt ≤ 6 := hRi 0
  refine lv_aload_n hx hb dX11_claim_0 rfl (lv_at hl 0 rfl) ?_
  refine lv_iload_n hx hb dX11_claim_1 rfl (lv_at hl 1 rfl) ?_
  refine va_csq (W.runV (As := [.int p0]) (rest := []) ⟨hx, hb, hml, hown, hT⟩ (c_X11_homeAt l D cy a i r q (hW cy a i r ++ tl) p0 hRi hRr) (cwV 1 hT (gV t_443 t_444 t_445 t_446 t_2) rfl rfl rfl (by decide +kernel) ⟨Nat.le_of_ble_eq_true rfl, Nat.le_of_ble_eq_true rfl⟩) (rP_v hP hK (va_recv hK hP (ci := 11) (q0 := 0) rfl rfl)) rfl rfl hl.1 rfl (lv_room (Nat.le_of_ble_eq_true rfl)) dX11_claim_2 ⟨Nat.le_of_ble_eq_true rfl, Nat.le_of_ble_eq_true rfl⟩) (fun r_1 hr_1 => ?_)
  obtain rfl : r_1 = some (a 61) := (hr_1.1 hh).trans hq
  refine W.eq (g2 := F0 m 5 ls [.ref (a 61)]) rfl ?_
  refine lv_astore (lv' := [(6, .ref (a 61)), (0, .ref (a 0)), (1, .int p0), (2, .int p1), (3, .int p2), (4, .int p3), (5, .int p4)]) hx hb dX11_claim_5 hl (by decide) rfl (fun ls hl => ?_)
  refine lv_aload hx hb dX11_claim_7 (lv_at hl 0 rfl) ?_
  refine lv_ifnull hx hb dX11_claim_9 ?_
  refine lv_iload_n hx hb dX11_claim_12 rfl (lv_at hl 3 rfl) ?_
  refine lv_iconst (v := 0) hx hb dX11_claim_13 (by decide) ?_
  refine lv_aload hx hb dX11_claim_14 (lv_at hl 0 rfl) ?_
  refine va_get (D := D) (ci := 3) (v := .ref (a 65)) (C := RX3) (T := TX3) (N := 12) hx hb hT iX3 hown hK hP 61 rfl rfl 9 (by decide) (hT _ t_453) (fun _ h9 => h9) rfl dX11_claim_16 ?_
  refine va_get (D := D) (ci := 10) (v := .int (i 23)) (C := RX10) (T := TX10) (N := 5) hx hb hT iX10 hown hK hP 65 rfl rfl 0 (by decide) (hT _ t_463) (fun _ h9 => h9) rfl dX11_claim_19 ?_
  have hg_2 : 0 ≤ (i 23).toInt ∧ (i 23).toInt ≤ 20 := hRi 23
  refine lv_iconst (v := 1) hx hb dX11_claim_22 (by decide) ?_
  refine lv_isub hx hb dX11_claim_23 ?_
  refine lv_topi (fun v_3 ev_3 => ?_)
  have hv_3 : v_3.toInt = (i 23).toInt - 1 := by rw [ev_3]; have := b_rg (i 23); exact i_sub (a := (i 23).toInt) (b := 1) rfl rfl (by omega) (by omega)
  refine vp_callSi (W.runS (As := [.int p1, .int 0, .int v_3]) (rest := []) ⟨hx, hb, hml, hown, hT⟩ (c_X11_within l p1 0 v_3) (va_cwS 3 hT (gS t_1 t_3 t_4 t_2) rfl rfl rfl (by decide +kernel) ⟨Nat.le_of_ble_eq_true rfl, Nat.le_of_ble_eq_true rfl⟩) preT rfl rfl hl.1 rfl (lv_room (Nat.le_of_ble_eq_true rfl)) dX11_claim_24 ⟨Nat.le_of_ble_eq_true rfl, Nat.le_of_ble_eq_true rfl⟩) (fun r_4 hr_4 => ?_)
  have hr_4 : BR r_4 (0 ≤ p1.toInt ∧ p1.toInt ≤ v_3.toInt) 1 0 := hr_4
  rcases hr_4 with ⟨rfl, h_5⟩ | ⟨rfl, h_5⟩
  · skip
    refine lv_if_eq (tgt := 59) hx hb dX11_claim_27 (by decide) (fun c_6 => absurd c_6 (by decide)) (fun c_6 => ?_)
    refine lv_iload_n hx hb dX11_claim_30 rfl (lv_at hl 4 rfl) ?_
    refine lv_iconst (v := 0) hx hb dX11_claim_31 (by decide) ?_
    refine lv_bipush (v := 9) hx hb dX11_claim_32 (by decide) ?_
    refine vp_callSi (W.runS (As := [.int p2, .int 0, .int 9]) (rest := []) ⟨hx, hb, hml, hown, hT⟩ (c_X11_within l p2 0 9) (va_cwS 3 hT (gS t_1 t_3 t_4 t_2) rfl rfl rfl (by decide +kernel) ⟨Nat.le_of_ble_eq_true rfl, Nat.le_of_ble_eq_true rfl⟩) preT rfl rfl hl.1 rfl (lv_room (Nat.le_of_ble_eq_true rfl)) dX11_claim_34 ⟨Nat.le_of_ble_eq_true rfl, Nat.le_of_ble_eq_true rfl⟩) (fun r_7 hr_7 => ?_)
    have hr_7 : BR r_7 (0 ≤ p2.toInt ∧ p2.toInt ≤ 9) 1 0 := hr_7
    rcases hr_7 with ⟨rfl, h_8⟩ | ⟨rfl, h_8⟩
    · skip
      refine lv_if_eq (tgt := 59) hx hb dX11_claim_37 (by decide) (fun c_9 => absurd c_9 (by decide)) (fun c_9 => ?_)
      refine lv_iload hx hb dX11_claim_40 (lv_at hl 5 rfl) ?_
      refine lv_iconst (v := 0) hx hb dX11_claim_42 (by decide) ?_
      refine lv_bipush (v := 7) hx hb dX11_claim_43 (by decide) ?_
      refine vp_callSi (W.runS (As := [.int p3, .int 0, .int 7]) (rest := []) ⟨hx, hb, hml, hown, hT⟩ (c_X11_within l p3 0 7) (va_cwS 3 hT (gS t_1 t_3 t_4 t_2) rfl rfl rfl (by decide +kernel) ⟨Nat.le_of_ble_eq_true rfl, Nat.le_of_ble_eq_true rfl⟩) preT rfl rfl hl.1 rfl (lv_room (Nat.le_of_ble_eq_true rfl)) dX11_claim_45 ⟨Nat.le_of_ble_eq_true rfl, Nat.le_of_ble_eq_true rfl⟩) (fun r_10 hr_10 => ?_)
      have hr_10 : BR r_10 (0 ≤ p3.toInt ∧ p3.toInt ≤ 7) 1 0 := hr_10
      rcases hr_10 with ⟨rfl, h_11⟩ | ⟨rfl, h_11⟩
      · skip
        refine lv_if_eq (tgt := 59) hx hb dX11_claim_48 (by decide) (fun c_12 => absurd c_12 (by decide)) (fun c_12 => ?_)
        refine lv_iload hx hb dX11_claim_51 (lv_at hl 6 rfl) ?_
        refine vp_callSi (W.runS (As := [.int p4]) (rest := []) ⟨hx, hb, hml, hown, hT⟩ (c_X11_isDay l p4) (va_cwS 1 hT (gS t_279 t_280 t_281 t_2) rfl rfl rfl (by decide +kernel) ⟨Nat.le_of_ble_eq_true rfl, Nat.le_of_ble_eq_true rfl⟩) preT rfl rfl hl.1 rfl (lv_room (Nat.le_of_ble_eq_true rfl)) dX11_claim_53 ⟨Nat.le_of_ble_eq_true rfl, Nat.le_of_ble_eq_true rfl⟩) (fun r_13 hr_13 => ?_)
        have hr_13 : BR r_13 (0 ≤ p4.toInt ∧ p4.toInt ≤ 9999) 1 0 := hr_13
        rcases hr_13 with ⟨rfl, h_14⟩ | ⟨rfl, h_14⟩
        · skip
          refine lv_if_ne (tgt := 61) hx hb dX11_claim_56 (by decide) (fun c_15 => ?_) (fun c_15 => absurd c_15 (by decide))
          refine lv_aload_n hx hb dX11_claim_61 rfl (lv_at hl 1 rfl) ?_
          refine va_get (D := D) (ci := 11) (v := .ref (a 29)) (C := RX11) (T := TX11) (N := 14) hx hb hT iX11 hown hK hP 0 rfl rfl 8 (by decide) (hT _ t_265) (fun _ h9 => h9) rfl dX11_claim_62 ?_
          refine lv_iload_n hx hb dX11_claim_65 rfl (lv_at hl 2 rfl) ?_
          refine lv_iload_n hx hb dX11_claim_66 rfl (lv_at hl 3 rfl) ?_
          refine vp_callSi (W.runV (As := [.int p0, .int p1]) (rest := []) ⟨hx, hb, hml, hown, hT⟩ (c_X1_isClaimed l D cy a i r q (hW cy a i r ++ tl) p0 p1 hRi hRr) (cwV 2 hT (gV t_479 t_480 t_481 t_482 t_356) rfl rfl rfl (by decide +kernel) ⟨Nat.le_of_ble_eq_true rfl, Nat.le_of_ble_eq_true rfl⟩) (rP_v hP hK (va_recv hK hP (ci := 1) (q0 := 29) rfl rfl)) rfl rfl hl.1 rfl (lv_room (Nat.le_of_ble_eq_true rfl)) dX11_claim_67 ⟨Nat.le_of_ble_eq_true rfl, Nat.le_of_ble_eq_true rfl⟩) (fun r_16 hr_16 => ?_)
          rcases hr_16 with rfl | rfl
          · skip
            refine lv_if_eq (tgt := 76) hx hb dX11_claim_70 (by decide) (fun c_17 => ?_) (fun c_17 => absurd (by decide) c_17)
            refine lv_aload_n hx hb dX11_claim_76 rfl (lv_at hl 1 rfl) ?_
            refine va_get (D := D) (ci := 11) (v := .ref (a 29)) (C := RX11) (T := TX11) (N := 14) hx hb hT iX11 hown hK hP 0 rfl rfl 8 (by decide) (hT _ t_265) (fun _ h9 => h9) rfl dX11_claim_77 ?_
            refine lv_iload_n hx hb dX11_claim_80 rfl (lv_at hl 2 rfl) ?_
            refine lv_iload_n hx hb dX11_claim_81 rfl (lv_at hl 3 rfl) ?_
            refine lv_iload_n hx hb dX11_claim_82 rfl (lv_at hl 4 rfl) ?_
            refine lv_iload hx hb dX11_claim_83 (lv_at hl 5 rfl) ?_
            refine lv_iload hx hb dX11_claim_85 (lv_at hl 6 rfl) ?_
            have hF_18 := rF hD hS hA
            refine va_calli (va_runV (As := [.int p0, .int p1, .int p2, .int p3, .int p4]) (rest := []) ⟨hx, hb, hml, hown, hT⟩ (c_X1_add l D cy a i r q (hW cy a i r ++ tl) p0 p1 p2 p3 p4 _ hRi hRr (by first | omega | decide) (by first | omega | decide) (by first | omega | decide) (by first | omega | decide) (by first | omega | decide)) (cwV 5 hT (gV t_483 t_484 t_485 t_486 t_356) rfl rfl rfl (by decide +kernel) ⟨Nat.le_of_ble_eq_true rfl, Nat.le_of_ble_eq_true rfl⟩) (rQ_v hP hK hD (va_recv hK hP (ci := 1) (q0 := 29) rfl rfl)) rfl rfl hl.1 rfl (lv_room (Nat.le_of_ble_eq_true rfl)) dX11_claim_87 ⟨Nat.le_of_ble_eq_true rfl, Nat.le_of_ble_eq_true rfl⟩) hS (fun q _ h => hF_18 q h) hF_18 (fun r_19 u_20 t H1 locs ht hvm hr_19 hB hz1 hk1 hS => ?_)
            obtain ⟨i20, r20⟩ := u_20
            obtain ⟨hP, hK1, hD1⟩ := hB
            rw [ht] at hP
            have hD := hD1.weaken (fun k q _ h => hF_18 q.1 h)
            obtain ⟨hRi, hRr, hE1, hE2, hr_19⟩ := hr_19
            have hRi : yRi i20 := hRi
            have hE1 : mEi [10] i i20 := hE1
            have hRr : yRr r20 := hRr
            have hE2 : mEr [30, 31, 32, 33, 34, 35, 36, 37] r r20 := hE2
            have hwe : hW cy a i20 r20 = hW cy a i r := hW_eqE hE1 hE2 rfl rfl
            have hP : va_P D vwCl (xW cy a i20 r20 q (a 20) (a 12) ++ (hW cy a i20 r20 ++ tl)) H1 := by rw [hwe]; exact hP
            have hD : va_D A (xW cy a i20 r20 q (a 20) (a 12) ++ (hW cy a i20 r20 ++ tl)) := by rw [hwe]; exact hD
            have hEi : mEi [10] _ i20 := Ei_tr hEi hE1 (by decide)
            have hEr : mEr [30, 31, 32, 33, 34, 35, 36, 37] _ r20 := Er_tr hEr hE2 (by decide)
            subst hQ
            exact W.iret (v := r_19) hx hb hr (fun t ht hW => ⟨⟨_, (i20, r20), rfl, ⟨hRi, hRr, hEi, hEr, trivial⟩, by rw [ht]; exact hP, va_K.moved hW.alike hK, hD⟩, hS.F ht⟩) hS.2.2 dX11_claim_90
          · skip
            refine lv_if_eq (tgt := 76) hx hb dX11_claim_70 (by decide) (fun c_21 => absurd c_21 (by decide)) (fun c_21 => ?_)
            refine lv_bipush (v := (-2)) hx hb dX11_claim_73 (by decide) ?_
            subst hQ
            exact W.iret (v := (-2)) hx hb hr (fun t ht hW => ⟨⟨_, (i, r), rfl, ⟨hRi, hRr, hEi, hEr, trivial⟩, by rw [ht]; exact hP, va_K.moved hW.alike hK, hD⟩, hS.F ht⟩) hS.2.2 dX11_claim_75
        · skip
          refine lv_if_ne (tgt := 61) hx hb dX11_claim_56 (by decide) (fun c_22 => absurd (by decide) c_22) (fun c_22 => ?_)
          refine lv_iconst (v := (-1)) hx hb dX11_claim_59 (by decide) ?_
          subst hQ
          exact W.iret (v := (-1)) hx hb hr (fun t ht hW => ⟨⟨_, (i, r), rfl, ⟨hRi, hRr, hEi, hEr, trivial⟩, by rw [ht]; exact hP, va_K.moved hW.alike hK, hD⟩, hS.F ht⟩) hS.2.2 dX11_claim_60
      · skip
        refine lv_if_eq (tgt := 59) hx hb dX11_claim_48 (by decide) (fun c_23 => ?_) (fun c_23 => absurd (by decide) c_23)
        refine lv_iconst (v := (-1)) hx hb dX11_claim_59 (by decide) ?_
        subst hQ
        exact W.iret (v := (-1)) hx hb hr (fun t ht hW => ⟨⟨_, (i, r), rfl, ⟨hRi, hRr, hEi, hEr, trivial⟩, by rw [ht]; exact hP, va_K.moved hW.alike hK, hD⟩, hS.F ht⟩) hS.2.2 dX11_claim_60
    · skip
      refine lv_if_eq (tgt := 59) hx hb dX11_claim_37 (by decide) (fun c_24 => ?_) (fun c_24 => absurd (by decide) c_24)
      refine lv_iconst (v := (-1)) hx hb dX11_claim_59 (by decide) ?_
      subst hQ
      exact W.iret (v := (-1)) hx hb hr (fun t ht hW => ⟨⟨_, (i, r), rfl, ⟨hRi, hRr, hEi, hEr, trivial⟩, by rw [ht]; exact hP, va_K.moved hW.alike hK, hD⟩, hS.F ht⟩) hS.2.2 dX11_claim_60
  · skip
    refine lv_if_eq (tgt := 59) hx hb dX11_claim_27 (by decide) (fun c_25 => ?_) (fun c_25 => absurd (by decide) c_25)
    refine lv_iconst (v := (-1)) hx hb dX11_claim_59 (by decide) ?_
    subst hQ
    exact W.iret (v := (-1)) hx hb hr (fun t ht hW => ⟨⟨_, (i, r), rfl, ⟨hRi, hRr, hEi, hEr, trivial⟩, by rw [ht]; exact hP, va_K.moved hW.alike hK, hD⟩, hS.F ht⟩) hS.2.2 dX11_claim_60
set_option maxHeartbeats 4000000 in
set_option maxRecDepth 100000 in
theorem c_X11_claim.b (l : Launch) (D : va_G) (cy : Nat → ClassId) (a : Nat → Nat) (i : Nat → Int32) (r : Nat → Nat → Int32) (q : Nat → Option Nat) (tl : va_W) (p0 p1 p2 p3 p4 : Int32) (hRi : yRi i) (hRr : yRr r) (hh : ¬ (0 ≤ p0.toInt ∧ p0.toInt < (i 0).toInt)) : Met l yX11_claim (Cond.code yX11_claim cX11_claim 7 (some .int) :: gT) { frames := 3, cells := 0, slots := 0, locals := 67 } (va_Pc [.ref (a 0), .int p0, .int p1, .int p2, .int p3, .int p4] (rP D cy (xW cy a i r q (a 20) (a 12) ++ tl))) (vp_Si (fun z => z = (-1))) 0 0 (fun _ => False) := by
  refine Met.ofQ (cc := cX11_claim) (maxL := 7) (ret := (some .int)) (by decide) rfl ?_
  intro p e s m args below meth c s₁ B hml hv Q hQ
  obtain ⟨rfl, hP, hK⟩ := hv
  have hx := B.exec
  have hb := B.bytes
  have hr := B.returns
  have hlocks := B.notSynchronized
  have hT : ∀ w ∈ gT, w.before _ s = true := fun w h => atoms_spec (ws := (Cond.code yX11_claim cX11_claim 7 (some .int) :: gT)) B.pre w (List.mem_cons_of_mem _ h)
  have hown : s.vm.findClass RX11 = some m.cls := findClass_of_methodNamed B.named
  have hl := lv_entry ([.ref (a 0), .int p0, .int p1, .int p2, .int p3, .int p4]) (n := 7) (Nat.le_of_ble_eq_true rfl)
  rw [lg_entry_eq]
  generalize (lg_sl ([.ref (a 0), .int p0, .int p1, .int p2, .int p3, .int p4]) ++ List.replicate (7 - (lg_sl ([.ref (a 0), .int p0, .int p1, .int p2, .int p3, .int p4])).length) Slot.unset).toArray = ls at hl ⊢
  have hl : lv_has ls 7 [(0, .ref (a 0)), (1, .int p0), (2, .int p1), (3, .int p2), (4, .int p3), (5, .int p4)] := hl
  have hEi : mEi [] i i := Ei_rf
  have hEr : mEr [] r r := Er_rf
  refine lv_aload_n hx hb dX11_claim_0 rfl (lv_at hl 0 rfl) ?_
  refine lv_iload_n hx hb dX11_claim_1 rfl (lv_at hl 1 rfl) ?_
  refine va_csq (W.runV (As := [.int p0]) (rest := []) ⟨hx, hb, hml, hown, hT⟩ (c_X11_homeAt l D cy a i r q tl p0 hRi hRr) (cwV 1 hT (gV t_443 t_444 t_445 t_446 t_2) rfl rfl rfl (by decide +kernel) ⟨Nat.le_of_ble_eq_true rfl, Nat.le_of_ble_eq_true rfl⟩) (rP_v hP hK (va_recv hK hP (ci := 11) (q0 := 0) rfl rfl)) rfl rfl hl.1 rfl (lv_room (Nat.le_of_ble_eq_true rfl)) dX11_claim_2 ⟨Nat.le_of_ble_eq_true rfl, Nat.le_of_ble_eq_true rfl⟩) (fun r_1 hr_1 => ?_)
  obtain rfl : r_1 = none := hr_1.2 hh
  refine W.eq (g2 := F0 m 5 ls [.null]) rfl ?_
  refine lv_astoreN (lv' := [(6, .null), (0, .ref (a 0)), (1, .int p0), (2, .int p1), (3, .int p2), (4, .int p3), (5, .int p4)]) hx hb dX11_claim_5 hl (by decide) rfl (fun ls hl => ?_)
  refine lv_aloadN hx hb dX11_claim_7 (lv_at hl 0 rfl) ?_
  refine lv_ifnullN (tgt := 59) hx hb dX11_claim_9 (by decide) ?_
  refine lv_iconst (v := (-1)) hx hb dX11_claim_59 (by decide) ?_
  subst hQ
  exact W.iret (v := (-1)) hx hb hr (fun t ht hW => ⟨_, rfl, rfl, ht⟩) (fun q hq => absurd hq List.not_mem_nil) dX11_claim_60
set_option maxHeartbeats 4000000 in
set_option maxRecDepth 100000 in
theorem c_X11_draw.y (l : Launch) (D : va_G) (cy : Nat → ClassId) (a : Nat → Nat) (i : Nat → Int32) (r : Nat → Nat → Int32) (q : Nat → Option Nat) (tl : va_W) (p0 : Int32) (sz : Nat) (hRi : yRi i) (hRr : yRr r) (hh : 0 ≤ p0.toInt ∧ p0.toInt < (i 0).toInt) (hq : q p0.toNatClampNeg = some (a 61)) : Met l yX11_draw (Cond.code yX11_draw cX11_draw 5 (some .int) :: gT) { frames := 3, cells := 0, slots := 0, locals := 67 } (va_Pc [.ref (a 0), .int p0] (rQ D cy (xW cy a i r q (a 20) (a 12) ++ (hW cy a i r ++ tl)) sz)) (va_Qi (fun (z : Int32) (u : (Nat → Int32) × (Nat → Nat → Int32)) => yRi u.1 ∧ yRr u.2 ∧ mEi [11] i u.1 ∧ mEr [] r u.2 ∧ True) (fun (u : (Nat → Int32) × (Nat → Nat → Int32)) t => va_P D vwCl (xW cy a u.1 u.2 q (a 20) (a 12) ++ (hW cy a u.1 u.2 ++ tl)) t.heap ∧ va_K D vwCl (vT cy) t ∧ va_D (va_A (xW cy a i r q (a 20) (a 12) ++ (hW cy a i r ++ tl)) sz) (xW cy a u.1 u.2 q (a 20) (a 12) ++ (hW cy a u.1 u.2 ++ tl))) (va_A (xW cy a i r q (a 20) (a 12) ++ (hW cy a i r ++ tl)) sz)) 0 0 (va_A (xW cy a i r q (a 20) (a 12) ++ (hW cy a i r ++ tl)) sz) := by
  refine Met.ofQ (cc := cX11_draw) (maxL := 5) (ret := (some .int)) (by decide) rfl ?_
  intro p e s m args below meth c s₁ B hml hv Q hQ
  obtain ⟨rfl, hsz, hP, hK, hD0⟩ := hv
  have hx := B.exec
  have hb := B.bytes
  have hr := B.returns
  have hlocks := B.notSynchronized
  have hT : ∀ w ∈ gT, w.before _ s = true := fun w h => atoms_spec (ws := (Cond.code yX11_draw cX11_draw 5 (some .int) :: gT)) B.pre w (List.mem_cons_of_mem _ h)
  have hown : s.vm.findClass RX11 = some m.cls := findClass_of_methodNamed B.named
  subst hsz
  have hD := hD0.self (sz := s.heap.size)
  generalize hAe : va_A (xW cy a i r q (a 20) (a 12) ++ (hW cy a i r ++ tl)) s.heap.size = A at hD hQ
  have hA : ∀ q : Nat, s.heap.size ≤ q → A q := fun q h => by rw [← hAe]; exact Or.inr h
  have hS : va_S A s.heap s.heap [] := va_S.rf
  have hl := lv_entry ([.ref (a 0), .int p0]) (n := 5) (Nat.le_of_ble_eq_true rfl)
  rw [lg_entry_eq]
  generalize (lg_sl ([.ref (a 0), .int p0]) ++ List.replicate (5 - (lg_sl ([.ref (a 0), .int p0])).length) Slot.unset).toArray = ls at hl ⊢
  have hl : lv_has ls 5 [(0, .ref (a 0)), (1, .int p0)] := hl
  have hEi : mEi [11] i i := Ei_rf
  have hEr : mEr [] r r := Er_rf
  have hg0 : 0 ≤ (i 0).toInt ∧ (i 0).toInt ≤ 6 := hRi 0
  refine lv_aload_n hx hb dX11_draw_0 rfl (lv_at hl 0 rfl) ?_
  refine lv_iload_n hx hb dX11_draw_1 rfl (lv_at hl 1 rfl) ?_
  refine va_csq (W.runV (As := [.int p0]) (rest := []) ⟨hx, hb, hml, hown, hT⟩ (c_X11_homeAt l D cy a i r q (hW cy a i r ++ tl) p0 hRi hRr) (cwV 1 hT (gV t_443 t_444 t_445 t_446 t_2) rfl rfl rfl (by decide +kernel) ⟨Nat.le_of_ble_eq_true rfl, Nat.le_of_ble_eq_true rfl⟩) (rP_v hP hK (va_recv hK hP (ci := 11) (q0 := 0) rfl rfl)) rfl rfl hl.1 rfl (lv_room (Nat.le_of_ble_eq_true rfl)) dX11_draw_2 ⟨Nat.le_of_ble_eq_true rfl, Nat.le_of_ble_eq_true rfl⟩) (fun r_1 hr_1 => ?_)
  obtain rfl : r_1 = some (a 61) := (hr_1.1 hh).trans hq
  refine W.eq (g2 := F0 m 5 ls [.ref (a 61)]) rfl ?_
  refine lv_astore_n (lv' := [(2, .ref (a 61)), (0, .ref (a 0)), (1, .int p0)]) hx hb dX11_draw_5 rfl hl (by decide) rfl (fun ls hl => ?_)
  refine lv_aload_n hx hb dX11_draw_6 rfl (lv_at hl 0 rfl) ?_
  refine lv_ifnonnull (tgt := 12) hx hb dX11_draw_7 (by decide) ?_
  refine lv_aload_n hx hb dX11_draw_12 rfl (lv_at hl 0 rfl) ?_
  refine vp_callSi (W.runV (As := []) (rest := []) ⟨hx, hb, hml, hown, hT⟩ (c_X3_allAreKin l D cy a i r q tl hRi hRr) (cwV 0 hT (gV t_487 t_488 t_489 t_490 t_391) rfl rfl rfl (by decide +kernel) ⟨Nat.le_of_ble_eq_true rfl, Nat.le_of_ble_eq_true rfl⟩) (rP_v hP hK (va_recv hK hP (ci := 3) (q0 := 61) rfl rfl)) rfl rfl hl.1 rfl (lv_room (Nat.le_of_ble_eq_true rfl)) dX11_draw_13 ⟨Nat.le_of_ble_eq_true rfl, Nat.le_of_ble_eq_true rfl⟩) (fun r_2 hr_2 => ?_)
  rcases hr_2 with rfl | rfl
  · skip
    refine lv_if_eq (tgt := 22) hx hb dX11_draw_16 (by decide) (fun c_3 => ?_) (fun c_3 => absurd (by decide) c_3)
    refine lv_aload_n hx hb dX11_draw_22 rfl (lv_at hl 1 rfl) ?_
    refine va_get (D := D) (ci := 11) (v := .ref (a 29)) (C := RX11) (T := TX11) (N := 14) hx hb hT iX11 hown hK hP 0 rfl rfl 8 (by decide) (hT _ t_265) (fun _ h9 => h9) rfl dX11_draw_23 ?_
    refine va_get (D := D) (ci := 1) (v := .int (i 11)) (C := RX1) (T := TX1) (N := 12) hx hb hT iX1 hown hK hP 29 rfl rfl 11 (by decide) (hT _ t_272) (fun _ h9 => h9) rfl dX11_draw_26 ?_
    have hg_4 : 0 ≤ (i 11).toInt ∧ (i 11).toInt ≤ 65535 := hRi 11
    refine lv_istore_n (lv' := [(3, .int (i 11)), (2, .ref (a 61)), (0, .ref (a 0)), (1, .int p0)]) hx hb dX11_draw_29 rfl hl (by decide) rfl (fun ls hl => ?_)
    refine lv_iconst (v := 0) hx hb dX11_draw_30 (by decide) ?_
    refine lv_istore (lv' := [(4, .int 0), (3, .int (i 11)), (2, .ref (a 61)), (0, .ref (a 0)), (1, .int p0)]) hx hb dX11_draw_31 hl (by decide) rfl (fun ls hl => ?_)
    have loop_5 : ∀ (n : Nat) (x5_4 : Int32) (x5_3 : Int32) (H : Heap) (locs : List Loc) (ls : Array Slot), (65536 - x5_4.toInt).toNat < n → (0 ≤ x5_4.toInt ∧ x5_4.toInt ≤ 65536) → va_P D vwCl (xW cy a i r q (a 20) (a 12) ++ (hW cy a i r ++ tl)) H → va_D A (xW cy a i r q (a 20) (a 12) ++ (hW cy a i r ++ tl)) → va_S A s.heap H locs → lv_has ls 5 [(4, .int x5_4), (3, .int x5_3), (2, .ref (a 61)), (0, .ref (a 0)), (1, .int p0)] → W p l e ({ frames := 3, cells := 0, slots := 0, locals := 67 } : Room) s m ([.ref (a 0), .int p0] : List Value).toArray below meth c H locs 0 0 Q (F0 m 33 ls []) := by
      intro n
      induction n with
      | zero =>
        intro x5_4 x5_3 H locs ls hm5 hf5_0 hP hD hS hl
        exact absurd hm5 (by omega)
      | succ n ih5 =>
        intro x5_4 x5_3 H locs ls hm5 hf5_0 hP hD hS hl
        refine lv_iload hx hb dX11_draw_33 (lv_at hl 0 rfl) ?_
        refine lv_ldcw (v := 65536) hx hb hown (hT _ t_491) dX11_draw_35 ?_
        refine lv_icmp_ge (tgt := 86) hx hb dX11_draw_38 (by decide) (fun c_6 => ?_) (fun c_6 => ?_)
        · have c_6 : 65536 ≤ x5_4.toInt := b_le c_6
          refine lv_bipush (v := (-2)) hx hb dX11_draw_86 (by decide) ?_
          subst hQ
          exact W.iret (v := (-2)) hx hb hr (fun t ht hW => ⟨⟨_, (i, r), rfl, ⟨hRi, hRr, hEi, hEr, trivial⟩, by rw [ht]; exact hP, va_K.moved hW.alike hK, hD⟩, hS.F ht⟩) hS.2.2 dX11_draw_88
        · have c_6 : x5_4.toInt < 65536 := b_nle c_6
          refine lv_sipush (v := 25173) hx hb dX11_draw_41 (by decide) ?_
          refine lv_iload_n hx hb dX11_draw_44 rfl (lv_at hl 1 rfl) ?_
          refine lv_imul hx hb dX11_draw_45 ?_
          refine lv_topi (fun v_7 ev_7 => ?_)
          refine lv_sipush (v := 13849) hx hb dX11_draw_46 (by decide) ?_
          refine lv_iadd hx hb dX11_draw_49 ?_
          refine lv_topi (fun v_8 ev_8 => ?_)
          refine lv_ldcw (v := 65535) hx hb hown (hT _ t_271) dX11_draw_50 ?_
          refine lv_iand hx hb dX11_draw_53 ?_
          refine lv_topi (fun v_9 ev_9 => ?_)
          have hmv_9 : 0 ≤ v_9.toInt ∧ v_9.toInt ≤ 65535 := by rw [ev_9]; exact b_andm v_8 16 (by decide) (by decide)
          refine lv_istore_n (lv' := [(3, .int v_9), (4, .int x5_4), (2, .ref (a 61)), (0, .ref (a 0)), (1, .int p0)]) hx hb dX11_draw_54 rfl hl (by decide) rfl (fun ls hl => ?_)
          refine lv_aload_n hx hb dX11_draw_55 rfl (lv_at hl 2 rfl) ?_
          refine va_get (D := D) (ci := 3) (v := .ref (a 64)) (C := RX3) (T := TX3) (N := 12) hx hb hT iX3 hown hK hP 61 rfl rfl 8 (by decide) (hT _ t_478) (fun _ h9 => h9) rfl dX11_draw_56 ?_
          refine lv_iload_n hx hb dX11_draw_59 rfl (lv_at hl 0 rfl) ?_
          refine lv_bipush (v := 6) hx hb dX11_draw_60 (by decide) ?_
          refine lv_irem hx hb dX11_draw_62 (by decide) ?_
          refine lv_topi (fun v_10 ev_10 => ?_)
          have hmv_10 : v_10.toInt = v_9.toInt % 6 := by rw [ev_10, rem_toInt]; exact Int.tmod_eq_emod_of_nonneg (by omega)
          refine va_zald hx hb hK hP 64 2 rfl rfl (vp_inI (by omega) (by omega)) dX11_draw_63 ?_
          refine lv_topi (fun v_11 ev_11 => ?_)
          refine lv_if_ne (tgt := 80) hx hb dX11_draw_64 (by decide) (fun c_12 => ?_) (fun c_12 => ?_)
          · have c_12 : v_11.toInt ≠ 0 := b_ne c_12
            obtain ⟨x_13, ex_13⟩ : ∃ y : Int32, y = x5_4 + 1 := ⟨_, rfl⟩
            refine lv_iinc (v := x_13) (lv' := [(4, .int x_13), (3, .int v_9), (2, .ref (a 61)), (0, .ref (a 0)), (1, .int p0)]) hx hb dX11_draw_80 hl (k := 1) rfl (by rw [ex_13]; rfl) (by decide) rfl (fun ls hl => ?_)
            have hx_13 : x_13.toInt = x5_4.toInt + 1 := by rw [ex_13]; have := b_rg x5_4; exact i_add (a := x5_4.toInt) (b := 1) rfl rfl (by omega) (by omega)
            refine lv_goto (tgt := 33) hx hb dX11_draw_83 (by decide) ?_
            exact ih5 x_13 v_9 _ _ _ (by first | omega | (simp only [Int.toNat]; omega)) (by first | omega | decide)   hP hD hS (lv_sub hl [0, 1, 2, 3, 4] rfl)
          · have c_12 : v_11.toInt = 0 := b_nne c_12
            refine lv_aload_n hx hb dX11_draw_67 rfl (lv_at hl 3 rfl) ?_
            refine va_get (D := D) (ci := 11) (v := .ref (a 29)) (C := RX11) (T := TX11) (N := 14) hx hb hT iX11 hown hK hP 0 rfl rfl 8 (by decide) (hT _ t_265) (fun _ h9 => h9) rfl dX11_draw_68 ?_
            refine lv_iload_n hx hb dX11_draw_71 rfl (lv_at hl 0 rfl) ?_
            refine va_put (D := D) (ci := 1) (v := .int v_9) (ty := .int) (C := RX1) (T := TX1) (N := 12) hx hb hT iX1 tyX1 tyX1_ok nmX1 hown hK hP hD hS 29 rfl rfl 11 (by decide) (hT _ t_272) (fun _ h9 => h9) rfl (by decide +kernel) rfl rfl (Nat.le_of_ble_eq_true rfl) dX11_draw_72 (fun H locs hP hD hS => ?_)
            rw [yP11] at hP hD
            have hRi := Yi_upd hRi 11 v_9 ⟨by show (0 : Int) ≤ v_9.toInt; omega, by show v_9.toInt ≤ (65535 : Int); omega⟩
            have hEi := Ei_upd hEi 11 v_9 (by decide)
            refine lv_iload_n hx hb dX11_draw_75 rfl (lv_at hl 0 rfl) ?_
            refine lv_bipush (v := 6) hx hb dX11_draw_76 (by decide) ?_
            refine lv_irem hx hb dX11_draw_78 (by decide) ?_
            refine lv_topi (fun v_14 ev_14 => ?_)
            have hmv_14 : v_14.toInt = v_9.toInt % 6 := by rw [ev_14, rem_toInt]; exact Int.tmod_eq_emod_of_nonneg (by omega)
            subst hQ
            exact W.iret (v := v_14) hx hb hr (fun t ht hW => ⟨⟨_, (upd i 11 v_9, r), rfl, ⟨hRi, hRr, hEi, hEr, trivial⟩, by rw [ht]; exact hP, va_K.moved hW.alike hK, hD⟩, hS.F ht⟩) hS.2.2 dX11_draw_79
    exact loop_5 _ 0 (i 11) _ _ _ (Nat.lt_succ_self _) (by first | omega | decide)   hP hD hS hl
  · skip
    refine lv_if_eq (tgt := 22) hx hb dX11_draw_16 (by decide) (fun c_15 => absurd c_15 (by decide)) (fun c_15 => ?_)
    refine lv_bipush (v := (-2)) hx hb dX11_draw_19 (by decide) ?_
    subst hQ
    exact W.iret (v := (-2)) hx hb hr (fun t ht hW => ⟨⟨_, (i, r), rfl, ⟨hRi, hRr, hEi, hEr, trivial⟩, by rw [ht]; exact hP, va_K.moved hW.alike hK, hD⟩, hS.F ht⟩) hS.2.2 dX11_draw_21
set_option maxHeartbeats 4000000 in
set_option maxRecDepth 100000 in
theorem c_X11_draw.b (l : Launch) (D : va_G) (cy : Nat → ClassId) (a : Nat → Nat) (i : Nat → Int32) (r : Nat → Nat → Int32) (q : Nat → Option Nat) (tl : va_W) (p0 : Int32) (hRi : yRi i) (hRr : yRr r) (hh : ¬ (0 ≤ p0.toInt ∧ p0.toInt < (i 0).toInt)) : Met l yX11_draw (Cond.code yX11_draw cX11_draw 5 (some .int) :: gT) { frames := 3, cells := 0, slots := 0, locals := 67 } (va_Pc [.ref (a 0), .int p0] (rP D cy (xW cy a i r q (a 20) (a 12) ++ tl))) (vp_Si (fun z => z = (-1))) 0 0 (fun _ => False) := by
  refine Met.ofQ (cc := cX11_draw) (maxL := 5) (ret := (some .int)) (by decide) rfl ?_
  intro p e s m args below meth c s₁ B hml hv Q hQ
  obtain ⟨rfl, hP, hK⟩ := hv
  have hx := B.exec
  have hb := B.bytes
  have hr := B.returns
  have hlocks := B.notSynchronized
  have hT : ∀ w ∈ gT, w.before _ s = true := fun w h => atoms_spec (ws := (Cond.code yX11_draw cX11_draw 5 (some .int) :: gT)) B.pre w (List.mem_cons_of_mem _ h)
  have hown : s.vm.findClass RX11 = some m.cls := findClass_of_methodNamed B.named
  have hl := lv_entry ([.ref (a 0), .int p0]) (n := 5) (Nat.le_of_ble_eq_true rfl)
  rw [lg_entry_eq]
  generalize (lg_sl ([.ref (a 0), .int p0]) ++ List.replicate (5 - (lg_sl ([.ref (a 0), .int p0])).length) Slot.unset).toArray = ls at hl ⊢
  have hl : lv_has ls 5 [(0, .ref (a 0)), (1, .int p0)] := hl
  have hEi : mEi [] i i := Ei_rf
  have hEr : mEr [] r r := Er_rf
  refine lv_aload_n hx hb dX11_draw_0 rfl (lv_at hl 0 rfl) ?_
  refine lv_iload_n hx hb dX11_draw_1 rfl (lv_at hl 1 rfl) ?_
  refine va_csq (W.runV (As := [.int p0]) (rest := []) ⟨hx, hb, hml, hown, hT⟩ (c_X11_homeAt l D cy a i r q tl p0 hRi hRr) (cwV 1 hT (gV t_443 t_444 t_445 t_446 t_2) rfl rfl rfl (by decide +kernel) ⟨Nat.le_of_ble_eq_true rfl, Nat.le_of_ble_eq_true rfl⟩) (rP_v hP hK (va_recv hK hP (ci := 11) (q0 := 0) rfl rfl)) rfl rfl hl.1 rfl (lv_room (Nat.le_of_ble_eq_true rfl)) dX11_draw_2 ⟨Nat.le_of_ble_eq_true rfl, Nat.le_of_ble_eq_true rfl⟩) (fun r_1 hr_1 => ?_)
  obtain rfl : r_1 = none := hr_1.2 hh
  refine W.eq (g2 := F0 m 5 ls [.null]) rfl ?_
  refine lv_astore_nN (lv' := [(2, .null), (0, .ref (a 0)), (1, .int p0)]) hx hb dX11_draw_5 rfl hl (by decide) rfl (fun ls hl => ?_)
  refine lv_aload_nN hx hb dX11_draw_6 rfl (lv_at hl 0 rfl) ?_
  refine lv_ifnonnullN hx hb dX11_draw_7 ?_
  refine lv_iconst (v := (-1)) hx hb dX11_draw_10 (by decide) ?_
  subst hQ
  exact W.iret (v := (-1)) hx hb hr (fun t ht hW => ⟨_, rfl, rfl, ht⟩) (fun q hq => absurd hq List.not_mem_nil) dX11_draw_11
set_option maxHeartbeats 4000000 in
set_option maxRecDepth 100000 in
theorem c_X11_worth (l : Launch) (D : va_G) (cy : Nat → ClassId) (a : Nat → Nat) (i : Nat → Int32) (r : Nat → Nat → Int32) (q : Nat → Option Nat) (tl : va_W) (p0 p1 : Int32) (hRi : yRi i) (hRr : yRr r) (q0 : 0 ≤ p0.toInt ∧ p0.toInt ≤ 19) : Met l yX11_worth (Cond.code yX11_worth cX11_worth 5 (some .int) :: gT) { frames := 2, cells := 0, slots := 0, locals := 48 } (va_Pc [.ref (a 0), .ref (a 61), .int p0, .int p1] (rP D cy (xW cy a i r q (a 20) (a 12) ++ (hW cy a i r ++ tl)))) (vp_Si (fun z => True)) 0 0 (fun _ => False) := by
  refine Met.ofQ (cc := cX11_worth) (maxL := 5) (ret := (some .int)) (by decide) rfl ?_
  intro p e s m args below meth c s₁ B hml hv Q hQ
  obtain ⟨rfl, hP, hK⟩ := hv
  have hx := B.exec
  have hb := B.bytes
  have hr := B.returns
  have hlocks := B.notSynchronized
  have hT : ∀ w ∈ gT, w.before _ s = true := fun w h => atoms_spec (ws := (Cond.code yX11_worth cX11_worth 5 (some .int) :: gT)) B.pre w (List.mem_cons_of_mem _ h)
  have hown : s.vm.findClass RX11 = some m.cls := findClass_of_methodNamed B.named
  have hl := lv_entry ([.ref (a 0), .ref (a 61), .int p0, .int p1]) (n := 5) (Nat.le_of_ble_eq_true rfl)
  rw [lg_entry_eq]
  generalize (lg_sl ([.ref (a 0), .ref (a 61), .int p0, .int p1]) ++ List.replicate (5 - (lg_sl ([.ref (a 0), .ref (a 61), .int p0, .int p1])).length) Slot.unset).toArray = ls at hl ⊢
  have hl : lv_has ls 5 [(0, .ref (a 0)), (1, .ref (a 61)), (2, .int p0), (3, .int p1)] := hl
  have hEi : mEi [] i i := Ei_rf
  have hEr : mEr [] r r := Er_rf
  refine lv_aload_n hx hb dX11_worth_0 rfl (lv_at hl 1 rfl) ?_
  refine va_get (D := D) (ci := 3) (v := .ref (a 65)) (C := RX3) (T := TX3) (N := 12) hx hb hT iX3 hown hK hP 61 rfl rfl 9 (by decide) (hT _ t_453) (fun _ h9 => h9) rfl dX11_worth_1 ?_
  refine lv_astore (lv' := [(4, .ref (a 65)), (0, .ref (a 0)), (1, .ref (a 61)), (2, .int p0), (3, .int p1)]) hx hb dX11_worth_4 hl (by decide) rfl (fun ls hl => ?_)
  refine lv_aload_n hx hb dX11_worth_6 rfl (lv_at hl 1 rfl) ?_
  refine va_get (D := D) (ci := 11) (v := .ref (a 1)) (C := RX11) (T := TX11) (N := 14) hx hb hT iX11 hown hK hP 0 rfl rfl 0 (by decide) (hT _ t_267) (fun _ h9 => h9) rfl dX11_worth_7 ?_
  refine lv_aload hx hb dX11_worth_10 (lv_at hl 0 rfl) ?_
  refine va_get (D := D) (ci := 10) (v := .ref (a 67)) (C := RX10) (T := TX10) (N := 5) hx hb hT iX10 hown hK hP 65 rfl rfl 2 (by decide) (hT _ t_492) (fun _ h9 => h9) rfl dX11_worth_12 ?_
  refine lv_iload_n hx hb dX11_worth_15 rfl (lv_at hl 3 rfl) ?_
  refine va_iald hx hb hK hP 67 0 rfl rfl (vp_inI (by omega) (by omega)) dX11_worth_16 ?_
  refine lv_topi (fun v_1 ev_1 => ?_)
  have hgv_1 : 0 ≤ v_1.toInt ∧ v_1.toInt ≤ 7 := by rw [ev_1]; exact hRr 67 _
  refine lv_aload_n hx hb dX11_worth_17 rfl (lv_at hl 2 rfl) ?_
  refine va_get (D := D) (ci := 3) (v := .int (i 17)) (C := RX3) (T := TX3) (N := 12) hx hb hT iX3 hown hK hP 61 rfl rfl 0 (by decide) (hT _ t_493) (fun _ h9 => h9) rfl dX11_worth_18 ?_
  have hg_2 : 0 ≤ (i 17).toInt ∧ (i 17).toInt ≤ 3 := hRi 17
  refine lv_aload hx hb dX11_worth_21 (lv_at hl 0 rfl) ?_
  refine va_get (D := D) (ci := 10) (v := .ref (a 69)) (C := RX10) (T := TX10) (N := 5) hx hb hT iX10 hown hK hP 65 rfl rfl 4 (by decide) (hT _ t_494) (fun _ h9 => h9) rfl dX11_worth_23 ?_
  refine lv_iload_n hx hb dX11_worth_26 rfl (lv_at hl 3 rfl) ?_
  refine va_iald hx hb hK hP 69 0 rfl rfl (vp_inI (by omega) (by omega)) dX11_worth_27 ?_
  refine lv_topi (fun v_3 ev_3 => ?_)
  have hgv_3 : 0 ≤ v_3.toInt ∧ v_3.toInt ≤ 360 := by rw [ev_3]; exact hRr 69 _
  refine lv_iload_n hx hb dX11_worth_28 rfl (lv_at hl 4 rfl) ?_
  refine lv_iadd hx hb dX11_worth_29 ?_
  refine lv_topi (fun v_4 ev_4 => ?_)
  refine vp_callSi (W.runV (As := [.int v_1, .int (i 17), .int v_4]) (rest := []) ⟨hx, hb, hml, hown, hT⟩ (c_X8_worth l D cy a i r q (hW cy a i r ++ tl) v_1 (i 17) v_4 hRi hRr (by first | omega | decide) (by first | omega | decide)) (cwV 3 hT (gV t_495 t_497 t_498 t_499 t_496) rfl rfl rfl (by decide +kernel) ⟨Nat.le_of_ble_eq_true rfl, Nat.le_of_ble_eq_true rfl⟩) (rP_v hP hK (va_recv hK hP (ci := 8) (q0 := 1) rfl rfl)) rfl rfl hl.1 rfl (lv_room (Nat.le_of_ble_eq_true rfl)) dX11_worth_30 ⟨Nat.le_of_ble_eq_true rfl, Nat.le_of_ble_eq_true rfl⟩) (fun r_5 hr_5 => ?_)
  subst hQ
  exact W.iret (v := r_5) hx hb hr (fun t ht hW => ⟨_, rfl, trivial, ht⟩) (fun q hq => absurd hq List.not_mem_nil) dX11_worth_33
set_option maxHeartbeats 4000000 in
set_option maxRecDepth 100000 in
theorem c_X11_describeHome (l : Launch) (D : va_G) (cy : Nat → ClassId) (a : Nat → Nat) (i : Nat → Int32) (r : Nat → Nat → Int32) (q : Nat → Option Nat) (tl : va_W) (sz : Nat) (hRi : yRi i) (hRr : yRr r) : Met l yX11_describeHome (Cond.code yX11_describeHome cX11_describeHome 2 none :: gT) { frames := 2, cells := 0, slots := 0, locals := 44 } (va_Pc [.ref (a 0), .ref (a 61)] (rQ D cy (xW cy a i r q (a 20) (a 12) ++ (hW cy a i r ++ tl)) sz)) (va_Qv (fun u : Nat → Nat → Int32 => yRr u ∧ mEr [28] r u ∧ True) (fun (u : Nat → Nat → Int32) t => va_P D vwCl (xW cy a i u q (a 20) (a 12) ++ (hW cy a i u ++ tl)) t.heap ∧ va_K D vwCl (vT cy) t ∧ va_D (va_A (xW cy a i r q (a 20) (a 12) ++ (hW cy a i r ++ tl)) sz) (xW cy a i u q (a 20) (a 12) ++ (hW cy a i u ++ tl))) (va_A (xW cy a i r q (a 20) (a 12) ++ (hW cy a i r ++ tl)) sz)) 0 0 (va_A (xW cy a i r q (a 20) (a 12) ++ (hW cy a i r ++ tl)) sz) := by
  refine Met.ofQ (cc := cX11_describeHome) (maxL := 2) (ret := none) (by decide) rfl ?_
  intro p e s m args below meth c s₁ B hml hv Q hQ
  obtain ⟨rfl, hsz, hP, hK, hD0⟩ := hv
  have hx := B.exec
  have hb := B.bytes
  have hr := B.returns
  have hlocks := B.notSynchronized
  have hT : ∀ w ∈ gT, w.before _ s = true := fun w h => atoms_spec (ws := (Cond.code yX11_describeHome cX11_describeHome 2 none :: gT)) B.pre w (List.mem_cons_of_mem _ h)
  have hown : s.vm.findClass RX11 = some m.cls := findClass_of_methodNamed B.named
  subst hsz
  have hD := hD0.self (sz := s.heap.size)
  generalize hAe : va_A (xW cy a i r q (a 20) (a 12) ++ (hW cy a i r ++ tl)) s.heap.size = A at hD hQ
  have hA : ∀ q : Nat, s.heap.size ≤ q → A q := fun q h => by rw [← hAe]; exact Or.inr h
  have hS : va_S A s.heap s.heap [] := va_S.rf
  have hl := lv_entry ([.ref (a 0), .ref (a 61)]) (n := 2) (Nat.le_of_ble_eq_true rfl)
  rw [lg_entry_eq]
  generalize (lg_sl ([.ref (a 0), .ref (a 61)]) ++ List.replicate (2 - (lg_sl ([.ref (a 0), .ref (a 61)])).length) Slot.unset).toArray = ls at hl ⊢
  have hl : lv_has ls 2 [(0, .ref (a 0)), (1, .ref (a 61))] := hl
  have hEi : mEi [] i i := Ei_rf
  have hEr : mEr [28] r r := Er_rf
  refine lv_aload_n hx hb dX11_describeHome_0 rfl (lv_at hl 0 rfl) ?_
  refine va_get (D := D) (ci := 11) (v := .ref (a 28)) (C := RX11) (T := TX11) (N := 14) hx hb hT iX11 hown hK hP 0 rfl rfl 7 (by decide) (hT _ t_500) (fun _ h9 => h9) rfl dX11_describeHome_1 ?_
  refine lv_iconst (v := 5) hx hb dX11_describeHome_4 (by decide) ?_
  refine lv_aload_n hx hb dX11_describeHome_5 rfl (lv_at hl 1 rfl) ?_
  refine vp_callSi (W.runV (As := []) (rest := [.int 5, .ref (a 28)]) ⟨hx, hb, hml, hown, hT⟩ (c_X3_months l D cy a i r q tl hRi hRr) (cwV 0 hT (gV t_501 t_502 t_503 t_504 t_391) rfl rfl rfl (by decide +kernel) ⟨Nat.le_of_ble_eq_true rfl, Nat.le_of_ble_eq_true rfl⟩) (rP_v hP hK (va_recv hK hP (ci := 3) (q0 := 61) rfl rfl)) rfl rfl hl.1 rfl (lv_room (Nat.le_of_ble_eq_true rfl)) dX11_describeHome_6 ⟨Nat.le_of_ble_eq_true rfl, Nat.le_of_ble_eq_true rfl⟩) (fun r_1 hr_1 => ?_)
  have hr_1 : -999 ≤ r_1.toInt ∧ r_1.toInt ≤ 999 := hr_1
  refine va_iast hx hb hK hP hD hS 28 0 rfl rfl (vp_inI (by decide) (by decide)) dX11_describeHome_9 (fun H locs hP hD hS => ?_)
  rw [yS28] at hP hD
  have hRr : yRr (va_up r 28 (upd (r 28) ((5 : Int32).toNatClampNeg) r_1)) := Yr_upd hRr 28 ((5 : Int32).toNatClampNeg) r_1 (b_rg _)
  have hEr : mEr [28] _ (va_up r 28 (upd (r 28) ((5 : Int32).toNatClampNeg) r_1)) := Er_up hEr 28 _ (by decide)
  refine lv_aload_n hx hb dX11_describeHome_10 rfl (lv_at hl 0 rfl) ?_
  refine va_get (D := D) (ci := 11) (v := .ref (a 28)) (C := RX11) (T := TX11) (N := 14) hx hb hT iX11 hown hK hP 0 rfl rfl 7 (by decide) (hT _ t_500) (fun _ h9 => h9) rfl dX11_describeHome_11 ?_
  refine lv_bipush (v := 6) hx hb dX11_describeHome_14 (by decide) ?_
  refine lv_aload_n hx hb dX11_describeHome_16 rfl (lv_at hl 1 rfl) ?_
  refine va_get (D := D) (ci := 3) (v := .int (i 18)) (C := RX3) (T := TX3) (N := 12) hx hb hT iX3 hown hK hP 61 rfl rfl 1 (by decide) (hT _ t_447) (fun _ h9 => h9) rfl dX11_describeHome_17 ?_
  have hg_2 : 1 ≤ (i 18).toInt ∧ (i 18).toInt ≤ 4 := hRi 18
  refine va_iast hx hb hK hP hD hS 28 0 rfl rfl (vp_inI (by decide) (by decide)) dX11_describeHome_20 (fun H locs hP hD hS => ?_)
  rw [yS28] at hP hD
  have hRr : yRr (va_up (va_up r 28 (upd (r 28) ((5 : Int32).toNatClampNeg) r_1)) 28 (upd (upd (r 28) ((5 : Int32).toNatClampNeg) r_1) ((6 : Int32).toNatClampNeg) (i 18))) := Yr_upd hRr 28 ((6 : Int32).toNatClampNeg) (i 18) (b_rg _)
  have hEr : mEr [28] _ (va_up (va_up r 28 (upd (r 28) ((5 : Int32).toNatClampNeg) r_1)) 28 (upd (upd (r 28) ((5 : Int32).toNatClampNeg) r_1) ((6 : Int32).toNatClampNeg) (i 18))) := Er_up hEr 28 _ (by decide)
  refine lv_aload_n hx hb dX11_describeHome_21 rfl (lv_at hl 0 rfl) ?_
  refine va_get (D := D) (ci := 11) (v := .ref (a 28)) (C := RX11) (T := TX11) (N := 14) hx hb hT iX11 hown hK hP 0 rfl rfl 7 (by decide) (hT _ t_500) (fun _ h9 => h9) rfl dX11_describeHome_22 ?_
  refine lv_bipush (v := 7) hx hb dX11_describeHome_25 (by decide) ?_
  refine lv_aload_n hx hb dX11_describeHome_27 rfl (lv_at hl 1 rfl) ?_
  refine va_get (D := D) (ci := 3) (v := .int (i 17)) (C := RX3) (T := TX3) (N := 12) hx hb hT iX3 hown hK hP 61 rfl rfl 0 (by decide) (hT _ t_493) (fun _ h9 => h9) rfl dX11_describeHome_28 ?_
  have hg_3 : 0 ≤ (i 17).toInt ∧ (i 17).toInt ≤ 3 := hRi 17
  refine va_iast hx hb hK hP hD hS 28 0 rfl rfl (vp_inI (by decide) (by decide)) dX11_describeHome_31 (fun H locs hP hD hS => ?_)
  rw [yS28] at hP hD
  have hRr : yRr (va_up (va_up (va_up r 28 (upd (r 28) ((5 : Int32).toNatClampNeg) r_1)) 28 (upd (upd (r 28) ((5 : Int32).toNatClampNeg) r_1) ((6 : Int32).toNatClampNeg) (i 18))) 28 (upd (upd (upd (r 28) ((5 : Int32).toNatClampNeg) r_1) ((6 : Int32).toNatClampNeg) (i 18)) ((7 : Int32).toNatClampNeg) (i 17))) := Yr_upd hRr 28 ((7 : Int32).toNatClampNeg) (i 17) (b_rg _)
  have hEr : mEr [28] _ (va_up (va_up (va_up r 28 (upd (r 28) ((5 : Int32).toNatClampNeg) r_1)) 28 (upd (upd (r 28) ((5 : Int32).toNatClampNeg) r_1) ((6 : Int32).toNatClampNeg) (i 18))) 28 (upd (upd (upd (r 28) ((5 : Int32).toNatClampNeg) r_1) ((6 : Int32).toNatClampNeg) (i 18)) ((7 : Int32).toNatClampNeg) (i 17))) := Er_up hEr 28 _ (by decide)
  subst hQ
  exact W.vret hx hb hr (fun t ht hW => ⟨⟨(va_up (va_up (va_up r 28 (upd (r 28) ((5 : Int32).toNatClampNeg) r_1)) 28 (upd (upd (r 28) ((5 : Int32).toNatClampNeg) r_1) ((6 : Int32).toNatClampNeg) (i 18))) 28 (upd (upd (upd (r 28) ((5 : Int32).toNatClampNeg) r_1) ((6 : Int32).toNatClampNeg) (i 18)) ((7 : Int32).toNatClampNeg) (i 17))), rfl, ⟨hRr, hEr, trivial⟩, by rw [ht]; exact hP, va_K.moved hW.alike hK, hD⟩, hS.F ht⟩) hS.2.2 dX11_describeHome_32
set_option maxHeartbeats 4000000 in
set_option maxRecDepth 100000 in
theorem c_X11_describe (l : Launch) (D : va_G) (cy : Nat → ClassId) (a : Nat → Nat) (i : Nat → Int32) (r : Nat → Nat → Int32) (q : Nat → Option Nat) (tl : va_W) (p0 p1 p2 : Int32) (sz : Nat) (hRi : yRi i) (hRr : yRr r) (q0 : 0 ≤ p0.toInt ∧ p0.toInt ≤ 19) : Met l yX11_describe (Cond.code yX11_describe cX11_describe 5 none :: gT) { frames := 3, cells := 0, slots := 0, locals := 66 } (va_Pc [.ref (a 0), .ref (a 61), .int p0, .int p1, .int p2] (rQ D cy (xW cy a i r q (a 20) (a 12) ++ (hW cy a i r ++ tl)) sz)) (va_Qv (fun u : Nat → Nat → Int32 => yRr u ∧ mEr [28] r u ∧ True) (fun (u : Nat → Nat → Int32) t => va_P D vwCl (xW cy a i u q (a 20) (a 12) ++ (hW cy a i u ++ tl)) t.heap ∧ va_K D vwCl (vT cy) t ∧ va_D (va_A (xW cy a i r q (a 20) (a 12) ++ (hW cy a i r ++ tl)) sz) (xW cy a i u q (a 20) (a 12) ++ (hW cy a i u ++ tl))) (va_A (xW cy a i r q (a 20) (a 12) ++ (hW cy a i r ++ tl)) sz)) 0 0 (va_A (xW cy a i r q (a 20) (a 12) ++ (hW cy a i r ++ tl)) sz) := by
  refine Met.ofQ (cc := cX11_describe) (maxL := 5) (ret := none) (by decide) rfl ?_
  intro p e s m args below meth c s₁ B hml hv Q hQ
  obtain ⟨rfl, hsz, hP, hK, hD0⟩ := hv
  have hx := B.exec
  have hb := B.bytes
  have hr := B.returns
  have hlocks := B.notSynchronized
  have hT : ∀ w ∈ gT, w.before _ s = true := fun w h => atoms_spec (ws := (Cond.code yX11_describe cX11_describe 5 none :: gT)) B.pre w (List.mem_cons_of_mem _ h)
  have hown : s.vm.findClass RX11 = some m.cls := findClass_of_methodNamed B.named
  subst hsz
  have hD := hD0.self (sz := s.heap.size)
  generalize hAe : va_A (xW cy a i r q (a 20) (a 12) ++ (hW cy a i r ++ tl)) s.heap.size = A at hD hQ
  have hA : ∀ q : Nat, s.heap.size ≤ q → A q := fun q h => by rw [← hAe]; exact Or.inr h
  have hS : va_S A s.heap s.heap [] := va_S.rf
  have hl := lv_entry ([.ref (a 0), .ref (a 61), .int p0, .int p1, .int p2]) (n := 5) (Nat.le_of_ble_eq_true rfl)
  rw [lg_entry_eq]
  generalize (lg_sl ([.ref (a 0), .ref (a 61), .int p0, .int p1, .int p2]) ++ List.replicate (5 - (lg_sl ([.ref (a 0), .ref (a 61), .int p0, .int p1, .int p2])).length) Slot.unset).toArray = ls at hl ⊢
  have hl : lv_has ls 5 [(0, .ref (a 0)), (1, .ref (a 61)), (2, .int p0), (3, .int p1), (4, .int p2)] := hl
  have hEi : mEi [] i i := Ei_rf
  have hEr : mEr [28] r r := Er_rf
  refine lv_aload_n hx hb dX11_describe_0 rfl (lv_at hl 0 rfl) ?_
  refine va_get (D := D) (ci := 11) (v := .ref (a 28)) (C := RX11) (T := TX11) (N := 14) hx hb hT iX11 hown hK hP 0 rfl rfl 7 (by decide) (hT _ t_500) (fun _ h9 => h9) rfl dX11_describe_1 ?_
  refine lv_iconst (v := 0) hx hb dX11_describe_4 (by decide) ?_
  refine lv_aload_n hx hb dX11_describe_5 rfl (lv_at hl 1 rfl) ?_
  refine va_get (D := D) (ci := 3) (v := .ref (a 65)) (C := RX3) (T := TX3) (N := 12) hx hb hT iX3 hown hK hP 61 rfl rfl 9 (by decide) (hT _ t_453) (fun _ h9 => h9) rfl dX11_describe_6 ?_
  refine va_get (D := D) (ci := 10) (v := .ref (a 67)) (C := RX10) (T := TX10) (N := 5) hx hb hT iX10 hown hK hP 65 rfl rfl 2 (by decide) (hT _ t_492) (fun _ h9 => h9) rfl dX11_describe_9 ?_
  refine lv_iload_n hx hb dX11_describe_12 rfl (lv_at hl 2 rfl) ?_
  refine va_iald hx hb hK hP 67 0 rfl rfl (vp_inI (by omega) (by omega)) dX11_describe_13 ?_
  refine lv_topi (fun v_1 ev_1 => ?_)
  have hgv_1 : 0 ≤ v_1.toInt ∧ v_1.toInt ≤ 7 := by rw [ev_1]; exact hRr 67 _
  refine va_iast hx hb hK hP hD hS 28 0 rfl rfl (vp_inI (by decide) (by decide)) dX11_describe_14 (fun H locs hP hD hS => ?_)
  rw [yS28] at hP hD
  have hRr : yRr (va_up r 28 (upd (r 28) ((0 : Int32).toNatClampNeg) v_1)) := Yr_upd hRr 28 ((0 : Int32).toNatClampNeg) v_1 (b_rg _)
  have hEr : mEr [28] _ (va_up r 28 (upd (r 28) ((0 : Int32).toNatClampNeg) v_1)) := Er_up hEr 28 _ (by decide)
  refine lv_aload_n hx hb dX11_describe_15 rfl (lv_at hl 0 rfl) ?_
  refine va_get (D := D) (ci := 11) (v := .ref (a 28)) (C := RX11) (T := TX11) (N := 14) hx hb hT iX11 hown hK hP 0 rfl rfl 7 (by decide) (hT _ t_500) (fun _ h9 => h9) rfl dX11_describe_16 ?_
  refine lv_iconst (v := 1) hx hb dX11_describe_19 (by decide) ?_
  refine lv_aload_n hx hb dX11_describe_20 rfl (lv_at hl 1 rfl) ?_
  refine va_get (D := D) (ci := 3) (v := .ref (a 65)) (C := RX3) (T := TX3) (N := 12) hx hb hT iX3 hown hK hP 61 rfl rfl 9 (by decide) (hT _ t_453) (fun _ h9 => h9) rfl dX11_describe_21 ?_
  refine va_get (D := D) (ci := 10) (v := .ref (a 66)) (C := RX10) (T := TX10) (N := 5) hx hb hT iX10 hown hK hP 65 rfl rfl 1 (by decide) (hT _ t_505) (fun _ h9 => h9) rfl dX11_describe_24 ?_
  refine lv_iload_n hx hb dX11_describe_27 rfl (lv_at hl 2 rfl) ?_
  refine va_iald hx hb hK hP 66 0 rfl rfl (vp_inI (by omega) (by omega)) dX11_describe_28 ?_
  refine lv_topi (fun v_2 ev_2 => ?_)
  have hgv_2 : 0 ≤ v_2.toInt ∧ v_2.toInt ≤ 9 := by rw [ev_2]; exact hRr 66 _
  refine va_iast hx hb hK hP hD hS 28 0 rfl rfl (vp_inI (by decide) (by decide)) dX11_describe_29 (fun H locs hP hD hS => ?_)
  rw [yS28] at hP hD
  have hRr : yRr (va_up (va_up r 28 (upd (r 28) ((0 : Int32).toNatClampNeg) v_1)) 28 (upd (upd (r 28) ((0 : Int32).toNatClampNeg) v_1) ((1 : Int32).toNatClampNeg) v_2)) := Yr_upd hRr 28 ((1 : Int32).toNatClampNeg) v_2 (b_rg _)
  have hEr : mEr [28] _ (va_up (va_up r 28 (upd (r 28) ((0 : Int32).toNatClampNeg) v_1)) 28 (upd (upd (r 28) ((0 : Int32).toNatClampNeg) v_1) ((1 : Int32).toNatClampNeg) v_2)) := Er_up hEr 28 _ (by decide)
  refine lv_aload_n hx hb dX11_describe_30 rfl (lv_at hl 0 rfl) ?_
  refine va_get (D := D) (ci := 11) (v := .ref (a 28)) (C := RX11) (T := TX11) (N := 14) hx hb hT iX11 hown hK hP 0 rfl rfl 7 (by decide) (hT _ t_500) (fun _ h9 => h9) rfl dX11_describe_31 ?_
  refine lv_iconst (v := 2) hx hb dX11_describe_34 (by decide) ?_
  refine lv_aload_n hx hb dX11_describe_35 rfl (lv_at hl 1 rfl) ?_
  refine va_get (D := D) (ci := 3) (v := .ref (a 65)) (C := RX3) (T := TX3) (N := 12) hx hb hT iX3 hown hK hP 61 rfl rfl 9 (by decide) (hT _ t_453) (fun _ h9 => h9) rfl dX11_describe_36 ?_
  refine va_get (D := D) (ci := 10) (v := .ref (a 68)) (C := RX10) (T := TX10) (N := 5) hx hb hT iX10 hown hK hP 65 rfl rfl 3 (by decide) (hT _ t_506) (fun _ h9 => h9) rfl dX11_describe_39 ?_
  refine lv_iload_n hx hb dX11_describe_42 rfl (lv_at hl 2 rfl) ?_
  refine va_iald hx hb hK hP 68 0 rfl rfl (vp_inI (by omega) (by omega)) dX11_describe_43 ?_
  refine lv_topi (fun v_3 ev_3 => ?_)
  have hgv_3 : 0 ≤ v_3.toInt ∧ v_3.toInt ≤ 9 := by rw [ev_3]; exact hRr 68 _
  refine va_iast hx hb hK hP hD hS 28 0 rfl rfl (vp_inI (by decide) (by decide)) dX11_describe_44 (fun H locs hP hD hS => ?_)
  rw [yS28] at hP hD
  have hRr : yRr (va_up (va_up (va_up r 28 (upd (r 28) ((0 : Int32).toNatClampNeg) v_1)) 28 (upd (upd (r 28) ((0 : Int32).toNatClampNeg) v_1) ((1 : Int32).toNatClampNeg) v_2)) 28 (upd (upd (upd (r 28) ((0 : Int32).toNatClampNeg) v_1) ((1 : Int32).toNatClampNeg) v_2) ((2 : Int32).toNatClampNeg) v_3)) := Yr_upd hRr 28 ((2 : Int32).toNatClampNeg) v_3 (b_rg _)
  have hEr : mEr [28] _ (va_up (va_up (va_up r 28 (upd (r 28) ((0 : Int32).toNatClampNeg) v_1)) 28 (upd (upd (r 28) ((0 : Int32).toNatClampNeg) v_1) ((1 : Int32).toNatClampNeg) v_2)) 28 (upd (upd (upd (r 28) ((0 : Int32).toNatClampNeg) v_1) ((1 : Int32).toNatClampNeg) v_2) ((2 : Int32).toNatClampNeg) v_3)) := Er_up hEr 28 _ (by decide)
  refine lv_aload_n hx hb dX11_describe_45 rfl (lv_at hl 0 rfl) ?_
  refine va_get (D := D) (ci := 11) (v := .ref (a 28)) (C := RX11) (T := TX11) (N := 14) hx hb hT iX11 hown hK hP 0 rfl rfl 7 (by decide) (hT _ t_500) (fun _ h9 => h9) rfl dX11_describe_46 ?_
  refine lv_iconst (v := 3) hx hb dX11_describe_49 (by decide) ?_
  refine lv_aload_n hx hb dX11_describe_50 rfl (lv_at hl 1 rfl) ?_
  refine lv_iload_n hx hb dX11_describe_51 rfl (lv_at hl 2 rfl) ?_
  refine vp_callSi (W.runV (As := [.int p0]) (rest := [.int 3, .ref (a 28)]) ⟨hx, hb, hml, hown, hT⟩ (c_X3_stateAtLast l D cy a i (va_up (va_up (va_up r 28 (upd (r 28) ((0 : Int32).toNatClampNeg) v_1)) 28 (upd (upd (r 28) ((0 : Int32).toNatClampNeg) v_1) ((1 : Int32).toNatClampNeg) v_2)) 28 (upd (upd (upd (r 28) ((0 : Int32).toNatClampNeg) v_1) ((1 : Int32).toNatClampNeg) v_2) ((2 : Int32).toNatClampNeg) v_3)) q tl p0 hRi hRr (by first | omega | decide)) (cwV 1 hT (gV t_397 t_507 t_399 t_400 t_391) rfl rfl rfl (by decide +kernel) ⟨Nat.le_of_ble_eq_true rfl, Nat.le_of_ble_eq_true rfl⟩) (rP_v hP hK (va_recv hK hP (ci := 3) (q0 := 61) rfl rfl)) rfl rfl hl.1 rfl (lv_room (Nat.le_of_ble_eq_true rfl)) dX11_describe_52 ⟨Nat.le_of_ble_eq_true rfl, Nat.le_of_ble_eq_true rfl⟩) (fun r_4 hr_4 => ?_)
  have hr_4 : 0 ≤ r_4.toInt ∧ r_4.toInt ≤ 9 := hr_4
  refine va_iast hx hb hK hP hD hS 28 0 rfl rfl (vp_inI (by decide) (by decide)) dX11_describe_55 (fun H locs hP hD hS => ?_)
  rw [yS28] at hP hD
  have hRr : yRr (va_up (va_up (va_up (va_up r 28 (upd (r 28) ((0 : Int32).toNatClampNeg) v_1)) 28 (upd (upd (r 28) ((0 : Int32).toNatClampNeg) v_1) ((1 : Int32).toNatClampNeg) v_2)) 28 (upd (upd (upd (r 28) ((0 : Int32).toNatClampNeg) v_1) ((1 : Int32).toNatClampNeg) v_2) ((2 : Int32).toNatClampNeg) v_3)) 28 (upd (upd (upd (upd (r 28) ((0 : Int32).toNatClampNeg) v_1) ((1 : Int32).toNatClampNeg) v_2) ((2 : Int32).toNatClampNeg) v_3) ((3 : Int32).toNatClampNeg) r_4)) := Yr_upd hRr 28 ((3 : Int32).toNatClampNeg) r_4 (b_rg _)
  have hEr : mEr [28] _ (va_up (va_up (va_up (va_up r 28 (upd (r 28) ((0 : Int32).toNatClampNeg) v_1)) 28 (upd (upd (r 28) ((0 : Int32).toNatClampNeg) v_1) ((1 : Int32).toNatClampNeg) v_2)) 28 (upd (upd (upd (r 28) ((0 : Int32).toNatClampNeg) v_1) ((1 : Int32).toNatClampNeg) v_2) ((2 : Int32).toNatClampNeg) v_3)) 28 (upd (upd (upd (upd (r 28) ((0 : Int32).toNatClampNeg) v_1) ((1 : Int32).toNatClampNeg) v_2) ((2 : Int32).toNatClampNeg) v_3) ((3 : Int32).toNatClampNeg) r_4)) := Er_up hEr 28 _ (by decide)
  refine lv_aload_n hx hb dX11_describe_56 rfl (lv_at hl 0 rfl) ?_
  refine va_get (D := D) (ci := 11) (v := .ref (a 28)) (C := RX11) (T := TX11) (N := 14) hx hb hT iX11 hown hK hP 0 rfl rfl 7 (by decide) (hT _ t_500) (fun _ h9 => h9) rfl dX11_describe_57 ?_
  refine lv_iconst (v := 4) hx hb dX11_describe_60 (by decide) ?_
  refine lv_aload_n hx hb dX11_describe_61 rfl (lv_at hl 1 rfl) ?_
  refine va_get (D := D) (ci := 3) (v := .ref (a 65)) (C := RX3) (T := TX3) (N := 12) hx hb hT iX3 hown hK hP 61 rfl rfl 9 (by decide) (hT _ t_453) (fun _ h9 => h9) rfl dX11_describe_62 ?_
  refine va_get (D := D) (ci := 10) (v := .ref (a 69)) (C := RX10) (T := TX10) (N := 5) hx hb hT iX10 hown hK hP 65 rfl rfl 4 (by decide) (hT _ t_494) (fun _ h9 => h9) rfl dX11_describe_65 ?_
  refine lv_iload_n hx hb dX11_describe_68 rfl (lv_at hl 2 rfl) ?_
  refine va_iald hx hb hK hP 69 0 rfl rfl (vp_inI (by omega) (by omega)) dX11_describe_69 ?_
  refine lv_topi (fun v_5 ev_5 => ?_)
  have hgv_5 : 0 ≤ v_5.toInt ∧ v_5.toInt ≤ 360 := by rw [ev_5]; exact hRr 69 _
  refine lv_aload_n hx hb dX11_describe_70 rfl (lv_at hl 1 rfl) ?_
  refine vp_callSi (W.runV (As := []) (rest := [.int v_5, .int 4, .ref (a 28)]) ⟨hx, hb, hml, hown, hT⟩ (c_X3_months l D cy a i (va_up (va_up (va_up (va_up r 28 (upd (r 28) ((0 : Int32).toNatClampNeg) v_1)) 28 (upd (upd (r 28) ((0 : Int32).toNatClampNeg) v_1) ((1 : Int32).toNatClampNeg) v_2)) 28 (upd (upd (upd (r 28) ((0 : Int32).toNatClampNeg) v_1) ((1 : Int32).toNatClampNeg) v_2) ((2 : Int32).toNatClampNeg) v_3)) 28 (upd (upd (upd (upd (r 28) ((0 : Int32).toNatClampNeg) v_1) ((1 : Int32).toNatClampNeg) v_2) ((2 : Int32).toNatClampNeg) v_3) ((3 : Int32).toNatClampNeg) r_4)) q tl hRi hRr) (cwV 0 hT (gV t_501 t_502 t_503 t_504 t_391) rfl rfl rfl (by decide +kernel) ⟨Nat.le_of_ble_eq_true rfl, Nat.le_of_ble_eq_true rfl⟩) (rP_v hP hK (va_recv hK hP (ci := 3) (q0 := 61) rfl rfl)) rfl rfl hl.1 rfl (lv_room (Nat.le_of_ble_eq_true rfl)) dX11_describe_71 ⟨Nat.le_of_ble_eq_true rfl, Nat.le_of_ble_eq_true rfl⟩) (fun r_6 hr_6 => ?_)
  have hr_6 : -999 ≤ r_6.toInt ∧ r_6.toInt ≤ 999 := hr_6
  refine lv_iadd hx hb dX11_describe_74 ?_
  refine lv_topi (fun v_7 ev_7 => ?_)
  have hv_7 : v_7.toInt = v_5.toInt + r_6.toInt := by rw [ev_7]; have := b_rg v_5; have := b_rg r_6; exact i_add (a := v_5.toInt) (b := r_6.toInt) rfl rfl (by omega) (by omega)
  refine va_iast hx hb hK hP hD hS 28 0 rfl rfl (vp_inI (by decide) (by decide)) dX11_describe_75 (fun H locs hP hD hS => ?_)
  rw [yS28] at hP hD
  have hRr : yRr (va_up (va_up (va_up (va_up (va_up r 28 (upd (r 28) ((0 : Int32).toNatClampNeg) v_1)) 28 (upd (upd (r 28) ((0 : Int32).toNatClampNeg) v_1) ((1 : Int32).toNatClampNeg) v_2)) 28 (upd (upd (upd (r 28) ((0 : Int32).toNatClampNeg) v_1) ((1 : Int32).toNatClampNeg) v_2) ((2 : Int32).toNatClampNeg) v_3)) 28 (upd (upd (upd (upd (r 28) ((0 : Int32).toNatClampNeg) v_1) ((1 : Int32).toNatClampNeg) v_2) ((2 : Int32).toNatClampNeg) v_3) ((3 : Int32).toNatClampNeg) r_4)) 28 (upd (upd (upd (upd (upd (r 28) ((0 : Int32).toNatClampNeg) v_1) ((1 : Int32).toNatClampNeg) v_2) ((2 : Int32).toNatClampNeg) v_3) ((3 : Int32).toNatClampNeg) r_4) ((4 : Int32).toNatClampNeg) v_7)) := Yr_upd hRr 28 ((4 : Int32).toNatClampNeg) v_7 (b_rg _)
  have hEr : mEr [28] _ (va_up (va_up (va_up (va_up (va_up r 28 (upd (r 28) ((0 : Int32).toNatClampNeg) v_1)) 28 (upd (upd (r 28) ((0 : Int32).toNatClampNeg) v_1) ((1 : Int32).toNatClampNeg) v_2)) 28 (upd (upd (upd (r 28) ((0 : Int32).toNatClampNeg) v_1) ((1 : Int32).toNatClampNeg) v_2) ((2 : Int32).toNatClampNeg) v_3)) 28 (upd (upd (upd (upd (r 28) ((0 : Int32).toNatClampNeg) v_1) ((1 : Int32).toNatClampNeg) v_2) ((2 : Int32).toNatClampNeg) v_3) ((3 : Int32).toNatClampNeg) r_4)) 28 (upd (upd (upd (upd (upd (r 28) ((0 : Int32).toNatClampNeg) v_1) ((1 : Int32).toNatClampNeg) v_2) ((2 : Int32).toNatClampNeg) v_3) ((3 : Int32).toNatClampNeg) r_4) ((4 : Int32).toNatClampNeg) v_7)) := Er_up hEr 28 _ (by decide)
  refine lv_aload_n hx hb dX11_describe_76 rfl (lv_at hl 0 rfl) ?_
  refine lv_aload_n hx hb dX11_describe_77 rfl (lv_at hl 1 rfl) ?_
  have hF_8 := rF hD hS hA
  refine va_callv (va_runV (As := [.ref (a 61)]) (rest := []) ⟨hx, hb, hml, hown, hT⟩ (c_X11_describeHome l D cy a i (va_up (va_up (va_up (va_up (va_up r 28 (upd (r 28) ((0 : Int32).toNatClampNeg) v_1)) 28 (upd (upd (r 28) ((0 : Int32).toNatClampNeg) v_1) ((1 : Int32).toNatClampNeg) v_2)) 28 (upd (upd (upd (r 28) ((0 : Int32).toNatClampNeg) v_1) ((1 : Int32).toNatClampNeg) v_2) ((2 : Int32).toNatClampNeg) v_3)) 28 (upd (upd (upd (upd (r 28) ((0 : Int32).toNatClampNeg) v_1) ((1 : Int32).toNatClampNeg) v_2) ((2 : Int32).toNatClampNeg) v_3) ((3 : Int32).toNatClampNeg) r_4)) 28 (upd (upd (upd (upd (upd (r 28) ((0 : Int32).toNatClampNeg) v_1) ((1 : Int32).toNatClampNeg) v_2) ((2 : Int32).toNatClampNeg) v_3) ((3 : Int32).toNatClampNeg) r_4) ((4 : Int32).toNatClampNeg) v_7)) q tl _ hRi hRr) (cwV 1 hT (gV t_508 t_509 t_510 t_511 t_2) rfl rfl rfl (by decide +kernel) ⟨Nat.le_of_ble_eq_true rfl, Nat.le_of_ble_eq_true rfl⟩) (rQ_v hP hK hD (va_recv hK hP (ci := 11) (q0 := 0) rfl rfl)) rfl rfl hl.1 rfl (lv_room (Nat.le_of_ble_eq_true rfl)) dX11_describe_78 ⟨Nat.le_of_ble_eq_true rfl, Nat.le_of_ble_eq_true rfl⟩) hS (fun q _ h => hF_8 q h) hF_8 (fun u_10 t H1 locs ht hvm hr_9 hB hz1 hk1 hS => ?_)
  obtain ⟨r10, rfl⟩ : ∃ z, z = u_10 := ⟨_, rfl⟩
  obtain ⟨hP, hK1, hD1⟩ := hB
  rw [ht] at hP
  have hD := hD1.weaken (fun k q _ h => hF_8 q.1 h)
  obtain ⟨hRr, hE2, hr_9⟩ := hr_9
  have hRr : yRr r10 := hRr
  have hE2 : mEr [28] (va_up (va_up (va_up (va_up (va_up r 28 (upd (r 28) ((0 : Int32).toNatClampNeg) v_1)) 28 (upd (upd (r 28) ((0 : Int32).toNatClampNeg) v_1) ((1 : Int32).toNatClampNeg) v_2)) 28 (upd (upd (upd (r 28) ((0 : Int32).toNatClampNeg) v_1) ((1 : Int32).toNatClampNeg) v_2) ((2 : Int32).toNatClampNeg) v_3)) 28 (upd (upd (upd (upd (r 28) ((0 : Int32).toNatClampNeg) v_1) ((1 : Int32).toNatClampNeg) v_2) ((2 : Int32).toNatClampNeg) v_3) ((3 : Int32).toNatClampNeg) r_4)) 28 (upd (upd (upd (upd (upd (r 28) ((0 : Int32).toNatClampNeg) v_1) ((1 : Int32).toNatClampNeg) v_2) ((2 : Int32).toNatClampNeg) v_3) ((3 : Int32).toNatClampNeg) r_4) ((4 : Int32).toNatClampNeg) v_7)) r10 := hE2
  have hP : va_P D vwCl (xW cy a i r10 q (a 20) (a 12) ++ (hW cy a i r10 ++ tl)) H1 := hP
  have hD : va_D A (xW cy a i r10 q (a 20) (a 12) ++ (hW cy a i r10 ++ tl)) := hD
  have hEr : mEr [28] _ r10 := Er_tr hEr hE2 (by decide)
  refine lv_aload_n hx hb dX11_describe_81 rfl (lv_at hl 0 rfl) ?_
  refine va_get (D := D) (ci := 11) (v := .ref (a 28)) (C := RX11) (T := TX11) (N := 14) hx hb hT iX11 hown hK hP 0 rfl rfl 7 (by decide) (hT _ t_500) (fun _ h9 => h9) rfl dX11_describe_82 ?_
  refine lv_bipush (v := 8) hx hb dX11_describe_85 (by decide) ?_
  refine lv_iload_n hx hb dX11_describe_87 rfl (lv_at hl 3 rfl) ?_
  refine va_iast hx hb hK hP hD hS 28 0 rfl rfl (vp_inI (by decide) (by decide)) dX11_describe_88 (fun H locs hP hD hS => ?_)
  rw [yS28] at hP hD
  have hRr : yRr (va_up r10 28 (upd (r10 28) ((8 : Int32).toNatClampNeg) p1)) := Yr_upd hRr 28 ((8 : Int32).toNatClampNeg) p1 (b_rg _)
  have hEr : mEr [28] _ (va_up r10 28 (upd (r10 28) ((8 : Int32).toNatClampNeg) p1)) := Er_up hEr 28 _ (by decide)
  refine lv_aload_n hx hb dX11_describe_89 rfl (lv_at hl 0 rfl) ?_
  refine va_get (D := D) (ci := 11) (v := .ref (a 28)) (C := RX11) (T := TX11) (N := 14) hx hb hT iX11 hown hK hP 0 rfl rfl 7 (by decide) (hT _ t_500) (fun _ h9 => h9) rfl dX11_describe_90 ?_
  refine lv_bipush (v := 9) hx hb dX11_describe_93 (by decide) ?_
  refine lv_iload hx hb dX11_describe_95 (lv_at hl 4 rfl) ?_
  refine va_iast hx hb hK hP hD hS 28 0 rfl rfl (vp_inI (by decide) (by decide)) dX11_describe_97 (fun H locs hP hD hS => ?_)
  rw [yS28] at hP hD
  have hRr : yRr (va_up (va_up r10 28 (upd (r10 28) ((8 : Int32).toNatClampNeg) p1)) 28 (upd (upd (r10 28) ((8 : Int32).toNatClampNeg) p1) ((9 : Int32).toNatClampNeg) p2)) := Yr_upd hRr 28 ((9 : Int32).toNatClampNeg) p2 (b_rg _)
  have hEr : mEr [28] _ (va_up (va_up r10 28 (upd (r10 28) ((8 : Int32).toNatClampNeg) p1)) 28 (upd (upd (r10 28) ((8 : Int32).toNatClampNeg) p1) ((9 : Int32).toNatClampNeg) p2)) := Er_up hEr 28 _ (by decide)
  subst hQ
  exact W.vret hx hb hr (fun t ht hW => ⟨⟨(va_up (va_up r10 28 (upd (r10 28) ((8 : Int32).toNatClampNeg) p1)) 28 (upd (upd (r10 28) ((8 : Int32).toNatClampNeg) p1) ((9 : Int32).toNatClampNeg) p2)), rfl, ⟨hRr, hEr, trivial⟩, by rw [ht]; exact hP, va_K.moved hW.alike hK, hD⟩, hS.F ht⟩) hS.2.2 dX11_describe_98
set_option maxHeartbeats 4000000 in
set_option maxRecDepth 100000 in
theorem c_X11_fairWear (l : Launch) (D : va_G) (cy : Nat → ClassId) (a : Nat → Nat) (i : Nat → Int32) (r : Nat → Nat → Int32) (q : Nat → Option Nat) (tl : va_W) (p0 : Int32) (sz : Nat) (hRi : yRi i) (hRr : yRr r) (q0 : 0 ≤ p0.toInt ∧ p0.toInt ≤ 19) : Met l yX11_fairWear (Cond.code yX11_fairWear cX11_fairWear 3 (some .int) :: gT) { frames := 4, cells := 0, slots := 0, locals := 100 } (va_Pc [.ref (a 0), .ref (a 61), .int p0] (rM D cy (xW cy a i r q (a 20) (a 12) ++ (hW cy a i r ++ tl)) sz)) (va_Qi (fun (z : Int32) (u : Nat → Nat → Int32) => yRr u ∧ mEr [27, 28] r u ∧ True) (fun (u : Nat → Nat → Int32) t => va_P D vwCl (xW cy a i u q (a 20) (a 12) ++ (hW cy a i u ++ tl)) t.heap ∧ va_K D vwCl (vT cy) t ∧ va_D (va_A (xW cy a i r q (a 20) (a 12) ++ (hW cy a i r ++ tl)) sz) (xW cy a i u q (a 20) (a 12) ++ (hW cy a i u ++ tl))) (va_A (xW cy a i r q (a 20) (a 12) ++ (hW cy a i r ++ tl)) sz)) 0 0 (va_A (xW cy a i r q (a 20) (a 12) ++ (hW cy a i r ++ tl)) sz) := by
  refine Met.ofQ (cc := cX11_fairWear) (maxL := 3) (ret := (some .int)) (by decide) rfl ?_
  intro p e s m args below meth c s₁ B hml hv Q hQ
  obtain ⟨rfl, hnw, hsz, hP, hK, hD0⟩ := hv
  have hx := B.exec
  have hb := B.bytes
  have hr := B.returns
  have hlocks := B.notSynchronized
  have hT : ∀ w ∈ gT, w.before _ s = true := fun w h => atoms_spec (ws := (Cond.code yX11_fairWear cX11_fairWear 3 (some .int) :: gT)) B.pre w (List.mem_cons_of_mem _ h)
  have hown : s.vm.findClass RX11 = some m.cls := findClass_of_methodNamed B.named
  subst hsz
  have hD := hD0.self (sz := s.heap.size)
  generalize hAe : va_A (xW cy a i r q (a 20) (a 12) ++ (hW cy a i r ++ tl)) s.heap.size = A at hD hQ
  have hA : ∀ q : Nat, s.heap.size ≤ q → A q := fun q h => by rw [← hAe]; exact Or.inr h
  have hS : va_S A s.heap s.heap [] := va_S.rf
  have hl := lv_entry ([.ref (a 0), .ref (a 61), .int p0]) (n := 3) (Nat.le_of_ble_eq_true rfl)
  rw [lg_entry_eq]
  generalize (lg_sl ([.ref (a 0), .ref (a 61), .int p0]) ++ List.replicate (3 - (lg_sl ([.ref (a 0), .ref (a 61), .int p0])).length) Slot.unset).toArray = ls at hl ⊢
  have hl : lv_has ls 3 [(0, .ref (a 0)), (1, .ref (a 61)), (2, .int p0)] := hl
  have hEi : mEi [] i i := Ei_rf
  have hEr : mEr [27, 28] r r := Er_rf
  refine lv_aload_n hx hb dX11_fairWear_0 rfl (lv_at hl 0 rfl) ?_
  refine lv_aload_n hx hb dX11_fairWear_1 rfl (lv_at hl 1 rfl) ?_
  refine lv_iload_n hx hb dX11_fairWear_2 rfl (lv_at hl 2 rfl) ?_
  refine lv_iconst (v := 0) hx hb dX11_fairWear_3 (by decide) ?_
  refine lv_iconst (v := 0) hx hb dX11_fairWear_4 (by decide) ?_
  have hF_1 := rF hD hS hA
  refine va_callv (va_runV (As := [.ref (a 61), .int p0, .int 0, .int 0]) (rest := []) ⟨hx, hb, hml, hown, hT⟩ (c_X11_describe l D cy a i r q tl p0 0 0 _ hRi hRr (by first | omega | decide)) (cwV 4 hT (gV t_512 t_513 t_514 t_515 t_2) rfl rfl rfl (by decide +kernel) ⟨Nat.le_of_ble_eq_true rfl, Nat.le_of_ble_eq_true rfl⟩) (rQ_v hP hK hD (va_recv hK hP (ci := 11) (q0 := 0) rfl rfl)) rfl rfl hl.1 rfl (lv_room (Nat.le_of_ble_eq_true rfl)) dX11_fairWear_5 ⟨Nat.le_of_ble_eq_true rfl, Nat.le_of_ble_eq_true rfl⟩) hS (fun q _ h => hF_1 q h) hF_1 (fun u_3 t H1 locs ht hvm hr_2 hB hz1 hk1 hS => ?_)
  obtain ⟨r3, rfl⟩ : ∃ z, z = u_3 := ⟨_, rfl⟩
  obtain ⟨hP, hK1, hD1⟩ := hB
  rw [ht] at hP
  have hD := hD1.weaken (fun k q _ h => hF_1 q.1 h)
  obtain ⟨hRr, hE2, hr_2⟩ := hr_2
  have hRr : yRr r3 := hRr
  have hE2 : mEr [28] r r3 := hE2
  have hP : va_P D vwCl (xW cy a i r3 q (a 20) (a 12) ++ (hW cy a i r3 ++ tl)) H1 := hP
  have hD : va_D A (xW cy a i r3 q (a 20) (a 12) ++ (hW cy a i r3 ++ tl)) := hD
  have hEr : mEr [27, 28] _ r3 := Er_tr hEr hE2 (by decide)
  refine lv_aload_n hx hb dX11_fairWear_8 rfl (lv_at hl 0 rfl) ?_
  refine va_get (D := D) (ci := 11) (v := .ref (a 20)) (C := RX11) (T := TX11) (N := 14) hx hb hT iX11 hown hK hP 0 rfl rfl 6 (by decide) (hT _ t_516) (fun _ h9 => h9) rfl dX11_fairWear_9 ?_
  refine lv_bipush (v := 102) hx hb dX11_fairWear_12 (by decide) ?_
  refine lv_aload_n hx hb dX11_fairWear_14 rfl (lv_at hl 0 rfl) ?_
  refine va_get (D := D) (ci := 11) (v := .ref (a 28)) (C := RX11) (T := TX11) (N := 14) hx hb hT iX11 hown hK hP 0 rfl rfl 7 (by decide) (hT _ t_500) (fun _ h9 => h9) rfl dX11_fairWear_15 ?_
  refine lv_iconst (v := 0) hx hb dX11_fairWear_18 (by decide) ?_
  refine lv_bipush (v := 9) hx hb dX11_fairWear_19 (by decide) ?_
  have hF_4 := rF hD hS hA
  refine va_calli (va_runV (As := [.int 102, .ref (a 28), .int 0, .int 9]) (rest := []) ⟨hx, hb, hml, hown, hT⟩ (c_X5_amount l D cy a i r3 q (hW cy a i r3 ++ tl) 102 0 9 _ hRi hRr) (cwV 4 hT (gV t_517 t_518 t_519 t_520 t_367) rfl rfl rfl (by decide +kernel) ⟨Nat.le_of_ble_eq_true rfl, Nat.le_of_ble_eq_true rfl⟩) (rM_v hnw hP hK hD (va_recv hK hP (ci := 5) (q0 := 20) rfl rfl)) rfl rfl hl.1 rfl (lv_room (Nat.le_of_ble_eq_true rfl)) dX11_fairWear_21 ⟨Nat.le_of_ble_eq_true rfl, Nat.le_of_ble_eq_true rfl⟩) hS (fun q _ h => hF_4 q h) hF_4 (fun r_5 u_6 t H1 locs ht hvm hr_5 hB hz1 hk1 hS => ?_)
  obtain ⟨r6, rfl⟩ : ∃ z, z = u_6 := ⟨_, rfl⟩
  obtain ⟨hP, hK1, hD1⟩ := hB
  rw [ht] at hP
  have hD := hD1.weaken (fun k q _ h => hF_4 q.1 h)
  obtain ⟨hRr, hE2, hr_5⟩ := hr_5
  have hRr : yRr r6 := hRr
  have hE2 : mEr [27] r3 r6 := hE2
  have hwe : hW cy a i r6 = hW cy a i r3 := hW_eqE (Ei_rf (T := [])) hE2 rfl rfl
  have hP : va_P D vwCl (xW cy a i r6 q (a 20) (a 12) ++ (hW cy a i r6 ++ tl)) H1 := by rw [hwe]; exact hP
  have hD : va_D A (xW cy a i r6 q (a 20) (a 12) ++ (hW cy a i r6 ++ tl)) := by rw [hwe]; exact hD
  have hEr : mEr [27, 28] _ r6 := Er_tr hEr hE2 (by decide)
  subst hQ
  exact W.iret (v := r_5) hx hb hr (fun t ht hW => ⟨⟨_, r6, rfl, ⟨hRr, hEr, trivial⟩, by rw [ht]; exact hP, va_K.moved hW.alike hK, hD⟩, hS.F ht⟩) hS.2.2 dX11_fairWear_24
set_option maxHeartbeats 4000000 in
set_option maxRecDepth 100000 in
theorem c_X11_lost (l : Launch) (D : va_G) (cy : Nat → ClassId) (a : Nat → Nat) (i : Nat → Int32) (r : Nat → Nat → Int32) (q : Nat → Option Nat) (tl : va_W) (p0 p1 : Int32) (hRi : yRi i) (hRr : yRr r) (q0 : 0 ≤ p0.toInt ∧ p0.toInt ≤ 19) : Met l yX11_lost (Cond.code yX11_lost cX11_lost 6 (some .int) :: gT) { frames := 3, cells := 0, slots := 0, locals := 72 } (va_Pc [.ref (a 0), .ref (a 61), .int p0, .int p1] (rP D cy (xW cy a i r q (a 20) (a 12) ++ (hW cy a i r ++ tl)))) (vp_Si (fun z => True)) 0 0 (fun _ => False) := by
  refine Met.ofQ (cc := cX11_lost) (maxL := 6) (ret := (some .int)) (by decide) rfl ?_
  intro p e s m args below meth c s₁ B hml hv Q hQ
  obtain ⟨rfl, hP, hK⟩ := hv
  have hx := B.exec
  have hb := B.bytes
  have hr := B.returns
  have hlocks := B.notSynchronized
  have hT : ∀ w ∈ gT, w.before _ s = true := fun w h => atoms_spec (ws := (Cond.code yX11_lost cX11_lost 6 (some .int) :: gT)) B.pre w (List.mem_cons_of_mem _ h)
  have hown : s.vm.findClass RX11 = some m.cls := findClass_of_methodNamed B.named
  have hl := lv_entry ([.ref (a 0), .ref (a 61), .int p0, .int p1]) (n := 6) (Nat.le_of_ble_eq_true rfl)
  rw [lg_entry_eq]
  generalize (lg_sl ([.ref (a 0), .ref (a 61), .int p0, .int p1]) ++ List.replicate (6 - (lg_sl ([.ref (a 0), .ref (a 61), .int p0, .int p1])).length) Slot.unset).toArray = ls at hl ⊢
  have hl : lv_has ls 6 [(0, .ref (a 0)), (1, .ref (a 61)), (2, .int p0), (3, .int p1)] := hl
  have hEi : mEi [] i i := Ei_rf
  have hEr : mEr [] r r := Er_rf
  refine lv_aload_n hx hb dX11_lost_0 rfl (lv_at hl 1 rfl) ?_
  refine va_get (D := D) (ci := 3) (v := .ref (a 65)) (C := RX3) (T := TX3) (N := 12) hx hb hT iX3 hown hK hP 61 rfl rfl 9 (by decide) (hT _ t_453) (fun _ h9 => h9) rfl dX11_lost_1 ?_
  refine va_get (D := D) (ci := 10) (v := .ref (a 68)) (C := RX10) (T := TX10) (N := 5) hx hb hT iX10 hown hK hP 65 rfl rfl 3 (by decide) (hT _ t_506) (fun _ h9 => h9) rfl dX11_lost_4 ?_
  refine lv_iload_n hx hb dX11_lost_7 rfl (lv_at hl 2 rfl) ?_
  refine va_iald hx hb hK hP 68 0 rfl rfl (vp_inI (by omega) (by omega)) dX11_lost_8 ?_
  refine lv_topi (fun v_1 ev_1 => ?_)
  have hgv_1 : 0 ≤ v_1.toInt ∧ v_1.toInt ≤ 9 := by rw [ev_1]; exact hRr 68 _
  refine lv_istore (lv' := [(4, .int v_1), (0, .ref (a 0)), (1, .ref (a 61)), (2, .int p0), (3, .int p1)]) hx hb dX11_lost_9 hl (by decide) rfl (fun ls hl => ?_)
  refine lv_iconst (v := 0) hx hb dX11_lost_11 (by decide) ?_
  refine lv_iload hx hb dX11_lost_12 (lv_at hl 0 rfl) ?_
  refine lv_iload_n hx hb dX11_lost_14 rfl (lv_at hl 4 rfl) ?_
  refine lv_isub hx hb dX11_lost_15 ?_
  refine lv_topi (fun v_2 ev_2 => ?_)
  refine va_mmax hx hb (by rw [hml]; exact hl.1.symm) hown (hT _ t_521) (hT _ t_307) (hT _ t_289) (hT _ t_308) (Nat.le_of_ble_eq_true rfl) (Nat.le_of_ble_eq_true rfl) (Nat.le_of_ble_eq_true rfl) (Nat.le_of_ble_eq_true rfl) dX11_lost_16 ?_
  refine lv_topi (fun v_3 ev_3 => ?_)
  refine lv_aload_n hx hb dX11_lost_19 rfl (lv_at hl 2 rfl) ?_
  refine lv_iload_n hx hb dX11_lost_20 rfl (lv_at hl 3 rfl) ?_
  refine vp_callSi (W.runV (As := [.int p0]) (rest := [.int v_3]) ⟨hx, hb, hml, hown, hT⟩ (c_X3_stateAtLast l D cy a i r q tl p0 hRi hRr (by first | omega | decide)) (cwV 1 hT (gV t_397 t_507 t_399 t_400 t_391) rfl rfl rfl (by decide +kernel) ⟨Nat.le_of_ble_eq_true rfl, Nat.le_of_ble_eq_true rfl⟩) (rP_v hP hK (va_recv hK hP (ci := 3) (q0 := 61) rfl rfl)) rfl rfl hl.1 rfl (lv_room (Nat.le_of_ble_eq_true rfl)) dX11_lost_21 ⟨Nat.le_of_ble_eq_true rfl, Nat.le_of_ble_eq_true rfl⟩) (fun r_4 hr_4 => ?_)
  have hr_4 : 0 ≤ r_4.toInt ∧ r_4.toInt ≤ 9 := hr_4
  refine lv_isub hx hb dX11_lost_24 ?_
  refine lv_topi (fun v_5 ev_5 => ?_)
  refine lv_istore (lv' := [(5, .int v_5), (4, .int v_1), (0, .ref (a 0)), (1, .ref (a 61)), (2, .int p0), (3, .int p1)]) hx hb dX11_lost_25 hl (by decide) rfl (fun ls hl => ?_)
  refine lv_iload hx hb dX11_lost_27 (lv_at hl 0 rfl) ?_
  refine lv_if_le (tgt := 37) hx hb dX11_lost_29 (by decide) (fun c_6 => ?_) (fun c_6 => ?_)
  · have c_6 : v_5.toInt ≤ 0 := b_le c_6
    refine lv_iconst (v := 0) hx hb dX11_lost_37 (by decide) ?_
    subst hQ
    exact W.iret (v := 0) hx hb hr (fun t ht hW => ⟨_, rfl, trivial, ht⟩) (fun q hq => absurd hq List.not_mem_nil) dX11_lost_38
  · have c_6 : 0 < v_5.toInt := b_nle c_6
    refine lv_iload hx hb dX11_lost_32 (lv_at hl 1 rfl) ?_
    refine lv_if_gt (tgt := 39) hx hb dX11_lost_34 (by decide) (fun c_7 => ?_) (fun c_7 => ?_)
    · have c_7 : 0 < v_1.toInt := b_lt c_7
      refine lv_aload_n hx hb dX11_lost_39 rfl (lv_at hl 2 rfl) ?_
      refine lv_aload_n hx hb dX11_lost_40 rfl (lv_at hl 3 rfl) ?_
      refine lv_iload_n hx hb dX11_lost_41 rfl (lv_at hl 4 rfl) ?_
      refine lv_aload_n hx hb dX11_lost_42 rfl (lv_at hl 3 rfl) ?_
      refine vp_callSi (W.runV (As := []) (rest := [.int p0, .ref (a 61), .ref (a 0)]) ⟨hx, hb, hml, hown, hT⟩ (c_X3_months l D cy a i r q tl hRi hRr) (cwV 0 hT (gV t_501 t_502 t_503 t_504 t_391) rfl rfl rfl (by decide +kernel) ⟨Nat.le_of_ble_eq_true rfl, Nat.le_of_ble_eq_true rfl⟩) (rP_v hP hK (va_recv hK hP (ci := 3) (q0 := 61) rfl rfl)) rfl rfl hl.1 rfl (lv_room (Nat.le_of_ble_eq_true rfl)) dX11_lost_43 ⟨Nat.le_of_ble_eq_true rfl, Nat.le_of_ble_eq_true rfl⟩) (fun r_8 hr_8 => ?_)
      have hr_8 : -999 ≤ r_8.toInt ∧ r_8.toInt ≤ 999 := hr_8
      refine vp_callSi (W.runV (As := [.ref (a 61), .int p0, .int r_8]) (rest := []) ⟨hx, hb, hml, hown, hT⟩ (c_X11_worth l D cy a i r q tl p0 r_8 hRi hRr (by omega)) (cwV 3 hT (gV t_522 t_523 t_524 t_525 t_2) rfl rfl rfl (by decide +kernel) ⟨Nat.le_of_ble_eq_true rfl, Nat.le_of_ble_eq_true rfl⟩) (rP_v hP hK (va_recv hK hP (ci := 11) (q0 := 0) rfl rfl)) rfl rfl hl.1 rfl (lv_room (Nat.le_of_ble_eq_true rfl)) dX11_lost_46 ⟨Nat.le_of_ble_eq_true rfl, Nat.le_of_ble_eq_true rfl⟩) (fun r_9 hr_9 => ?_)
      refine lv_iload hx hb dX11_lost_49 (lv_at hl 0 rfl) ?_
      refine lv_imul hx hb dX11_lost_51 ?_
      refine lv_topi (fun v_10 ev_10 => ?_)
      refine lv_iload hx hb dX11_lost_52 (lv_at hl 1 rfl) ?_
      refine lv_idiv hx hb dX11_lost_54 (nz (by omega)) ?_
      refine lv_topi (fun v_11 ev_11 => ?_)
      subst hQ
      exact W.iret (v := v_11) hx hb hr (fun t ht hW => ⟨_, rfl, trivial, ht⟩) (fun q hq => absurd hq List.not_mem_nil) dX11_lost_55
    · have c_7 : v_1.toInt ≤ 0 := b_nlt c_7
      refine lv_iconst (v := 0) hx hb dX11_lost_37 (by decide) ?_
      subst hQ
      exact W.iret (v := 0) hx hb hr (fun t ht hW => ⟨_, rfl, trivial, ht⟩) (fun q hq => absurd hq List.not_mem_nil) dX11_lost_38
set_option maxHeartbeats 4000000 in
set_option maxRecDepth 100000 in
theorem c_X11_led.y (l : Launch) (D : va_G) (cy : Nat → ClassId) (a : Nat → Nat) (i : Nat → Int32) (r : Nat → Nat → Int32) (q : Nat → Option Nat) (tl : va_W) (p0 p1 p2 : Int32) (hRi : yRi i) (hRr : yRr r) (hh : 0 ≤ p0.toInt ∧ p0.toInt < (i 0).toInt) (hq : q p0.toNatClampNeg = some (a 61)) : Met l yX11_led (Cond.code yX11_led cX11_led 5 (some .int) :: gT) { frames := 3, cells := 0, slots := 0, locals := 72 } (va_Pc [.ref (a 0), .int p0, .int p1, .int p2] (rP D cy (xW cy a i r q (a 20) (a 12) ++ (hW cy a i r ++ tl)))) (vp_Si (fun z => True)) 0 0 (fun _ => False) := by
  refine Met.ofQ (cc := cX11_led) (maxL := 5) (ret := (some .int)) (by decide) rfl ?_
  intro p e s m args below meth c s₁ B hml hv Q hQ
  obtain ⟨rfl, hP, hK⟩ := hv
  have hx := B.exec
  have hb := B.bytes
  have hr := B.returns
  have hlocks := B.notSynchronized
  have hT : ∀ w ∈ gT, w.before _ s = true := fun w h => atoms_spec (ws := (Cond.code yX11_led cX11_led 5 (some .int) :: gT)) B.pre w (List.mem_cons_of_mem _ h)
  have hown : s.vm.findClass RX11 = some m.cls := findClass_of_methodNamed B.named
  have hl := lv_entry ([.ref (a 0), .int p0, .int p1, .int p2]) (n := 5) (Nat.le_of_ble_eq_true rfl)
  rw [lg_entry_eq]
  generalize (lg_sl ([.ref (a 0), .int p0, .int p1, .int p2]) ++ List.replicate (5 - (lg_sl ([.ref (a 0), .int p0, .int p1, .int p2])).length) Slot.unset).toArray = ls at hl ⊢
  have hl : lv_has ls 5 [(0, .ref (a 0)), (1, .int p0), (2, .int p1), (3, .int p2)] := hl
  have hEi : mEi [] i i := Ei_rf
  have hEr : mEr [] r r := Er_rf
  have hg0 : 0 ≤ (i 0).toInt ∧ (i 0).toInt ≤ 6 := hRi 0
  refine lv_aload_n hx hb dX11_led_0 rfl (lv_at hl 0 rfl) ?_
  refine lv_iload_n hx hb dX11_led_1 rfl (lv_at hl 1 rfl) ?_
  refine va_csq (W.runV (As := [.int p0]) (rest := []) ⟨hx, hb, hml, hown, hT⟩ (c_X11_homeAt l D cy a i r q (hW cy a i r ++ tl) p0 hRi hRr) (cwV 1 hT (gV t_443 t_444 t_445 t_446 t_2) rfl rfl rfl (by decide +kernel) ⟨Nat.le_of_ble_eq_true rfl, Nat.le_of_ble_eq_true rfl⟩) (rP_v hP hK (va_recv hK hP (ci := 11) (q0 := 0) rfl rfl)) rfl rfl hl.1 rfl (lv_room (Nat.le_of_ble_eq_true rfl)) dX11_led_2 ⟨Nat.le_of_ble_eq_true rfl, Nat.le_of_ble_eq_true rfl⟩) (fun r_1 hr_1 => ?_)
  obtain rfl : r_1 = some (a 61) := (hr_1.1 hh).trans hq
  refine W.eq (g2 := F0 m 5 ls [.ref (a 61)]) rfl ?_
  refine lv_astore (lv' := [(4, .ref (a 61)), (0, .ref (a 0)), (1, .int p0), (2, .int p1), (3, .int p2)]) hx hb dX11_led_5 hl (by decide) rfl (fun ls hl => ?_)
  refine lv_aload hx hb dX11_led_7 (lv_at hl 0 rfl) ?_
  refine lv_ifnull hx hb dX11_led_9 ?_
  refine lv_iload_n hx hb dX11_led_12 rfl (lv_at hl 3 rfl) ?_
  refine lv_iconst (v := 0) hx hb dX11_led_13 (by decide) ?_
  refine lv_aload hx hb dX11_led_14 (lv_at hl 0 rfl) ?_
  refine va_get (D := D) (ci := 3) (v := .ref (a 65)) (C := RX3) (T := TX3) (N := 12) hx hb hT iX3 hown hK hP 61 rfl rfl 9 (by decide) (hT _ t_453) (fun _ h9 => h9) rfl dX11_led_16 ?_
  refine va_get (D := D) (ci := 10) (v := .int (i 23)) (C := RX10) (T := TX10) (N := 5) hx hb hT iX10 hown hK hP 65 rfl rfl 0 (by decide) (hT _ t_463) (fun _ h9 => h9) rfl dX11_led_19 ?_
  have hg_2 : 0 ≤ (i 23).toInt ∧ (i 23).toInt ≤ 20 := hRi 23
  refine lv_iconst (v := 1) hx hb dX11_led_22 (by decide) ?_
  refine lv_isub hx hb dX11_led_23 ?_
  refine lv_topi (fun v_3 ev_3 => ?_)
  have hv_3 : v_3.toInt = (i 23).toInt - 1 := by rw [ev_3]; have := b_rg (i 23); exact i_sub (a := (i 23).toInt) (b := 1) rfl rfl (by omega) (by omega)
  refine vp_callSi (W.runS (As := [.int p1, .int 0, .int v_3]) (rest := []) ⟨hx, hb, hml, hown, hT⟩ (c_X11_within l p1 0 v_3) (va_cwS 3 hT (gS t_1 t_3 t_4 t_2) rfl rfl rfl (by decide +kernel) ⟨Nat.le_of_ble_eq_true rfl, Nat.le_of_ble_eq_true rfl⟩) preT rfl rfl hl.1 rfl (lv_room (Nat.le_of_ble_eq_true rfl)) dX11_led_24 ⟨Nat.le_of_ble_eq_true rfl, Nat.le_of_ble_eq_true rfl⟩) (fun r_4 hr_4 => ?_)
  have hr_4 : BR r_4 (0 ≤ p1.toInt ∧ p1.toInt ≤ v_3.toInt) 1 0 := hr_4
  rcases hr_4 with ⟨rfl, h_5⟩ | ⟨rfl, h_5⟩
  · skip
    refine lv_if_eq (tgt := 40) hx hb dX11_led_27 (by decide) (fun c_6 => absurd c_6 (by decide)) (fun c_6 => ?_)
    refine lv_iload_n hx hb dX11_led_30 rfl (lv_at hl 4 rfl) ?_
    refine lv_iconst (v := 0) hx hb dX11_led_31 (by decide) ?_
    refine lv_bipush (v := 30) hx hb dX11_led_32 (by decide) ?_
    refine vp_callSi (W.runS (As := [.int p2, .int 0, .int 30]) (rest := []) ⟨hx, hb, hml, hown, hT⟩ (c_X11_within l p2 0 30) (va_cwS 3 hT (gS t_1 t_3 t_4 t_2) rfl rfl rfl (by decide +kernel) ⟨Nat.le_of_ble_eq_true rfl, Nat.le_of_ble_eq_true rfl⟩) preT rfl rfl hl.1 rfl (lv_room (Nat.le_of_ble_eq_true rfl)) dX11_led_34 ⟨Nat.le_of_ble_eq_true rfl, Nat.le_of_ble_eq_true rfl⟩) (fun r_7 hr_7 => ?_)
    have hr_7 : BR r_7 (0 ≤ p2.toInt ∧ p2.toInt ≤ 30) 1 0 := hr_7
    rcases hr_7 with ⟨rfl, h_8⟩ | ⟨rfl, h_8⟩
    · skip
      refine lv_if_ne (tgt := 42) hx hb dX11_led_37 (by decide) (fun c_9 => ?_) (fun c_9 => absurd c_9 (by decide))
      refine lv_aload_n hx hb dX11_led_42 rfl (lv_at hl 1 rfl) ?_
      refine lv_aload hx hb dX11_led_43 (lv_at hl 0 rfl) ?_
      refine lv_iload_n hx hb dX11_led_45 rfl (lv_at hl 3 rfl) ?_
      refine lv_bipush (v := 12) hx hb dX11_led_46 (by decide) ?_
      refine lv_iload_n hx hb dX11_led_48 rfl (lv_at hl 4 rfl) ?_
      refine lv_imul hx hb dX11_led_49 ?_
      refine lv_topi (fun v_10 ev_10 => ?_)
      have hv_10 : v_10.toInt = 12 * p2.toInt := by rw [ev_10]; have := b_rg p2; exact i_mul (a := 12) (b := p2.toInt) rfl rfl (by omega) (by omega)
      refine vp_callSi (W.runV (As := [.ref (a 61), .int p1, .int v_10]) (rest := []) ⟨hx, hb, hml, hown, hT⟩ (c_X11_worth l D cy a i r q tl p1 v_10 hRi hRr (by omega)) (cwV 3 hT (gV t_522 t_523 t_524 t_525 t_2) rfl rfl rfl (by decide +kernel) ⟨Nat.le_of_ble_eq_true rfl, Nat.le_of_ble_eq_true rfl⟩) (rP_v hP hK (va_recv hK hP (ci := 11) (q0 := 0) rfl rfl)) rfl rfl hl.1 rfl (lv_room (Nat.le_of_ble_eq_true rfl)) dX11_led_50 ⟨Nat.le_of_ble_eq_true rfl, Nat.le_of_ble_eq_true rfl⟩) (fun r_11 hr_11 => ?_)
      subst hQ
      exact W.iret (v := r_11) hx hb hr (fun t ht hW => ⟨_, rfl, trivial, ht⟩) (fun q hq => absurd hq List.not_mem_nil) dX11_led_53
    · skip
      refine lv_if_ne (tgt := 42) hx hb dX11_led_37 (by decide) (fun c_12 => absurd (by decide) c_12) (fun c_12 => ?_)
      refine lv_iconst (v := (-1)) hx hb dX11_led_40 (by decide) ?_
      subst hQ
      exact W.iret (v := (-1)) hx hb hr (fun t ht hW => ⟨_, rfl, trivial, ht⟩) (fun q hq => absurd hq List.not_mem_nil) dX11_led_41
  · skip
    refine lv_if_eq (tgt := 40) hx hb dX11_led_27 (by decide) (fun c_13 => ?_) (fun c_13 => absurd (by decide) c_13)
    refine lv_iconst (v := (-1)) hx hb dX11_led_40 (by decide) ?_
    subst hQ
    exact W.iret (v := (-1)) hx hb hr (fun t ht hW => ⟨_, rfl, trivial, ht⟩) (fun q hq => absurd hq List.not_mem_nil) dX11_led_41
set_option maxHeartbeats 4000000 in
set_option maxRecDepth 100000 in
theorem c_X11_led.b (l : Launch) (D : va_G) (cy : Nat → ClassId) (a : Nat → Nat) (i : Nat → Int32) (r : Nat → Nat → Int32) (q : Nat → Option Nat) (tl : va_W) (p0 p1 p2 : Int32) (hRi : yRi i) (hRr : yRr r) (hh : ¬ (0 ≤ p0.toInt ∧ p0.toInt < (i 0).toInt)) : Met l yX11_led (Cond.code yX11_led cX11_led 5 (some .int) :: gT) { frames := 3, cells := 0, slots := 0, locals := 67 } (va_Pc [.ref (a 0), .int p0, .int p1, .int p2] (rP D cy (xW cy a i r q (a 20) (a 12) ++ tl))) (vp_Si (fun z => z = (-1))) 0 0 (fun _ => False) := by
  refine Met.ofQ (cc := cX11_led) (maxL := 5) (ret := (some .int)) (by decide) rfl ?_
  intro p e s m args below meth c s₁ B hml hv Q hQ
  obtain ⟨rfl, hP, hK⟩ := hv
  have hx := B.exec
  have hb := B.bytes
  have hr := B.returns
  have hlocks := B.notSynchronized
  have hT : ∀ w ∈ gT, w.before _ s = true := fun w h => atoms_spec (ws := (Cond.code yX11_led cX11_led 5 (some .int) :: gT)) B.pre w (List.mem_cons_of_mem _ h)
  have hown : s.vm.findClass RX11 = some m.cls := findClass_of_methodNamed B.named
  have hl := lv_entry ([.ref (a 0), .int p0, .int p1, .int p2]) (n := 5) (Nat.le_of_ble_eq_true rfl)
  rw [lg_entry_eq]
  generalize (lg_sl ([.ref (a 0), .int p0, .int p1, .int p2]) ++ List.replicate (5 - (lg_sl ([.ref (a 0), .int p0, .int p1, .int p2])).length) Slot.unset).toArray = ls at hl ⊢
  have hl : lv_has ls 5 [(0, .ref (a 0)), (1, .int p0), (2, .int p1), (3, .int p2)] := hl
  have hEi : mEi [] i i := Ei_rf
  have hEr : mEr [] r r := Er_rf
  refine lv_aload_n hx hb dX11_led_0 rfl (lv_at hl 0 rfl) ?_
  refine lv_iload_n hx hb dX11_led_1 rfl (lv_at hl 1 rfl) ?_
  refine va_csq (W.runV (As := [.int p0]) (rest := []) ⟨hx, hb, hml, hown, hT⟩ (c_X11_homeAt l D cy a i r q tl p0 hRi hRr) (cwV 1 hT (gV t_443 t_444 t_445 t_446 t_2) rfl rfl rfl (by decide +kernel) ⟨Nat.le_of_ble_eq_true rfl, Nat.le_of_ble_eq_true rfl⟩) (rP_v hP hK (va_recv hK hP (ci := 11) (q0 := 0) rfl rfl)) rfl rfl hl.1 rfl (lv_room (Nat.le_of_ble_eq_true rfl)) dX11_led_2 ⟨Nat.le_of_ble_eq_true rfl, Nat.le_of_ble_eq_true rfl⟩) (fun r_1 hr_1 => ?_)
  obtain rfl : r_1 = none := hr_1.2 hh
  refine W.eq (g2 := F0 m 5 ls [.null]) rfl ?_
  refine lv_astoreN (lv' := [(4, .null), (0, .ref (a 0)), (1, .int p0), (2, .int p1), (3, .int p2)]) hx hb dX11_led_5 hl (by decide) rfl (fun ls hl => ?_)
  refine lv_aloadN hx hb dX11_led_7 (lv_at hl 0 rfl) ?_
  refine lv_ifnullN (tgt := 40) hx hb dX11_led_9 (by decide) ?_
  refine lv_iconst (v := (-1)) hx hb dX11_led_40 (by decide) ?_
  subst hQ
  exact W.iret (v := (-1)) hx hb hr (fun t ht hW => ⟨_, rfl, rfl, ht⟩) (fun q hq => absurd hq List.not_mem_nil) dX11_led_41
set_option maxHeartbeats 4000000 in
set_option maxRecDepth 100000 in
theorem c_X11_thing.y (l : Launch) (D : va_G) (cy : Nat → ClassId) (a : Nat → Nat) (i : Nat → Int32) (r : Nat → Nat → Int32) (q : Nat → Option Nat) (tl : va_W) (p0 p1 p2 : Int32) (sz : Nat) (hRi : yRi i) (hRr : yRr r) (hh : 0 ≤ p0.toInt ∧ p0.toInt < (i 0).toInt) (hq : q p0.toNatClampNeg = some (a 61)) : Met l yX11_thing (Cond.code yX11_thing cX11_thing 5 (some .int) :: gT) { frames := 5, cells := 0, slots := 0, locals := 122 } (va_Pc [.ref (a 0), .int p0, .int p1, .int p2] (rM D cy (xW cy a i r q (a 20) (a 12) ++ (hW cy a i r ++ tl)) sz)) (va_Qi (fun (z : Int32) (u : Nat → Nat → Int32) => yRr u ∧ mEr [27, 28] r u ∧ True) (fun (u : Nat → Nat → Int32) t => va_P D vwCl (xW cy a i u q (a 20) (a 12) ++ (hW cy a i u ++ tl)) t.heap ∧ va_K D vwCl (vT cy) t ∧ va_D (va_A (xW cy a i r q (a 20) (a 12) ++ (hW cy a i r ++ tl)) sz) (xW cy a i u q (a 20) (a 12) ++ (hW cy a i u ++ tl))) (va_A (xW cy a i r q (a 20) (a 12) ++ (hW cy a i r ++ tl)) sz)) 0 0 (va_A (xW cy a i r q (a 20) (a 12) ++ (hW cy a i r ++ tl)) sz) := by
  refine Met.ofQ (cc := cX11_thing) (maxL := 5) (ret := (some .int)) (by decide) rfl ?_
  intro p e s m args below meth c s₁ B hml hv Q hQ
  obtain ⟨rfl, hnw, hsz, hP, hK, hD0⟩ := hv
  have hx := B.exec
  have hb := B.bytes
  have hr := B.returns
  have hlocks := B.notSynchronized
  have hT : ∀ w ∈ gT, w.before _ s = true := fun w h => atoms_spec (ws := (Cond.code yX11_thing cX11_thing 5 (some .int) :: gT)) B.pre w (List.mem_cons_of_mem _ h)
  have hown : s.vm.findClass RX11 = some m.cls := findClass_of_methodNamed B.named
  subst hsz
  have hD := hD0.self (sz := s.heap.size)
  generalize hAe : va_A (xW cy a i r q (a 20) (a 12) ++ (hW cy a i r ++ tl)) s.heap.size = A at hD hQ
  have hA : ∀ q : Nat, s.heap.size ≤ q → A q := fun q h => by rw [← hAe]; exact Or.inr h
  have hS : va_S A s.heap s.heap [] := va_S.rf
  have hl := lv_entry ([.ref (a 0), .int p0, .int p1, .int p2]) (n := 5) (Nat.le_of_ble_eq_true rfl)
  rw [lg_entry_eq]
  generalize (lg_sl ([.ref (a 0), .int p0, .int p1, .int p2]) ++ List.replicate (5 - (lg_sl ([.ref (a 0), .int p0, .int p1, .int p2])).length) Slot.unset).toArray = ls at hl ⊢
  have hl : lv_has ls 5 [(0, .ref (a 0)), (1, .int p0), (2, .int p1), (3, .int p2)] := hl
  have hEi : mEi [] i i := Ei_rf
  have hEr : mEr [27, 28] r r := Er_rf
  have hg0 : 0 ≤ (i 0).toInt ∧ (i 0).toInt ≤ 6 := hRi 0
  refine lv_aload_n hx hb dX11_thing_0 rfl (lv_at hl 0 rfl) ?_
  refine lv_iload_n hx hb dX11_thing_1 rfl (lv_at hl 1 rfl) ?_
  refine va_csq (W.runV (As := [.int p0]) (rest := []) ⟨hx, hb, hml, hown, hT⟩ (c_X11_homeAt l D cy a i r q (hW cy a i r ++ tl) p0 hRi hRr) (cwV 1 hT (gV t_443 t_444 t_445 t_446 t_2) rfl rfl rfl (by decide +kernel) ⟨Nat.le_of_ble_eq_true rfl, Nat.le_of_ble_eq_true rfl⟩) (rP_v hP hK (va_recv hK hP (ci := 11) (q0 := 0) rfl rfl)) rfl rfl hl.1 rfl (lv_room (Nat.le_of_ble_eq_true rfl)) dX11_thing_2 ⟨Nat.le_of_ble_eq_true rfl, Nat.le_of_ble_eq_true rfl⟩) (fun r_1 hr_1 => ?_)
  obtain rfl : r_1 = some (a 61) := (hr_1.1 hh).trans hq
  refine W.eq (g2 := F0 m 5 ls [.ref (a 61)]) rfl ?_
  refine lv_astore (lv' := [(4, .ref (a 61)), (0, .ref (a 0)), (1, .int p0), (2, .int p1), (3, .int p2)]) hx hb dX11_thing_5 hl (by decide) rfl (fun ls hl => ?_)
  refine lv_aload hx hb dX11_thing_7 (lv_at hl 0 rfl) ?_
  refine lv_ifnull hx hb dX11_thing_9 ?_
  refine lv_iload_n hx hb dX11_thing_12 rfl (lv_at hl 3 rfl) ?_
  refine lv_iconst (v := 0) hx hb dX11_thing_13 (by decide) ?_
  refine lv_aload hx hb dX11_thing_14 (lv_at hl 0 rfl) ?_
  refine va_get (D := D) (ci := 3) (v := .ref (a 65)) (C := RX3) (T := TX3) (N := 12) hx hb hT iX3 hown hK hP 61 rfl rfl 9 (by decide) (hT _ t_453) (fun _ h9 => h9) rfl dX11_thing_16 ?_
  refine va_get (D := D) (ci := 10) (v := .int (i 23)) (C := RX10) (T := TX10) (N := 5) hx hb hT iX10 hown hK hP 65 rfl rfl 0 (by decide) (hT _ t_463) (fun _ h9 => h9) rfl dX11_thing_19 ?_
  have hg_2 : 0 ≤ (i 23).toInt ∧ (i 23).toInt ≤ 20 := hRi 23
  refine lv_iconst (v := 1) hx hb dX11_thing_22 (by decide) ?_
  refine lv_isub hx hb dX11_thing_23 ?_
  refine lv_topi (fun v_3 ev_3 => ?_)
  have hv_3 : v_3.toInt = (i 23).toInt - 1 := by rw [ev_3]; have := b_rg (i 23); exact i_sub (a := (i 23).toInt) (b := 1) rfl rfl (by omega) (by omega)
  refine vp_callSi (W.runS (As := [.int p1, .int 0, .int v_3]) (rest := []) ⟨hx, hb, hml, hown, hT⟩ (c_X11_within l p1 0 v_3) (va_cwS 3 hT (gS t_1 t_3 t_4 t_2) rfl rfl rfl (by decide +kernel) ⟨Nat.le_of_ble_eq_true rfl, Nat.le_of_ble_eq_true rfl⟩) preT rfl rfl hl.1 rfl (lv_room (Nat.le_of_ble_eq_true rfl)) dX11_thing_24 ⟨Nat.le_of_ble_eq_true rfl, Nat.le_of_ble_eq_true rfl⟩) (fun r_4 hr_4 => ?_)
  have hr_4 : BR r_4 (0 ≤ p1.toInt ∧ p1.toInt ≤ v_3.toInt) 1 0 := hr_4
  rcases hr_4 with ⟨rfl, h_5⟩ | ⟨rfl, h_5⟩
  · skip
    refine lv_if_ne (tgt := 32) hx hb dX11_thing_27 (by decide) (fun c_6 => ?_) (fun c_6 => absurd c_6 (by decide))
    refine lv_iload_n hx hb dX11_thing_32 rfl (lv_at hl 4 rfl) ?_
    rcases (show (p2.toInt < 0 ∨ 4 < p2.toInt) ∨ p2.toInt = 0 ∨ p2.toInt = 1 ∨ p2.toInt = 2 ∨ p2.toInt = 3 ∨ p2.toInt = 4 by omega) with h_7 | h_7 | h_7 | h_7 | h_7 | h_7
    · refine lv_tableOut (tgt := 119) hx hb dX11_thing_33 h_7 (by decide) ?_
      refine lv_iconst (v := (-1)) hx hb dX11_thing_119 (by decide) ?_
      subst hQ
      exact W.iret (v := (-1)) hx hb hr (fun t ht hW => ⟨⟨_, r, rfl, ⟨hRr, hEr, trivial⟩, by rw [ht]; exact hP, va_K.moved hW.alike hK, hD⟩, hS.F ht⟩) hS.2.2 dX11_thing_120
    · refine lv_tableIn (off := 35) (tgt := 68) hx hb dX11_thing_33 (by omega) (by omega) (by rw [h_7]; rfl) (by decide) ?_
      refine lv_aload hx hb dX11_thing_68 (lv_at hl 0 rfl) ?_
      refine va_get (D := D) (ci := 3) (v := .ref (a 75)) (C := RX3) (T := TX3) (N := 12) hx hb hT iX3 hown hK hP 61 rfl rfl 11 (by decide) (hT _ t_526) (fun _ h9 => h9) rfl dX11_thing_70 ?_
      refine lv_iload_n hx hb dX11_thing_73 rfl (lv_at hl 3 rfl) ?_
      refine va_iald hx hb hK hP 75 0 rfl rfl (vp_inI (by omega) (by omega)) dX11_thing_74 ?_
      refine lv_topi (fun v_8 ev_8 => ?_)
      have hgv_8 : -2 ≤ v_8.toInt ∧ v_8.toInt ≤ 19 := by rw [ev_8]; exact hRr 75 _
      subst hQ
      exact W.iret (v := v_8) hx hb hr (fun t ht hW => ⟨⟨_, r, rfl, ⟨hRr, hEr, trivial⟩, by rw [ht]; exact hP, va_K.moved hW.alike hK, hD⟩, hS.F ht⟩) hS.2.2 dX11_thing_75
    · refine lv_tableIn (off := 43) (tgt := 76) hx hb dX11_thing_33 (by omega) (by omega) (by rw [h_7]; rfl) (by decide) ?_
      refine lv_aload hx hb dX11_thing_76 (lv_at hl 0 rfl) ?_
      refine lv_iload_n hx hb dX11_thing_78 rfl (lv_at hl 3 rfl) ?_
      refine vp_callSi (W.runV (As := [.int p1]) (rest := []) ⟨hx, hb, hml, hown, hT⟩ (c_X3_change l D cy a i r q tl p1 hRi hRr (by first | omega | decide)) (cwV 1 hT (gV t_527 t_528 t_529 t_530 t_391) rfl rfl rfl (by decide +kernel) ⟨Nat.le_of_ble_eq_true rfl, Nat.le_of_ble_eq_true rfl⟩) (rP_v hP hK (va_recv hK hP (ci := 3) (q0 := 61) rfl rfl)) rfl rfl hl.1 rfl (lv_room (Nat.le_of_ble_eq_true rfl)) dX11_thing_79 ⟨Nat.le_of_ble_eq_true rfl, Nat.le_of_ble_eq_true rfl⟩) (fun r_9 hr_9 => ?_)
      have hr_9 : 0 ≤ r_9.toInt ∧ r_9.toInt ≤ 3 := hr_9
      subst hQ
      exact W.iret (v := r_9) hx hb hr (fun t ht hW => ⟨⟨_, r, rfl, ⟨hRr, hEr, trivial⟩, by rw [ht]; exact hP, va_K.moved hW.alike hK, hD⟩, hS.F ht⟩) hS.2.2 dX11_thing_82
    · refine lv_tableIn (off := 50) (tgt := 83) hx hb dX11_thing_33 (by omega) (by omega) (by rw [h_7]; rfl) (by decide) ?_
      refine lv_aload_n hx hb dX11_thing_83 rfl (lv_at hl 1 rfl) ?_
      refine lv_aload hx hb dX11_thing_84 (lv_at hl 0 rfl) ?_
      refine lv_iload_n hx hb dX11_thing_86 rfl (lv_at hl 3 rfl) ?_
      have hF_10 := rF hD hS hA
      refine va_calli (va_runV (As := [.ref (a 61), .int p1]) (rest := []) ⟨hx, hb, hml, hown, hT⟩ (c_X11_fairWear l D cy a i r q tl p1 _ hRi hRr (by first | omega | decide)) (cwV 2 hT (gV t_531 t_532 t_533 t_534 t_2) rfl rfl rfl (by decide +kernel) ⟨Nat.le_of_ble_eq_true rfl, Nat.le_of_ble_eq_true rfl⟩) (rM_v hnw hP hK hD (va_recv hK hP (ci := 11) (q0 := 0) rfl rfl)) rfl rfl hl.1 rfl (lv_room (Nat.le_of_ble_eq_true rfl)) dX11_thing_87 ⟨Nat.le_of_ble_eq_true rfl, Nat.le_of_ble_eq_true rfl⟩) hS (fun q _ h => hF_10 q h) hF_10 (fun r_11 u_12 t H1 locs ht hvm hr_11 hB hz1 hk1 hS => ?_)
      obtain ⟨r12, rfl⟩ : ∃ z, z = u_12 := ⟨_, rfl⟩
      obtain ⟨hP, hK1, hD1⟩ := hB
      rw [ht] at hP
      have hD := hD1.weaken (fun k q _ h => hF_10 q.1 h)
      obtain ⟨hRr, hE2, hr_11⟩ := hr_11
      have hRr : yRr r12 := hRr
      have hE2 : mEr [27, 28] r r12 := hE2
      have hP : va_P D vwCl (xW cy a i r12 q (a 20) (a 12) ++ (hW cy a i r12 ++ tl)) H1 := hP
      have hD : va_D A (xW cy a i r12 q (a 20) (a 12) ++ (hW cy a i r12 ++ tl)) := hD
      have hEr : mEr [27, 28] _ r12 := Er_tr hEr hE2 (by decide)
      subst hQ
      exact W.iret (v := r_11) hx hb hr (fun t ht hW => ⟨⟨_, r12, rfl, ⟨hRr, hEr, trivial⟩, by rw [ht]; exact hP, va_K.moved hW.alike hK, hD⟩, hS.F ht⟩) hS.2.2 dX11_thing_90
    · refine lv_tableIn (off := 58) (tgt := 91) hx hb dX11_thing_33 (by omega) (by omega) (by rw [h_7]; rfl) (by decide) ?_
      refine lv_aload_n hx hb dX11_thing_91 rfl (lv_at hl 1 rfl) ?_
      refine lv_aload hx hb dX11_thing_92 (lv_at hl 0 rfl) ?_
      refine lv_iload_n hx hb dX11_thing_94 rfl (lv_at hl 3 rfl) ?_
      refine lv_aload hx hb dX11_thing_95 (lv_at hl 0 rfl) ?_
      refine vp_callSi (W.runV (As := []) (rest := [.int p1, .ref (a 61), .ref (a 0)]) ⟨hx, hb, hml, hown, hT⟩ (c_X3_months l D cy a i r q tl hRi hRr) (cwV 0 hT (gV t_501 t_502 t_503 t_504 t_391) rfl rfl rfl (by decide +kernel) ⟨Nat.le_of_ble_eq_true rfl, Nat.le_of_ble_eq_true rfl⟩) (rP_v hP hK (va_recv hK hP (ci := 3) (q0 := 61) rfl rfl)) rfl rfl hl.1 rfl (lv_room (Nat.le_of_ble_eq_true rfl)) dX11_thing_97 ⟨Nat.le_of_ble_eq_true rfl, Nat.le_of_ble_eq_true rfl⟩) (fun r_13 hr_13 => ?_)
      have hr_13 : -999 ≤ r_13.toInt ∧ r_13.toInt ≤ 999 := hr_13
      refine vp_callSi (W.runV (As := [.ref (a 61), .int p1, .int r_13]) (rest := []) ⟨hx, hb, hml, hown, hT⟩ (c_X11_worth l D cy a i r q tl p1 r_13 hRi hRr (by omega)) (cwV 3 hT (gV t_522 t_523 t_524 t_525 t_2) rfl rfl rfl (by decide +kernel) ⟨Nat.le_of_ble_eq_true rfl, Nat.le_of_ble_eq_true rfl⟩) (rP_v hP hK (va_recv hK hP (ci := 11) (q0 := 0) rfl rfl)) rfl rfl hl.1 rfl (lv_room (Nat.le_of_ble_eq_true rfl)) dX11_thing_100 ⟨Nat.le_of_ble_eq_true rfl, Nat.le_of_ble_eq_true rfl⟩) (fun r_14 hr_14 => ?_)
      subst hQ
      exact W.iret (v := r_14) hx hb hr (fun t ht hW => ⟨⟨_, r, rfl, ⟨hRr, hEr, trivial⟩, by rw [ht]; exact hP, va_K.moved hW.alike hK, hD⟩, hS.F ht⟩) hS.2.2 dX11_thing_103
    · refine lv_tableIn (off := 71) (tgt := 104) hx hb dX11_thing_33 (by omega) (by omega) (by rw [h_7]; rfl) (by decide) ?_
      refine lv_aload_n hx hb dX11_thing_104 rfl (lv_at hl 1 rfl) ?_
      refine lv_aload hx hb dX11_thing_105 (lv_at hl 0 rfl) ?_
      refine lv_iload_n hx hb dX11_thing_107 rfl (lv_at hl 3 rfl) ?_
      refine lv_aload_n hx hb dX11_thing_108 rfl (lv_at hl 1 rfl) ?_
      refine lv_aload hx hb dX11_thing_109 (lv_at hl 0 rfl) ?_
      refine lv_iload_n hx hb dX11_thing_111 rfl (lv_at hl 3 rfl) ?_
      have hF_15 := rF hD hS hA
      refine va_calli (va_runV (As := [.ref (a 61), .int p1]) (rest := [.int p1, .ref (a 61), .ref (a 0)]) ⟨hx, hb, hml, hown, hT⟩ (c_X11_fairWear l D cy a i r q tl p1 _ hRi hRr (by first | omega | decide)) (cwV 2 hT (gV t_531 t_532 t_533 t_534 t_2) rfl rfl rfl (by decide +kernel) ⟨Nat.le_of_ble_eq_true rfl, Nat.le_of_ble_eq_true rfl⟩) (rM_v hnw hP hK hD (va_recv hK hP (ci := 11) (q0 := 0) rfl rfl)) rfl rfl hl.1 rfl (lv_room (Nat.le_of_ble_eq_true rfl)) dX11_thing_112 ⟨Nat.le_of_ble_eq_true rfl, Nat.le_of_ble_eq_true rfl⟩) hS (fun q _ h => hF_15 q h) hF_15 (fun r_16 u_17 t H1 locs ht hvm hr_16 hB hz1 hk1 hS => ?_)
      obtain ⟨r17, rfl⟩ : ∃ z, z = u_17 := ⟨_, rfl⟩
      obtain ⟨hP, hK1, hD1⟩ := hB
      rw [ht] at hP
      have hD := hD1.weaken (fun k q _ h => hF_15 q.1 h)
      obtain ⟨hRr, hE2, hr_16⟩ := hr_16
      have hRr : yRr r17 := hRr
      have hE2 : mEr [27, 28] r r17 := hE2
      have hP : va_P D vwCl (xW cy a i r17 q (a 20) (a 12) ++ (hW cy a i r17 ++ tl)) H1 := hP
      have hD : va_D A (xW cy a i r17 q (a 20) (a 12) ++ (hW cy a i r17 ++ tl)) := hD
      have hEr : mEr [27, 28] _ r17 := Er_tr hEr hE2 (by decide)
      refine vp_callSi (W.runV (As := [.ref (a 61), .int p1, .int r_16]) (rest := []) ⟨hx, hb, hml, hown, hT⟩ (c_X11_lost l D cy a i r17 q tl p1 r_16 hRi hRr (by first | omega | decide)) (cwV 3 hT (gV t_535 t_536 t_537 t_538 t_2) rfl rfl rfl (by decide +kernel) ⟨Nat.le_of_ble_eq_true rfl, Nat.le_of_ble_eq_true rfl⟩) (rP_v hP hK (va_recv hK hP (ci := 11) (q0 := 0) rfl rfl)) rfl rfl hl.1 rfl (lv_room (Nat.le_of_ble_eq_true rfl)) dX11_thing_115 ⟨Nat.le_of_ble_eq_true rfl, Nat.le_of_ble_eq_true rfl⟩) (fun r_18 hr_18 => ?_)
      subst hQ
      exact W.iret (v := r_18) hx hb hr (fun t ht hW => ⟨⟨_, r17, rfl, ⟨hRr, hEr, trivial⟩, by rw [ht]; exact hP, va_K.moved hW.alike hK, hD⟩, hS.F ht⟩) hS.2.2 dX11_thing_118
  · skip
    refine lv_if_ne (tgt := 32) hx hb dX11_thing_27 (by decide) (fun c_19 => absurd (by decide) c_19) (fun c_19 => ?_)
    refine lv_iconst (v := (-1)) hx hb dX11_thing_30 (by decide) ?_
    subst hQ
    exact W.iret (v := (-1)) hx hb hr (fun t ht hW => ⟨⟨_, r, rfl, ⟨hRr, hEr, trivial⟩, by rw [ht]; exact hP, va_K.moved hW.alike hK, hD⟩, hS.F ht⟩) hS.2.2 dX11_thing_31
set_option maxHeartbeats 4000000 in
set_option maxRecDepth 100000 in
theorem c_X11_thing.b (l : Launch) (D : va_G) (cy : Nat → ClassId) (a : Nat → Nat) (i : Nat → Int32) (r : Nat → Nat → Int32) (q : Nat → Option Nat) (tl : va_W) (p0 p1 p2 : Int32) (hRi : yRi i) (hRr : yRr r) (hh : ¬ (0 ≤ p0.toInt ∧ p0.toInt < (i 0).toInt)) : Met l yX11_thing (Cond.code yX11_thing cX11_thing 5 (some .int) :: gT) { frames := 3, cells := 0, slots := 0, locals := 67 } (va_Pc [.ref (a 0), .int p0, .int p1, .int p2] (rP D cy (xW cy a i r q (a 20) (a 12) ++ tl))) (vp_Si (fun z => z = (-1))) 0 0 (fun _ => False) := by
  refine Met.ofQ (cc := cX11_thing) (maxL := 5) (ret := (some .int)) (by decide) rfl ?_
  intro p e s m args below meth c s₁ B hml hv Q hQ
  obtain ⟨rfl, hP, hK⟩ := hv
  have hx := B.exec
  have hb := B.bytes
  have hr := B.returns
  have hlocks := B.notSynchronized
  have hT : ∀ w ∈ gT, w.before _ s = true := fun w h => atoms_spec (ws := (Cond.code yX11_thing cX11_thing 5 (some .int) :: gT)) B.pre w (List.mem_cons_of_mem _ h)
  have hown : s.vm.findClass RX11 = some m.cls := findClass_of_methodNamed B.named
  have hl := lv_entry ([.ref (a 0), .int p0, .int p1, .int p2]) (n := 5) (Nat.le_of_ble_eq_true rfl)
  rw [lg_entry_eq]
  generalize (lg_sl ([.ref (a 0), .int p0, .int p1, .int p2]) ++ List.replicate (5 - (lg_sl ([.ref (a 0), .int p0, .int p1, .int p2])).length) Slot.unset).toArray = ls at hl ⊢
  have hl : lv_has ls 5 [(0, .ref (a 0)), (1, .int p0), (2, .int p1), (3, .int p2)] := hl
  have hEi : mEi [] i i := Ei_rf
  have hEr : mEr [] r r := Er_rf
  refine lv_aload_n hx hb dX11_thing_0 rfl (lv_at hl 0 rfl) ?_
  refine lv_iload_n hx hb dX11_thing_1 rfl (lv_at hl 1 rfl) ?_
  refine va_csq (W.runV (As := [.int p0]) (rest := []) ⟨hx, hb, hml, hown, hT⟩ (c_X11_homeAt l D cy a i r q tl p0 hRi hRr) (cwV 1 hT (gV t_443 t_444 t_445 t_446 t_2) rfl rfl rfl (by decide +kernel) ⟨Nat.le_of_ble_eq_true rfl, Nat.le_of_ble_eq_true rfl⟩) (rP_v hP hK (va_recv hK hP (ci := 11) (q0 := 0) rfl rfl)) rfl rfl hl.1 rfl (lv_room (Nat.le_of_ble_eq_true rfl)) dX11_thing_2 ⟨Nat.le_of_ble_eq_true rfl, Nat.le_of_ble_eq_true rfl⟩) (fun r_1 hr_1 => ?_)
  obtain rfl : r_1 = none := hr_1.2 hh
  refine W.eq (g2 := F0 m 5 ls [.null]) rfl ?_
  refine lv_astoreN (lv' := [(4, .null), (0, .ref (a 0)), (1, .int p0), (2, .int p1), (3, .int p2)]) hx hb dX11_thing_5 hl (by decide) rfl (fun ls hl => ?_)
  refine lv_aloadN hx hb dX11_thing_7 (lv_at hl 0 rfl) ?_
  refine lv_ifnullN (tgt := 30) hx hb dX11_thing_9 (by decide) ?_
  refine lv_iconst (v := (-1)) hx hb dX11_thing_30 (by decide) ?_
  subst hQ
  exact W.iret (v := (-1)) hx hb hr (fun t ht hW => ⟨_, rfl, rfl, ht⟩) (fun q hq => absurd hq List.not_mem_nil) dX11_thing_31
set_option maxHeartbeats 4000000 in
set_option maxRecDepth 100000 in
theorem c_X11_reason (l : Launch) (D : va_G) (cy : Nat → ClassId) (a : Nat → Nat) (i : Nat → Int32) (r : Nat → Nat → Int32) (q : Nat → Option Nat) (tl : va_W) (p0 p1 p2 : Int32) (sz : Nat) (hRi : yRi i) (hRr : yRr r) (q0 : 0 ≤ p0.toInt ∧ p0.toInt ≤ 29) : Met l yX11_reason (Cond.code yX11_reason cX11_reason 5 (some .int) :: gT) { frames := 4, cells := 0, slots := 0, locals := 100 } (va_Pc [.ref (a 0), .int p0, .int p1, .int p2] (rM D cy (xW cy a i r q (a 20) (a 12) ++ tl) sz)) (va_Qi (fun (z : Int32) (u : Nat → Nat → Int32) => yRr u ∧ mEr [27] r u ∧ (1 ≤ z.toInt ∧ z.toInt ≤ 8)) (fun (u : Nat → Nat → Int32) t => va_P D vwCl (xW cy a i u q (a 20) (a 12) ++ tl) t.heap ∧ va_K D vwCl (vT cy) t ∧ va_D (va_A (xW cy a i r q (a 20) (a 12) ++ tl) sz) (xW cy a i u q (a 20) (a 12) ++ tl)) (va_A (xW cy a i r q (a 20) (a 12) ++ tl) sz)) 0 0 (va_A (xW cy a i r q (a 20) (a 12) ++ tl) sz) := by
  refine Met.ofQ (cc := cX11_reason) (maxL := 5) (ret := (some .int)) (by decide) rfl ?_
  intro p e s m args below meth c s₁ B hml hv Q hQ
  obtain ⟨rfl, hnw, hsz, hP, hK, hD0⟩ := hv
  have hx := B.exec
  have hb := B.bytes
  have hr := B.returns
  have hlocks := B.notSynchronized
  have hT : ∀ w ∈ gT, w.before _ s = true := fun w h => atoms_spec (ws := (Cond.code yX11_reason cX11_reason 5 (some .int) :: gT)) B.pre w (List.mem_cons_of_mem _ h)
  have hown : s.vm.findClass RX11 = some m.cls := findClass_of_methodNamed B.named
  subst hsz
  have hD := hD0.self (sz := s.heap.size)
  generalize hAe : va_A (xW cy a i r q (a 20) (a 12) ++ tl) s.heap.size = A at hD hQ
  have hA : ∀ q : Nat, s.heap.size ≤ q → A q := fun q h => by rw [← hAe]; exact Or.inr h
  have hS : va_S A s.heap s.heap [] := va_S.rf
  have hl := lv_entry ([.ref (a 0), .int p0, .int p1, .int p2]) (n := 5) (Nat.le_of_ble_eq_true rfl)
  rw [lg_entry_eq]
  generalize (lg_sl ([.ref (a 0), .int p0, .int p1, .int p2]) ++ List.replicate (5 - (lg_sl ([.ref (a 0), .int p0, .int p1, .int p2])).length) Slot.unset).toArray = ls at hl ⊢
  have hl : lv_has ls 5 [(0, .ref (a 0)), (1, .int p0), (2, .int p1), (3, .int p2)] := hl
  have hEi : mEi [] i i := Ei_rf
  have hEr : mEr [27] r r := Er_rf
  refine lv_iload_n hx hb dX11_reason_0 rfl (lv_at hl 3 rfl) ?_
  refine lv_if_ne (tgt := 6) hx hb dX11_reason_1 (by decide) (fun c_1 => ?_) (fun c_1 => ?_)
  · have c_1 : p2.toInt ≠ 0 := b_ne c_1
    refine lv_aload_n hx hb dX11_reason_6 rfl (lv_at hl 0 rfl) ?_
    refine va_get (D := D) (ci := 11) (v := .ref (a 29)) (C := RX11) (T := TX11) (N := 14) hx hb hT iX11 hown hK hP 0 rfl rfl 8 (by decide) (hT _ t_265) (fun _ h9 => h9) rfl dX11_reason_7 ?_
    refine va_get (D := D) (ci := 1) (v := .ref (a 35)) (C := RX1) (T := TX1) (N := 12) hx hb hT iX1 hown hK hP 29 rfl rfl 6 (by decide) (hT _ t_278) (fun _ h9 => h9) rfl dX11_reason_10 ?_
    refine lv_iload_n hx hb dX11_reason_13 rfl (lv_at hl 1 rfl) ?_
    refine va_iald hx hb hK hP 35 0 rfl rfl (vp_inI (by omega) (by omega)) dX11_reason_14 ?_
    refine lv_topi (fun v_2 ev_2 => ?_)
    have hgv_2 : 0 ≤ v_2.toInt ∧ v_2.toInt ≤ 999999 := by rw [ev_2]; exact hRr 35 _
    refine lv_iload_n hx hb dX11_reason_15 rfl (lv_at hl 3 rfl) ?_
    refine lv_icmp_lt (tgt := 21) hx hb dX11_reason_16 (by decide) (fun c_3 => ?_) (fun c_3 => ?_)
    · have c_3 : v_2.toInt < p2.toInt := b_lt c_3
      refine lv_aload_n hx hb dX11_reason_21 rfl (lv_at hl 0 rfl) ?_
      refine va_get (D := D) (ci := 11) (v := .ref (a 29)) (C := RX11) (T := TX11) (N := 14) hx hb hT iX11 hown hK hP 0 rfl rfl 8 (by decide) (hT _ t_265) (fun _ h9 => h9) rfl dX11_reason_22 ?_
      refine lv_iload_n hx hb dX11_reason_25 rfl (lv_at hl 1 rfl) ?_
      refine lv_iload_n hx hb dX11_reason_26 rfl (lv_at hl 2 rfl) ?_
      refine vp_callSi (W.runV (As := [.int p0, .int p1]) (rest := []) ⟨hx, hb, hml, hown, hT⟩ (c_X1_isAnsweredBy l D cy a i r q tl p0 p1 hRi hRr (by first | omega | decide)) (cwV 2 hT (gV t_539 t_540 t_541 t_542 t_356) rfl rfl rfl (by decide +kernel) ⟨Nat.le_of_ble_eq_true rfl, Nat.le_of_ble_eq_true rfl⟩) (rP_v hP hK (va_recv hK hP (ci := 1) (q0 := 29) rfl rfl)) rfl rfl hl.1 rfl (lv_room (Nat.le_of_ble_eq_true rfl)) dX11_reason_27 ⟨Nat.le_of_ble_eq_true rfl, Nat.le_of_ble_eq_true rfl⟩) (fun r_4 hr_4 => ?_)
      rcases hr_4 with rfl | rfl
      · skip
        refine lv_if_ne (tgt := 76) hx hb dX11_reason_30 (by decide) (fun c_5 => absurd (by decide) c_5) (fun c_5 => ?_)
        refine lv_aload_n hx hb dX11_reason_33 rfl (lv_at hl 0 rfl) ?_
        refine va_get (D := D) (ci := 11) (v := .ref (a 20)) (C := RX11) (T := TX11) (N := 14) hx hb hT iX11 hown hK hP 0 rfl rfl 6 (by decide) (hT _ t_516) (fun _ h9 => h9) rfl dX11_reason_34 ?_
        refine lv_bipush (v := 100) hx hb dX11_reason_37 (by decide) ?_
        refine lv_aload_n hx hb dX11_reason_39 rfl (lv_at hl 0 rfl) ?_
        refine va_get (D := D) (ci := 11) (v := .ref (a 28)) (C := RX11) (T := TX11) (N := 14) hx hb hT iX11 hown hK hP 0 rfl rfl 7 (by decide) (hT _ t_500) (fun _ h9 => h9) rfl dX11_reason_40 ?_
        refine lv_sipush (v := 999) hx hb dX11_reason_43 (by decide) ?_
        refine lv_sipush (v := 999) hx hb dX11_reason_46 (by decide) ?_
        have hF_6 := rF hD hS hA
        refine va_calli (va_runV (As := [.int 100, .ref (a 28), .int 999, .int 999]) (rest := []) ⟨hx, hb, hml, hown, hT⟩ (c_X5_amount l D cy a i r q tl 100 999 999 _ hRi hRr) (cwV 4 hT (gV t_517 t_518 t_519 t_520 t_367) rfl rfl rfl (by decide +kernel) ⟨Nat.le_of_ble_eq_true rfl, Nat.le_of_ble_eq_true rfl⟩) (rM_v hnw hP hK hD (va_recv hK hP (ci := 5) (q0 := 20) rfl rfl)) rfl rfl hl.1 rfl (lv_room (Nat.le_of_ble_eq_true rfl)) dX11_reason_49 ⟨Nat.le_of_ble_eq_true rfl, Nat.le_of_ble_eq_true rfl⟩) hS (fun q _ h => hF_6 q h) hF_6 (fun r_7 u_8 t H1 locs ht hvm hr_7 hB hz1 hk1 hS => ?_)
        obtain ⟨r8, rfl⟩ : ∃ z, z = u_8 := ⟨_, rfl⟩
        obtain ⟨hP, hK1, hD1⟩ := hB
        rw [ht] at hP
        have hD := hD1.weaken (fun k q _ h => hF_6 q.1 h)
        obtain ⟨hRr, hE2, hr_7⟩ := hr_7
        have hRr : yRr r8 := hRr
        have hE2 : mEr [27] r r8 := hE2
        have hP : va_P D vwCl (xW cy a i r8 q (a 20) (a 12) ++ tl) H1 := hP
        have hD : va_D A (xW cy a i r8 q (a 20) (a 12) ++ tl) := hD
        have hEr : mEr [27] _ r8 := Er_tr hEr hE2 (by decide)
        refine lv_istore (lv' := [(4, .int r_7), (0, .ref (a 0)), (1, .int p0), (2, .int p1), (3, .int p2)]) hx hb dX11_reason_52 hl (by decide) rfl (fun ls hl => ?_)
        refine lv_iload_n hx hb dX11_reason_54 rfl (lv_at hl 3 rfl) ?_
        refine lv_aload_n hx hb dX11_reason_55 rfl (lv_at hl 1 rfl) ?_
        refine va_get (D := D) (ci := 11) (v := .ref (a 29)) (C := RX11) (T := TX11) (N := 14) hx hb hT iX11 hown hK hP 0 rfl rfl 8 (by decide) (hT _ t_265) (fun _ h9 => h9) rfl dX11_reason_56 ?_
        refine va_get (D := D) (ci := 1) (v := .ref (a 34)) (C := RX1) (T := TX1) (N := 12) hx hb hT iX1 hown hK hP 29 rfl rfl 5 (by decide) (hT _ t_282) (fun _ h9 => h9) rfl dX11_reason_59 ?_
        refine lv_iload_n hx hb dX11_reason_62 rfl (lv_at hl 2 rfl) ?_
        refine va_iald hx hb hK hP 34 0 rfl rfl (vp_inI (by omega) (by omega)) dX11_reason_63 ?_
        refine lv_topi (fun v_9 ev_9 => ?_)
        have hgv_9 : 0 ≤ v_9.toInt ∧ v_9.toInt ≤ 9999 := by rw [ev_9]; exact hRr 34 _
        refine lv_isub hx hb dX11_reason_64 ?_
        refine lv_topi (fun v_10 ev_10 => ?_)
        refine lv_iload hx hb dX11_reason_65 (lv_at hl 0 rfl) ?_
        refine lv_icmp_le (tgt := 74) hx hb dX11_reason_67 (by decide) (fun c_11 => ?_) (fun c_11 => ?_)
        · have c_11 : v_10.toInt ≤ r_7.toInt := b_le c_11
          refine lv_iconst (v := 4) hx hb dX11_reason_74 (by decide) ?_
          subst hQ
          exact W.iret (v := 4) hx hb hr (fun t ht hW => ⟨⟨_, r8, rfl, ⟨hRr, hEr, (by decide)⟩, by rw [ht]; exact hP, va_K.moved hW.alike hK, hD⟩, hS.F ht⟩) hS.2.2 dX11_reason_75
        · have c_11 : r_7.toInt < v_10.toInt := b_nle c_11
          refine lv_iconst (v := 3) hx hb dX11_reason_70 (by decide) ?_
          refine lv_goto (tgt := 75) hx hb dX11_reason_71 (by decide) ?_
          subst hQ
          exact W.iret (v := 3) hx hb hr (fun t ht hW => ⟨⟨_, r8, rfl, ⟨hRr, hEr, (by decide)⟩, by rw [ht]; exact hP, va_K.moved hW.alike hK, hD⟩, hS.F ht⟩) hS.2.2 dX11_reason_75
      · skip
        refine lv_if_ne (tgt := 76) hx hb dX11_reason_30 (by decide) (fun c_12 => ?_) (fun c_12 => absurd c_12 (by decide))
        refine lv_aload_n hx hb dX11_reason_76 rfl (lv_at hl 0 rfl) ?_
        refine va_get (D := D) (ci := 11) (v := .ref (a 20)) (C := RX11) (T := TX11) (N := 14) hx hb hT iX11 hown hK hP 0 rfl rfl 6 (by decide) (hT _ t_516) (fun _ h9 => h9) rfl dX11_reason_77 ?_
        refine lv_bipush (v := 98) hx hb dX11_reason_80 (by decide) ?_
        refine lv_aload_n hx hb dX11_reason_82 rfl (lv_at hl 0 rfl) ?_
        refine va_get (D := D) (ci := 11) (v := .ref (a 28)) (C := RX11) (T := TX11) (N := 14) hx hb hT iX11 hown hK hP 0 rfl rfl 7 (by decide) (hT _ t_500) (fun _ h9 => h9) rfl dX11_reason_83 ?_
        have hF_13 := rF hD hS hA
        refine va_calli (va_runV (As := [.int 98, .ref (a 28)]) (rest := []) ⟨hx, hb, hml, hown, hT⟩ (c_X5_someHolds l D cy a i r q tl 98 _ hRi hRr) (cwV 2 hT (gV t_543 t_544 t_545 t_546 t_367) rfl rfl rfl (by decide +kernel) ⟨Nat.le_of_ble_eq_true rfl, Nat.le_of_ble_eq_true rfl⟩) (rM_v hnw hP hK hD (va_recv hK hP (ci := 5) (q0 := 20) rfl rfl)) rfl rfl hl.1 rfl (lv_room (Nat.le_of_ble_eq_true rfl)) dX11_reason_86 ⟨Nat.le_of_ble_eq_true rfl, Nat.le_of_ble_eq_true rfl⟩) hS (fun q _ h => hF_13 q h) hF_13 (fun r_14 u_15 t H1 locs ht hvm hr_14 hB hz1 hk1 hS => ?_)
        obtain ⟨r15, rfl⟩ : ∃ z, z = u_15 := ⟨_, rfl⟩
        obtain ⟨hP, hK1, hD1⟩ := hB
        rw [ht] at hP
        have hD := hD1.weaken (fun k q _ h => hF_13 q.1 h)
        obtain ⟨hRr, hE2, hr_14⟩ := hr_14
        have hRr : yRr r15 := hRr
        have hE2 : mEr [27] r r15 := hE2
        have hP : va_P D vwCl (xW cy a i r15 q (a 20) (a 12) ++ tl) H1 := hP
        have hD : va_D A (xW cy a i r15 q (a 20) (a 12) ++ tl) := hD
        have hEr : mEr [27] _ r15 := Er_tr hEr hE2 (by decide)
        rcases hr_14 with rfl | rfl
        · skip
          refine lv_if_eq (tgt := 111) hx hb dX11_reason_89 (by decide) (fun c_16 => ?_) (fun c_16 => absurd (by decide) c_16)
          refine lv_aload_n hx hb dX11_reason_111 rfl (lv_at hl 0 rfl) ?_
          refine va_get (D := D) (ci := 11) (v := .ref (a 29)) (C := RX11) (T := TX11) (N := 14) hx hb hT iX11 hown hK hP 0 rfl rfl 8 (by decide) (hT _ t_265) (fun _ h9 => h9) rfl dX11_reason_112 ?_
          refine va_get (D := D) (ci := 1) (v := .ref (a 33)) (C := RX1) (T := TX1) (N := 12) hx hb hT iX1 hown hK hP 29 rfl rfl 4 (by decide) (hT _ t_547) (fun _ h9 => h9) rfl dX11_reason_115 ?_
          refine lv_iload_n hx hb dX11_reason_118 rfl (lv_at hl 1 rfl) ?_
          refine va_iald hx hb hK hP 33 0 rfl rfl (vp_inI (by omega) (by omega)) dX11_reason_119 ?_
          refine lv_topi (fun v_17 ev_17 => ?_)
          have hgv_17 : 0 ≤ v_17.toInt ∧ v_17.toInt ≤ 7 := by rw [ev_17]; exact hRr 33 _
          refine lv_istore (lv' := [(4, .int v_17), (0, .ref (a 0)), (1, .int p0), (2, .int p1), (3, .int p2)]) hx hb dX11_reason_120 hl (by decide) rfl (fun ls hl => ?_)
          refine lv_iload hx hb dX11_reason_122 (lv_at hl 0 rfl) ?_
          refine lv_iconst (v := 1) hx hb dX11_reason_124 (by decide) ?_
          refine lv_iand hx hb dX11_reason_125 ?_
          refine lv_topi (fun v_18 ev_18 => ?_)
          have hmv_18 : 0 ≤ v_18.toInt ∧ v_18.toInt ≤ 1 := by rw [ev_18]; exact b_andm v_17 1 (by decide) (by decide)
          refine lv_if_eq (tgt := 142) hx hb dX11_reason_126 (by decide) (fun c_19 => ?_) (fun c_19 => ?_)
          · have c_19 : v_18.toInt = 0 := b_eq c_19
            refine lv_bipush (v := 8) hx hb dX11_reason_142 (by decide) ?_
            subst hQ
            exact W.iret (v := 8) hx hb hr (fun t ht hW => ⟨⟨_, r15, rfl, ⟨hRr, hEr, (by decide)⟩, by rw [ht]; exact hP, va_K.moved hW.alike hK, hD⟩, hS.F ht⟩) hS.2.2 dX11_reason_144
          · have c_19 : v_18.toInt ≠ 0 := b_ne c_19
            refine lv_iload hx hb dX11_reason_129 (lv_at hl 0 rfl) ?_
            refine lv_bipush (v := 6) hx hb dX11_reason_131 (by decide) ?_
            refine lv_iand hx hb dX11_reason_133 ?_
            refine lv_topi (fun v_20 ev_20 => ?_)
            refine lv_if_eq (tgt := 142) hx hb dX11_reason_134 (by decide) (fun c_21 => ?_) (fun c_21 => ?_)
            · have c_21 : v_20.toInt = 0 := b_eq c_21
              refine lv_bipush (v := 8) hx hb dX11_reason_142 (by decide) ?_
              subst hQ
              exact W.iret (v := 8) hx hb hr (fun t ht hW => ⟨⟨_, r15, rfl, ⟨hRr, hEr, (by decide)⟩, by rw [ht]; exact hP, va_K.moved hW.alike hK, hD⟩, hS.F ht⟩) hS.2.2 dX11_reason_144
            · have c_21 : v_20.toInt ≠ 0 := b_ne c_21
              refine lv_bipush (v := 7) hx hb dX11_reason_137 (by decide) ?_
              refine lv_goto (tgt := 144) hx hb dX11_reason_139 (by decide) ?_
              subst hQ
              exact W.iret (v := 7) hx hb hr (fun t ht hW => ⟨⟨_, r15, rfl, ⟨hRr, hEr, (by decide)⟩, by rw [ht]; exact hP, va_K.moved hW.alike hK, hD⟩, hS.F ht⟩) hS.2.2 dX11_reason_144
        · skip
          refine lv_if_eq (tgt := 111) hx hb dX11_reason_89 (by decide) (fun c_22 => absurd c_22 (by decide)) (fun c_22 => ?_)
          refine lv_aload_n hx hb dX11_reason_92 rfl (lv_at hl 0 rfl) ?_
          refine va_get (D := D) (ci := 11) (v := .ref (a 29)) (C := RX11) (T := TX11) (N := 14) hx hb hT iX11 hown hK hP 0 rfl rfl 8 (by decide) (hT _ t_265) (fun _ h9 => h9) rfl dX11_reason_93 ?_
          refine va_get (D := D) (ci := 1) (v := .ref (a 37)) (C := RX1) (T := TX1) (N := 12) hx hb hT iX1 hown hK hP 29 rfl rfl 8 (by decide) (hT _ t_284) (fun _ h9 => h9) rfl dX11_reason_96 ?_
          refine lv_iload_n hx hb dX11_reason_99 rfl (lv_at hl 1 rfl) ?_
          refine va_zald hx hb hK hP 37 2 rfl rfl (vp_inI (by omega) (by omega)) dX11_reason_100 ?_
          refine lv_topi (fun v_23 ev_23 => ?_)
          refine lv_if_eq (tgt := 109) hx hb dX11_reason_101 (by decide) (fun c_24 => ?_) (fun c_24 => ?_)
          · have c_24 : v_23.toInt = 0 := b_eq c_24
            refine lv_iconst (v := 5) hx hb dX11_reason_109 (by decide) ?_
            subst hQ
            exact W.iret (v := 5) hx hb hr (fun t ht hW => ⟨⟨_, r15, rfl, ⟨hRr, hEr, (by decide)⟩, by rw [ht]; exact hP, va_K.moved hW.alike hK, hD⟩, hS.F ht⟩) hS.2.2 dX11_reason_110
          · have c_24 : v_23.toInt ≠ 0 := b_ne c_24
            refine lv_bipush (v := 6) hx hb dX11_reason_104 (by decide) ?_
            refine lv_goto (tgt := 110) hx hb dX11_reason_106 (by decide) ?_
            subst hQ
            exact W.iret (v := 6) hx hb hr (fun t ht hW => ⟨⟨_, r15, rfl, ⟨hRr, hEr, (by decide)⟩, by rw [ht]; exact hP, va_K.moved hW.alike hK, hD⟩, hS.F ht⟩) hS.2.2 dX11_reason_110
    · have c_3 : p2.toInt ≤ v_2.toInt := b_nlt c_3
      refine lv_iconst (v := 2) hx hb dX11_reason_19 (by decide) ?_
      subst hQ
      exact W.iret (v := 2) hx hb hr (fun t ht hW => ⟨⟨_, r, rfl, ⟨hRr, hEr, (by decide)⟩, by rw [ht]; exact hP, va_K.moved hW.alike hK, hD⟩, hS.F ht⟩) hS.2.2 dX11_reason_20
  · have c_1 : p2.toInt = 0 := b_nne c_1
    refine lv_iconst (v := 1) hx hb dX11_reason_4 (by decide) ?_
    subst hQ
    exact W.iret (v := 1) hx hb hr (fun t ht hW => ⟨⟨_, r, rfl, ⟨hRr, hEr, (by decide)⟩, by rw [ht]; exact hP, va_K.moved hW.alike hK, hD⟩, hS.F ht⟩) hS.2.2 dX11_reason_5
set_option maxHeartbeats 4000000 in
set_option maxRecDepth 100000 in
theorem c_X11_awarded (l : Launch) (D : va_G) (cy : Nat → ClassId) (a : Nat → Nat) (i : Nat → Int32) (r : Nat → Nat → Int32) (q : Nat → Option Nat) (tl : va_W) (p0 p1 p2 : Int32) (sz : Nat) (hRi : yRi i) (hRr : yRr r) (q0 : 0 ≤ p0.toInt ∧ p0.toInt ≤ 29) (q1 : 1 ≤ p1.toInt ∧ p1.toInt ≤ 8) : Met l yX11_awarded (Cond.code yX11_awarded cX11_awarded 5 (some .int) :: gT) { frames := 4, cells := 0, slots := 0, locals := 100 } (va_Pc [.ref (a 0), .int p0, .int p1, .int p2] (rM D cy (xW cy a i r q (a 20) (a 12) ++ tl) sz)) (va_Qi (fun (z : Int32) (u : Nat → Nat → Int32) => yRr u ∧ mEr [27] r u ∧ True) (fun (u : Nat → Nat → Int32) t => va_P D vwCl (xW cy a i u q (a 20) (a 12) ++ tl) t.heap ∧ va_K D vwCl (vT cy) t ∧ va_D (va_A (xW cy a i r q (a 20) (a 12) ++ tl) sz) (xW cy a i u q (a 20) (a 12) ++ tl)) (va_A (xW cy a i r q (a 20) (a 12) ++ tl) sz)) 0 0 (va_A (xW cy a i r q (a 20) (a 12) ++ tl) sz) := by
  refine Met.ofQ (cc := cX11_awarded) (maxL := 5) (ret := (some .int)) (by decide) rfl ?_
  intro p e s m args below meth c s₁ B hml hv Q hQ
  obtain ⟨rfl, hnw, hsz, hP, hK, hD0⟩ := hv
  have hx := B.exec
  have hb := B.bytes
  have hr := B.returns
  have hlocks := B.notSynchronized
  have hT : ∀ w ∈ gT, w.before _ s = true := fun w h => atoms_spec (ws := (Cond.code yX11_awarded cX11_awarded 5 (some .int) :: gT)) B.pre w (List.mem_cons_of_mem _ h)
  have hown : s.vm.findClass RX11 = some m.cls := findClass_of_methodNamed B.named
  subst hsz
  have hD := hD0.self (sz := s.heap.size)
  generalize hAe : va_A (xW cy a i r q (a 20) (a 12) ++ tl) s.heap.size = A at hD hQ
  have hA : ∀ q : Nat, s.heap.size ≤ q → A q := fun q h => by rw [← hAe]; exact Or.inr h
  have hS : va_S A s.heap s.heap [] := va_S.rf
  have hl := lv_entry ([.ref (a 0), .int p0, .int p1, .int p2]) (n := 5) (Nat.le_of_ble_eq_true rfl)
  rw [lg_entry_eq]
  generalize (lg_sl ([.ref (a 0), .int p0, .int p1, .int p2]) ++ List.replicate (5 - (lg_sl ([.ref (a 0), .int p0, .int p1, .int p2])).length) Slot.unset).toArray = ls at hl ⊢
  have hl : lv_has ls 5 [(0, .ref (a 0)), (1, .int p0), (2, .int p1), (3, .int p2)] := hl
  have hEi : mEi [] i i := Ei_rf
  have hEr : mEr [27] r r := Er_rf
  refine lv_aload_n hx hb dX11_awarded_0 rfl (lv_at hl 0 rfl) ?_
  refine va_get (D := D) (ci := 11) (v := .ref (a 29)) (C := RX11) (T := TX11) (N := 14) hx hb hT iX11 hown hK hP 0 rfl rfl 8 (by decide) (hT _ t_265) (fun _ h9 => h9) rfl dX11_awarded_1 ?_
  refine va_get (D := D) (ci := 1) (v := .ref (a 35)) (C := RX1) (T := TX1) (N := 12) hx hb hT iX1 hown hK hP 29 rfl rfl 6 (by decide) (hT _ t_278) (fun _ h9 => h9) rfl dX11_awarded_4 ?_
  refine lv_iload_n hx hb dX11_awarded_7 rfl (lv_at hl 1 rfl) ?_
  refine va_iald hx hb hK hP 35 0 rfl rfl (vp_inI (by omega) (by omega)) dX11_awarded_8 ?_
  refine lv_topi (fun v_1 ev_1 => ?_)
  have hgv_1 : 0 ≤ v_1.toInt ∧ v_1.toInt ≤ 999999 := by rw [ev_1]; exact hRr 35 _
  refine lv_istore (lv' := [(4, .int v_1), (0, .ref (a 0)), (1, .int p0), (2, .int p1), (3, .int p2)]) hx hb dX11_awarded_9 hl (by decide) rfl (fun ls hl => ?_)
  refine lv_iload_n hx hb dX11_awarded_11 rfl (lv_at hl 3 rfl) ?_
  rcases (show (p1.toInt < 1 ∨ 7 < p1.toInt) ∨ p1.toInt = 1 ∨ p1.toInt = 2 ∨ p1.toInt = 3 ∨ p1.toInt = 4 ∨ p1.toInt = 5 ∨ p1.toInt = 6 ∨ p1.toInt = 7 by omega) with h_2 | h_2 | h_2 | h_2 | h_2 | h_2 | h_2 | h_2
  · refine lv_tableOut (tgt := 88) hx hb dX11_awarded_12 h_2 (by decide) ?_
    refine lv_iload hx hb dX11_awarded_88 (lv_at hl 0 rfl) ?_
    subst hQ
    exact W.iret (v := v_1) hx hb hr (fun t ht hW => ⟨⟨_, r, rfl, ⟨hRr, hEr, trivial⟩, by rw [ht]; exact hP, va_K.moved hW.alike hK, hD⟩, hS.F ht⟩) hS.2.2 dX11_awarded_90
  · refine lv_tableIn (off := 44) (tgt := 56) hx hb dX11_awarded_12 (by omega) (by omega) (by rw [h_2]; rfl) (by decide) ?_
    refine lv_iconst (v := 0) hx hb dX11_awarded_56 (by decide) ?_
    subst hQ
    exact W.iret (v := 0) hx hb hr (fun t ht hW => ⟨⟨_, r, rfl, ⟨hRr, hEr, trivial⟩, by rw [ht]; exact hP, va_K.moved hW.alike hK, hD⟩, hS.F ht⟩) hS.2.2 dX11_awarded_57
  · refine lv_tableIn (off := 46) (tgt := 58) hx hb dX11_awarded_12 (by omega) (by omega) (by rw [h_2]; rfl) (by decide) ?_
    refine lv_iload_n hx hb dX11_awarded_58 rfl (lv_at hl 4 rfl) ?_
    subst hQ
    exact W.iret (v := p2) hx hb hr (fun t ht hW => ⟨⟨_, r, rfl, ⟨hRr, hEr, trivial⟩, by rw [ht]; exact hP, va_K.moved hW.alike hK, hD⟩, hS.F ht⟩) hS.2.2 dX11_awarded_59
  · refine lv_tableIn (off := 46) (tgt := 58) hx hb dX11_awarded_12 (by omega) (by omega) (by rw [h_2]; rfl) (by decide) ?_
    refine lv_iload_n hx hb dX11_awarded_58 rfl (lv_at hl 4 rfl) ?_
    subst hQ
    exact W.iret (v := p2) hx hb hr (fun t ht hW => ⟨⟨_, r, rfl, ⟨hRr, hEr, trivial⟩, by rw [ht]; exact hP, va_K.moved hW.alike hK, hD⟩, hS.F ht⟩) hS.2.2 dX11_awarded_59
  · refine lv_tableIn (off := 76) (tgt := 88) hx hb dX11_awarded_12 (by omega) (by omega) (by rw [h_2]; rfl) (by decide) ?_
    refine lv_iload hx hb dX11_awarded_88 (lv_at hl 0 rfl) ?_
    subst hQ
    exact W.iret (v := v_1) hx hb hr (fun t ht hW => ⟨⟨_, r, rfl, ⟨hRr, hEr, trivial⟩, by rw [ht]; exact hP, va_K.moved hW.alike hK, hD⟩, hS.F ht⟩) hS.2.2 dX11_awarded_90
  · refine lv_tableIn (off := 48) (tgt := 60) hx hb dX11_awarded_12 (by omega) (by omega) (by rw [h_2]; rfl) (by decide) ?_
    refine lv_iload hx hb dX11_awarded_60 (lv_at hl 0 rfl) ?_
    refine lv_iload_n hx hb dX11_awarded_62 rfl (lv_at hl 4 rfl) ?_
    refine lv_aload_n hx hb dX11_awarded_63 rfl (lv_at hl 1 rfl) ?_
    refine va_get (D := D) (ci := 11) (v := .ref (a 20)) (C := RX11) (T := TX11) (N := 14) hx hb hT iX11 hown hK hP 0 rfl rfl 6 (by decide) (hT _ t_516) (fun _ h9 => h9) rfl dX11_awarded_64 ?_
    refine lv_bipush (v := 112) hx hb dX11_awarded_67 (by decide) ?_
    refine lv_aload_n hx hb dX11_awarded_69 rfl (lv_at hl 1 rfl) ?_
    refine va_get (D := D) (ci := 11) (v := .ref (a 28)) (C := RX11) (T := TX11) (N := 14) hx hb hT iX11 hown hK hP 0 rfl rfl 7 (by decide) (hT _ t_500) (fun _ h9 => h9) rfl dX11_awarded_70 ?_
    refine lv_bipush (v := 100) hx hb dX11_awarded_73 (by decide) ?_
    refine lv_bipush (v := 100) hx hb dX11_awarded_75 (by decide) ?_
    have hF_3 := rF hD hS hA
    refine va_calli (va_runV (As := [.int 112, .ref (a 28), .int 100, .int 100]) (rest := [.int p2, .int v_1]) ⟨hx, hb, hml, hown, hT⟩ (c_X5_amount l D cy a i r q tl 112 100 100 _ hRi hRr) (cwV 4 hT (gV t_517 t_518 t_519 t_520 t_367) rfl rfl rfl (by decide +kernel) ⟨Nat.le_of_ble_eq_true rfl, Nat.le_of_ble_eq_true rfl⟩) (rM_v hnw hP hK hD (va_recv hK hP (ci := 5) (q0 := 20) rfl rfl)) rfl rfl hl.1 rfl (lv_room (Nat.le_of_ble_eq_true rfl)) dX11_awarded_77 ⟨Nat.le_of_ble_eq_true rfl, Nat.le_of_ble_eq_true rfl⟩) hS (fun q _ h => hF_3 q h) hF_3 (fun r_4 u_5 t H1 locs ht hvm hr_4 hB hz1 hk1 hS => ?_)
    obtain ⟨r5, rfl⟩ : ∃ z, z = u_5 := ⟨_, rfl⟩
    obtain ⟨hP, hK1, hD1⟩ := hB
    rw [ht] at hP
    have hD := hD1.weaken (fun k q _ h => hF_3 q.1 h)
    obtain ⟨hRr, hE2, hr_4⟩ := hr_4
    have hRr : yRr r5 := hRr
    have hE2 : mEr [27] r r5 := hE2
    have hP : va_P D vwCl (xW cy a i r5 q (a 20) (a 12) ++ tl) H1 := hP
    have hD : va_D A (xW cy a i r5 q (a 20) (a 12) ++ tl) := hD
    have hEr : mEr [27] _ r5 := Er_tr hEr hE2 (by decide)
    refine lv_imul hx hb dX11_awarded_80 ?_
    refine lv_topi (fun v_6 ev_6 => ?_)
    refine lv_bipush (v := 100) hx hb dX11_awarded_81 (by decide) ?_
    refine lv_idiv hx hb dX11_awarded_83 (by decide) ?_
    refine lv_topi (fun v_7 ev_7 => ?_)
    refine va_mmax hx hb (by rw [hml]; exact hl.1.symm) hown (hT _ t_521) (hT _ t_307) (hT _ t_289) (hT _ t_308) (Nat.le_of_ble_eq_true rfl) (Nat.le_of_ble_eq_true rfl) (Nat.le_of_ble_eq_true rfl) (Nat.le_of_ble_eq_true rfl) dX11_awarded_84 ?_
    refine lv_topi (fun v_8 ev_8 => ?_)
    subst hQ
    exact W.iret (v := v_8) hx hb hr (fun t ht hW => ⟨⟨_, r5, rfl, ⟨hRr, hEr, trivial⟩, by rw [ht]; exact hP, va_K.moved hW.alike hK, hD⟩, hS.F ht⟩) hS.2.2 dX11_awarded_87
  · refine lv_tableIn (off := 76) (tgt := 88) hx hb dX11_awarded_12 (by omega) (by omega) (by rw [h_2]; rfl) (by decide) ?_
    refine lv_iload hx hb dX11_awarded_88 (lv_at hl 0 rfl) ?_
    subst hQ
    exact W.iret (v := v_1) hx hb hr (fun t ht hW => ⟨⟨_, r, rfl, ⟨hRr, hEr, trivial⟩, by rw [ht]; exact hP, va_K.moved hW.alike hK, hD⟩, hS.F ht⟩) hS.2.2 dX11_awarded_90
  · refine lv_tableIn (off := 48) (tgt := 60) hx hb dX11_awarded_12 (by omega) (by omega) (by rw [h_2]; rfl) (by decide) ?_
    refine lv_iload hx hb dX11_awarded_60 (lv_at hl 0 rfl) ?_
    refine lv_iload_n hx hb dX11_awarded_62 rfl (lv_at hl 4 rfl) ?_
    refine lv_aload_n hx hb dX11_awarded_63 rfl (lv_at hl 1 rfl) ?_
    refine va_get (D := D) (ci := 11) (v := .ref (a 20)) (C := RX11) (T := TX11) (N := 14) hx hb hT iX11 hown hK hP 0 rfl rfl 6 (by decide) (hT _ t_516) (fun _ h9 => h9) rfl dX11_awarded_64 ?_
    refine lv_bipush (v := 112) hx hb dX11_awarded_67 (by decide) ?_
    refine lv_aload_n hx hb dX11_awarded_69 rfl (lv_at hl 1 rfl) ?_
    refine va_get (D := D) (ci := 11) (v := .ref (a 28)) (C := RX11) (T := TX11) (N := 14) hx hb hT iX11 hown hK hP 0 rfl rfl 7 (by decide) (hT _ t_500) (fun _ h9 => h9) rfl dX11_awarded_70 ?_
    refine lv_bipush (v := 100) hx hb dX11_awarded_73 (by decide) ?_
    refine lv_bipush (v := 100) hx hb dX11_awarded_75 (by decide) ?_
    have hF_9 := rF hD hS hA
    refine va_calli (va_runV (As := [.int 112, .ref (a 28), .int 100, .int 100]) (rest := [.int p2, .int v_1]) ⟨hx, hb, hml, hown, hT⟩ (c_X5_amount l D cy a i r q tl 112 100 100 _ hRi hRr) (cwV 4 hT (gV t_517 t_518 t_519 t_520 t_367) rfl rfl rfl (by decide +kernel) ⟨Nat.le_of_ble_eq_true rfl, Nat.le_of_ble_eq_true rfl⟩) (rM_v hnw hP hK hD (va_recv hK hP (ci := 5) (q0 := 20) rfl rfl)) rfl rfl hl.1 rfl (lv_room (Nat.le_of_ble_eq_true rfl)) dX11_awarded_77 ⟨Nat.le_of_ble_eq_true rfl, Nat.le_of_ble_eq_true rfl⟩) hS (fun q _ h => hF_9 q h) hF_9 (fun r_10 u_11 t H1 locs ht hvm hr_10 hB hz1 hk1 hS => ?_)
    obtain ⟨r11, rfl⟩ : ∃ z, z = u_11 := ⟨_, rfl⟩
    obtain ⟨hP, hK1, hD1⟩ := hB
    rw [ht] at hP
    have hD := hD1.weaken (fun k q _ h => hF_9 q.1 h)
    obtain ⟨hRr, hE2, hr_10⟩ := hr_10
    have hRr : yRr r11 := hRr
    have hE2 : mEr [27] r r11 := hE2
    have hP : va_P D vwCl (xW cy a i r11 q (a 20) (a 12) ++ tl) H1 := hP
    have hD : va_D A (xW cy a i r11 q (a 20) (a 12) ++ tl) := hD
    have hEr : mEr [27] _ r11 := Er_tr hEr hE2 (by decide)
    refine lv_imul hx hb dX11_awarded_80 ?_
    refine lv_topi (fun v_12 ev_12 => ?_)
    refine lv_bipush (v := 100) hx hb dX11_awarded_81 (by decide) ?_
    refine lv_idiv hx hb dX11_awarded_83 (by decide) ?_
    refine lv_topi (fun v_13 ev_13 => ?_)
    refine va_mmax hx hb (by rw [hml]; exact hl.1.symm) hown (hT _ t_521) (hT _ t_307) (hT _ t_289) (hT _ t_308) (Nat.le_of_ble_eq_true rfl) (Nat.le_of_ble_eq_true rfl) (Nat.le_of_ble_eq_true rfl) (Nat.le_of_ble_eq_true rfl) dX11_awarded_84 ?_
    refine lv_topi (fun v_14 ev_14 => ?_)
    subst hQ
    exact W.iret (v := v_14) hx hb hr (fun t ht hW => ⟨⟨_, r11, rfl, ⟨hRr, hEr, trivial⟩, by rw [ht]; exact hP, va_K.moved hW.alike hK, hD⟩, hS.F ht⟩) hS.2.2 dX11_awarded_87
set_option maxHeartbeats 4000000 in
set_option maxRecDepth 100000 in
theorem c_X11_award (l : Launch) (D : va_G) (cy : Nat → ClassId) (a : Nat → Nat) (i : Nat → Int32) (r : Nat → Nat → Int32) (q : Nat → Option Nat) (tl : va_W) (p0 p1 p2 : Int32) (sz : Nat) (hRi : yRi i) (hRr : yRr r) (hc : 0 ≤ p0.toInt ∧ p0.toInt < (i 10).toInt) (hh : (r 30 p0.toNatClampNeg).toInt < (i 0).toInt) (hq : q (r 30 p0.toNatClampNeg).toNatClampNeg = some (a 61)) : Met l yX11_award (Cond.code yX11_award cX11_award 8 (some .int) :: gT) { frames := 5, cells := 0, slots := 0, locals := 124 } (va_Pc [.ref (a 0), .int p0, .int p1, .int p2] (rM D cy (xW cy a i r q (a 20) (a 12) ++ (hW cy a i r ++ tl)) sz)) (va_Qi (fun (z : Int32) (u : Nat → Nat → Int32) => yRr u ∧ mEr [27, 28] r u ∧ True) (fun (u : Nat → Nat → Int32) t => va_P D vwCl (xW cy a i u q (a 20) (a 12) ++ (hW cy a i u ++ tl)) t.heap ∧ va_K D vwCl (vT cy) t ∧ va_D (va_A (xW cy a i r q (a 20) (a 12) ++ (hW cy a i r ++ tl)) sz) (xW cy a i u q (a 20) (a 12) ++ (hW cy a i u ++ tl))) (va_A (xW cy a i r q (a 20) (a 12) ++ (hW cy a i r ++ tl)) sz)) 0 0 (va_A (xW cy a i r q (a 20) (a 12) ++ (hW cy a i r ++ tl)) sz) := by
  refine Met.ofQ (cc := cX11_award) (maxL := 8) (ret := (some .int)) (by decide) rfl ?_
  intro p e s m args below meth c s₁ B hml hv Q hQ
  obtain ⟨rfl, hnw, hsz, hP, hK, hD0⟩ := hv
  have hx := B.exec
  have hb := B.bytes
  have hr := B.returns
  have hlocks := B.notSynchronized
  have hT : ∀ w ∈ gT, w.before _ s = true := fun w h => atoms_spec (ws := (Cond.code yX11_award cX11_award 8 (some .int) :: gT)) B.pre w (List.mem_cons_of_mem _ h)
  have hown : s.vm.findClass RX11 = some m.cls := findClass_of_methodNamed B.named
  subst hsz
  have hD := hD0.self (sz := s.heap.size)
  generalize hAe : va_A (xW cy a i r q (a 20) (a 12) ++ (hW cy a i r ++ tl)) s.heap.size = A at hD hQ
  have hA : ∀ q : Nat, s.heap.size ≤ q → A q := fun q h => by rw [← hAe]; exact Or.inr h
  have hS : va_S A s.heap s.heap [] := va_S.rf
  have hl := lv_entry ([.ref (a 0), .int p0, .int p1, .int p2]) (n := 8) (Nat.le_of_ble_eq_true rfl)
  rw [lg_entry_eq]
  generalize (lg_sl ([.ref (a 0), .int p0, .int p1, .int p2]) ++ List.replicate (8 - (lg_sl ([.ref (a 0), .int p0, .int p1, .int p2])).length) Slot.unset).toArray = ls at hl ⊢
  have hl : lv_has ls 8 [(0, .ref (a 0)), (1, .int p0), (2, .int p1), (3, .int p2)] := hl
  have hEi : mEi [] i i := Ei_rf
  have hEr : mEr [27, 28] r r := Er_rf
  have hg0 : 0 ≤ (i 0).toInt ∧ (i 0).toInt ≤ 6 := hRi 0
  have hg10 : 0 ≤ (i 10).toInt ∧ (i 10).toInt ≤ 30 := hRi 10
  refine lv_aload_n hx hb dX11_award_0 rfl (lv_at hl 0 rfl) ?_
  refine lv_iload_n hx hb dX11_award_1 rfl (lv_at hl 1 rfl) ?_
  refine vp_callSi (W.runV (As := [.int p0]) (rest := []) ⟨hx, hb, hml, hown, hT⟩ (c_X11_isClaim l D cy a i r q (hW cy a i r ++ tl) p0 hRi hRr) (cwV 1 hT (gV t_273 t_274 t_275 t_276 t_2) rfl rfl rfl (by decide +kernel) ⟨Nat.le_of_ble_eq_true rfl, Nat.le_of_ble_eq_true rfl⟩) (rP_v hP hK (va_recv hK hP (ci := 11) (q0 := 0) rfl rfl)) rfl rfl hl.1 rfl (lv_room (Nat.le_of_ble_eq_true rfl)) dX11_award_2 ⟨Nat.le_of_ble_eq_true rfl, Nat.le_of_ble_eq_true rfl⟩) (fun r_1 hr_1 => ?_)
  have hg_2 : 0 ≤ (i 10).toInt ∧ (i 10).toInt ≤ 30 := hRi 10
  have hr_1 : BR r_1 (0 ≤ p0.toInt ∧ p0.toInt < (i 10).toInt) 1 0 := hr_1
  rcases hr_1 with ⟨rfl, h_3⟩ | ⟨rfl, h_3⟩
  · skip
    refine lv_if_eq (tgt := 24) hx hb dX11_award_5 (by decide) (fun c_4 => absurd c_4 (by decide)) (fun c_4 => ?_)
    refine lv_aload_n hx hb dX11_award_8 rfl (lv_at hl 0 rfl) ?_
    refine lv_aload_n hx hb dX11_award_9 rfl (lv_at hl 0 rfl) ?_
    refine va_get (D := D) (ci := 11) (v := .ref (a 29)) (C := RX11) (T := TX11) (N := 14) hx hb hT iX11 hown hK hP 0 rfl rfl 8 (by decide) (hT _ t_265) (fun _ h9 => h9) rfl dX11_award_10 ?_
    refine va_get (D := D) (ci := 1) (v := .ref (a 30)) (C := RX1) (T := TX1) (N := 12) hx hb hT iX1 hown hK hP 29 rfl rfl 1 (by decide) (hT _ t_548) (fun _ h9 => h9) rfl dX11_award_13 ?_
    refine lv_iload_n hx hb dX11_award_16 rfl (lv_at hl 1 rfl) ?_
    refine va_iald hx hb hK hP 30 0 rfl rfl (vp_inI (by omega) (by omega)) dX11_award_17 ?_
    refine lv_topi (fun v_5 ev_5 => ?_)
    have hgv_5 : 0 ≤ v_5.toInt ∧ v_5.toInt ≤ 5 := by rw [ev_5]; exact hRr 30 _
    refine va_csq (W.runV (As := [.int v_5]) (rest := []) ⟨hx, hb, hml, hown, hT⟩ (c_X11_homeAt l D cy a i r q (hW cy a i r ++ tl) v_5 hRi hRr) (cwV 1 hT (gV t_443 t_444 t_445 t_446 t_2) rfl rfl rfl (by decide +kernel) ⟨Nat.le_of_ble_eq_true rfl, Nat.le_of_ble_eq_true rfl⟩) (rP_v hP hK (va_recv hK hP (ci := 11) (q0 := 0) rfl rfl)) rfl rfl hl.1 rfl (lv_room (Nat.le_of_ble_eq_true rfl)) dX11_award_18 ⟨Nat.le_of_ble_eq_true rfl, Nat.le_of_ble_eq_true rfl⟩) (fun r_6 hr_6 => ?_)
    obtain rfl : r_6 = some (a 61) := (hr_6.1 (by rw [ev_5]; exact ⟨(hRr 30 _).1, hh⟩)).trans (by rw [ev_5]; exact hq)
    refine W.eq (g2 := F0 m 21 ls [.ref (a 61)]) rfl ?_
    refine lv_goto (tgt := 25) hx hb dX11_award_21 (by decide) ?_
    refine lv_astore (lv' := [(4, .ref (a 61)), (0, .ref (a 0)), (1, .int p0), (2, .int p1), (3, .int p2)]) hx hb dX11_award_25 hl (by decide) rfl (fun ls hl => ?_)
    refine lv_aload hx hb dX11_award_27 (lv_at hl 0 rfl) ?_
    refine lv_ifnull hx hb dX11_award_29 ?_
    refine lv_iload_n hx hb dX11_award_32 rfl (lv_at hl 3 rfl) ?_
    refine vp_callSi (W.runS (As := [.int p1]) (rest := []) ⟨hx, hb, hml, hown, hT⟩ (c_X11_isDay l p1) (va_cwS 1 hT (gS t_279 t_280 t_281 t_2) rfl rfl rfl (by decide +kernel) ⟨Nat.le_of_ble_eq_true rfl, Nat.le_of_ble_eq_true rfl⟩) preT rfl rfl hl.1 rfl (lv_room (Nat.le_of_ble_eq_true rfl)) dX11_award_33 ⟨Nat.le_of_ble_eq_true rfl, Nat.le_of_ble_eq_true rfl⟩) (fun r_7 hr_7 => ?_)
    have hr_7 : BR r_7 (0 ≤ p1.toInt ∧ p1.toInt ≤ 9999) 1 0 := hr_7
    rcases hr_7 with ⟨rfl, h_8⟩ | ⟨rfl, h_8⟩
    · skip
      refine lv_if_eq (tgt := 48) hx hb dX11_award_36 (by decide) (fun c_9 => absurd c_9 (by decide)) (fun c_9 => ?_)
      refine lv_iload_n hx hb dX11_award_39 rfl (lv_at hl 4 rfl) ?_
      refine lv_iconst (v := 0) hx hb dX11_award_40 (by decide) ?_
      refine lv_iconst (v := 1) hx hb dX11_award_41 (by decide) ?_
      refine vp_callSi (W.runS (As := [.int p2, .int 0, .int 1]) (rest := []) ⟨hx, hb, hml, hown, hT⟩ (c_X11_within l p2 0 1) (va_cwS 3 hT (gS t_1 t_3 t_4 t_2) rfl rfl rfl (by decide +kernel) ⟨Nat.le_of_ble_eq_true rfl, Nat.le_of_ble_eq_true rfl⟩) preT rfl rfl hl.1 rfl (lv_room (Nat.le_of_ble_eq_true rfl)) dX11_award_42 ⟨Nat.le_of_ble_eq_true rfl, Nat.le_of_ble_eq_true rfl⟩) (fun r_10 hr_10 => ?_)
      have hr_10 : BR r_10 (0 ≤ p2.toInt ∧ p2.toInt ≤ 1) 1 0 := hr_10
      rcases hr_10 with ⟨rfl, h_11⟩ | ⟨rfl, h_11⟩
      · skip
        refine lv_if_ne (tgt := 50) hx hb dX11_award_45 (by decide) (fun c_12 => ?_) (fun c_12 => absurd c_12 (by decide))
        refine lv_iload_n hx hb dX11_award_50 rfl (lv_at hl 3 rfl) ?_
        refine lv_aload_n hx hb dX11_award_51 rfl (lv_at hl 1 rfl) ?_
        refine va_get (D := D) (ci := 11) (v := .ref (a 29)) (C := RX11) (T := TX11) (N := 14) hx hb hT iX11 hown hK hP 0 rfl rfl 8 (by decide) (hT _ t_265) (fun _ h9 => h9) rfl dX11_award_52 ?_
        refine va_get (D := D) (ci := 1) (v := .ref (a 34)) (C := RX1) (T := TX1) (N := 12) hx hb hT iX1 hown hK hP 29 rfl rfl 5 (by decide) (hT _ t_282) (fun _ h9 => h9) rfl dX11_award_55 ?_
        refine lv_iload_n hx hb dX11_award_58 rfl (lv_at hl 2 rfl) ?_
        refine va_iald hx hb hK hP 34 0 rfl rfl (vp_inI (by omega) (by omega)) dX11_award_59 ?_
        refine lv_topi (fun v_13 ev_13 => ?_)
        have hgv_13 : 0 ≤ v_13.toInt ∧ v_13.toInt ≤ 9999 := by rw [ev_13]; exact hRr 34 _
        refine lv_icmp_ge (tgt := 66) hx hb dX11_award_60 (by decide) (fun c_14 => ?_) (fun c_14 => ?_)
        · have c_14 : v_13.toInt ≤ p1.toInt := b_le c_14
          refine lv_aload_n hx hb dX11_award_66 rfl (lv_at hl 1 rfl) ?_
          refine va_get (D := D) (ci := 11) (v := .ref (a 29)) (C := RX11) (T := TX11) (N := 14) hx hb hT iX11 hown hK hP 0 rfl rfl 8 (by decide) (hT _ t_265) (fun _ h9 => h9) rfl dX11_award_67 ?_
          refine va_get (D := D) (ci := 1) (v := .ref (a 31)) (C := RX1) (T := TX1) (N := 12) hx hb hT iX1 hown hK hP 29 rfl rfl 2 (by decide) (hT _ t_549) (fun _ h9 => h9) rfl dX11_award_70 ?_
          refine lv_iload_n hx hb dX11_award_73 rfl (lv_at hl 2 rfl) ?_
          refine va_iald hx hb hK hP 31 0 rfl rfl (vp_inI (by omega) (by omega)) dX11_award_74 ?_
          refine lv_topi (fun v_15 ev_15 => ?_)
          have hgv_15 : 0 ≤ v_15.toInt ∧ v_15.toInt ≤ 19 := by rw [ev_15]; exact hRr 31 _
          refine lv_istore (lv' := [(5, .int v_15), (4, .ref (a 61)), (0, .ref (a 0)), (1, .int p0), (2, .int p1), (3, .int p2)]) hx hb dX11_award_75 hl (by decide) rfl (fun ls hl => ?_)
          refine lv_aload_n hx hb dX11_award_77 rfl (lv_at hl 2 rfl) ?_
          refine lv_aload hx hb dX11_award_78 (lv_at hl 1 rfl) ?_
          refine lv_iload hx hb dX11_award_80 (lv_at hl 0 rfl) ?_
          refine lv_aload_n hx hb dX11_award_82 rfl (lv_at hl 2 rfl) ?_
          refine lv_aload hx hb dX11_award_83 (lv_at hl 1 rfl) ?_
          refine lv_iload hx hb dX11_award_85 (lv_at hl 0 rfl) ?_
          have hF_16 := rF hD hS hA
          refine va_calli (va_runV (As := [.ref (a 61), .int v_15]) (rest := [.int v_15, .ref (a 61), .ref (a 0)]) ⟨hx, hb, hml, hown, hT⟩ (c_X11_fairWear l D cy a i r q tl v_15 _ hRi hRr (by first | omega | decide)) (cwV 2 hT (gV t_531 t_532 t_533 t_534 t_2) rfl rfl rfl (by decide +kernel) ⟨Nat.le_of_ble_eq_true rfl, Nat.le_of_ble_eq_true rfl⟩) (rM_v hnw hP hK hD (va_recv hK hP (ci := 11) (q0 := 0) rfl rfl)) rfl rfl hl.1 rfl (lv_room (Nat.le_of_ble_eq_true rfl)) dX11_award_87 ⟨Nat.le_of_ble_eq_true rfl, Nat.le_of_ble_eq_true rfl⟩) hS (fun q _ h => hF_16 q h) hF_16 (fun r_17 u_18 t H1 locs ht hvm hr_17 hB hz1 hk1 hS => ?_)
          obtain ⟨r18, rfl⟩ : ∃ z, z = u_18 := ⟨_, rfl⟩
          obtain ⟨hP, hK1, hD1⟩ := hB
          rw [ht] at hP
          have hD := hD1.weaken (fun k q _ h => hF_16 q.1 h)
          obtain ⟨hRr, hE2, hr_17⟩ := hr_17
          have hRr : yRr r18 := hRr
          have hE2 : mEr [27, 28] r r18 := hE2
          have hP : va_P D vwCl (xW cy a i r18 q (a 20) (a 12) ++ (hW cy a i r18 ++ tl)) H1 := hP
          have hD : va_D A (xW cy a i r18 q (a 20) (a 12) ++ (hW cy a i r18 ++ tl)) := hD
          have hEr : mEr [27, 28] _ r18 := Er_tr hEr hE2 (by decide)
          refine vp_callSi (W.runV (As := [.ref (a 61), .int v_15, .int r_17]) (rest := []) ⟨hx, hb, hml, hown, hT⟩ (c_X11_lost l D cy a i r18 q tl v_15 r_17 hRi hRr (by first | omega | decide)) (cwV 3 hT (gV t_535 t_536 t_537 t_538 t_2) rfl rfl rfl (by decide +kernel) ⟨Nat.le_of_ble_eq_true rfl, Nat.le_of_ble_eq_true rfl⟩) (rP_v hP hK (va_recv hK hP (ci := 11) (q0 := 0) rfl rfl)) rfl rfl hl.1 rfl (lv_room (Nat.le_of_ble_eq_true rfl)) dX11_award_90 ⟨Nat.le_of_ble_eq_true rfl, Nat.le_of_ble_eq_true rfl⟩) (fun r_19 hr_19 => ?_)
          refine lv_istore (lv' := [(6, .int r_19), (5, .int v_15), (4, .ref (a 61)), (0, .ref (a 0)), (1, .int p0), (2, .int p1), (3, .int p2)]) hx hb dX11_award_93 hl (by decide) rfl (fun ls hl => ?_)
          refine lv_aload_n hx hb dX11_award_95 rfl (lv_at hl 3 rfl) ?_
          refine lv_aload hx hb dX11_award_96 (lv_at hl 2 rfl) ?_
          refine lv_iload hx hb dX11_award_98 (lv_at hl 1 rfl) ?_
          refine lv_aload_n hx hb dX11_award_100 rfl (lv_at hl 3 rfl) ?_
          refine va_get (D := D) (ci := 11) (v := .ref (a 29)) (C := RX11) (T := TX11) (N := 14) hx hb hT iX11 hown hK hP 0 rfl rfl 8 (by decide) (hT _ t_265) (fun _ h9 => h9) rfl dX11_award_101 ?_
          refine va_get (D := D) (ci := 1) (v := .ref (a 32)) (C := RX1) (T := TX1) (N := 12) hx hb hT iX1 hown hK hP 29 rfl rfl 3 (by decide) (hT _ t_550) (fun _ h9 => h9) rfl dX11_award_104 ?_
          refine lv_iload_n hx hb dX11_award_107 rfl (lv_at hl 4 rfl) ?_
          refine va_iald hx hb hK hP 32 0 rfl rfl (vp_inI (by omega) (by omega)) dX11_award_108 ?_
          refine lv_topi (fun v_20 ev_20 => ?_)
          have hgv_20 : 0 ≤ v_20.toInt ∧ v_20.toInt ≤ 9 := by rw [ev_20]; exact hRr 32 _
          refine lv_aload_n hx hb dX11_award_109 rfl (lv_at hl 3 rfl) ?_
          refine va_get (D := D) (ci := 11) (v := .ref (a 29)) (C := RX11) (T := TX11) (N := 14) hx hb hT iX11 hown hK hP 0 rfl rfl 8 (by decide) (hT _ t_265) (fun _ h9 => h9) rfl dX11_award_110 ?_
          refine va_get (D := D) (ci := 1) (v := .ref (a 33)) (C := RX1) (T := TX1) (N := 12) hx hb hT iX1 hown hK hP 29 rfl rfl 4 (by decide) (hT _ t_547) (fun _ h9 => h9) rfl dX11_award_113 ?_
          refine lv_iload_n hx hb dX11_award_116 rfl (lv_at hl 4 rfl) ?_
          refine va_iald hx hb hK hP 33 0 rfl rfl (vp_inI (by omega) (by omega)) dX11_award_117 ?_
          refine lv_topi (fun v_21 ev_21 => ?_)
          have hgv_21 : 0 ≤ v_21.toInt ∧ v_21.toInt ≤ 7 := by rw [ev_21]; exact hRr 33 _
          have hF_22 := rF hD hS hA
          refine va_callv (va_runV (As := [.ref (a 61), .int v_15, .int v_20, .int v_21]) (rest := []) ⟨hx, hb, hml, hown, hT⟩ (c_X11_describe l D cy a i r18 q tl v_15 v_20 v_21 _ hRi hRr (by first | omega | decide)) (cwV 4 hT (gV t_512 t_513 t_514 t_515 t_2) rfl rfl rfl (by decide +kernel) ⟨Nat.le_of_ble_eq_true rfl, Nat.le_of_ble_eq_true rfl⟩) (rQ_v hP hK hD (va_recv hK hP (ci := 11) (q0 := 0) rfl rfl)) rfl rfl hl.1 rfl (lv_room (Nat.le_of_ble_eq_true rfl)) dX11_award_118 ⟨Nat.le_of_ble_eq_true rfl, Nat.le_of_ble_eq_true rfl⟩) hS (fun q _ h => hF_22 q h) hF_22 (fun u_24 t H1 locs ht hvm hr_23 hB hz1 hk1 hS => ?_)
          obtain ⟨r24, rfl⟩ : ∃ z, z = u_24 := ⟨_, rfl⟩
          obtain ⟨hP, hK1, hD1⟩ := hB
          rw [ht] at hP
          have hD := hD1.weaken (fun k q _ h => hF_22 q.1 h)
          obtain ⟨hRr, hE2, hr_23⟩ := hr_23
          have hRr : yRr r24 := hRr
          have hE2 : mEr [28] r18 r24 := hE2
          have hP : va_P D vwCl (xW cy a i r24 q (a 20) (a 12) ++ (hW cy a i r24 ++ tl)) H1 := hP
          have hD : va_D A (xW cy a i r24 q (a 20) (a 12) ++ (hW cy a i r24 ++ tl)) := hD
          have hEr : mEr [27, 28] _ r24 := Er_tr hEr hE2 (by decide)
          refine lv_aload_n hx hb dX11_award_121 rfl (lv_at hl 3 rfl) ?_
          refine lv_iload_n hx hb dX11_award_122 rfl (lv_at hl 4 rfl) ?_
          refine lv_iload_n hx hb dX11_award_123 rfl (lv_at hl 5 rfl) ?_
          refine lv_iload hx hb dX11_award_124 (lv_at hl 0 rfl) ?_
          have hF_25 := rF hD hS hA
          refine va_calli (va_runV (As := [.int p0, .int p1, .int r_19]) (rest := []) ⟨hx, hb, hml, hown, hT⟩ (c_X11_reason l D cy a i r24 q (hW cy a i r24 ++ tl) p0 p1 r_19 _ hRi hRr (by first | omega | decide)) (cwV 3 hT (gV t_551 t_552 t_553 t_554 t_2) rfl rfl rfl (by decide +kernel) ⟨Nat.le_of_ble_eq_true rfl, Nat.le_of_ble_eq_true rfl⟩) (rM_v hnw hP hK hD (va_recv hK hP (ci := 11) (q0 := 0) rfl rfl)) rfl rfl hl.1 rfl (lv_room (Nat.le_of_ble_eq_true rfl)) dX11_award_126 ⟨Nat.le_of_ble_eq_true rfl, Nat.le_of_ble_eq_true rfl⟩) hS (fun q _ h => hF_25 q h) hF_25 (fun r_26 u_27 t H1 locs ht hvm hr_26 hB hz1 hk1 hS => ?_)
          obtain ⟨r27, rfl⟩ : ∃ z, z = u_27 := ⟨_, rfl⟩
          obtain ⟨hP, hK1, hD1⟩ := hB
          rw [ht] at hP
          have hD := hD1.weaken (fun k q _ h => hF_25 q.1 h)
          obtain ⟨hRr, hE2, hr_26⟩ := hr_26
          have hRr : yRr r27 := hRr
          have hE2 : mEr [27] r24 r27 := hE2
          have hwe : hW cy a i r27 = hW cy a i r24 := hW_eqE (Ei_rf (T := [])) hE2 rfl rfl
          have hP : va_P D vwCl (xW cy a i r27 q (a 20) (a 12) ++ (hW cy a i r27 ++ tl)) H1 := by rw [hwe]; exact hP
          have hD : va_D A (xW cy a i r27 q (a 20) (a 12) ++ (hW cy a i r27 ++ tl)) := by rw [hwe]; exact hD
          have hEr : mEr [27, 28] _ r27 := Er_tr hEr hE2 (by decide)
          have hr_26 : 1 ≤ r_26.toInt ∧ r_26.toInt ≤ 8 := hr_26
          refine lv_istore (lv' := [(7, .int r_26), (6, .int r_19), (5, .int v_15), (4, .ref (a 61)), (0, .ref (a 0)), (1, .int p0), (2, .int p1), (3, .int p2)]) hx hb dX11_award_129 hl (by decide) rfl (fun ls hl => ?_)
          refine lv_iload_n hx hb dX11_award_131 rfl (lv_at hl 7 rfl) ?_
          refine lv_if_ne (tgt := 147) hx hb dX11_award_132 (by decide) (fun c_28 => ?_) (fun c_28 => ?_)
          · have c_28 : p2.toInt ≠ 0 := b_ne c_28
            refine lv_iload hx hb dX11_award_147 (lv_at hl 0 rfl) ?_
            subst hQ
            exact W.iret (v := r_26) hx hb hr (fun t ht hW => ⟨⟨_, r27, rfl, ⟨hRr, hEr, trivial⟩, by rw [ht]; exact hP, va_K.moved hW.alike hK, hD⟩, hS.F ht⟩) hS.2.2 dX11_award_149
          · have c_28 : p2.toInt = 0 := b_nne c_28
            refine lv_aload_n hx hb dX11_award_135 rfl (lv_at hl 4 rfl) ?_
            refine lv_iload_n hx hb dX11_award_136 rfl (lv_at hl 5 rfl) ?_
            refine lv_iload hx hb dX11_award_137 (lv_at hl 0 rfl) ?_
            refine lv_iload hx hb dX11_award_139 (lv_at hl 1 rfl) ?_
            have hF_29 := rF hD hS hA
            refine va_calli (va_runV (As := [.int p0, .int r_26, .int r_19]) (rest := []) ⟨hx, hb, hml, hown, hT⟩ (c_X11_awarded l D cy a i r27 q (hW cy a i r27 ++ tl) p0 r_26 r_19 _ hRi hRr (by first | omega | decide) (by first | omega | decide)) (cwV 3 hT (gV t_555 t_556 t_557 t_558 t_2) rfl rfl rfl (by decide +kernel) ⟨Nat.le_of_ble_eq_true rfl, Nat.le_of_ble_eq_true rfl⟩) (rM_v hnw hP hK hD (va_recv hK hP (ci := 11) (q0 := 0) rfl rfl)) rfl rfl hl.1 rfl (lv_room (Nat.le_of_ble_eq_true rfl)) dX11_award_141 ⟨Nat.le_of_ble_eq_true rfl, Nat.le_of_ble_eq_true rfl⟩) hS (fun q _ h => hF_29 q h) hF_29 (fun r_30 u_31 t H1 locs ht hvm hr_30 hB hz1 hk1 hS => ?_)
            obtain ⟨r31, rfl⟩ : ∃ z, z = u_31 := ⟨_, rfl⟩
            obtain ⟨hP, hK1, hD1⟩ := hB
            rw [ht] at hP
            have hD := hD1.weaken (fun k q _ h => hF_29 q.1 h)
            obtain ⟨hRr, hE2, hr_30⟩ := hr_30
            have hRr : yRr r31 := hRr
            have hE2 : mEr [27] r27 r31 := hE2
            have hwe : hW cy a i r31 = hW cy a i r27 := hW_eqE (Ei_rf (T := [])) hE2 rfl rfl
            have hP : va_P D vwCl (xW cy a i r31 q (a 20) (a 12) ++ (hW cy a i r31 ++ tl)) H1 := by rw [hwe]; exact hP
            have hD : va_D A (xW cy a i r31 q (a 20) (a 12) ++ (hW cy a i r31 ++ tl)) := by rw [hwe]; exact hD
            have hEr : mEr [27, 28] _ r31 := Er_tr hEr hE2 (by decide)
            refine lv_goto (tgt := 149) hx hb dX11_award_144 (by decide) ?_
            subst hQ
            exact W.iret (v := r_30) hx hb hr (fun t ht hW => ⟨⟨_, r31, rfl, ⟨hRr, hEr, trivial⟩, by rw [ht]; exact hP, va_K.moved hW.alike hK, hD⟩, hS.F ht⟩) hS.2.2 dX11_award_149
        · have c_14 : p1.toInt < v_13.toInt := b_nle c_14
          refine lv_bipush (v := (-2)) hx hb dX11_award_63 (by decide) ?_
          subst hQ
          exact W.iret (v := (-2)) hx hb hr (fun t ht hW => ⟨⟨_, r, rfl, ⟨hRr, hEr, trivial⟩, by rw [ht]; exact hP, va_K.moved hW.alike hK, hD⟩, hS.F ht⟩) hS.2.2 dX11_award_65
      · skip
        refine lv_if_ne (tgt := 50) hx hb dX11_award_45 (by decide) (fun c_32 => absurd (by decide) c_32) (fun c_32 => ?_)
        refine lv_iconst (v := (-1)) hx hb dX11_award_48 (by decide) ?_
        subst hQ
        exact W.iret (v := (-1)) hx hb hr (fun t ht hW => ⟨⟨_, r, rfl, ⟨hRr, hEr, trivial⟩, by rw [ht]; exact hP, va_K.moved hW.alike hK, hD⟩, hS.F ht⟩) hS.2.2 dX11_award_49
    · skip
      refine lv_if_eq (tgt := 48) hx hb dX11_award_36 (by decide) (fun c_33 => ?_) (fun c_33 => absurd (by decide) c_33)
      refine lv_iconst (v := (-1)) hx hb dX11_award_48 (by decide) ?_
      subst hQ
      exact W.iret (v := (-1)) hx hb hr (fun t ht hW => ⟨⟨_, r, rfl, ⟨hRr, hEr, trivial⟩, by rw [ht]; exact hP, va_K.moved hW.alike hK, hD⟩, hS.F ht⟩) hS.2.2 dX11_award_49
  · exact absurd h_3 (by omega)
set_option maxHeartbeats 4000000 in
set_option maxRecDepth 100000 in
theorem c_X11_award.b (l : Launch) (D : va_G) (cy : Nat → ClassId) (a : Nat → Nat) (i : Nat → Int32) (r : Nat → Nat → Int32) (q : Nat → Option Nat) (tl : va_W) (p0 p1 p2 : Int32) (hRi : yRi i) (hRr : yRr r) (hh : ¬ ((0 ≤ p0.toInt ∧ p0.toInt < (i 10).toInt) ∧ (r 30 p0.toNatClampNeg).toInt < (i 0).toInt)) : Met l yX11_award (Cond.code yX11_award cX11_award 8 (some .int) :: gT) { frames := 3, cells := 0, slots := 0, locals := 67 } (va_Pc [.ref (a 0), .int p0, .int p1, .int p2] (rP D cy (xW cy a i r q (a 20) (a 12) ++ tl))) (vp_Si (fun z => z = -1)) 0 0 (fun _ => False) := by
  refine Met.ofQ (cc := cX11_award) (maxL := 8) (ret := (some .int)) (by decide) rfl ?_
  intro p e s m args below meth c s₁ B hml hv Q hQ
  obtain ⟨rfl, hP, hK⟩ := hv
  have hx := B.exec
  have hb := B.bytes
  have hr := B.returns
  have hlocks := B.notSynchronized
  have hT : ∀ w ∈ gT, w.before _ s = true := fun w h => atoms_spec (ws := (Cond.code yX11_award cX11_award 8 (some .int) :: gT)) B.pre w (List.mem_cons_of_mem _ h)
  have hown : s.vm.findClass RX11 = some m.cls := findClass_of_methodNamed B.named
  have hl := lv_entry ([.ref (a 0), .int p0, .int p1, .int p2]) (n := 8) (Nat.le_of_ble_eq_true rfl)
  rw [lg_entry_eq]
  generalize (lg_sl ([.ref (a 0), .int p0, .int p1, .int p2]) ++ List.replicate (8 - (lg_sl ([.ref (a 0), .int p0, .int p1, .int p2])).length) Slot.unset).toArray = ls at hl ⊢
  have hl : lv_has ls 8 [(0, .ref (a 0)), (1, .int p0), (2, .int p1), (3, .int p2)] := hl
  have hEi : mEi [] i i := Ei_rf
  have hEr : mEr [] r r := Er_rf
  refine lv_aload_n hx hb dX11_award_0 rfl (lv_at hl 0 rfl) ?_
  refine lv_iload_n hx hb dX11_award_1 rfl (lv_at hl 1 rfl) ?_
  refine vp_callSi (W.runV (As := [.int p0]) (rest := []) ⟨hx, hb, hml, hown, hT⟩ (c_X11_isClaim l D cy a i r q tl p0 hRi hRr) (cwV 1 hT (gV t_273 t_274 t_275 t_276 t_2) rfl rfl rfl (by decide +kernel) ⟨Nat.le_of_ble_eq_true rfl, Nat.le_of_ble_eq_true rfl⟩) (rP_v hP hK (va_recv hK hP (ci := 11) (q0 := 0) rfl rfl)) rfl rfl hl.1 rfl (lv_room (Nat.le_of_ble_eq_true rfl)) dX11_award_2 ⟨Nat.le_of_ble_eq_true rfl, Nat.le_of_ble_eq_true rfl⟩) (fun r_1 hr_1 => ?_)
  have hg_2 : 0 ≤ (i 10).toInt ∧ (i 10).toInt ≤ 30 := hRi 10
  have hr_1 : BR r_1 (0 ≤ p0.toInt ∧ p0.toInt < (i 10).toInt) 1 0 := hr_1
  rcases hr_1 with ⟨rfl, h_3⟩ | ⟨rfl, h_3⟩
  · skip
    refine lv_if_eq (tgt := 24) hx hb dX11_award_5 (by decide) (fun c_4 => absurd c_4 (by decide)) (fun c_4 => ?_)
    refine lv_aload_n hx hb dX11_award_8 rfl (lv_at hl 0 rfl) ?_
    refine lv_aload_n hx hb dX11_award_9 rfl (lv_at hl 0 rfl) ?_
    refine va_get (D := D) (ci := 11) (v := .ref (a 29)) (C := RX11) (T := TX11) (N := 14) hx hb hT iX11 hown hK hP 0 rfl rfl 8 (by decide) (hT _ t_265) (fun _ h9 => h9) rfl dX11_award_10 ?_
    refine va_get (D := D) (ci := 1) (v := .ref (a 30)) (C := RX1) (T := TX1) (N := 12) hx hb hT iX1 hown hK hP 29 rfl rfl 1 (by decide) (hT _ t_548) (fun _ h9 => h9) rfl dX11_award_13 ?_
    refine lv_iload_n hx hb dX11_award_16 rfl (lv_at hl 1 rfl) ?_
    refine va_iald hx hb hK hP 30 0 rfl rfl (vp_inI (by omega) (by omega)) dX11_award_17 ?_
    refine lv_topi (fun v_5 ev_5 => ?_)
    have hgv_5 : 0 ≤ v_5.toInt ∧ v_5.toInt ≤ 5 := by rw [ev_5]; exact hRr 30 _
    refine va_csq (W.runV (As := [.int v_5]) (rest := []) ⟨hx, hb, hml, hown, hT⟩ (c_X11_homeAt l D cy a i r q tl v_5 hRi hRr) (cwV 1 hT (gV t_443 t_444 t_445 t_446 t_2) rfl rfl rfl (by decide +kernel) ⟨Nat.le_of_ble_eq_true rfl, Nat.le_of_ble_eq_true rfl⟩) (rP_v hP hK (va_recv hK hP (ci := 11) (q0 := 0) rfl rfl)) rfl rfl hl.1 rfl (lv_room (Nat.le_of_ble_eq_true rfl)) dX11_award_18 ⟨Nat.le_of_ble_eq_true rfl, Nat.le_of_ble_eq_true rfl⟩) (fun r_6 hr_6 => ?_)
    obtain rfl : r_6 = none := hr_6.2 (fun h9 => hh ⟨⟨by omega, by omega⟩, by rw [← ev_5]; exact h9.2⟩)
    refine W.eq (g2 := F0 m 21 ls [.null]) rfl ?_
    refine lv_goto (tgt := 25) hx hb dX11_award_21 (by decide) ?_
    refine lv_astoreN (lv' := [(4, .null), (0, .ref (a 0)), (1, .int p0), (2, .int p1), (3, .int p2)]) hx hb dX11_award_25 hl (by decide) rfl (fun ls hl => ?_)
    refine lv_aloadN hx hb dX11_award_27 (lv_at hl 0 rfl) ?_
    refine lv_ifnullN (tgt := 48) hx hb dX11_award_29 (by decide) ?_
    refine lv_iconst (v := (-1)) hx hb dX11_award_48 (by decide) ?_
    subst hQ
    exact W.iret (v := (-1)) hx hb hr (fun t ht hW => ⟨_, rfl, rfl, ht⟩) (fun q hq => absurd hq List.not_mem_nil) dX11_award_49
  · skip
    refine lv_if_eq (tgt := 24) hx hb dX11_award_5 (by decide) (fun c_7 => ?_) (fun c_7 => absurd (by decide) c_7)
    refine lv_null hx hb dX11_award_24 ?_
    refine lv_astoreN (lv' := [(4, .null), (0, .ref (a 0)), (1, .int p0), (2, .int p1), (3, .int p2)]) hx hb dX11_award_25 hl (by decide) rfl (fun ls hl => ?_)
    refine lv_aloadN hx hb dX11_award_27 (lv_at hl 0 rfl) ?_
    refine lv_ifnullN (tgt := 48) hx hb dX11_award_29 (by decide) ?_
    refine lv_iconst (v := (-1)) hx hb dX11_award_48 (by decide) ?_
    subst hQ
    exact W.iret (v := (-1)) hx hb hr (fun t ht hW => ⟨_, rfl, rfl, ht⟩) (fun q hq => absurd hq List.not_mem_nil) dX11_award_49
set_option maxHeartbeats 4000000 in
set_option maxRecDepth 100000 in
theorem c_X11_awards (l : Launch) (D : va_G) (cy : Nat → ClassId) (a : Nat → Nat) (i : Nat → Int32) (r : Nat → Nat → Int32) (q : Nat → Option Nat) (tl : va_W) (p0 p1 : Int32) (sz : Nat) (hRi : yRi i) (hRr : yRr r) (hh : 0 ≤ p0.toInt ∧ p0.toInt < (i 0).toInt) (hq : q p0.toNatClampNeg = some (a 61)) : Met l yX11_awards (Cond.code yX11_awards cX11_awards 5 (some .int) :: gT) { frames := 6, cells := 0, slots := 0, locals := 151 } (va_Pc [.ref (a 0), .int p0, .int p1] (rM D cy (xW cy a i r q (a 20) (a 12) ++ (hW cy a i r ++ tl)) sz)) (va_Qi (fun (z : Int32) (u : Nat → Nat → Int32) => yRr u ∧ mEr [27, 28] r u ∧ True) (fun (u : Nat → Nat → Int32) t => va_P D vwCl (xW cy a i u q (a 20) (a 12) ++ (hW cy a i u ++ tl)) t.heap ∧ va_K D vwCl (vT cy) t ∧ va_D (va_A (xW cy a i r q (a 20) (a 12) ++ (hW cy a i r ++ tl)) sz) (xW cy a i u q (a 20) (a 12) ++ (hW cy a i u ++ tl))) (va_A (xW cy a i r q (a 20) (a 12) ++ (hW cy a i r ++ tl)) sz)) 0 0 (va_A (xW cy a i r q (a 20) (a 12) ++ (hW cy a i r ++ tl)) sz) := by
  refine Met.ofQ (cc := cX11_awards) (maxL := 5) (ret := (some .int)) (by decide) rfl ?_
  intro p e s m args below meth c s₁ B hml hv Q hQ
  obtain ⟨rfl, hnw, hsz, hP, hK, hD0⟩ := hv
  have hx := B.exec
  have hb := B.bytes
  have hr := B.returns
  have hlocks := B.notSynchronized
  have hT : ∀ w ∈ gT, w.before _ s = true := fun w h => atoms_spec (ws := (Cond.code yX11_awards cX11_awards 5 (some .int) :: gT)) B.pre w (List.mem_cons_of_mem _ h)
  have hown : s.vm.findClass RX11 = some m.cls := findClass_of_methodNamed B.named
  subst hsz
  have hD := hD0.self (sz := s.heap.size)
  generalize hAe : va_A (xW cy a i r q (a 20) (a 12) ++ (hW cy a i r ++ tl)) s.heap.size = A at hD hQ
  have hA : ∀ q : Nat, s.heap.size ≤ q → A q := fun q h => by rw [← hAe]; exact Or.inr h
  have hS : va_S A s.heap s.heap [] := va_S.rf
  have hl := lv_entry ([.ref (a 0), .int p0, .int p1]) (n := 5) (Nat.le_of_ble_eq_true rfl)
  rw [lg_entry_eq]
  generalize (lg_sl ([.ref (a 0), .int p0, .int p1]) ++ List.replicate (5 - (lg_sl ([.ref (a 0), .int p0, .int p1])).length) Slot.unset).toArray = ls at hl ⊢
  have hl : lv_has ls 5 [(0, .ref (a 0)), (1, .int p0), (2, .int p1)] := hl
  have hEi : mEi [] i i := Ei_rf
  have hEr : mEr [27, 28] r r := Er_rf
  refine lv_iconst (v := 0) hx hb dX11_awards_0 (by decide) ?_
  refine lv_istore_n (lv' := [(3, .int 0), (0, .ref (a 0)), (1, .int p0), (2, .int p1)]) hx hb dX11_awards_1 rfl hl (by decide) rfl (fun ls hl => ?_)
  refine lv_iconst (v := 0) hx hb dX11_awards_2 (by decide) ?_
  refine lv_istore (lv' := [(4, .int 0), (3, .int 0), (0, .ref (a 0)), (1, .int p0), (2, .int p1)]) hx hb dX11_awards_3 hl (by decide) rfl (fun ls hl => ?_)
  have loop_1 : ∀ (n : Nat) (x1_4 : Int32) (x1_3 : Int32) (r1 : Nat → Nat → Int32) (H : Heap) (locs : List Loc) (ls : Array Slot), (30 - x1_4.toInt).toNat < n → (0 ≤ x1_4.toInt ∧ x1_4.toInt ≤ 30) → yRr r1 → mEr [27, 28] r r1 → va_P D vwCl (xW cy a i r1 q (a 20) (a 12) ++ (hW cy a i r1 ++ tl)) H → va_D A (xW cy a i r1 q (a 20) (a 12) ++ (hW cy a i r1 ++ tl)) → va_S A s.heap H locs → lv_has ls 5 [(4, .int x1_4), (3, .int x1_3), (0, .ref (a 0)), (1, .int p0), (2, .int p1)] → W p l e ({ frames := 6, cells := 0, slots := 0, locals := 151 } : Room) s m ([.ref (a 0), .int p0, .int p1] : List Value).toArray below meth c H locs 0 0 Q (F0 m 5 ls []) := by
    intro n
    induction n with
    | zero =>
      intro x1_4 x1_3 r1 H locs ls hm1 hf1_0 hRr hEr hP hD hS hl
      exact absurd hm1 (by omega)
    | succ n ih1 =>
      intro x1_4 x1_3 r1 H locs ls hm1 hf1_0 hRr hEr hP hD hS hl
      refine lv_iload hx hb dX11_awards_5 (lv_at hl 0 rfl) ?_
      refine lv_aload_n hx hb dX11_awards_7 rfl (lv_at hl 2 rfl) ?_
      refine va_get (D := D) (ci := 11) (v := .ref (a 29)) (C := RX11) (T := TX11) (N := 14) hx hb hT iX11 hown hK hP 0 rfl rfl 8 (by decide) (hT _ t_265) (fun _ h9 => h9) rfl dX11_awards_8 ?_
      refine va_get (D := D) (ci := 1) (v := .int (i 10)) (C := RX1) (T := TX1) (N := 12) hx hb hT iX1 hown hK hP 29 rfl rfl 0 (by decide) (hT _ t_266) (fun _ h9 => h9) rfl dX11_awards_11 ?_
      have hg_2 : 0 ≤ (i 10).toInt ∧ (i 10).toInt ≤ 30 := hRi 10
      refine lv_icmp_ge (tgt := 52) hx hb dX11_awards_14 (by decide) (fun c_3 => ?_) (fun c_3 => ?_)
      · have c_3 : (i 10).toInt ≤ x1_4.toInt := b_le c_3
        refine lv_iload_n hx hb dX11_awards_52 rfl (lv_at hl 1 rfl) ?_
        subst hQ
        exact W.iret (v := x1_3) hx hb hr (fun t ht hW => ⟨⟨_, r1, rfl, ⟨hRr, hEr, trivial⟩, by rw [ht]; exact hP, va_K.moved hW.alike hK, hD⟩, hS.F ht⟩) hS.2.2 dX11_awards_53
      · have c_3 : x1_4.toInt < (i 10).toInt := b_nle c_3
        refine lv_aload_n hx hb dX11_awards_17 rfl (lv_at hl 2 rfl) ?_
        refine va_get (D := D) (ci := 11) (v := .ref (a 29)) (C := RX11) (T := TX11) (N := 14) hx hb hT iX11 hown hK hP 0 rfl rfl 8 (by decide) (hT _ t_265) (fun _ h9 => h9) rfl dX11_awards_18 ?_
        refine va_get (D := D) (ci := 1) (v := .ref (a 30)) (C := RX1) (T := TX1) (N := 12) hx hb hT iX1 hown hK hP 29 rfl rfl 1 (by decide) (hT _ t_548) (fun _ h9 => h9) rfl dX11_awards_21 ?_
        refine lv_iload hx hb dX11_awards_24 (lv_at hl 0 rfl) ?_
        refine va_iald hx hb hK hP 30 0 rfl rfl (vp_inI (by omega) (by omega)) dX11_awards_26 ?_
        refine lv_topi (fun v_4 ev_4 => ?_)
        have hgv_4 : 0 ≤ v_4.toInt ∧ v_4.toInt ≤ 5 := by rw [ev_4]; exact hRr 30 _
        have hwv_4 : v_4.toInt = (r1 30 (x1_4.toNatClampNeg)).toInt := congrArg Int32.toInt ev_4
        refine lv_iload_n hx hb dX11_awards_27 rfl (lv_at hl 3 rfl) ?_
        refine lv_icmp_ne (tgt := 46) hx hb dX11_awards_28 (by decide) (fun c_5 => ?_) (fun c_5 => ?_)
        · have c_5 : v_4.toInt ≠ p0.toInt := b_ne c_5
          obtain ⟨x_6, ex_6⟩ : ∃ y : Int32, y = x1_4 + 1 := ⟨_, rfl⟩
          refine lv_iinc (v := x_6) (lv' := [(4, .int x_6), (3, .int x1_3), (0, .ref (a 0)), (1, .int p0), (2, .int p1)]) hx hb dX11_awards_46 hl (k := 0) rfl (by rw [ex_6]; rfl) (by decide) rfl (fun ls hl => ?_)
          have hx_6 : x_6.toInt = x1_4.toInt + 1 := by rw [ex_6]; have := b_rg x1_4; exact i_add (a := x1_4.toInt) (b := 1) rfl rfl (by omega) (by omega)
          refine lv_goto (tgt := 5) hx hb dX11_awards_49 (by decide) ?_
          exact ih1 x_6 x1_3 r1 _ _ _ (by first | omega | (simp only [Int.toNat]; omega)) (by first | omega | decide) hRr hEr  hP hD hS (lv_sub hl [0, 1, 2, 3, 4] rfl)
        · have c_5 : v_4.toInt = p0.toInt := b_nne c_5
          refine lv_iload_n hx hb dX11_awards_31 rfl (lv_at hl 1 rfl) ?_
          refine lv_iconst (v := 0) hx hb dX11_awards_32 (by decide) ?_
          refine lv_aload_n hx hb dX11_awards_33 rfl (lv_at hl 2 rfl) ?_
          refine lv_iload hx hb dX11_awards_34 (lv_at hl 0 rfl) ?_
          refine lv_iload_n hx hb dX11_awards_36 rfl (lv_at hl 4 rfl) ?_
          refine lv_iconst (v := 0) hx hb dX11_awards_37 (by decide) ?_
          have hF_7 := rF hD hS hA
          refine va_calli (va_runV (As := [.int x1_4, .int p1, .int 0]) (rest := [.int 0, .int x1_3]) ⟨hx, hb, hml, hown, hT⟩ (c_X11_award l D cy a i r1 q tl x1_4 p1 0 _ hRi hRr (by omega) (by omega) (by rw [← ev_4, Int32.toInt_inj.mp c_5]; exact hq)) (cwV 3 hT (gV t_559 t_560 t_561 t_562 t_2) rfl rfl rfl (by decide +kernel) ⟨Nat.le_of_ble_eq_true rfl, Nat.le_of_ble_eq_true rfl⟩) (rM_v hnw hP hK hD (va_recv hK hP (ci := 11) (q0 := 0) rfl rfl)) rfl rfl hl.1 rfl (lv_room (Nat.le_of_ble_eq_true rfl)) dX11_awards_38 ⟨Nat.le_of_ble_eq_true rfl, Nat.le_of_ble_eq_true rfl⟩) hS (fun q _ h => hF_7 q h) hF_7 (fun r_8 u_9 t H1 locs ht hvm hr_8 hB hz1 hk1 hS => ?_)
          obtain ⟨r9, rfl⟩ : ∃ z, z = u_9 := ⟨_, rfl⟩
          obtain ⟨hP, hK1, hD1⟩ := hB
          rw [ht] at hP
          have hD := hD1.weaken (fun k q _ h => hF_7 q.1 h)
          obtain ⟨hRr, hE2, hr_8⟩ := hr_8
          have hRr : yRr r9 := hRr
          have hE2 : mEr [27, 28] r1 r9 := hE2
          have hP : va_P D vwCl (xW cy a i r9 q (a 20) (a 12) ++ (hW cy a i r9 ++ tl)) H1 := hP
          have hD : va_D A (xW cy a i r9 q (a 20) (a 12) ++ (hW cy a i r9 ++ tl)) := hD
          have hEr : mEr [27, 28] _ r9 := Er_tr hEr hE2 (by decide)
          refine va_mmax hx hb (by rw [hml]; exact hl.1.symm) hown (hT _ t_521) (hT _ t_307) (hT _ t_289) (hT _ t_308) (Nat.le_of_ble_eq_true rfl) (Nat.le_of_ble_eq_true rfl) (Nat.le_of_ble_eq_true rfl) (Nat.le_of_ble_eq_true rfl) dX11_awards_41 ?_
          refine lv_topi (fun v_10 ev_10 => ?_)
          refine lv_iadd hx hb dX11_awards_44 ?_
          refine lv_topi (fun v_11 ev_11 => ?_)
          refine lv_istore_n (lv' := [(3, .int v_11), (4, .int x1_4), (0, .ref (a 0)), (1, .int p0), (2, .int p1)]) hx hb dX11_awards_45 rfl hl (by decide) rfl (fun ls hl => ?_)
          obtain ⟨x_12, ex_12⟩ : ∃ y : Int32, y = x1_4 + 1 := ⟨_, rfl⟩
          refine lv_iinc (v := x_12) (lv' := [(4, .int x_12), (3, .int v_11), (0, .ref (a 0)), (1, .int p0), (2, .int p1)]) hx hb dX11_awards_46 hl (k := 1) rfl (by rw [ex_12]; rfl) (by decide) rfl (fun ls hl => ?_)
          have hx_12 : x_12.toInt = x1_4.toInt + 1 := by rw [ex_12]; have := b_rg x1_4; exact i_add (a := x1_4.toInt) (b := 1) rfl rfl (by omega) (by omega)
          refine lv_goto (tgt := 5) hx hb dX11_awards_49 (by decide) ?_
          exact ih1 x_12 v_11 r9 _ _ _ (by first | omega | (simp only [Int.toNat]; omega)) (by first | omega | decide) hRr hEr  hP hD hS (lv_sub hl [0, 1, 2, 3, 4] rfl)
  exact loop_1 _ 0 0 r _ _ _ (Nat.lt_succ_self _) (by first | omega | decide) hRr hEr  hP hD hS hl
set_option maxHeartbeats 4000000 in
set_option maxRecDepth 100000 in
theorem c_X11_toOwner (l : Launch) (D : va_G) (cy : Nat → ClassId) (a : Nat → Nat) (i : Nat → Int32) (r : Nat → Nat → Int32) (q : Nat → Option Nat) (tl : va_W) (p0 : Int32) (hRi : yRi i) (hRr : yRr r) : Met l yX11_toOwner (Cond.code yX11_toOwner cX11_toOwner 3 (some .int) :: gT) { frames := 2, cells := 0, slots := 0, locals := 46 } (va_Pc [.ref (a 0), .ref (a 61), .int p0] (rP D cy (xW cy a i r q (a 20) (a 12) ++ (hW cy a i r ++ tl)))) (vp_Si (fun z => True)) 0 0 (fun _ => False) := by
  refine Met.ofQ (cc := cX11_toOwner) (maxL := 3) (ret := (some .int)) (by decide) rfl ?_
  intro p e s m args below meth c s₁ B hml hv Q hQ
  obtain ⟨rfl, hP, hK⟩ := hv
  have hx := B.exec
  have hb := B.bytes
  have hr := B.returns
  have hlocks := B.notSynchronized
  have hT : ∀ w ∈ gT, w.before _ s = true := fun w h => atoms_spec (ws := (Cond.code yX11_toOwner cX11_toOwner 3 (some .int) :: gT)) B.pre w (List.mem_cons_of_mem _ h)
  have hown : s.vm.findClass RX11 = some m.cls := findClass_of_methodNamed B.named
  have hl := lv_entry ([.ref (a 0), .ref (a 61), .int p0]) (n := 3) (Nat.le_of_ble_eq_true rfl)
  rw [lg_entry_eq]
  generalize (lg_sl ([.ref (a 0), .ref (a 61), .int p0]) ++ List.replicate (3 - (lg_sl ([.ref (a 0), .ref (a 61), .int p0])).length) Slot.unset).toArray = ls at hl ⊢
  have hl : lv_has ls 3 [(0, .ref (a 0)), (1, .ref (a 61)), (2, .int p0)] := hl
  have hEi : mEi [] i i := Ei_rf
  have hEr : mEr [] r r := Er_rf
  refine lv_aload_n hx hb dX11_toOwner_0 rfl (lv_at hl 1 rfl) ?_
  refine va_get (D := D) (ci := 3) (v := .int (i 19)) (C := RX3) (T := TX3) (N := 12) hx hb hT iX3 hown hK hP 61 rfl rfl 2 (by decide) (hT _ t_563) (fun _ h9 => h9) rfl dX11_toOwner_1 ?_
  have hg_1 : 0 ≤ (i 19).toInt ∧ (i 19).toInt ≤ 999999 := hRi 19
  refine lv_iload_n hx hb dX11_toOwner_4 rfl (lv_at hl 2 rfl) ?_
  refine lv_aload_n hx hb dX11_toOwner_5 rfl (lv_at hl 1 rfl) ?_
  refine vp_callSi (W.runV (As := []) (rest := [.int p0, .int (i 19)]) ⟨hx, hb, hml, hown, hT⟩ (c_X3_owed l D cy a i r q tl hRi hRr) (cwV 0 hT (gV t_564 t_565 t_566 t_567 t_391) rfl rfl rfl (by decide +kernel) ⟨Nat.le_of_ble_eq_true rfl, Nat.le_of_ble_eq_true rfl⟩) (rP_v hP hK (va_recv hK hP (ci := 3) (q0 := 61) rfl rfl)) rfl rfl hl.1 rfl (lv_room (Nat.le_of_ble_eq_true rfl)) dX11_toOwner_6 ⟨Nat.le_of_ble_eq_true rfl, Nat.le_of_ble_eq_true rfl⟩) (fun r_2 hr_2 => ?_)
  refine lv_iadd hx hb dX11_toOwner_9 ?_
  refine lv_topi (fun v_3 ev_3 => ?_)
  refine va_mmin hx hb (by rw [hml]; exact hl.1.symm) hown (hT _ t_568) (hT _ t_380) (hT _ t_289) (hT _ t_381) (Nat.le_of_ble_eq_true rfl) (Nat.le_of_ble_eq_true rfl) (Nat.le_of_ble_eq_true rfl) (Nat.le_of_ble_eq_true rfl) dX11_toOwner_10 ?_
  refine lv_topi (fun v_4 ev_4 => ?_)
  subst hQ
  exact W.iret (v := v_4) hx hb hr (fun t ht hW => ⟨_, rfl, trivial, ht⟩) (fun q hq => absurd hq List.not_mem_nil) dX11_toOwner_13
set_option maxHeartbeats 4000000 in
set_option maxRecDepth 100000 in
theorem c_X11_penalty (l : Launch) (D : va_G) (cy : Nat → ClassId) (a : Nat → Nat) (i : Nat → Int32) (r : Nat → Nat → Int32) (q : Nat → Option Nat) (tl : va_W) (sz : Nat) (hRi : yRi i) (hRr : yRr r) : Met l yX11_penalty (Cond.code yX11_penalty cX11_penalty 3 (some .int) :: gT) { frames := 4, cells := 0, slots := 0, locals := 100 } (va_Pc [.ref (a 0), .ref (a 61)] (rM D cy (xW cy a i r q (a 20) (a 12) ++ (hW cy a i r ++ tl)) sz)) (va_Qi (fun (z : Int32) (u : Nat → Nat → Int32) => yRr u ∧ mEr [27, 28] r u ∧ True) (fun (u : Nat → Nat → Int32) t => va_P D vwCl (xW cy a i u q (a 20) (a 12) ++ (hW cy a i u ++ tl)) t.heap ∧ va_K D vwCl (vT cy) t ∧ va_D (va_A (xW cy a i r q (a 20) (a 12) ++ (hW cy a i r ++ tl)) sz) (xW cy a i u q (a 20) (a 12) ++ (hW cy a i u ++ tl))) (va_A (xW cy a i r q (a 20) (a 12) ++ (hW cy a i r ++ tl)) sz)) 0 0 (va_A (xW cy a i r q (a 20) (a 12) ++ (hW cy a i r ++ tl)) sz) := by
  refine Met.ofQ (cc := cX11_penalty) (maxL := 3) (ret := (some .int)) (by decide) rfl ?_
  intro p e s m args below meth c s₁ B hml hv Q hQ
  obtain ⟨rfl, hnw, hsz, hP, hK, hD0⟩ := hv
  have hx := B.exec
  have hb := B.bytes
  have hr := B.returns
  have hlocks := B.notSynchronized
  have hT : ∀ w ∈ gT, w.before _ s = true := fun w h => atoms_spec (ws := (Cond.code yX11_penalty cX11_penalty 3 (some .int) :: gT)) B.pre w (List.mem_cons_of_mem _ h)
  have hown : s.vm.findClass RX11 = some m.cls := findClass_of_methodNamed B.named
  subst hsz
  have hD := hD0.self (sz := s.heap.size)
  generalize hAe : va_A (xW cy a i r q (a 20) (a 12) ++ (hW cy a i r ++ tl)) s.heap.size = A at hD hQ
  have hA : ∀ q : Nat, s.heap.size ≤ q → A q := fun q h => by rw [← hAe]; exact Or.inr h
  have hS : va_S A s.heap s.heap [] := va_S.rf
  have hl := lv_entry ([.ref (a 0), .ref (a 61)]) (n := 3) (Nat.le_of_ble_eq_true rfl)
  rw [lg_entry_eq]
  generalize (lg_sl ([.ref (a 0), .ref (a 61)]) ++ List.replicate (3 - (lg_sl ([.ref (a 0), .ref (a 61)])).length) Slot.unset).toArray = ls at hl ⊢
  have hl : lv_has ls 3 [(0, .ref (a 0)), (1, .ref (a 61))] := hl
  have hEi : mEi [] i i := Ei_rf
  have hEr : mEr [27, 28] r r := Er_rf
  refine lv_aload_n hx hb dX11_penalty_0 rfl (lv_at hl 1 rfl) ?_
  refine va_get (D := D) (ci := 3) (v := .int (i 22)) (C := RX3) (T := TX3) (N := 12) hx hb hT iX3 hown hK hP 61 rfl rfl 5 (by decide) (hT _ t_569) (fun _ h9 => h9) rfl dX11_penalty_1 ?_
  have hg_1 : 0 ≤ (i 22).toInt ∧ (i 22).toInt ≤ 1 := hRi 22
  refine lv_if_eq (tgt := 9) hx hb dX11_penalty_4 (by decide) (fun c_2 => ?_) (fun c_2 => ?_)
  · have c_2 : (i 22).toInt = 0 := b_eq c_2
    refine lv_iconst (v := 0) hx hb dX11_penalty_9 (by decide) ?_
    refine lv_istore_n (lv' := [(2, .int 0), (0, .ref (a 0)), (1, .ref (a 61))]) hx hb dX11_penalty_10 rfl hl (by decide) rfl (fun ls hl => ?_)
    have loop_3 : ∀ (n : Nat) (x3_2 : Int32) (r3 : Nat → Nat → Int32) (H : Heap) (locs : List Loc) (ls : Array Slot), (10 - x3_2.toInt).toNat < n → (0 ≤ x3_2.toInt ∧ x3_2.toInt ≤ 10) → yRr r3 → mEr [27, 28] r r3 → va_P D vwCl (xW cy a i r3 q (a 20) (a 12) ++ (hW cy a i r3 ++ tl)) H → va_D A (xW cy a i r3 q (a 20) (a 12) ++ (hW cy a i r3 ++ tl)) → va_S A s.heap H locs → lv_has ls 3 [(2, .int x3_2), (0, .ref (a 0)), (1, .ref (a 61))] → W p l e ({ frames := 4, cells := 0, slots := 0, locals := 100 } : Room) s m ([.ref (a 0), .ref (a 61)] : List Value).toArray below meth c H locs 0 0 Q (F0 m 11 ls []) := by
      intro n
      induction n with
      | zero =>
        intro x3_2 r3 H locs ls hm3 hf3_0 hRr hEr hP hD hS hl
        exact absurd hm3 (by omega)
      | succ n ih3 =>
        intro x3_2 r3 H locs ls hm3 hf3_0 hRr hEr hP hD hS hl
        refine lv_iload_n hx hb dX11_penalty_11 rfl (lv_at hl 0 rfl) ?_
        refine lv_bipush (v := 10) hx hb dX11_penalty_12 (by decide) ?_
        refine lv_icmp_ge (tgt := 30) hx hb dX11_penalty_14 (by decide) (fun c_4 => ?_) (fun c_4 => ?_)
        · have c_4 : 10 ≤ x3_2.toInt := b_le c_4
          refine lv_aload_n hx hb dX11_penalty_30 rfl (lv_at hl 1 rfl) ?_
          refine lv_aload_n hx hb dX11_penalty_31 rfl (lv_at hl 2 rfl) ?_
          have hF_5 := rF hD hS hA
          refine va_callv (va_runV (As := [.ref (a 61)]) (rest := []) ⟨hx, hb, hml, hown, hT⟩ (c_X11_describeHome l D cy a i r3 q tl _ hRi hRr) (cwV 1 hT (gV t_508 t_509 t_510 t_511 t_2) rfl rfl rfl (by decide +kernel) ⟨Nat.le_of_ble_eq_true rfl, Nat.le_of_ble_eq_true rfl⟩) (rQ_v hP hK hD (va_recv hK hP (ci := 11) (q0 := 0) rfl rfl)) rfl rfl hl.1 rfl (lv_room (Nat.le_of_ble_eq_true rfl)) dX11_penalty_32 ⟨Nat.le_of_ble_eq_true rfl, Nat.le_of_ble_eq_true rfl⟩) hS (fun q _ h => hF_5 q h) hF_5 (fun u_7 t H1 locs ht hvm hr_6 hB hz1 hk1 hS => ?_)
          obtain ⟨r7, rfl⟩ : ∃ z, z = u_7 := ⟨_, rfl⟩
          obtain ⟨hP, hK1, hD1⟩ := hB
          rw [ht] at hP
          have hD := hD1.weaken (fun k q _ h => hF_5 q.1 h)
          obtain ⟨hRr, hE2, hr_6⟩ := hr_6
          have hRr : yRr r7 := hRr
          have hE2 : mEr [28] r3 r7 := hE2
          have hP : va_P D vwCl (xW cy a i r7 q (a 20) (a 12) ++ (hW cy a i r7 ++ tl)) H1 := hP
          have hD : va_D A (xW cy a i r7 q (a 20) (a 12) ++ (hW cy a i r7 ++ tl)) := hD
          have hEr : mEr [27, 28] _ r7 := Er_tr hEr hE2 (by decide)
          refine lv_aload_n hx hb dX11_penalty_35 rfl (lv_at hl 2 rfl) ?_
          refine va_get (D := D) (ci := 3) (v := .int (i 19)) (C := RX3) (T := TX3) (N := 12) hx hb hT iX3 hown hK hP 61 rfl rfl 2 (by decide) (hT _ t_563) (fun _ h9 => h9) rfl dX11_penalty_36 ?_
          have hg_8 : 0 ≤ (i 19).toInt ∧ (i 19).toInt ≤ 999999 := hRi 19
          refine lv_aload_n hx hb dX11_penalty_39 rfl (lv_at hl 1 rfl) ?_
          refine va_get (D := D) (ci := 11) (v := .ref (a 20)) (C := RX11) (T := TX11) (N := 14) hx hb hT iX11 hown hK hP 0 rfl rfl 6 (by decide) (hT _ t_516) (fun _ h9 => h9) rfl dX11_penalty_40 ?_
          refine lv_bipush (v := 116) hx hb dX11_penalty_43 (by decide) ?_
          refine lv_aload_n hx hb dX11_penalty_45 rfl (lv_at hl 1 rfl) ?_
          refine va_get (D := D) (ci := 11) (v := .ref (a 28)) (C := RX11) (T := TX11) (N := 14) hx hb hT iX11 hown hK hP 0 rfl rfl 7 (by decide) (hT _ t_500) (fun _ h9 => h9) rfl dX11_penalty_46 ?_
          refine lv_iconst (v := 0) hx hb dX11_penalty_49 (by decide) ?_
          refine lv_bipush (v := 9) hx hb dX11_penalty_50 (by decide) ?_
          have hF_9 := rF hD hS hA
          refine va_calli (va_runV (As := [.int 116, .ref (a 28), .int 0, .int 9]) (rest := [.int (i 19)]) ⟨hx, hb, hml, hown, hT⟩ (c_X5_amount l D cy a i r7 q (hW cy a i r7 ++ tl) 116 0 9 _ hRi hRr) (cwV 4 hT (gV t_517 t_518 t_519 t_520 t_367) rfl rfl rfl (by decide +kernel) ⟨Nat.le_of_ble_eq_true rfl, Nat.le_of_ble_eq_true rfl⟩) (rM_v hnw hP hK hD (va_recv hK hP (ci := 5) (q0 := 20) rfl rfl)) rfl rfl hl.1 rfl (lv_room (Nat.le_of_ble_eq_true rfl)) dX11_penalty_52 ⟨Nat.le_of_ble_eq_true rfl, Nat.le_of_ble_eq_true rfl⟩) hS (fun q _ h => hF_9 q h) hF_9 (fun r_10 u_11 t H1 locs ht hvm hr_10 hB hz1 hk1 hS => ?_)
          obtain ⟨r11, rfl⟩ : ∃ z, z = u_11 := ⟨_, rfl⟩
          obtain ⟨hP, hK1, hD1⟩ := hB
          rw [ht] at hP
          have hD := hD1.weaken (fun k q _ h => hF_9 q.1 h)
          obtain ⟨hRr, hE2, hr_10⟩ := hr_10
          have hRr : yRr r11 := hRr
          have hE2 : mEr [27] r7 r11 := hE2
          have hwe : hW cy a i r11 = hW cy a i r7 := hW_eqE (Ei_rf (T := [])) hE2 rfl rfl
          have hP : va_P D vwCl (xW cy a i r11 q (a 20) (a 12) ++ (hW cy a i r11 ++ tl)) H1 := by rw [hwe]; exact hP
          have hD : va_D A (xW cy a i r11 q (a 20) (a 12) ++ (hW cy a i r11 ++ tl)) := by rw [hwe]; exact hD
          have hEr : mEr [27, 28] _ r11 := Er_tr hEr hE2 (by decide)
          refine lv_imul hx hb dX11_penalty_55 ?_
          refine lv_topi (fun v_12 ev_12 => ?_)
          subst hQ
          exact W.iret (v := v_12) hx hb hr (fun t ht hW => ⟨⟨_, r11, rfl, ⟨hRr, hEr, trivial⟩, by rw [ht]; exact hP, va_K.moved hW.alike hK, hD⟩, hS.F ht⟩) hS.2.2 dX11_penalty_56
        · have c_4 : x3_2.toInt < 10 := b_nle c_4
          refine lv_aload_n hx hb dX11_penalty_17 rfl (lv_at hl 1 rfl) ?_
          refine va_get (D := D) (ci := 11) (v := .ref (a 28)) (C := RX11) (T := TX11) (N := 14) hx hb hT iX11 hown hK hP 0 rfl rfl 7 (by decide) (hT _ t_500) (fun _ h9 => h9) rfl dX11_penalty_18 ?_
          refine lv_iload_n hx hb dX11_penalty_21 rfl (lv_at hl 0 rfl) ?_
          refine lv_iconst (v := 0) hx hb dX11_penalty_22 (by decide) ?_
          refine va_iast hx hb hK hP hD hS 28 0 rfl rfl (vp_inI (by omega) (by omega)) dX11_penalty_23 (fun H locs hP hD hS => ?_)
          rw [yS28] at hP hD
          have hRr : yRr (va_up r3 28 (upd (r3 28) x3_2.toNatClampNeg 0)) := Yr_upd hRr 28 (x3_2.toNatClampNeg) 0 (b_rg _)
          have hEr : mEr [27, 28] _ (va_up r3 28 (upd (r3 28) x3_2.toNatClampNeg 0)) := Er_up hEr 28 _ (by decide)
          obtain ⟨x_13, ex_13⟩ : ∃ y : Int32, y = x3_2 + 1 := ⟨_, rfl⟩
          refine lv_iinc (v := x_13) (lv' := [(2, .int x_13), (0, .ref (a 0)), (1, .ref (a 61))]) hx hb dX11_penalty_24 hl (k := 0) rfl (by rw [ex_13]; rfl) (by decide) rfl (fun ls hl => ?_)
          have hx_13 : x_13.toInt = x3_2.toInt + 1 := by rw [ex_13]; have := b_rg x3_2; exact i_add (a := x3_2.toInt) (b := 1) rfl rfl (by omega) (by omega)
          refine lv_goto (tgt := 11) hx hb dX11_penalty_27 (by decide) ?_
          exact ih3 x_13 (va_up r3 28 (upd (r3 28) x3_2.toNatClampNeg 0)) _ _ _ (by first | omega | (simp only [Int.toNat]; omega)) (by first | omega | decide) hRr hEr  hP hD hS (lv_sub hl [0, 1, 2] rfl)
    exact loop_3 _ 0 r _ _ _ (Nat.lt_succ_self _) (by first | omega | decide) hRr hEr  hP hD hS hl
  · have c_2 : (i 22).toInt ≠ 0 := b_ne c_2
    refine lv_iconst (v := 0) hx hb dX11_penalty_7 (by decide) ?_
    subst hQ
    exact W.iret (v := 0) hx hb hr (fun t ht hW => ⟨⟨_, r, rfl, ⟨hRr, hEr, trivial⟩, by rw [ht]; exact hP, va_K.moved hW.alike hK, hD⟩, hS.F ht⟩) hS.2.2 dX11_penalty_8
set_option maxHeartbeats 4000000 in
set_option maxRecDepth 100000 in
theorem c_X11_paidBack (l : Launch) (D : va_G) (cy : Nat → ClassId) (a : Nat → Nat) (i : Nat → Int32) (r : Nat → Nat → Int32) (q : Nat → Option Nat) (tl : va_W) (p0 : Int32) (sz : Nat) (hRi : yRi i) (hRr : yRr r) : Met l yX11_paidBack (Cond.code yX11_paidBack cX11_paidBack 3 (some .int) :: gT) { frames := 5, cells := 0, slots := 0, locals := 122 } (va_Pc [.ref (a 0), .ref (a 61), .int p0] (rM D cy (xW cy a i r q (a 20) (a 12) ++ (hW cy a i r ++ tl)) sz)) (va_Qi (fun (z : Int32) (u : Nat → Nat → Int32) => yRr u ∧ mEr [27, 28] r u ∧ True) (fun (u : Nat → Nat → Int32) t => va_P D vwCl (xW cy a i u q (a 20) (a 12) ++ (hW cy a i u ++ tl)) t.heap ∧ va_K D vwCl (vT cy) t ∧ va_D (va_A (xW cy a i r q (a 20) (a 12) ++ (hW cy a i r ++ tl)) sz) (xW cy a i u q (a 20) (a 12) ++ (hW cy a i u ++ tl))) (va_A (xW cy a i r q (a 20) (a 12) ++ (hW cy a i r ++ tl)) sz)) 0 0 (va_A (xW cy a i r q (a 20) (a 12) ++ (hW cy a i r ++ tl)) sz) := by
  refine Met.ofQ (cc := cX11_paidBack) (maxL := 3) (ret := (some .int)) (by decide) rfl ?_
  intro p e s m args below meth c s₁ B hml hv Q hQ
  obtain ⟨rfl, hnw, hsz, hP, hK, hD0⟩ := hv
  have hx := B.exec
  have hb := B.bytes
  have hr := B.returns
  have hlocks := B.notSynchronized
  have hT : ∀ w ∈ gT, w.before _ s = true := fun w h => atoms_spec (ws := (Cond.code yX11_paidBack cX11_paidBack 3 (some .int) :: gT)) B.pre w (List.mem_cons_of_mem _ h)
  have hown : s.vm.findClass RX11 = some m.cls := findClass_of_methodNamed B.named
  subst hsz
  have hD := hD0.self (sz := s.heap.size)
  generalize hAe : va_A (xW cy a i r q (a 20) (a 12) ++ (hW cy a i r ++ tl)) s.heap.size = A at hD hQ
  have hA : ∀ q : Nat, s.heap.size ≤ q → A q := fun q h => by rw [← hAe]; exact Or.inr h
  have hS : va_S A s.heap s.heap [] := va_S.rf
  have hl := lv_entry ([.ref (a 0), .ref (a 61), .int p0]) (n := 3) (Nat.le_of_ble_eq_true rfl)
  rw [lg_entry_eq]
  generalize (lg_sl ([.ref (a 0), .ref (a 61), .int p0]) ++ List.replicate (3 - (lg_sl ([.ref (a 0), .ref (a 61), .int p0])).length) Slot.unset).toArray = ls at hl ⊢
  have hl : lv_has ls 3 [(0, .ref (a 0)), (1, .ref (a 61)), (2, .int p0)] := hl
  have hEi : mEi [] i i := Ei_rf
  have hEr : mEr [27, 28] r r := Er_rf
  refine lv_aload_n hx hb dX11_paidBack_0 rfl (lv_at hl 1 rfl) ?_
  refine va_get (D := D) (ci := 3) (v := .int (i 19)) (C := RX3) (T := TX3) (N := 12) hx hb hT iX3 hown hK hP 61 rfl rfl 2 (by decide) (hT _ t_563) (fun _ h9 => h9) rfl dX11_paidBack_1 ?_
  have hg_1 : 0 ≤ (i 19).toInt ∧ (i 19).toInt ≤ 999999 := hRi 19
  refine lv_aload_n hx hb dX11_paidBack_4 rfl (lv_at hl 0 rfl) ?_
  refine lv_aload_n hx hb dX11_paidBack_5 rfl (lv_at hl 1 rfl) ?_
  refine lv_iload_n hx hb dX11_paidBack_6 rfl (lv_at hl 2 rfl) ?_
  refine vp_callSi (W.runV (As := [.ref (a 61), .int p0]) (rest := [.int (i 19)]) ⟨hx, hb, hml, hown, hT⟩ (c_X11_toOwner l D cy a i r q tl p0 hRi hRr) (cwV 2 hT (gV t_570 t_571 t_572 t_573 t_2) rfl rfl rfl (by decide +kernel) ⟨Nat.le_of_ble_eq_true rfl, Nat.le_of_ble_eq_true rfl⟩) (rP_v hP hK (va_recv hK hP (ci := 11) (q0 := 0) rfl rfl)) rfl rfl hl.1 rfl (lv_room (Nat.le_of_ble_eq_true rfl)) dX11_paidBack_7 ⟨Nat.le_of_ble_eq_true rfl, Nat.le_of_ble_eq_true rfl⟩) (fun r_2 hr_2 => ?_)
  refine lv_isub hx hb dX11_paidBack_10 ?_
  refine lv_topi (fun v_3 ev_3 => ?_)
  refine lv_aload_n hx hb dX11_paidBack_11 rfl (lv_at hl 0 rfl) ?_
  refine lv_aload_n hx hb dX11_paidBack_12 rfl (lv_at hl 1 rfl) ?_
  have hF_4 := rF hD hS hA
  refine va_calli (va_runV (As := [.ref (a 61)]) (rest := [.int v_3]) ⟨hx, hb, hml, hown, hT⟩ (c_X11_penalty l D cy a i r q tl _ hRi hRr) (cwV 1 hT (gV t_574 t_575 t_576 t_577 t_2) rfl rfl rfl (by decide +kernel) ⟨Nat.le_of_ble_eq_true rfl, Nat.le_of_ble_eq_true rfl⟩) (rM_v hnw hP hK hD (va_recv hK hP (ci := 11) (q0 := 0) rfl rfl)) rfl rfl hl.1 rfl (lv_room (Nat.le_of_ble_eq_true rfl)) dX11_paidBack_13 ⟨Nat.le_of_ble_eq_true rfl, Nat.le_of_ble_eq_true rfl⟩) hS (fun q _ h => hF_4 q h) hF_4 (fun r_5 u_6 t H1 locs ht hvm hr_5 hB hz1 hk1 hS => ?_)
  obtain ⟨r6, rfl⟩ : ∃ z, z = u_6 := ⟨_, rfl⟩
  obtain ⟨hP, hK1, hD1⟩ := hB
  rw [ht] at hP
  have hD := hD1.weaken (fun k q _ h => hF_4 q.1 h)
  obtain ⟨hRr, hE2, hr_5⟩ := hr_5
  have hRr : yRr r6 := hRr
  have hE2 : mEr [27, 28] r r6 := hE2
  have hP : va_P D vwCl (xW cy a i r6 q (a 20) (a 12) ++ (hW cy a i r6 ++ tl)) H1 := hP
  have hD : va_D A (xW cy a i r6 q (a 20) (a 12) ++ (hW cy a i r6 ++ tl)) := hD
  have hEr : mEr [27, 28] _ r6 := Er_tr hEr hE2 (by decide)
  refine lv_iadd hx hb dX11_paidBack_16 ?_
  refine lv_topi (fun v_7 ev_7 => ?_)
  subst hQ
  exact W.iret (v := v_7) hx hb hr (fun t ht hW => ⟨⟨_, r6, rfl, ⟨hRr, hEr, trivial⟩, by rw [ht]; exact hP, va_K.moved hW.alike hK, hD⟩, hS.F ht⟩) hS.2.2 dX11_paidBack_17
set_option maxHeartbeats 4000000 in
set_option maxRecDepth 100000 in
theorem c_X0_greatestRest (l : Launch) (D : va_G) (cy : Nat → ClassId) (a : Nat → Nat) (i : Nat → Int32) (r : Nat → Nat → Int32) (q : Nat → Option Nat) (tl : va_W) (p0 : Int32) (hRi : yRi i) (hRr : yRr r) : Met l yX0_greatestRest (Cond.code yX0_greatestRest cX0_greatestRest 4 (some .int) :: gT) { frames := 1, cells := 0, slots := 0, locals := 24 } (va_Pc [.ref (a 51), .int p0] (rP D cy (xW cy a i r q (a 20) (a 12) ++ tl))) (vp_Si (fun z => 0 ≤ z.toInt ∧ z.toInt ≤ 3)) 0 0 (fun _ => False) := by
  refine Met.ofQ (cc := cX0_greatestRest) (maxL := 4) (ret := (some .int)) (by decide) rfl ?_
  intro p e s m args below meth c s₁ B hml hv Q hQ
  obtain ⟨rfl, hP, hK⟩ := hv
  have hx := B.exec
  have hb := B.bytes
  have hr := B.returns
  have hlocks := B.notSynchronized
  have hT : ∀ w ∈ gT, w.before _ s = true := fun w h => atoms_spec (ws := (Cond.code yX0_greatestRest cX0_greatestRest 4 (some .int) :: gT)) B.pre w (List.mem_cons_of_mem _ h)
  have hown : s.vm.findClass RX0 = some m.cls := findClass_of_methodNamed B.named
  have hl := lv_entry ([.ref (a 51), .int p0]) (n := 4) (Nat.le_of_ble_eq_true rfl)
  rw [lg_entry_eq]
  generalize (lg_sl ([.ref (a 51), .int p0]) ++ List.replicate (4 - (lg_sl ([.ref (a 51), .int p0])).length) Slot.unset).toArray = ls at hl ⊢
  have hl : lv_has ls 4 [(0, .ref (a 51)), (1, .int p0)] := hl
  have hEi : mEi [] i i := Ei_rf
  have hEr : mEr [] r r := Er_rf
  refine lv_iconst (v := 0) hx hb dX0_greatestRest_0 (by decide) ?_
  refine lv_istore_n (lv' := [(2, .int 0), (0, .ref (a 51)), (1, .int p0)]) hx hb dX0_greatestRest_1 rfl hl (by decide) rfl (fun ls hl => ?_)
  refine lv_iconst (v := 1) hx hb dX0_greatestRest_2 (by decide) ?_
  refine lv_istore_n (lv' := [(3, .int 1), (2, .int 0), (0, .ref (a 51)), (1, .int p0)]) hx hb dX0_greatestRest_3 rfl hl (by decide) rfl (fun ls hl => ?_)
  have loop_1 : ∀ (n : Nat) (x1_3 : Int32) (x1_2 : Int32) (ls : Array Slot), (4 - x1_3.toInt).toNat < n → (0 ≤ x1_3.toInt ∧ x1_3.toInt ≤ 4) → (0 ≤ x1_2.toInt ∧ x1_2.toInt ≤ 3) → lv_has ls 4 [(3, .int x1_3), (2, .int x1_2), (0, .ref (a 51)), (1, .int p0)] → W p l e ({ frames := 1, cells := 0, slots := 0, locals := 24 } : Room) s m ([.ref (a 51), .int p0] : List Value).toArray below meth c s.heap [] 0 0 Q (F0 m 4 ls []) := by
    intro n
    induction n with
    | zero =>
      intro x1_3 x1_2 ls hm1 hf1_0 hf1_1 hl
      exact absurd hm1 (by omega)
    | succ n ih1 =>
      intro x1_3 x1_2 ls hm1 hf1_0 hf1_1 hl
      refine lv_iload_n hx hb dX0_greatestRest_4 rfl (lv_at hl 0 rfl) ?_
      refine lv_iload_n hx hb dX0_greatestRest_5 rfl (lv_at hl 3 rfl) ?_
      refine lv_icmp_ge (tgt := 37) hx hb dX0_greatestRest_6 (by decide) (fun c_2 => ?_) (fun c_2 => ?_)
      · have c_2 : p0.toInt ≤ x1_3.toInt := b_le c_2
        refine lv_iload_n hx hb dX0_greatestRest_37 rfl (lv_at hl 1 rfl) ?_
        subst hQ
        exact W.iret (v := x1_2) hx hb hr (fun t ht hW => ⟨_, rfl, (by show 0 ≤ x1_2.toInt ∧ x1_2.toInt ≤ 3; omega), ht⟩) (fun q hq => absurd hq List.not_mem_nil) dX0_greatestRest_38
      · have c_2 : x1_3.toInt < p0.toInt := b_nle c_2
        refine lv_iload_n hx hb dX0_greatestRest_9 rfl (lv_at hl 0 rfl) ?_
        refine lv_iconst (v := 4) hx hb dX0_greatestRest_10 (by decide) ?_
        refine lv_icmp_ge (tgt := 37) hx hb dX0_greatestRest_11 (by decide) (fun c_3 => ?_) (fun c_3 => ?_)
        · have c_3 : 4 ≤ x1_3.toInt := b_le c_3
          refine lv_iload_n hx hb dX0_greatestRest_37 rfl (lv_at hl 1 rfl) ?_
          subst hQ
          exact W.iret (v := x1_2) hx hb hr (fun t ht hW => ⟨_, rfl, (by show 0 ≤ x1_2.toInt ∧ x1_2.toInt ≤ 3; omega), ht⟩) (fun q hq => absurd hq List.not_mem_nil) dX0_greatestRest_38
        · have c_3 : x1_3.toInt < 4 := b_nle c_3
          refine lv_aload_n hx hb dX0_greatestRest_14 rfl (lv_at hl 2 rfl) ?_
          refine va_get (D := D) (ci := 0) (v := .ref (a 53)) (C := RX0) (T := TX0) (N := 2) hx hb hT iX0 hown hK hP 51 rfl rfl 1 (by decide) (hT _ t_578) (fun _ h9 => h9) rfl dX0_greatestRest_15 ?_
          refine lv_iload_n hx hb dX0_greatestRest_18 rfl (lv_at hl 0 rfl) ?_
          refine va_iald hx hb hK hP 53 0 rfl rfl (vp_inI (by omega) (by omega)) dX0_greatestRest_19 ?_
          refine lv_topi (fun v_4 ev_4 => ?_)
          refine lv_aload_n hx hb dX0_greatestRest_20 rfl (lv_at hl 2 rfl) ?_
          refine va_get (D := D) (ci := 0) (v := .ref (a 53)) (C := RX0) (T := TX0) (N := 2) hx hb hT iX0 hown hK hP 51 rfl rfl 1 (by decide) (hT _ t_578) (fun _ h9 => h9) rfl dX0_greatestRest_21 ?_
          refine lv_iload_n hx hb dX0_greatestRest_24 rfl (lv_at hl 1 rfl) ?_
          refine va_iald hx hb hK hP 53 0 rfl rfl (vp_inI (by omega) (by omega)) dX0_greatestRest_25 ?_
          refine lv_topi (fun v_5 ev_5 => ?_)
          refine lv_icmp_le (tgt := 31) hx hb dX0_greatestRest_26 (by decide) (fun c_6 => ?_) (fun c_6 => ?_)
          · have c_6 : v_4.toInt ≤ v_5.toInt := b_le c_6
            obtain ⟨x_7, ex_7⟩ : ∃ y : Int32, y = x1_3 + 1 := ⟨_, rfl⟩
            refine lv_iinc (v := x_7) (lv' := [(3, .int x_7), (2, .int x1_2), (0, .ref (a 51)), (1, .int p0)]) hx hb dX0_greatestRest_31 hl (k := 0) rfl (by rw [ex_7]; rfl) (by decide) rfl (fun ls hl => ?_)
            have hx_7 : x_7.toInt = x1_3.toInt + 1 := by rw [ex_7]; have := b_rg x1_3; exact i_add (a := x1_3.toInt) (b := 1) rfl rfl (by omega) (by omega)
            refine lv_goto (tgt := 4) hx hb dX0_greatestRest_34 (by decide) ?_
            exact ih1 x_7 x1_2 _ (by first | omega | (simp only [Int.toNat]; omega)) (by first | omega | decide) (by first | omega | decide)    (lv_sub hl [0, 1, 2, 3] rfl)
          · have c_6 : v_5.toInt < v_4.toInt := b_nle c_6
            refine lv_iload_n hx hb dX0_greatestRest_29 rfl (lv_at hl 0 rfl) ?_
            refine lv_istore_n (lv' := [(2, .int x1_3), (3, .int x1_3), (0, .ref (a 51)), (1, .int p0)]) hx hb dX0_greatestRest_30 rfl hl (by decide) rfl (fun ls hl => ?_)
            obtain ⟨x_8, ex_8⟩ : ∃ y : Int32, y = x1_3 + 1 := ⟨_, rfl⟩
            refine lv_iinc (v := x_8) (lv' := [(3, .int x_8), (2, .int x1_3), (0, .ref (a 51)), (1, .int p0)]) hx hb dX0_greatestRest_31 hl (k := 1) rfl (by rw [ex_8]; rfl) (by decide) rfl (fun ls hl => ?_)
            have hx_8 : x_8.toInt = x1_3.toInt + 1 := by rw [ex_8]; have := b_rg x1_3; exact i_add (a := x1_3.toInt) (b := 1) rfl rfl (by omega) (by omega)
            refine lv_goto (tgt := 4) hx hb dX0_greatestRest_34 (by decide) ?_
            exact ih1 x_8 x1_3 _ (by first | omega | (simp only [Int.toNat]; omega)) (by first | omega | decide) (by first | omega | decide)    (lv_sub hl [0, 1, 2, 3] rfl)
  exact loop_1 _ 1 0 _ (Nat.lt_succ_self _) (by first | omega | decide) (by first | omega | decide)    hl
set_option maxHeartbeats 4000000 in
set_option maxRecDepth 100000 in
theorem c_X0_firstUnlike (l : Launch) (D : va_G) (cy : Nat → ClassId) (a : Nat → Nat) (i : Nat → Int32) (r : Nat → Nat → Int32) (q : Nat → Option Nat) (tl : va_W) (p0 : Int32) (hRi : yRi i) (hRr : yRr r) : Met l yX0_firstUnlike (Cond.code yX0_firstUnlike cX0_firstUnlike 4 (some .int) :: gT) { frames := 2, cells := 0, slots := 0, locals := 47 } (va_Pc [.ref (a 51), .ref (a 8), .int p0] (rP D cy (xW cy a i r q (a 20) (a 12) ++ tl))) (vp_Si (fun z => True)) 0 0 (fun _ => False) := by
  refine Met.ofQ (cc := cX0_firstUnlike) (maxL := 4) (ret := (some .int)) (by decide) rfl ?_
  intro p e s m args below meth c s₁ B hml hv Q hQ
  obtain ⟨rfl, hP, hK⟩ := hv
  have hx := B.exec
  have hb := B.bytes
  have hr := B.returns
  have hlocks := B.notSynchronized
  have hT : ∀ w ∈ gT, w.before _ s = true := fun w h => atoms_spec (ws := (Cond.code yX0_firstUnlike cX0_firstUnlike 4 (some .int) :: gT)) B.pre w (List.mem_cons_of_mem _ h)
  have hown : s.vm.findClass RX0 = some m.cls := findClass_of_methodNamed B.named
  have hl := lv_entry ([.ref (a 51), .ref (a 8), .int p0]) (n := 4) (Nat.le_of_ble_eq_true rfl)
  rw [lg_entry_eq]
  generalize (lg_sl ([.ref (a 51), .ref (a 8), .int p0]) ++ List.replicate (4 - (lg_sl ([.ref (a 51), .ref (a 8), .int p0])).length) Slot.unset).toArray = ls at hl ⊢
  have hl : lv_has ls 4 [(0, .ref (a 51)), (1, .ref (a 8)), (2, .int p0)] := hl
  have hEi : mEi [] i i := Ei_rf
  have hEr : mEr [] r r := Er_rf
  refine lv_iconst (v := 0) hx hb dX0_firstUnlike_0 (by decide) ?_
  refine lv_istore_n (lv' := [(3, .int 0), (0, .ref (a 51)), (1, .ref (a 8)), (2, .int p0)]) hx hb dX0_firstUnlike_1 rfl hl (by decide) rfl (fun ls hl => ?_)
  have loop_1 : ∀ (n : Nat) (x1_3 : Int32) (ls : Array Slot), (4 - x1_3.toInt).toNat < n → (0 ≤ x1_3.toInt ∧ x1_3.toInt ≤ 4) → lv_has ls 4 [(3, .int x1_3), (0, .ref (a 51)), (1, .ref (a 8)), (2, .int p0)] → W p l e ({ frames := 2, cells := 0, slots := 0, locals := 47 } : Room) s m ([.ref (a 51), .ref (a 8), .int p0] : List Value).toArray below meth c s.heap [] 0 0 Q (F0 m 2 ls []) := by
    intro n
    induction n with
    | zero =>
      intro x1_3 ls hm1 hf1_0 hl
      exact absurd hm1 (by omega)
    | succ n ih1 =>
      intro x1_3 ls hm1 hf1_0 hl
      refine lv_iload_n hx hb dX0_firstUnlike_2 rfl (lv_at hl 0 rfl) ?_
      refine lv_iload_n hx hb dX0_firstUnlike_3 rfl (lv_at hl 3 rfl) ?_
      refine lv_icmp_ge (tgt := 34) hx hb dX0_firstUnlike_4 (by decide) (fun c_2 => ?_) (fun c_2 => ?_)
      · have c_2 : p0.toInt ≤ x1_3.toInt := b_le c_2
        refine lv_iload_n hx hb dX0_firstUnlike_34 rfl (lv_at hl 3 rfl) ?_
        subst hQ
        exact W.iret (v := p0) hx hb hr (fun t ht hW => ⟨_, rfl, trivial, ht⟩) (fun q hq => absurd hq List.not_mem_nil) dX0_firstUnlike_35
      · have c_2 : x1_3.toInt < p0.toInt := b_nle c_2
        refine lv_iload_n hx hb dX0_firstUnlike_7 rfl (lv_at hl 0 rfl) ?_
        refine lv_iconst (v := 4) hx hb dX0_firstUnlike_8 (by decide) ?_
        refine lv_icmp_ge (tgt := 34) hx hb dX0_firstUnlike_9 (by decide) (fun c_3 => ?_) (fun c_3 => ?_)
        · have c_3 : 4 ≤ x1_3.toInt := b_le c_3
          refine lv_iload_n hx hb dX0_firstUnlike_34 rfl (lv_at hl 3 rfl) ?_
          subst hQ
          exact W.iret (v := p0) hx hb hr (fun t ht hW => ⟨_, rfl, trivial, ht⟩) (fun q hq => absurd hq List.not_mem_nil) dX0_firstUnlike_35
        · have c_3 : x1_3.toInt < 4 := b_nle c_3
          refine lv_aload_n hx hb dX0_firstUnlike_12 rfl (lv_at hl 2 rfl) ?_
          refine lv_iload_n hx hb dX0_firstUnlike_13 rfl (lv_at hl 0 rfl) ?_
          refine vp_callSi (W.runV (As := [.int x1_3]) (rest := []) ⟨hx, hb, hml, hown, hT⟩ (c_X9_numberAt l D cy a i r q tl x1_3 hRi hRr (by first | omega | decide)) (cwV 1 hT (gV t_579 t_580 t_581 t_582 t_338) rfl rfl rfl (by decide +kernel) ⟨Nat.le_of_ble_eq_true rfl, Nat.le_of_ble_eq_true rfl⟩) (rP_v hP hK (va_recv hK hP (ci := 9) (q0 := 8) rfl rfl)) rfl rfl hl.1 rfl (lv_room (Nat.le_of_ble_eq_true rfl)) dX0_firstUnlike_14 ⟨Nat.le_of_ble_eq_true rfl, Nat.le_of_ble_eq_true rfl⟩) (fun r_4 hr_4 => ?_)
          refine lv_aload_n hx hb dX0_firstUnlike_17 rfl (lv_at hl 1 rfl) ?_
          refine va_get (D := D) (ci := 0) (v := .ref (a 52)) (C := RX0) (T := TX0) (N := 2) hx hb hT iX0 hown hK hP 51 rfl rfl 0 (by decide) (hT _ t_583) (fun _ h9 => h9) rfl dX0_firstUnlike_18 ?_
          refine lv_iload_n hx hb dX0_firstUnlike_21 rfl (lv_at hl 0 rfl) ?_
          refine va_iald hx hb hK hP 52 0 rfl rfl (vp_inI (by omega) (by omega)) dX0_firstUnlike_22 ?_
          refine lv_topi (fun v_5 ev_5 => ?_)
          refine lv_icmp_eq (tgt := 28) hx hb dX0_firstUnlike_23 (by decide) (fun c_6 => ?_) (fun c_6 => ?_)
          · have c_6 : r_4.toInt = v_5.toInt := b_eq c_6
            obtain ⟨x_7, ex_7⟩ : ∃ y : Int32, y = x1_3 + 1 := ⟨_, rfl⟩
            refine lv_iinc (v := x_7) (lv' := [(3, .int x_7), (0, .ref (a 51)), (1, .ref (a 8)), (2, .int p0)]) hx hb dX0_firstUnlike_28 hl (k := 0) rfl (by rw [ex_7]; rfl) (by decide) rfl (fun ls hl => ?_)
            have hx_7 : x_7.toInt = x1_3.toInt + 1 := by rw [ex_7]; have := b_rg x1_3; exact i_add (a := x1_3.toInt) (b := 1) rfl rfl (by omega) (by omega)
            refine lv_goto (tgt := 2) hx hb dX0_firstUnlike_31 (by decide) ?_
            exact ih1 x_7 _ (by first | omega | (simp only [Int.toNat]; omega)) (by first | omega | decide)    (lv_sub hl [0, 1, 2, 3] rfl)
          · have c_6 : r_4.toInt ≠ v_5.toInt := b_ne c_6
            refine lv_iload_n hx hb dX0_firstUnlike_26 rfl (lv_at hl 0 rfl) ?_
            subst hQ
            exact W.iret (v := x1_3) hx hb hr (fun t ht hW => ⟨_, rfl, trivial, ht⟩) (fun q hq => absurd hq List.not_mem_nil) dX0_firstUnlike_27
  exact loop_1 _ 0 _ (Nat.lt_succ_self _) (by first | omega | decide)    hl
set_option maxHeartbeats 4000000 in
set_option maxRecDepth 100000 in
theorem c_X0_divide (l : Launch) (D : va_G) (cy : Nat → ClassId) (a : Nat → Nat) (i : Nat → Int32) (r : Nat → Nat → Int32) (q : Nat → Option Nat) (tl : va_W) (p0 : Int32) (sz : Nat) (hRi : yRi i) (hRr : yRr r) : Met l yX0_divide (Cond.code yX0_divide cX0_divide 9 none :: gT) { frames := 2, cells := 0, slots := 0, locals := 47 } (va_Pc [.ref (a 51), .int p0, .ref (a 61)] (rQ D cy (xW cy a i r q (a 20) (a 12) ++ (hW cy a i r ++ tl)) sz)) (va_Qv (fun u : Nat → Nat → Int32 => yRr u ∧ mEr [52, 53] r u ∧ True) (fun (u : Nat → Nat → Int32) t => va_P D vwCl (xW cy a i u q (a 20) (a 12) ++ (hW cy a i u ++ tl)) t.heap ∧ va_K D vwCl (vT cy) t ∧ va_D (va_A (xW cy a i r q (a 20) (a 12) ++ (hW cy a i r ++ tl)) sz) (xW cy a i u q (a 20) (a 12) ++ (hW cy a i u ++ tl))) (va_A (xW cy a i r q (a 20) (a 12) ++ (hW cy a i r ++ tl)) sz)) 0 0 (va_A (xW cy a i r q (a 20) (a 12) ++ (hW cy a i r ++ tl)) sz) := by
  refine Met.ofQ (cc := cX0_divide) (maxL := 9) (ret := none) (by decide) rfl ?_
  intro p e s m args below meth c s₁ B hml hv Q hQ
  obtain ⟨rfl, hsz, hP, hK, hD0⟩ := hv
  have hx := B.exec
  have hb := B.bytes
  have hr := B.returns
  have hlocks := B.notSynchronized
  have hT : ∀ w ∈ gT, w.before _ s = true := fun w h => atoms_spec (ws := (Cond.code yX0_divide cX0_divide 9 none :: gT)) B.pre w (List.mem_cons_of_mem _ h)
  have hown : s.vm.findClass RX0 = some m.cls := findClass_of_methodNamed B.named
  subst hsz
  have hD := hD0.self (sz := s.heap.size)
  generalize hAe : va_A (xW cy a i r q (a 20) (a 12) ++ (hW cy a i r ++ tl)) s.heap.size = A at hD hQ
  have hA : ∀ q : Nat, s.heap.size ≤ q → A q := fun q h => by rw [← hAe]; exact Or.inr h
  have hS : va_S A s.heap s.heap [] := va_S.rf
  have hl := lv_entry ([.ref (a 51), .int p0, .ref (a 61)]) (n := 9) (Nat.le_of_ble_eq_true rfl)
  rw [lg_entry_eq]
  generalize (lg_sl ([.ref (a 51), .int p0, .ref (a 61)]) ++ List.replicate (9 - (lg_sl ([.ref (a 51), .int p0, .ref (a 61)])).length) Slot.unset).toArray = ls at hl ⊢
  have hl : lv_has ls 9 [(0, .ref (a 51)), (1, .int p0), (2, .ref (a 61))] := hl
  have hEi : mEi [] i i := Ei_rf
  have hEr : mEr [52, 53] r r := Er_rf
  refine lv_iconst (v := 0) hx hb dX0_divide_0 (by decide) ?_
  refine lv_istore_n (lv' := [(3, .int 0), (0, .ref (a 51)), (1, .int p0), (2, .ref (a 61))]) hx hb dX0_divide_1 rfl hl (by decide) rfl (fun ls hl => ?_)
  refine lv_iconst (v := 0) hx hb dX0_divide_2 (by decide) ?_
  refine lv_istore (lv' := [(4, .int 0), (3, .int 0), (0, .ref (a 51)), (1, .int p0), (2, .ref (a 61))]) hx hb dX0_divide_3 hl (by decide) rfl (fun ls hl => ?_)
  have loop_1 : ∀ (n : Nat) (x1_4 : Int32) (x1_3 : Int32) (H : Heap) (locs : List Loc) (ls : Array Slot), (4 - x1_4.toInt).toNat < n → (0 ≤ x1_4.toInt ∧ x1_4.toInt ≤ 4) → va_P D vwCl (xW cy a i r q (a 20) (a 12) ++ (hW cy a i r ++ tl)) H → va_D A (xW cy a i r q (a 20) (a 12) ++ (hW cy a i r ++ tl)) → va_S A s.heap H locs → lv_has ls 9 [(4, .int x1_4), (3, .int x1_3), (0, .ref (a 51)), (1, .int p0), (2, .ref (a 61))] → W p l e ({ frames := 2, cells := 0, slots := 0, locals := 47 } : Room) s m ([.ref (a 51), .int p0, .ref (a 61)] : List Value).toArray below meth c H locs 0 0 Q (F0 m 5 ls []) := by
    intro n
    induction n with
    | zero =>
      intro x1_4 x1_3 H locs ls hm1 hf1_0 hP hD hS hl
      exact absurd hm1 (by omega)
    | succ n ih1 =>
      intro x1_4 x1_3 H locs ls hm1 hf1_0 hP hD hS hl
      refine lv_iload hx hb dX0_divide_5 (lv_at hl 0 rfl) ?_
      refine lv_aload_n hx hb dX0_divide_7 rfl (lv_at hl 4 rfl) ?_
      refine va_get (D := D) (ci := 3) (v := .int (i 18)) (C := RX3) (T := TX3) (N := 12) hx hb hT iX3 hown hK hP 61 rfl rfl 1 (by decide) (hT _ t_584) (fun _ h9 => h9) rfl dX0_divide_8 ?_
      have hg_2 : 1 ≤ (i 18).toInt ∧ (i 18).toInt ≤ 4 := hRi 18
      refine lv_icmp_ge (tgt := 30) hx hb dX0_divide_11 (by decide) (fun c_3 => ?_) (fun c_3 => ?_)
      · have c_3 : (i 18).toInt ≤ x1_4.toInt := b_le c_3
        refine lv_iload_n hx hb dX0_divide_30 rfl (lv_at hl 1 rfl) ?_
        refine lv_if_ne (tgt := 38) hx hb dX0_divide_31 (by decide) (fun c_4 => ?_) (fun c_4 => ?_)
        · have c_4 : x1_3.toInt ≠ 0 := b_ne c_4
          refine lv_iconst (v := 0) hx hb dX0_divide_38 (by decide) ?_
          refine lv_istore (lv' := [(4, .int 0), (3, .int x1_3), (0, .ref (a 51)), (1, .int p0), (2, .ref (a 61))]) hx hb dX0_divide_39 hl (by decide) rfl (fun ls hl => ?_)
          refine lv_iload hx hb dX0_divide_41 (lv_at hl 0 rfl) ?_
          refine lv_if_eq (tgt := 53) hx hb dX0_divide_43 (by decide) (fun c_5 => ?_) (fun c_5 => absurd (by decide) c_5)
          refine lv_iload_n hx hb dX0_divide_53 rfl (lv_at hl 1 rfl) ?_
          refine lv_istore (lv' := [(5, .int x1_3), (4, .int 0), (3, .int x1_3), (0, .ref (a 51)), (1, .int p0), (2, .ref (a 61))]) hx hb dX0_divide_54 hl (by decide) rfl (fun ls hl => ?_)
          refine lv_iload hx hb dX0_divide_56 (lv_at hl 0 rfl) ?_
          refine lv_if_gt (tgt := 62) hx hb dX0_divide_58 (by decide) (fun c_6 => ?_) (fun c_6 => ?_)
          · have c_6 : 0 < x1_3.toInt := b_lt c_6
            refine lv_iload_n hx hb dX0_divide_62 rfl (lv_at hl 4 rfl) ?_
            refine lv_istore (lv' := [(6, .int p0), (5, .int x1_3), (4, .int 0), (3, .int x1_3), (0, .ref (a 51)), (1, .int p0), (2, .ref (a 61))]) hx hb dX0_divide_63 hl (by decide) rfl (fun ls hl => ?_)
            refine lv_iconst (v := 0) hx hb dX0_divide_65 (by decide) ?_
            refine lv_istore (lv' := [(7, .int 0), (6, .int p0), (5, .int x1_3), (4, .int 0), (3, .int x1_3), (0, .ref (a 51)), (1, .int p0), (2, .ref (a 61))]) hx hb dX0_divide_66 hl (by decide) rfl (fun ls hl => ?_)
            have loop_7 : ∀ (n : Nat) (x7_7 : Int32) (x7_6 : Int32) (r7 : Nat → Nat → Int32) (H : Heap) (locs : List Loc) (ls : Array Slot), (4 - x7_7.toInt).toNat < n → (0 ≤ x7_7.toInt ∧ x7_7.toInt ≤ 4) → yRr r7 → mEr [52, 53] r r7 → va_P D vwCl (xW cy a i r7 q (a 20) (a 12) ++ (hW cy a i r7 ++ tl)) H → va_D A (xW cy a i r7 q (a 20) (a 12) ++ (hW cy a i r7 ++ tl)) → va_S A s.heap H locs → lv_has ls 9 [(7, .int x7_7), (6, .int x7_6), (5, .int x1_3), (4, .int 0), (3, .int x1_3), (0, .ref (a 51)), (1, .int p0), (2, .ref (a 61))] → W p l e ({ frames := 2, cells := 0, slots := 0, locals := 47 } : Room) s m ([.ref (a 51), .int p0, .ref (a 61)] : List Value).toArray below meth c H locs 0 0 Q (F0 m 68 ls []) := by
              intro n
              induction n with
              | zero =>
                intro x7_7 x7_6 r7 H locs ls hm7 hf7_0 hRr hEr hP hD hS hl
                exact absurd hm7 (by omega)
              | succ n ih7 =>
                intro x7_7 x7_6 r7 H locs ls hm7 hf7_0 hRr hEr hP hD hS hl
                refine lv_iload hx hb dX0_divide_68 (lv_at hl 0 rfl) ?_
                refine lv_aload_n hx hb dX0_divide_70 rfl (lv_at hl 7 rfl) ?_
                refine va_get (D := D) (ci := 3) (v := .int (i 18)) (C := RX3) (T := TX3) (N := 12) hx hb hT iX3 hown hK hP 61 rfl rfl 1 (by decide) (hT _ t_584) (fun _ h9 => h9) rfl dX0_divide_71 ?_
                refine lv_icmp_ge (tgt := 139) hx hb dX0_divide_74 (by decide) (fun c_8 => ?_) (fun c_8 => ?_)
                · have c_8 : (i 18).toInt ≤ x7_7.toInt := b_le c_8
                  refine lv_iconst (v := 0) hx hb dX0_divide_139 (by decide) ?_
                  refine lv_istore (lv' := [(7, .int 0), (6, .int x7_6), (5, .int x1_3), (4, .int 0), (3, .int x1_3), (0, .ref (a 51)), (1, .int p0), (2, .ref (a 61))]) hx hb dX0_divide_140 hl (by decide) rfl (fun ls hl => ?_)
                  have loop_9 : ∀ (n : Nat) (x9_7 : Int32) (r9 : Nat → Nat → Int32) (H : Heap) (locs : List Loc) (ls : Array Slot), (4 - x9_7.toInt).toNat < n → (0 ≤ x9_7.toInt ∧ x9_7.toInt ≤ 4) → yRr r9 → mEr [52, 53] r r9 → va_P D vwCl (xW cy a i r9 q (a 20) (a 12) ++ (hW cy a i r9 ++ tl)) H → va_D A (xW cy a i r9 q (a 20) (a 12) ++ (hW cy a i r9 ++ tl)) → va_S A s.heap H locs → lv_has ls 9 [(7, .int x9_7), (6, .int x7_6), (5, .int x1_3), (4, .int 0), (3, .int x1_3), (0, .ref (a 51)), (1, .int p0), (2, .ref (a 61))] → W p l e ({ frames := 2, cells := 0, slots := 0, locals := 47 } : Room) s m ([.ref (a 51), .int p0, .ref (a 61)] : List Value).toArray below meth c H locs 0 0 Q (F0 m 142 ls []) := by
                    intro n
                    induction n with
                    | zero =>
                      intro x9_7 r9 H locs ls hm9 hf9_0 hRr hEr hP hD hS hl
                      exact absurd hm9 (by omega)
                    | succ n ih9 =>
                      intro x9_7 r9 H locs ls hm9 hf9_0 hRr hEr hP hD hS hl
                      refine lv_iload hx hb dX0_divide_142 (lv_at hl 0 rfl) ?_
                      refine lv_iload hx hb dX0_divide_144 (lv_at hl 1 rfl) ?_
                      refine lv_icmp_ge (tgt := 193) hx hb dX0_divide_146 (by decide) (fun c_10 => ?_) (fun c_10 => ?_)
                      · have c_10 : x7_6.toInt ≤ x9_7.toInt := b_le c_10
                        subst hQ
                        exact W.vret hx hb hr (fun t ht hW => ⟨⟨r9, rfl, ⟨hRr, hEr, trivial⟩, by rw [ht]; exact hP, va_K.moved hW.alike hK, hD⟩, hS.F ht⟩) hS.2.2 dX0_divide_193
                      · have c_10 : x9_7.toInt < x7_6.toInt := b_nle c_10
                        refine lv_iload hx hb dX0_divide_149 (lv_at hl 0 rfl) ?_
                        refine lv_aload_n hx hb dX0_divide_151 rfl (lv_at hl 7 rfl) ?_
                        refine va_get (D := D) (ci := 3) (v := .int (i 18)) (C := RX3) (T := TX3) (N := 12) hx hb hT iX3 hown hK hP 61 rfl rfl 1 (by decide) (hT _ t_584) (fun _ h9 => h9) rfl dX0_divide_152 ?_
                        refine lv_icmp_ge (tgt := 193) hx hb dX0_divide_155 (by decide) (fun c_11 => ?_) (fun c_11 => ?_)
                        · have c_11 : (i 18).toInt ≤ x9_7.toInt := b_le c_11
                          subst hQ
                          exact W.vret hx hb hr (fun t ht hW => ⟨⟨r9, rfl, ⟨hRr, hEr, trivial⟩, by rw [ht]; exact hP, va_K.moved hW.alike hK, hD⟩, hS.F ht⟩) hS.2.2 dX0_divide_193
                        · have c_11 : x9_7.toInt < (i 18).toInt := b_nle c_11
                          refine lv_aload_n hx hb dX0_divide_158 rfl (lv_at hl 5 rfl) ?_
                          refine lv_aload_n hx hb dX0_divide_159 rfl (lv_at hl 7 rfl) ?_
                          refine va_get (D := D) (ci := 3) (v := .int (i 18)) (C := RX3) (T := TX3) (N := 12) hx hb hT iX3 hown hK hP 61 rfl rfl 1 (by decide) (hT _ t_584) (fun _ h9 => h9) rfl dX0_divide_160 ?_
                          refine vp_callSi (W.runV (As := [.int (i 18)]) (rest := []) ⟨hx, hb, hml, hown, hT⟩ (c_X0_greatestRest l D cy a i r9 q (hW cy a i r9 ++ tl) (i 18) hRi hRr) (cwV 1 hT (gV t_585 t_587 t_588 t_589 t_586) rfl rfl rfl (by decide +kernel) ⟨Nat.le_of_ble_eq_true rfl, Nat.le_of_ble_eq_true rfl⟩) (rP_v hP hK (va_recv hK hP (ci := 0) (q0 := 51) rfl rfl)) rfl rfl hl.1 rfl (lv_room (Nat.le_of_ble_eq_true rfl)) dX0_divide_163 ⟨Nat.le_of_ble_eq_true rfl, Nat.le_of_ble_eq_true rfl⟩) (fun r_12 hr_12 => ?_)
                          have hr_12 : 0 ≤ r_12.toInt ∧ r_12.toInt ≤ 3 := hr_12
                          refine lv_istore (lv' := [(8, .int r_12), (7, .int x9_7), (6, .int x7_6), (5, .int x1_3), (4, .int 0), (3, .int x1_3), (0, .ref (a 51)), (1, .int p0), (2, .ref (a 61))]) hx hb dX0_divide_166 hl (by decide) rfl (fun ls hl => ?_)
                          refine lv_aload_n hx hb dX0_divide_168 rfl (lv_at hl 6 rfl) ?_
                          refine va_get (D := D) (ci := 0) (v := .ref (a 52)) (C := RX0) (T := TX0) (N := 2) hx hb hT iX0 hown hK hP 51 rfl rfl 0 (by decide) (hT _ t_583) (fun _ h9 => h9) rfl dX0_divide_169 ?_
                          refine lv_iload hx hb dX0_divide_172 (lv_at hl 0 rfl) ?_
                          refine lv_dup2_11 hx hb dX0_divide_174 rfl rfl ?_
                          refine va_iald hx hb hK hP 52 0 rfl rfl (vp_inI (by omega) (by omega)) dX0_divide_175 ?_
                          refine lv_topi (fun v_13 ev_13 => ?_)
                          refine lv_iconst (v := 1) hx hb dX0_divide_176 (by decide) ?_
                          refine lv_iadd hx hb dX0_divide_177 ?_
                          refine lv_topi (fun v_14 ev_14 => ?_)
                          refine va_iast hx hb hK hP hD hS 52 0 rfl rfl (vp_inI (by omega) (by omega)) dX0_divide_178 (fun H locs hP hD hS => ?_)
                          rw [yS52] at hP hD
                          have hRr : yRr (va_up r9 52 (upd (r9 52) r_12.toNatClampNeg v_14)) := Yr_upd hRr 52 (r_12.toNatClampNeg) v_14 (b_rg _)
                          have hEr : mEr [52, 53] _ (va_up r9 52 (upd (r9 52) r_12.toNatClampNeg v_14)) := Er_up hEr 52 _ (by decide)
                          refine lv_aload_n hx hb dX0_divide_179 rfl (lv_at hl 6 rfl) ?_
                          refine va_get (D := D) (ci := 0) (v := .ref (a 53)) (C := RX0) (T := TX0) (N := 2) hx hb hT iX0 hown hK hP 51 rfl rfl 1 (by decide) (hT _ t_578) (fun _ h9 => h9) rfl dX0_divide_180 ?_
                          refine lv_iload hx hb dX0_divide_183 (lv_at hl 0 rfl) ?_
                          refine lv_iconst (v := (-1)) hx hb dX0_divide_185 (by decide) ?_
                          refine va_iast hx hb hK hP hD hS 53 0 rfl rfl (vp_inI (by omega) (by omega)) dX0_divide_186 (fun H locs hP hD hS => ?_)
                          rw [yS53] at hP hD
                          have hRr : yRr (va_up (va_up r9 52 (upd (r9 52) r_12.toNatClampNeg v_14)) 53 (upd (r9 53) r_12.toNatClampNeg (-1))) := Yr_upd hRr 53 (r_12.toNatClampNeg) (-1) (b_rg _)
                          have hEr : mEr [52, 53] _ (va_up (va_up r9 52 (upd (r9 52) r_12.toNatClampNeg v_14)) 53 (upd (r9 53) r_12.toNatClampNeg (-1))) := Er_up hEr 53 _ (by decide)
                          obtain ⟨x_15, ex_15⟩ : ∃ y : Int32, y = x9_7 + 1 := ⟨_, rfl⟩
                          refine lv_iinc (v := x_15) (lv' := [(7, .int x_15), (8, .int r_12), (6, .int x7_6), (5, .int x1_3), (4, .int 0), (3, .int x1_3), (0, .ref (a 51)), (1, .int p0), (2, .ref (a 61))]) hx hb dX0_divide_187 hl (k := 1) rfl (by rw [ex_15]; rfl) (by decide) rfl (fun ls hl => ?_)
                          have hx_15 : x_15.toInt = x9_7.toInt + 1 := by rw [ex_15]; have := b_rg x9_7; exact i_add (a := x9_7.toInt) (b := 1) rfl rfl (by omega) (by omega)
                          refine lv_goto (tgt := 142) hx hb dX0_divide_190 (by decide) ?_
                          exact ih9 x_15 (va_up (va_up r9 52 (upd (r9 52) r_12.toNatClampNeg v_14)) 53 (upd (r9 53) r_12.toNatClampNeg (-1))) _ _ _ (by first | omega | (simp only [Int.toNat]; omega)) (by first | omega | decide) hRr hEr  hP hD hS (lv_sub hl [0, 2, 3, 4, 5, 6, 7, 8] rfl)
                  exact loop_9 _ 0 r7 _ _ _ (Nat.lt_succ_self _) (by first | omega | decide) hRr hEr  hP hD hS hl
                · have c_8 : x7_7.toInt < (i 18).toInt := b_nle c_8
                  refine lv_iload_n hx hb dX0_divide_77 rfl (lv_at hl 6 rfl) ?_
                  refine lv_iload hx hb dX0_divide_78 (lv_at hl 3 rfl) ?_
                  refine lv_if_eq (tgt := 87) hx hb dX0_divide_80 (by decide) (fun c_16 => ?_) (fun c_16 => absurd (by decide) c_16)
                  refine lv_aload_n hx hb dX0_divide_87 rfl (lv_at hl 7 rfl) ?_
                  refine va_get (D := D) (ci := 3) (v := .ref (a 62)) (C := RX3) (T := TX3) (N := 12) hx hb hT iX3 hown hK hP 61 rfl rfl 6 (by decide) (hT _ t_590) (fun _ h9 => h9) rfl dX0_divide_88 ?_
                  refine lv_iload hx hb dX0_divide_91 (lv_at hl 0 rfl) ?_
                  refine va_iald hx hb hK hP 62 0 rfl rfl (vp_inI (by omega) (by omega)) dX0_divide_93 ?_
                  refine lv_topi (fun v_17 ev_17 => ?_)
                  have hgv_17 : 0 ≤ v_17.toInt ∧ v_17.toInt ≤ 99 := by rw [ev_17]; exact hRr 62 _
                  refine lv_imul hx hb dX0_divide_94 ?_
                  refine lv_topi (fun v_18 ev_18 => ?_)
                  refine lv_istore (lv' := [(8, .int v_18), (7, .int x7_7), (6, .int x7_6), (5, .int x1_3), (4, .int 0), (3, .int x1_3), (0, .ref (a 51)), (1, .int p0), (2, .ref (a 61))]) hx hb dX0_divide_95 hl (by decide) rfl (fun ls hl => ?_)
                  refine lv_aload_n hx hb dX0_divide_97 rfl (lv_at hl 6 rfl) ?_
                  refine va_get (D := D) (ci := 0) (v := .ref (a 52)) (C := RX0) (T := TX0) (N := 2) hx hb hT iX0 hown hK hP 51 rfl rfl 0 (by decide) (hT _ t_583) (fun _ h9 => h9) rfl dX0_divide_98 ?_
                  refine lv_iload hx hb dX0_divide_101 (lv_at hl 1 rfl) ?_
                  refine lv_iload hx hb dX0_divide_103 (lv_at hl 0 rfl) ?_
                  refine lv_iload hx hb dX0_divide_105 (lv_at hl 3 rfl) ?_
                  refine lv_idiv hx hb dX0_divide_107 (nz (by omega)) ?_
                  refine lv_topi (fun v_19 ev_19 => ?_)
                  refine va_iast hx hb hK hP hD hS 52 0 rfl rfl (vp_inI (by omega) (by omega)) dX0_divide_108 (fun H locs hP hD hS => ?_)
                  rw [yS52] at hP hD
                  have hRr : yRr (va_up r7 52 (upd (r7 52) x7_7.toNatClampNeg v_19)) := Yr_upd hRr 52 (x7_7.toNatClampNeg) v_19 (b_rg _)
                  have hEr : mEr [52, 53] _ (va_up r7 52 (upd (r7 52) x7_7.toNatClampNeg v_19)) := Er_up hEr 52 _ (by decide)
                  refine lv_aload_n hx hb dX0_divide_109 rfl (lv_at hl 6 rfl) ?_
                  refine va_get (D := D) (ci := 0) (v := .ref (a 53)) (C := RX0) (T := TX0) (N := 2) hx hb hT iX0 hown hK hP 51 rfl rfl 1 (by decide) (hT _ t_578) (fun _ h9 => h9) rfl dX0_divide_110 ?_
                  refine lv_iload hx hb dX0_divide_113 (lv_at hl 1 rfl) ?_
                  refine lv_iload hx hb dX0_divide_115 (lv_at hl 0 rfl) ?_
                  refine lv_iload hx hb dX0_divide_117 (lv_at hl 3 rfl) ?_
                  refine lv_irem hx hb dX0_divide_119 (nz (by omega)) ?_
                  refine lv_topi (fun v_20 ev_20 => ?_)
                  refine va_iast hx hb hK hP hD hS 53 0 rfl rfl (vp_inI (by omega) (by omega)) dX0_divide_120 (fun H locs hP hD hS => ?_)
                  rw [yS53] at hP hD
                  have hRr : yRr (va_up (va_up r7 52 (upd (r7 52) x7_7.toNatClampNeg v_19)) 53 (upd (r7 53) x7_7.toNatClampNeg v_20)) := Yr_upd hRr 53 (x7_7.toNatClampNeg) v_20 (b_rg _)
                  have hEr : mEr [52, 53] _ (va_up (va_up r7 52 (upd (r7 52) x7_7.toNatClampNeg v_19)) 53 (upd (r7 53) x7_7.toNatClampNeg v_20)) := Er_up hEr 53 _ (by decide)
                  refine lv_iload hx hb dX0_divide_121 (lv_at hl 2 rfl) ?_
                  refine lv_aload_n hx hb dX0_divide_123 rfl (lv_at hl 6 rfl) ?_
                  refine va_get (D := D) (ci := 0) (v := .ref (a 52)) (C := RX0) (T := TX0) (N := 2) hx hb hT iX0 hown hK hP 51 rfl rfl 0 (by decide) (hT _ t_583) (fun _ h9 => h9) rfl dX0_divide_124 ?_
                  refine lv_iload hx hb dX0_divide_127 (lv_at hl 1 rfl) ?_
                  refine va_iald hx hb hK hP 52 0 rfl rfl (vp_inI (by omega) (by omega)) dX0_divide_129 ?_
                  refine lv_topi (fun v_21 ev_21 => ?_)
                  refine lv_isub hx hb dX0_divide_130 ?_
                  refine lv_topi (fun v_22 ev_22 => ?_)
                  refine lv_istore (lv' := [(6, .int v_22), (8, .int v_18), (7, .int x7_7), (5, .int x1_3), (4, .int 0), (3, .int x1_3), (0, .ref (a 51)), (1, .int p0), (2, .ref (a 61))]) hx hb dX0_divide_131 hl (by decide) rfl (fun ls hl => ?_)
                  obtain ⟨x_23, ex_23⟩ : ∃ y : Int32, y = x7_7 + 1 := ⟨_, rfl⟩
                  refine lv_iinc (v := x_23) (lv' := [(7, .int x_23), (6, .int v_22), (8, .int v_18), (5, .int x1_3), (4, .int 0), (3, .int x1_3), (0, .ref (a 51)), (1, .int p0), (2, .ref (a 61))]) hx hb dX0_divide_133 hl (k := 2) rfl (by rw [ex_23]; rfl) (by decide) rfl (fun ls hl => ?_)
                  have hx_23 : x_23.toInt = x7_7.toInt + 1 := by rw [ex_23]; have := b_rg x7_7; exact i_add (a := x7_7.toInt) (b := 1) rfl rfl (by omega) (by omega)
                  refine lv_goto (tgt := 68) hx hb dX0_divide_136 (by decide) ?_
                  exact ih7 x_23 v_22 (va_up (va_up r7 52 (upd (r7 52) x7_7.toNatClampNeg v_19)) 53 (upd (r7 53) x7_7.toNatClampNeg v_20)) _ _ _ (by first | omega | (simp only [Int.toNat]; omega)) (by first | omega | decide) hRr hEr  hP hD hS (lv_sub hl [0, 1, 3, 4, 5, 6, 7, 8] rfl)
            exact loop_7 _ 0 p0 r _ _ _ (Nat.lt_succ_self _) (by first | omega | decide) hRr hEr  hP hD hS hl
          · have c_6 : x1_3.toInt ≤ 0 := b_nlt c_6
            subst hQ
            exact W.vret hx hb hr (fun t ht hW => ⟨⟨r, rfl, ⟨hRr, hEr, trivial⟩, by rw [ht]; exact hP, va_K.moved hW.alike hK, hD⟩, hS.F ht⟩) hS.2.2 dX0_divide_61
        · have c_4 : x1_3.toInt = 0 := b_nne c_4
          refine lv_iconst (v := 1) hx hb dX0_divide_34 (by decide) ?_
          refine lv_goto (tgt := 39) hx hb dX0_divide_35 (by decide) ?_
          refine lv_istore (lv' := [(4, .int 1), (3, .int x1_3), (0, .ref (a 51)), (1, .int p0), (2, .ref (a 61))]) hx hb dX0_divide_39 hl (by decide) rfl (fun ls hl => ?_)
          refine lv_iload hx hb dX0_divide_41 (lv_at hl 0 rfl) ?_
          refine lv_if_eq (tgt := 53) hx hb dX0_divide_43 (by decide) (fun c_24 => absurd c_24 (by decide)) (fun c_24 => ?_)
          refine lv_aload_n hx hb dX0_divide_46 rfl (lv_at hl 4 rfl) ?_
          refine va_get (D := D) (ci := 3) (v := .int (i 18)) (C := RX3) (T := TX3) (N := 12) hx hb hT iX3 hown hK hP 61 rfl rfl 1 (by decide) (hT _ t_584) (fun _ h9 => h9) rfl dX0_divide_47 ?_
          refine lv_goto (tgt := 54) hx hb dX0_divide_50 (by decide) ?_
          refine lv_istore (lv' := [(5, .int (i 18)), (4, .int 1), (3, .int x1_3), (0, .ref (a 51)), (1, .int p0), (2, .ref (a 61))]) hx hb dX0_divide_54 hl (by decide) rfl (fun ls hl => ?_)
          refine lv_iload hx hb dX0_divide_56 (lv_at hl 0 rfl) ?_
          refine lv_if_gt (tgt := 62) hx hb dX0_divide_58 (by decide) (fun c_25 => ?_) (fun c_25 => by have c_25 : (i 18).toInt ≤ 0 := b_nlt c_25; omega)
          have c_25 : 0 < (i 18).toInt := b_lt c_25
          refine lv_iload_n hx hb dX0_divide_62 rfl (lv_at hl 4 rfl) ?_
          refine lv_istore (lv' := [(6, .int p0), (5, .int (i 18)), (4, .int 1), (3, .int x1_3), (0, .ref (a 51)), (1, .int p0), (2, .ref (a 61))]) hx hb dX0_divide_63 hl (by decide) rfl (fun ls hl => ?_)
          refine lv_iconst (v := 0) hx hb dX0_divide_65 (by decide) ?_
          refine lv_istore (lv' := [(7, .int 0), (6, .int p0), (5, .int (i 18)), (4, .int 1), (3, .int x1_3), (0, .ref (a 51)), (1, .int p0), (2, .ref (a 61))]) hx hb dX0_divide_66 hl (by decide) rfl (fun ls hl => ?_)
          have loop_26 : ∀ (n : Nat) (x26_7 : Int32) (x26_6 : Int32) (r26 : Nat → Nat → Int32) (H : Heap) (locs : List Loc) (ls : Array Slot), (4 - x26_7.toInt).toNat < n → (0 ≤ x26_7.toInt ∧ x26_7.toInt ≤ 4) → yRr r26 → mEr [52, 53] r r26 → va_P D vwCl (xW cy a i r26 q (a 20) (a 12) ++ (hW cy a i r26 ++ tl)) H → va_D A (xW cy a i r26 q (a 20) (a 12) ++ (hW cy a i r26 ++ tl)) → va_S A s.heap H locs → lv_has ls 9 [(7, .int x26_7), (6, .int x26_6), (5, .int (i 18)), (4, .int 1), (3, .int x1_3), (0, .ref (a 51)), (1, .int p0), (2, .ref (a 61))] → W p l e ({ frames := 2, cells := 0, slots := 0, locals := 47 } : Room) s m ([.ref (a 51), .int p0, .ref (a 61)] : List Value).toArray below meth c H locs 0 0 Q (F0 m 68 ls []) := by
            intro n
            induction n with
            | zero =>
              intro x26_7 x26_6 r26 H locs ls hm26 hf26_0 hRr hEr hP hD hS hl
              exact absurd hm26 (by omega)
            | succ n ih26 =>
              intro x26_7 x26_6 r26 H locs ls hm26 hf26_0 hRr hEr hP hD hS hl
              refine lv_iload hx hb dX0_divide_68 (lv_at hl 0 rfl) ?_
              refine lv_aload_n hx hb dX0_divide_70 rfl (lv_at hl 7 rfl) ?_
              refine va_get (D := D) (ci := 3) (v := .int (i 18)) (C := RX3) (T := TX3) (N := 12) hx hb hT iX3 hown hK hP 61 rfl rfl 1 (by decide) (hT _ t_584) (fun _ h9 => h9) rfl dX0_divide_71 ?_
              refine lv_icmp_ge (tgt := 139) hx hb dX0_divide_74 (by decide) (fun c_27 => ?_) (fun c_27 => ?_)
              · have c_27 : (i 18).toInt ≤ x26_7.toInt := b_le c_27
                refine lv_iconst (v := 0) hx hb dX0_divide_139 (by decide) ?_
                refine lv_istore (lv' := [(7, .int 0), (6, .int x26_6), (5, .int (i 18)), (4, .int 1), (3, .int x1_3), (0, .ref (a 51)), (1, .int p0), (2, .ref (a 61))]) hx hb dX0_divide_140 hl (by decide) rfl (fun ls hl => ?_)
                have loop_28 : ∀ (n : Nat) (x28_7 : Int32) (r28 : Nat → Nat → Int32) (H : Heap) (locs : List Loc) (ls : Array Slot), (4 - x28_7.toInt).toNat < n → (0 ≤ x28_7.toInt ∧ x28_7.toInt ≤ 4) → yRr r28 → mEr [52, 53] r r28 → va_P D vwCl (xW cy a i r28 q (a 20) (a 12) ++ (hW cy a i r28 ++ tl)) H → va_D A (xW cy a i r28 q (a 20) (a 12) ++ (hW cy a i r28 ++ tl)) → va_S A s.heap H locs → lv_has ls 9 [(7, .int x28_7), (6, .int x26_6), (5, .int (i 18)), (4, .int 1), (3, .int x1_3), (0, .ref (a 51)), (1, .int p0), (2, .ref (a 61))] → W p l e ({ frames := 2, cells := 0, slots := 0, locals := 47 } : Room) s m ([.ref (a 51), .int p0, .ref (a 61)] : List Value).toArray below meth c H locs 0 0 Q (F0 m 142 ls []) := by
                  intro n
                  induction n with
                  | zero =>
                    intro x28_7 r28 H locs ls hm28 hf28_0 hRr hEr hP hD hS hl
                    exact absurd hm28 (by omega)
                  | succ n ih28 =>
                    intro x28_7 r28 H locs ls hm28 hf28_0 hRr hEr hP hD hS hl
                    refine lv_iload hx hb dX0_divide_142 (lv_at hl 0 rfl) ?_
                    refine lv_iload hx hb dX0_divide_144 (lv_at hl 1 rfl) ?_
                    refine lv_icmp_ge (tgt := 193) hx hb dX0_divide_146 (by decide) (fun c_29 => ?_) (fun c_29 => ?_)
                    · have c_29 : x26_6.toInt ≤ x28_7.toInt := b_le c_29
                      subst hQ
                      exact W.vret hx hb hr (fun t ht hW => ⟨⟨r28, rfl, ⟨hRr, hEr, trivial⟩, by rw [ht]; exact hP, va_K.moved hW.alike hK, hD⟩, hS.F ht⟩) hS.2.2 dX0_divide_193
                    · have c_29 : x28_7.toInt < x26_6.toInt := b_nle c_29
                      refine lv_iload hx hb dX0_divide_149 (lv_at hl 0 rfl) ?_
                      refine lv_aload_n hx hb dX0_divide_151 rfl (lv_at hl 7 rfl) ?_
                      refine va_get (D := D) (ci := 3) (v := .int (i 18)) (C := RX3) (T := TX3) (N := 12) hx hb hT iX3 hown hK hP 61 rfl rfl 1 (by decide) (hT _ t_584) (fun _ h9 => h9) rfl dX0_divide_152 ?_
                      refine lv_icmp_ge (tgt := 193) hx hb dX0_divide_155 (by decide) (fun c_30 => ?_) (fun c_30 => ?_)
                      · have c_30 : (i 18).toInt ≤ x28_7.toInt := b_le c_30
                        subst hQ
                        exact W.vret hx hb hr (fun t ht hW => ⟨⟨r28, rfl, ⟨hRr, hEr, trivial⟩, by rw [ht]; exact hP, va_K.moved hW.alike hK, hD⟩, hS.F ht⟩) hS.2.2 dX0_divide_193
                      · have c_30 : x28_7.toInt < (i 18).toInt := b_nle c_30
                        refine lv_aload_n hx hb dX0_divide_158 rfl (lv_at hl 5 rfl) ?_
                        refine lv_aload_n hx hb dX0_divide_159 rfl (lv_at hl 7 rfl) ?_
                        refine va_get (D := D) (ci := 3) (v := .int (i 18)) (C := RX3) (T := TX3) (N := 12) hx hb hT iX3 hown hK hP 61 rfl rfl 1 (by decide) (hT _ t_584) (fun _ h9 => h9) rfl dX0_divide_160 ?_
                        refine vp_callSi (W.runV (As := [.int (i 18)]) (rest := []) ⟨hx, hb, hml, hown, hT⟩ (c_X0_greatestRest l D cy a i r28 q (hW cy a i r28 ++ tl) (i 18) hRi hRr) (cwV 1 hT (gV t_585 t_587 t_588 t_589 t_586) rfl rfl rfl (by decide +kernel) ⟨Nat.le_of_ble_eq_true rfl, Nat.le_of_ble_eq_true rfl⟩) (rP_v hP hK (va_recv hK hP (ci := 0) (q0 := 51) rfl rfl)) rfl rfl hl.1 rfl (lv_room (Nat.le_of_ble_eq_true rfl)) dX0_divide_163 ⟨Nat.le_of_ble_eq_true rfl, Nat.le_of_ble_eq_true rfl⟩) (fun r_31 hr_31 => ?_)
                        have hr_31 : 0 ≤ r_31.toInt ∧ r_31.toInt ≤ 3 := hr_31
                        refine lv_istore (lv' := [(8, .int r_31), (7, .int x28_7), (6, .int x26_6), (5, .int (i 18)), (4, .int 1), (3, .int x1_3), (0, .ref (a 51)), (1, .int p0), (2, .ref (a 61))]) hx hb dX0_divide_166 hl (by decide) rfl (fun ls hl => ?_)
                        refine lv_aload_n hx hb dX0_divide_168 rfl (lv_at hl 6 rfl) ?_
                        refine va_get (D := D) (ci := 0) (v := .ref (a 52)) (C := RX0) (T := TX0) (N := 2) hx hb hT iX0 hown hK hP 51 rfl rfl 0 (by decide) (hT _ t_583) (fun _ h9 => h9) rfl dX0_divide_169 ?_
                        refine lv_iload hx hb dX0_divide_172 (lv_at hl 0 rfl) ?_
                        refine lv_dup2_11 hx hb dX0_divide_174 rfl rfl ?_
                        refine va_iald hx hb hK hP 52 0 rfl rfl (vp_inI (by omega) (by omega)) dX0_divide_175 ?_
                        refine lv_topi (fun v_32 ev_32 => ?_)
                        refine lv_iconst (v := 1) hx hb dX0_divide_176 (by decide) ?_
                        refine lv_iadd hx hb dX0_divide_177 ?_
                        refine lv_topi (fun v_33 ev_33 => ?_)
                        refine va_iast hx hb hK hP hD hS 52 0 rfl rfl (vp_inI (by omega) (by omega)) dX0_divide_178 (fun H locs hP hD hS => ?_)
                        rw [yS52] at hP hD
                        have hRr : yRr (va_up r28 52 (upd (r28 52) r_31.toNatClampNeg v_33)) := Yr_upd hRr 52 (r_31.toNatClampNeg) v_33 (b_rg _)
                        have hEr : mEr [52, 53] _ (va_up r28 52 (upd (r28 52) r_31.toNatClampNeg v_33)) := Er_up hEr 52 _ (by decide)
                        refine lv_aload_n hx hb dX0_divide_179 rfl (lv_at hl 6 rfl) ?_
                        refine va_get (D := D) (ci := 0) (v := .ref (a 53)) (C := RX0) (T := TX0) (N := 2) hx hb hT iX0 hown hK hP 51 rfl rfl 1 (by decide) (hT _ t_578) (fun _ h9 => h9) rfl dX0_divide_180 ?_
                        refine lv_iload hx hb dX0_divide_183 (lv_at hl 0 rfl) ?_
                        refine lv_iconst (v := (-1)) hx hb dX0_divide_185 (by decide) ?_
                        refine va_iast hx hb hK hP hD hS 53 0 rfl rfl (vp_inI (by omega) (by omega)) dX0_divide_186 (fun H locs hP hD hS => ?_)
                        rw [yS53] at hP hD
                        have hRr : yRr (va_up (va_up r28 52 (upd (r28 52) r_31.toNatClampNeg v_33)) 53 (upd (r28 53) r_31.toNatClampNeg (-1))) := Yr_upd hRr 53 (r_31.toNatClampNeg) (-1) (b_rg _)
                        have hEr : mEr [52, 53] _ (va_up (va_up r28 52 (upd (r28 52) r_31.toNatClampNeg v_33)) 53 (upd (r28 53) r_31.toNatClampNeg (-1))) := Er_up hEr 53 _ (by decide)
                        obtain ⟨x_34, ex_34⟩ : ∃ y : Int32, y = x28_7 + 1 := ⟨_, rfl⟩
                        refine lv_iinc (v := x_34) (lv' := [(7, .int x_34), (8, .int r_31), (6, .int x26_6), (5, .int (i 18)), (4, .int 1), (3, .int x1_3), (0, .ref (a 51)), (1, .int p0), (2, .ref (a 61))]) hx hb dX0_divide_187 hl (k := 1) rfl (by rw [ex_34]; rfl) (by decide) rfl (fun ls hl => ?_)
                        have hx_34 : x_34.toInt = x28_7.toInt + 1 := by rw [ex_34]; have := b_rg x28_7; exact i_add (a := x28_7.toInt) (b := 1) rfl rfl (by omega) (by omega)
                        refine lv_goto (tgt := 142) hx hb dX0_divide_190 (by decide) ?_
                        exact ih28 x_34 (va_up (va_up r28 52 (upd (r28 52) r_31.toNatClampNeg v_33)) 53 (upd (r28 53) r_31.toNatClampNeg (-1))) _ _ _ (by first | omega | (simp only [Int.toNat]; omega)) (by first | omega | decide) hRr hEr  hP hD hS (lv_sub hl [0, 2, 3, 4, 5, 6, 7, 8] rfl)
                exact loop_28 _ 0 r26 _ _ _ (Nat.lt_succ_self _) (by first | omega | decide) hRr hEr  hP hD hS hl
              · have c_27 : x26_7.toInt < (i 18).toInt := b_nle c_27
                refine lv_iload_n hx hb dX0_divide_77 rfl (lv_at hl 6 rfl) ?_
                refine lv_iload hx hb dX0_divide_78 (lv_at hl 3 rfl) ?_
                refine lv_if_eq (tgt := 87) hx hb dX0_divide_80 (by decide) (fun c_35 => absurd c_35 (by decide)) (fun c_35 => ?_)
                refine lv_iconst (v := 1) hx hb dX0_divide_83 (by decide) ?_
                refine lv_goto (tgt := 94) hx hb dX0_divide_84 (by decide) ?_
                refine lv_imul hx hb dX0_divide_94 ?_
                refine lv_topi (fun v_36 ev_36 => ?_)
                have hv_36 : v_36.toInt = p0.toInt * 1 := by rw [ev_36]; have := b_rg p0; exact i_mul (a := p0.toInt) (b := 1) rfl rfl (by omega) (by omega)
                refine lv_istore (lv' := [(8, .int v_36), (7, .int x26_7), (6, .int x26_6), (5, .int (i 18)), (4, .int 1), (3, .int x1_3), (0, .ref (a 51)), (1, .int p0), (2, .ref (a 61))]) hx hb dX0_divide_95 hl (by decide) rfl (fun ls hl => ?_)
                refine lv_aload_n hx hb dX0_divide_97 rfl (lv_at hl 6 rfl) ?_
                refine va_get (D := D) (ci := 0) (v := .ref (a 52)) (C := RX0) (T := TX0) (N := 2) hx hb hT iX0 hown hK hP 51 rfl rfl 0 (by decide) (hT _ t_583) (fun _ h9 => h9) rfl dX0_divide_98 ?_
                refine lv_iload hx hb dX0_divide_101 (lv_at hl 1 rfl) ?_
                refine lv_iload hx hb dX0_divide_103 (lv_at hl 0 rfl) ?_
                refine lv_iload hx hb dX0_divide_105 (lv_at hl 3 rfl) ?_
                refine lv_idiv hx hb dX0_divide_107 (nz (by omega)) ?_
                refine lv_topi (fun v_37 ev_37 => ?_)
                refine va_iast hx hb hK hP hD hS 52 0 rfl rfl (vp_inI (by omega) (by omega)) dX0_divide_108 (fun H locs hP hD hS => ?_)
                rw [yS52] at hP hD
                have hRr : yRr (va_up r26 52 (upd (r26 52) x26_7.toNatClampNeg v_37)) := Yr_upd hRr 52 (x26_7.toNatClampNeg) v_37 (b_rg _)
                have hEr : mEr [52, 53] _ (va_up r26 52 (upd (r26 52) x26_7.toNatClampNeg v_37)) := Er_up hEr 52 _ (by decide)
                refine lv_aload_n hx hb dX0_divide_109 rfl (lv_at hl 6 rfl) ?_
                refine va_get (D := D) (ci := 0) (v := .ref (a 53)) (C := RX0) (T := TX0) (N := 2) hx hb hT iX0 hown hK hP 51 rfl rfl 1 (by decide) (hT _ t_578) (fun _ h9 => h9) rfl dX0_divide_110 ?_
                refine lv_iload hx hb dX0_divide_113 (lv_at hl 1 rfl) ?_
                refine lv_iload hx hb dX0_divide_115 (lv_at hl 0 rfl) ?_
                refine lv_iload hx hb dX0_divide_117 (lv_at hl 3 rfl) ?_
                refine lv_irem hx hb dX0_divide_119 (nz (by omega)) ?_
                refine lv_topi (fun v_38 ev_38 => ?_)
                refine va_iast hx hb hK hP hD hS 53 0 rfl rfl (vp_inI (by omega) (by omega)) dX0_divide_120 (fun H locs hP hD hS => ?_)
                rw [yS53] at hP hD
                have hRr : yRr (va_up (va_up r26 52 (upd (r26 52) x26_7.toNatClampNeg v_37)) 53 (upd (r26 53) x26_7.toNatClampNeg v_38)) := Yr_upd hRr 53 (x26_7.toNatClampNeg) v_38 (b_rg _)
                have hEr : mEr [52, 53] _ (va_up (va_up r26 52 (upd (r26 52) x26_7.toNatClampNeg v_37)) 53 (upd (r26 53) x26_7.toNatClampNeg v_38)) := Er_up hEr 53 _ (by decide)
                refine lv_iload hx hb dX0_divide_121 (lv_at hl 2 rfl) ?_
                refine lv_aload_n hx hb dX0_divide_123 rfl (lv_at hl 6 rfl) ?_
                refine va_get (D := D) (ci := 0) (v := .ref (a 52)) (C := RX0) (T := TX0) (N := 2) hx hb hT iX0 hown hK hP 51 rfl rfl 0 (by decide) (hT _ t_583) (fun _ h9 => h9) rfl dX0_divide_124 ?_
                refine lv_iload hx hb dX0_divide_127 (lv_at hl 1 rfl) ?_
                refine va_iald hx hb hK hP 52 0 rfl rfl (vp_inI (by omega) (by omega)) dX0_divide_129 ?_
                refine lv_topi (fun v_39 ev_39 => ?_)
                refine lv_isub hx hb dX0_divide_130 ?_
                refine lv_topi (fun v_40 ev_40 => ?_)
                refine lv_istore (lv' := [(6, .int v_40), (8, .int v_36), (7, .int x26_7), (5, .int (i 18)), (4, .int 1), (3, .int x1_3), (0, .ref (a 51)), (1, .int p0), (2, .ref (a 61))]) hx hb dX0_divide_131 hl (by decide) rfl (fun ls hl => ?_)
                obtain ⟨x_41, ex_41⟩ : ∃ y : Int32, y = x26_7 + 1 := ⟨_, rfl⟩
                refine lv_iinc (v := x_41) (lv' := [(7, .int x_41), (6, .int v_40), (8, .int v_36), (5, .int (i 18)), (4, .int 1), (3, .int x1_3), (0, .ref (a 51)), (1, .int p0), (2, .ref (a 61))]) hx hb dX0_divide_133 hl (k := 2) rfl (by rw [ex_41]; rfl) (by decide) rfl (fun ls hl => ?_)
                have hx_41 : x_41.toInt = x26_7.toInt + 1 := by rw [ex_41]; have := b_rg x26_7; exact i_add (a := x26_7.toInt) (b := 1) rfl rfl (by omega) (by omega)
                refine lv_goto (tgt := 68) hx hb dX0_divide_136 (by decide) ?_
                exact ih26 x_41 v_40 (va_up (va_up r26 52 (upd (r26 52) x26_7.toNatClampNeg v_37)) 53 (upd (r26 53) x26_7.toNatClampNeg v_38)) _ _ _ (by first | omega | (simp only [Int.toNat]; omega)) (by first | omega | decide) hRr hEr  hP hD hS (lv_sub hl [0, 1, 3, 4, 5, 6, 7, 8] rfl)
          exact loop_26 _ 0 p0 r _ _ _ (Nat.lt_succ_self _) (by first | omega | decide) hRr hEr  hP hD hS hl
      · have c_3 : x1_4.toInt < (i 18).toInt := b_nle c_3
        refine lv_iload_n hx hb dX0_divide_14 rfl (lv_at hl 1 rfl) ?_
        refine lv_aload_n hx hb dX0_divide_15 rfl (lv_at hl 4 rfl) ?_
        refine va_get (D := D) (ci := 3) (v := .ref (a 62)) (C := RX3) (T := TX3) (N := 12) hx hb hT iX3 hown hK hP 61 rfl rfl 6 (by decide) (hT _ t_590) (fun _ h9 => h9) rfl dX0_divide_16 ?_
        refine lv_iload hx hb dX0_divide_19 (lv_at hl 0 rfl) ?_
        refine va_iald hx hb hK hP 62 0 rfl rfl (vp_inI (by omega) (by omega)) dX0_divide_21 ?_
        refine lv_topi (fun v_42 ev_42 => ?_)
        have hgv_42 : 0 ≤ v_42.toInt ∧ v_42.toInt ≤ 99 := by rw [ev_42]; exact hRr 62 _
        refine lv_iadd hx hb dX0_divide_22 ?_
        refine lv_topi (fun v_43 ev_43 => ?_)
        refine lv_istore_n (lv' := [(3, .int v_43), (4, .int x1_4), (0, .ref (a 51)), (1, .int p0), (2, .ref (a 61))]) hx hb dX0_divide_23 rfl hl (by decide) rfl (fun ls hl => ?_)
        obtain ⟨x_44, ex_44⟩ : ∃ y : Int32, y = x1_4 + 1 := ⟨_, rfl⟩
        refine lv_iinc (v := x_44) (lv' := [(4, .int x_44), (3, .int v_43), (0, .ref (a 51)), (1, .int p0), (2, .ref (a 61))]) hx hb dX0_divide_24 hl (k := 1) rfl (by rw [ex_44]; rfl) (by decide) rfl (fun ls hl => ?_)
        have hx_44 : x_44.toInt = x1_4.toInt + 1 := by rw [ex_44]; have := b_rg x1_4; exact i_add (a := x1_4.toInt) (b := 1) rfl rfl (by omega) (by omega)
        refine lv_goto (tgt := 5) hx hb dX0_divide_27 (by decide) ?_
        exact ih1 x_44 v_43 _ _ _ (by first | omega | (simp only [Int.toNat]; omega)) (by first | omega | decide)   hP hD hS (lv_sub hl [0, 1, 2, 3, 4] rfl)
  exact loop_1 _ 0 0 _ _ _ (Nat.lt_succ_self _) (by first | omega | decide)   hP hD hS hl
set_option maxHeartbeats 4000000 in
set_option maxRecDepth 100000 in
theorem c_X11_judged.y (l : Launch) (D : va_G) (cy : Nat → ClassId) (a : Nat → Nat) (i : Nat → Int32) (r : Nat → Nat → Int32) (q : Nat → Option Nat) (tl : va_W) (p0 p1 p2 : Int32) (sz : Nat) (hRi : yRi i) (hRr : yRr r) (hh : 0 ≤ p0.toInt ∧ p0.toInt < (i 0).toInt) (hq : q p0.toNatClampNeg = some (a 61)) : Met l yX11_judged (Cond.code yX11_judged cX11_judged 5 (some .int) :: gT) { frames := 7, cells := 0, slots := 0, locals := 175 } (va_Pc [.ref (a 0), .int p0, .int p1, .int p2] (rM D cy (xW cy a i r q (a 20) (a 12) ++ (hW cy a i r ++ tl)) sz)) (va_Qi (fun (z : Int32) (u : Nat → Nat → Int32) => yRr u ∧ mEr [27, 28, 52, 53] r u ∧ True) (fun (u : Nat → Nat → Int32) t => va_P D vwCl (xW cy a i u q (a 20) (a 12) ++ (hW cy a i u ++ tl)) t.heap ∧ va_K D vwCl (vT cy) t ∧ va_D (va_A (xW cy a i r q (a 20) (a 12) ++ (hW cy a i r ++ tl)) sz) (xW cy a i u q (a 20) (a 12) ++ (hW cy a i u ++ tl))) (va_A (xW cy a i r q (a 20) (a 12) ++ (hW cy a i r ++ tl)) sz)) 0 0 (va_A (xW cy a i r q (a 20) (a 12) ++ (hW cy a i r ++ tl)) sz) := by
  refine Met.ofQ (cc := cX11_judged) (maxL := 5) (ret := (some .int)) (by decide) rfl ?_
  intro p e s m args below meth c s₁ B hml hv Q hQ
  obtain ⟨rfl, hnw, hsz, hP, hK, hD0⟩ := hv
  have hx := B.exec
  have hb := B.bytes
  have hr := B.returns
  have hlocks := B.notSynchronized
  have hT : ∀ w ∈ gT, w.before _ s = true := fun w h => atoms_spec (ws := (Cond.code yX11_judged cX11_judged 5 (some .int) :: gT)) B.pre w (List.mem_cons_of_mem _ h)
  have hown : s.vm.findClass RX11 = some m.cls := findClass_of_methodNamed B.named
  subst hsz
  have hD := hD0.self (sz := s.heap.size)
  generalize hAe : va_A (xW cy a i r q (a 20) (a 12) ++ (hW cy a i r ++ tl)) s.heap.size = A at hD hQ
  have hA : ∀ q : Nat, s.heap.size ≤ q → A q := fun q h => by rw [← hAe]; exact Or.inr h
  have hS : va_S A s.heap s.heap [] := va_S.rf
  have hl := lv_entry ([.ref (a 0), .int p0, .int p1, .int p2]) (n := 5) (Nat.le_of_ble_eq_true rfl)
  rw [lg_entry_eq]
  generalize (lg_sl ([.ref (a 0), .int p0, .int p1, .int p2]) ++ List.replicate (5 - (lg_sl ([.ref (a 0), .int p0, .int p1, .int p2])).length) Slot.unset).toArray = ls at hl ⊢
  have hl : lv_has ls 5 [(0, .ref (a 0)), (1, .int p0), (2, .int p1), (3, .int p2)] := hl
  have hEi : mEi [] i i := Ei_rf
  have hEr : mEr [27, 28, 52, 53] r r := Er_rf
  have hg0 : 0 ≤ (i 0).toInt ∧ (i 0).toInt ≤ 6 := hRi 0
  refine lv_aload_n hx hb dX11_judged_0 rfl (lv_at hl 0 rfl) ?_
  refine lv_iload_n hx hb dX11_judged_1 rfl (lv_at hl 1 rfl) ?_
  refine va_csq (W.runV (As := [.int p0]) (rest := []) ⟨hx, hb, hml, hown, hT⟩ (c_X11_homeAt l D cy a i r q (hW cy a i r ++ tl) p0 hRi hRr) (cwV 1 hT (gV t_443 t_444 t_445 t_446 t_2) rfl rfl rfl (by decide +kernel) ⟨Nat.le_of_ble_eq_true rfl, Nat.le_of_ble_eq_true rfl⟩) (rP_v hP hK (va_recv hK hP (ci := 11) (q0 := 0) rfl rfl)) rfl rfl hl.1 rfl (lv_room (Nat.le_of_ble_eq_true rfl)) dX11_judged_2 ⟨Nat.le_of_ble_eq_true rfl, Nat.le_of_ble_eq_true rfl⟩) (fun r_1 hr_1 => ?_)
  obtain rfl : r_1 = some (a 61) := (hr_1.1 hh).trans hq
  refine W.eq (g2 := F0 m 5 ls [.ref (a 61)]) rfl ?_
  refine lv_astore (lv' := [(4, .ref (a 61)), (0, .ref (a 0)), (1, .int p0), (2, .int p1), (3, .int p2)]) hx hb dX11_judged_5 hl (by decide) rfl (fun ls hl => ?_)
  refine lv_aload hx hb dX11_judged_7 (lv_at hl 0 rfl) ?_
  refine lv_ifnull hx hb dX11_judged_9 ?_
  refine lv_iload_n hx hb dX11_judged_12 rfl (lv_at hl 3 rfl) ?_
  refine vp_callSi (W.runS (As := [.int p1]) (rest := []) ⟨hx, hb, hml, hown, hT⟩ (c_X11_isDay l p1) (va_cwS 1 hT (gS t_279 t_280 t_281 t_2) rfl rfl rfl (by decide +kernel) ⟨Nat.le_of_ble_eq_true rfl, Nat.le_of_ble_eq_true rfl⟩) preT rfl rfl hl.1 rfl (lv_room (Nat.le_of_ble_eq_true rfl)) dX11_judged_13 ⟨Nat.le_of_ble_eq_true rfl, Nat.le_of_ble_eq_true rfl⟩) (fun r_2 hr_2 => ?_)
  have hr_2 : BR r_2 (0 ≤ p1.toInt ∧ p1.toInt ≤ 9999) 1 0 := hr_2
  rcases hr_2 with ⟨rfl, h_3⟩ | ⟨rfl, h_3⟩
  · skip
    refine lv_if_ne (tgt := 21) hx hb dX11_judged_16 (by decide) (fun c_4 => ?_) (fun c_4 => absurd c_4 (by decide))
    refine lv_iload_n hx hb dX11_judged_21 rfl (lv_at hl 4 rfl) ?_
    refine lv_bipush (v := 10) hx hb dX11_judged_22 (by decide) ?_
    refine lv_icmp_lt (tgt := 73) hx hb dX11_judged_24 (by decide) (fun c_5 => ?_) (fun c_5 => ?_)
    · have c_5 : p2.toInt < 10 := b_lt c_5
      refine lv_iload_n hx hb dX11_judged_73 rfl (lv_at hl 4 rfl) ?_
      rcases (show (p2.toInt < 0 ∨ 3 < p2.toInt) ∨ p2.toInt = 0 ∨ p2.toInt = 1 ∨ p2.toInt = 2 ∨ p2.toInt = 3 by omega) with h_6 | h_6 | h_6 | h_6 | h_6
      · refine lv_tableOut (tgt := 150) hx hb dX11_judged_74 h_6 (by decide) ?_
        refine lv_iconst (v := (-1)) hx hb dX11_judged_150 (by decide) ?_
        subst hQ
        exact W.iret (v := (-1)) hx hb hr (fun t ht hW => ⟨⟨_, r, rfl, ⟨hRr, hEr, trivial⟩, by rw [ht]; exact hP, va_K.moved hW.alike hK, hD⟩, hS.F ht⟩) hS.2.2 dX11_judged_151
      · refine lv_tableIn (off := 30) (tgt := 104) hx hb dX11_judged_74 (by omega) (by omega) (by rw [h_6]; rfl) (by decide) ?_
        refine lv_aload_n hx hb dX11_judged_104 rfl (lv_at hl 1 rfl) ?_
        refine lv_aload hx hb dX11_judged_105 (lv_at hl 0 rfl) ?_
        refine lv_aload_n hx hb dX11_judged_107 rfl (lv_at hl 1 rfl) ?_
        refine lv_iload_n hx hb dX11_judged_108 rfl (lv_at hl 2 rfl) ?_
        refine lv_iload_n hx hb dX11_judged_109 rfl (lv_at hl 3 rfl) ?_
        have hF_7 := rF hD hS hA
        refine va_calli (va_runV (As := [.int p0, .int p1]) (rest := [.ref (a 61), .ref (a 0)]) ⟨hx, hb, hml, hown, hT⟩ (c_X11_awards l D cy a i r q tl p0 p1 _ hRi hRr hh hq) (cwV 2 hT (gV t_591 t_592 t_593 t_594 t_2) rfl rfl rfl (by decide +kernel) ⟨Nat.le_of_ble_eq_true rfl, Nat.le_of_ble_eq_true rfl⟩) (rM_v hnw hP hK hD (va_recv hK hP (ci := 11) (q0 := 0) rfl rfl)) rfl rfl hl.1 rfl (lv_room (Nat.le_of_ble_eq_true rfl)) dX11_judged_110 ⟨Nat.le_of_ble_eq_true rfl, Nat.le_of_ble_eq_true rfl⟩) hS (fun q _ h => hF_7 q h) hF_7 (fun r_8 u_9 t H1 locs ht hvm hr_8 hB hz1 hk1 hS => ?_)
        obtain ⟨r9, rfl⟩ : ∃ z, z = u_9 := ⟨_, rfl⟩
        obtain ⟨hP, hK1, hD1⟩ := hB
        rw [ht] at hP
        have hD := hD1.weaken (fun k q _ h => hF_7 q.1 h)
        obtain ⟨hRr, hE2, hr_8⟩ := hr_8
        have hRr : yRr r9 := hRr
        have hE2 : mEr [27, 28] r r9 := hE2
        have hP : va_P D vwCl (xW cy a i r9 q (a 20) (a 12) ++ (hW cy a i r9 ++ tl)) H1 := hP
        have hD : va_D A (xW cy a i r9 q (a 20) (a 12) ++ (hW cy a i r9 ++ tl)) := hD
        have hEr : mEr [27, 28, 52, 53] _ r9 := Er_tr hEr hE2 (by decide)
        refine vp_callSi (W.runV (As := [.ref (a 61), .int r_8]) (rest := []) ⟨hx, hb, hml, hown, hT⟩ (c_X11_toOwner l D cy a i r9 q tl r_8 hRi hRr) (cwV 2 hT (gV t_570 t_571 t_572 t_573 t_2) rfl rfl rfl (by decide +kernel) ⟨Nat.le_of_ble_eq_true rfl, Nat.le_of_ble_eq_true rfl⟩) (rP_v hP hK (va_recv hK hP (ci := 11) (q0 := 0) rfl rfl)) rfl rfl hl.1 rfl (lv_room (Nat.le_of_ble_eq_true rfl)) dX11_judged_113 ⟨Nat.le_of_ble_eq_true rfl, Nat.le_of_ble_eq_true rfl⟩) (fun r_10 hr_10 => ?_)
        subst hQ
        exact W.iret (v := r_10) hx hb hr (fun t ht hW => ⟨⟨_, r9, rfl, ⟨hRr, hEr, trivial⟩, by rw [ht]; exact hP, va_K.moved hW.alike hK, hD⟩, hS.F ht⟩) hS.2.2 dX11_judged_116
      · refine lv_tableIn (off := 43) (tgt := 117) hx hb dX11_judged_74 (by omega) (by omega) (by rw [h_6]; rfl) (by decide) ?_
        refine lv_aload hx hb dX11_judged_117 (lv_at hl 0 rfl) ?_
        refine va_get (D := D) (ci := 3) (v := .int (i 19)) (C := RX3) (T := TX3) (N := 12) hx hb hT iX3 hown hK hP 61 rfl rfl 2 (by decide) (hT _ t_563) (fun _ h9 => h9) rfl dX11_judged_119 ?_
        have hg_11 : 0 ≤ (i 19).toInt ∧ (i 19).toInt ≤ 999999 := hRi 19
        refine lv_aload_n hx hb dX11_judged_122 rfl (lv_at hl 1 rfl) ?_
        refine lv_aload hx hb dX11_judged_123 (lv_at hl 0 rfl) ?_
        refine lv_aload_n hx hb dX11_judged_125 rfl (lv_at hl 1 rfl) ?_
        refine lv_iload_n hx hb dX11_judged_126 rfl (lv_at hl 2 rfl) ?_
        refine lv_iload_n hx hb dX11_judged_127 rfl (lv_at hl 3 rfl) ?_
        have hF_12 := rF hD hS hA
        refine va_calli (va_runV (As := [.int p0, .int p1]) (rest := [.ref (a 61), .ref (a 0), .int (i 19)]) ⟨hx, hb, hml, hown, hT⟩ (c_X11_awards l D cy a i r q tl p0 p1 _ hRi hRr hh hq) (cwV 2 hT (gV t_591 t_592 t_593 t_594 t_2) rfl rfl rfl (by decide +kernel) ⟨Nat.le_of_ble_eq_true rfl, Nat.le_of_ble_eq_true rfl⟩) (rM_v hnw hP hK hD (va_recv hK hP (ci := 11) (q0 := 0) rfl rfl)) rfl rfl hl.1 rfl (lv_room (Nat.le_of_ble_eq_true rfl)) dX11_judged_128 ⟨Nat.le_of_ble_eq_true rfl, Nat.le_of_ble_eq_true rfl⟩) hS (fun q _ h => hF_12 q h) hF_12 (fun r_13 u_14 t H1 locs ht hvm hr_13 hB hz1 hk1 hS => ?_)
        obtain ⟨r14, rfl⟩ : ∃ z, z = u_14 := ⟨_, rfl⟩
        obtain ⟨hP, hK1, hD1⟩ := hB
        rw [ht] at hP
        have hD := hD1.weaken (fun k q _ h => hF_12 q.1 h)
        obtain ⟨hRr, hE2, hr_13⟩ := hr_13
        have hRr : yRr r14 := hRr
        have hE2 : mEr [27, 28] r r14 := hE2
        have hP : va_P D vwCl (xW cy a i r14 q (a 20) (a 12) ++ (hW cy a i r14 ++ tl)) H1 := hP
        have hD : va_D A (xW cy a i r14 q (a 20) (a 12) ++ (hW cy a i r14 ++ tl)) := hD
        have hEr : mEr [27, 28, 52, 53] _ r14 := Er_tr hEr hE2 (by decide)
        refine vp_callSi (W.runV (As := [.ref (a 61), .int r_13]) (rest := [.int (i 19)]) ⟨hx, hb, hml, hown, hT⟩ (c_X11_toOwner l D cy a i r14 q tl r_13 hRi hRr) (cwV 2 hT (gV t_570 t_571 t_572 t_573 t_2) rfl rfl rfl (by decide +kernel) ⟨Nat.le_of_ble_eq_true rfl, Nat.le_of_ble_eq_true rfl⟩) (rP_v hP hK (va_recv hK hP (ci := 11) (q0 := 0) rfl rfl)) rfl rfl hl.1 rfl (lv_room (Nat.le_of_ble_eq_true rfl)) dX11_judged_131 ⟨Nat.le_of_ble_eq_true rfl, Nat.le_of_ble_eq_true rfl⟩) (fun r_15 hr_15 => ?_)
        refine lv_isub hx hb dX11_judged_134 ?_
        refine lv_topi (fun v_16 ev_16 => ?_)
        subst hQ
        exact W.iret (v := v_16) hx hb hr (fun t ht hW => ⟨⟨_, r14, rfl, ⟨hRr, hEr, trivial⟩, by rw [ht]; exact hP, va_K.moved hW.alike hK, hD⟩, hS.F ht⟩) hS.2.2 dX11_judged_135
      · refine lv_tableIn (off := 62) (tgt := 136) hx hb dX11_judged_74 (by omega) (by omega) (by rw [h_6]; rfl) (by decide) ?_
        refine lv_aload_n hx hb dX11_judged_136 rfl (lv_at hl 1 rfl) ?_
        refine lv_aload hx hb dX11_judged_137 (lv_at hl 0 rfl) ?_
        have hF_17 := rF hD hS hA
        refine va_calli (va_runV (As := [.ref (a 61)]) (rest := []) ⟨hx, hb, hml, hown, hT⟩ (c_X11_penalty l D cy a i r q tl _ hRi hRr) (cwV 1 hT (gV t_574 t_575 t_576 t_577 t_2) rfl rfl rfl (by decide +kernel) ⟨Nat.le_of_ble_eq_true rfl, Nat.le_of_ble_eq_true rfl⟩) (rM_v hnw hP hK hD (va_recv hK hP (ci := 11) (q0 := 0) rfl rfl)) rfl rfl hl.1 rfl (lv_room (Nat.le_of_ble_eq_true rfl)) dX11_judged_139 ⟨Nat.le_of_ble_eq_true rfl, Nat.le_of_ble_eq_true rfl⟩) hS (fun q _ h => hF_17 q h) hF_17 (fun r_18 u_19 t H1 locs ht hvm hr_18 hB hz1 hk1 hS => ?_)
        obtain ⟨r19, rfl⟩ : ∃ z, z = u_19 := ⟨_, rfl⟩
        obtain ⟨hP, hK1, hD1⟩ := hB
        rw [ht] at hP
        have hD := hD1.weaken (fun k q _ h => hF_17 q.1 h)
        obtain ⟨hRr, hE2, hr_18⟩ := hr_18
        have hRr : yRr r19 := hRr
        have hE2 : mEr [27, 28] r r19 := hE2
        have hP : va_P D vwCl (xW cy a i r19 q (a 20) (a 12) ++ (hW cy a i r19 ++ tl)) H1 := hP
        have hD : va_D A (xW cy a i r19 q (a 20) (a 12) ++ (hW cy a i r19 ++ tl)) := hD
        have hEr : mEr [27, 28, 52, 53] _ r19 := Er_tr hEr hE2 (by decide)
        subst hQ
        exact W.iret (v := r_18) hx hb hr (fun t ht hW => ⟨⟨_, r19, rfl, ⟨hRr, hEr, trivial⟩, by rw [ht]; exact hP, va_K.moved hW.alike hK, hD⟩, hS.F ht⟩) hS.2.2 dX11_judged_142
      · refine lv_tableIn (off := 69) (tgt := 143) hx hb dX11_judged_74 (by omega) (by omega) (by rw [h_6]; rfl) (by decide) ?_
        refine lv_aload_n hx hb dX11_judged_143 rfl (lv_at hl 1 rfl) ?_
        refine lv_iload_n hx hb dX11_judged_144 rfl (lv_at hl 2 rfl) ?_
        refine lv_iload_n hx hb dX11_judged_145 rfl (lv_at hl 3 rfl) ?_
        have hF_20 := rF hD hS hA
        refine va_calli (va_runV (As := [.int p0, .int p1]) (rest := []) ⟨hx, hb, hml, hown, hT⟩ (c_X11_awards l D cy a i r q tl p0 p1 _ hRi hRr hh hq) (cwV 2 hT (gV t_591 t_592 t_593 t_594 t_2) rfl rfl rfl (by decide +kernel) ⟨Nat.le_of_ble_eq_true rfl, Nat.le_of_ble_eq_true rfl⟩) (rM_v hnw hP hK hD (va_recv hK hP (ci := 11) (q0 := 0) rfl rfl)) rfl rfl hl.1 rfl (lv_room (Nat.le_of_ble_eq_true rfl)) dX11_judged_146 ⟨Nat.le_of_ble_eq_true rfl, Nat.le_of_ble_eq_true rfl⟩) hS (fun q _ h => hF_20 q h) hF_20 (fun r_21 u_22 t H1 locs ht hvm hr_21 hB hz1 hk1 hS => ?_)
        obtain ⟨r22, rfl⟩ : ∃ z, z = u_22 := ⟨_, rfl⟩
        obtain ⟨hP, hK1, hD1⟩ := hB
        rw [ht] at hP
        have hD := hD1.weaken (fun k q _ h => hF_20 q.1 h)
        obtain ⟨hRr, hE2, hr_21⟩ := hr_21
        have hRr : yRr r22 := hRr
        have hE2 : mEr [27, 28] r r22 := hE2
        have hP : va_P D vwCl (xW cy a i r22 q (a 20) (a 12) ++ (hW cy a i r22 ++ tl)) H1 := hP
        have hD : va_D A (xW cy a i r22 q (a 20) (a 12) ++ (hW cy a i r22 ++ tl)) := hD
        have hEr : mEr [27, 28, 52, 53] _ r22 := Er_tr hEr hE2 (by decide)
        subst hQ
        exact W.iret (v := r_21) hx hb hr (fun t ht hW => ⟨⟨_, r22, rfl, ⟨hRr, hEr, trivial⟩, by rw [ht]; exact hP, va_K.moved hW.alike hK, hD⟩, hS.F ht⟩) hS.2.2 dX11_judged_149
    · have c_5 : 10 ≤ p2.toInt := b_nlt c_5
      refine lv_iload_n hx hb dX11_judged_27 rfl (lv_at hl 4 rfl) ?_
      refine lv_bipush (v := 10) hx hb dX11_judged_28 (by decide) ?_
      refine lv_isub hx hb dX11_judged_30 ?_
      refine lv_topi (fun v_23 ev_23 => ?_)
      have hv_23 : v_23.toInt = p2.toInt - 10 := by rw [ev_23]; have := b_rg p2; exact i_sub (a := p2.toInt) (b := 10) rfl rfl (by omega) (by omega)
      refine lv_aload hx hb dX11_judged_31 (lv_at hl 0 rfl) ?_
      refine va_get (D := D) (ci := 3) (v := .int (i 18)) (C := RX3) (T := TX3) (N := 12) hx hb hT iX3 hown hK hP 61 rfl rfl 1 (by decide) (hT _ t_447) (fun _ h9 => h9) rfl dX11_judged_33 ?_
      have hg_24 : 1 ≤ (i 18).toInt ∧ (i 18).toInt ≤ 4 := hRi 18
      refine lv_icmp_ge (tgt := 73) hx hb dX11_judged_36 (by decide) (fun c_25 => ?_) (fun c_25 => ?_)
      · have c_25 : (i 18).toInt ≤ v_23.toInt := b_le c_25
        refine lv_iload_n hx hb dX11_judged_73 rfl (lv_at hl 4 rfl) ?_
        rcases (show (p2.toInt < 0 ∨ 3 < p2.toInt) ∨ p2.toInt = 0 ∨ p2.toInt = 1 ∨ p2.toInt = 2 ∨ p2.toInt = 3 by omega) with h_26 | h_26 | h_26 | h_26 | h_26
        · refine lv_tableOut (tgt := 150) hx hb dX11_judged_74 h_26 (by decide) ?_
          refine lv_iconst (v := (-1)) hx hb dX11_judged_150 (by decide) ?_
          subst hQ
          exact W.iret (v := (-1)) hx hb hr (fun t ht hW => ⟨⟨_, r, rfl, ⟨hRr, hEr, trivial⟩, by rw [ht]; exact hP, va_K.moved hW.alike hK, hD⟩, hS.F ht⟩) hS.2.2 dX11_judged_151
        · exact absurd h_26 (by omega)
        · exact absurd h_26 (by omega)
        · exact absurd h_26 (by omega)
        · exact absurd h_26 (by omega)
      · have c_25 : v_23.toInt < (i 18).toInt := b_nle c_25
        refine lv_aload_n hx hb dX11_judged_39 rfl (lv_at hl 1 rfl) ?_
        refine va_get (D := D) (ci := 11) (v := .ref (a 51)) (C := RX11) (T := TX11) (N := 14) hx hb hT iX11 hown hK hP 0 rfl rfl 11 (by decide) (hT _ t_595) (fun _ h9 => h9) rfl dX11_judged_40 ?_
        refine lv_aload_n hx hb dX11_judged_43 rfl (lv_at hl 1 rfl) ?_
        refine lv_aload hx hb dX11_judged_44 (lv_at hl 0 rfl) ?_
        refine lv_aload_n hx hb dX11_judged_46 rfl (lv_at hl 1 rfl) ?_
        refine lv_iload_n hx hb dX11_judged_47 rfl (lv_at hl 2 rfl) ?_
        refine lv_iload_n hx hb dX11_judged_48 rfl (lv_at hl 3 rfl) ?_
        have hF_27 := rF hD hS hA
        refine va_calli (va_runV (As := [.int p0, .int p1]) (rest := [.ref (a 61), .ref (a 0), .ref (a 51)]) ⟨hx, hb, hml, hown, hT⟩ (c_X11_awards l D cy a i r q tl p0 p1 _ hRi hRr hh hq) (cwV 2 hT (gV t_591 t_592 t_593 t_594 t_2) rfl rfl rfl (by decide +kernel) ⟨Nat.le_of_ble_eq_true rfl, Nat.le_of_ble_eq_true rfl⟩) (rM_v hnw hP hK hD (va_recv hK hP (ci := 11) (q0 := 0) rfl rfl)) rfl rfl hl.1 rfl (lv_room (Nat.le_of_ble_eq_true rfl)) dX11_judged_49 ⟨Nat.le_of_ble_eq_true rfl, Nat.le_of_ble_eq_true rfl⟩) hS (fun q _ h => hF_27 q h) hF_27 (fun r_28 u_29 t H1 locs ht hvm hr_28 hB hz1 hk1 hS => ?_)
        obtain ⟨r29, rfl⟩ : ∃ z, z = u_29 := ⟨_, rfl⟩
        obtain ⟨hP, hK1, hD1⟩ := hB
        rw [ht] at hP
        have hD := hD1.weaken (fun k q _ h => hF_27 q.1 h)
        obtain ⟨hRr, hE2, hr_28⟩ := hr_28
        have hRr : yRr r29 := hRr
        have hE2 : mEr [27, 28] r r29 := hE2
        have hP : va_P D vwCl (xW cy a i r29 q (a 20) (a 12) ++ (hW cy a i r29 ++ tl)) H1 := hP
        have hD : va_D A (xW cy a i r29 q (a 20) (a 12) ++ (hW cy a i r29 ++ tl)) := hD
        have hEr : mEr [27, 28, 52, 53] _ r29 := Er_tr hEr hE2 (by decide)
        have hF_30 := rF hD hS hA
        refine va_calli (va_runV (As := [.ref (a 61), .int r_28]) (rest := [.ref (a 51)]) ⟨hx, hb, hml, hown, hT⟩ (c_X11_paidBack l D cy a i r29 q tl r_28 _ hRi hRr) (cwV 2 hT (gV t_596 t_597 t_598 t_599 t_2) rfl rfl rfl (by decide +kernel) ⟨Nat.le_of_ble_eq_true rfl, Nat.le_of_ble_eq_true rfl⟩) (rM_v hnw hP hK hD (va_recv hK hP (ci := 11) (q0 := 0) rfl rfl)) rfl rfl hl.1 rfl (lv_room (Nat.le_of_ble_eq_true rfl)) dX11_judged_52 ⟨Nat.le_of_ble_eq_true rfl, Nat.le_of_ble_eq_true rfl⟩) hS (fun q _ h => hF_30 q h) hF_30 (fun r_31 u_32 t H1 locs ht hvm hr_31 hB hz1 hk1 hS => ?_)
        obtain ⟨r32, rfl⟩ : ∃ z, z = u_32 := ⟨_, rfl⟩
        obtain ⟨hP, hK1, hD1⟩ := hB
        rw [ht] at hP
        have hD := hD1.weaken (fun k q _ h => hF_30 q.1 h)
        obtain ⟨hRr, hE2, hr_31⟩ := hr_31
        have hRr : yRr r32 := hRr
        have hE2 : mEr [27, 28] r29 r32 := hE2
        have hP : va_P D vwCl (xW cy a i r32 q (a 20) (a 12) ++ (hW cy a i r32 ++ tl)) H1 := hP
        have hD : va_D A (xW cy a i r32 q (a 20) (a 12) ++ (hW cy a i r32 ++ tl)) := hD
        have hEr : mEr [27, 28, 52, 53] _ r32 := Er_tr hEr hE2 (by decide)
        refine lv_aload hx hb dX11_judged_55 (lv_at hl 0 rfl) ?_
        have hF_33 := rF hD hS hA
        refine va_callv (va_runV (As := [.int r_31, .ref (a 61)]) (rest := []) ⟨hx, hb, hml, hown, hT⟩ (c_X0_divide l D cy a i r32 q tl r_31 _ hRi hRr) (cwV 2 hT (gV t_600 t_601 t_602 t_603 t_586) rfl rfl rfl (by decide +kernel) ⟨Nat.le_of_ble_eq_true rfl, Nat.le_of_ble_eq_true rfl⟩) (rQ_v hP hK hD (va_recv hK hP (ci := 0) (q0 := 51) rfl rfl)) rfl rfl hl.1 rfl (lv_room (Nat.le_of_ble_eq_true rfl)) dX11_judged_57 ⟨Nat.le_of_ble_eq_true rfl, Nat.le_of_ble_eq_true rfl⟩) hS (fun q _ h => hF_33 q h) hF_33 (fun u_35 t H1 locs ht hvm hr_34 hB hz1 hk1 hS => ?_)
        obtain ⟨r35, rfl⟩ : ∃ z, z = u_35 := ⟨_, rfl⟩
        obtain ⟨hP, hK1, hD1⟩ := hB
        rw [ht] at hP
        have hD := hD1.weaken (fun k q _ h => hF_33 q.1 h)
        obtain ⟨hRr, hE2, hr_34⟩ := hr_34
        have hRr : yRr r35 := hRr
        have hE2 : mEr [52, 53] r32 r35 := hE2
        have hP : va_P D vwCl (xW cy a i r35 q (a 20) (a 12) ++ (hW cy a i r35 ++ tl)) H1 := hP
        have hD : va_D A (xW cy a i r35 q (a 20) (a 12) ++ (hW cy a i r35 ++ tl)) := hD
        have hEr : mEr [27, 28, 52, 53] _ r35 := Er_tr hEr hE2 (by decide)
        refine lv_aload_n hx hb dX11_judged_60 rfl (lv_at hl 1 rfl) ?_
        refine va_get (D := D) (ci := 11) (v := .ref (a 51)) (C := RX11) (T := TX11) (N := 14) hx hb hT iX11 hown hK hP 0 rfl rfl 11 (by decide) (hT _ t_595) (fun _ h9 => h9) rfl dX11_judged_61 ?_
        refine va_get (D := D) (ci := 0) (v := .ref (a 52)) (C := RX0) (T := TX0) (N := 2) hx hb hT iX0 hown hK hP 51 rfl rfl 0 (by decide) (hT _ t_604) (fun _ h9 => h9) rfl dX11_judged_64 ?_
        refine lv_iload_n hx hb dX11_judged_67 rfl (lv_at hl 4 rfl) ?_
        refine lv_bipush (v := 10) hx hb dX11_judged_68 (by decide) ?_
        refine lv_isub hx hb dX11_judged_70 ?_
        refine lv_topi (fun v_36 ev_36 => ?_)
        have hv_36 : v_36.toInt = p2.toInt - 10 := by rw [ev_36]; have := b_rg p2; exact i_sub (a := p2.toInt) (b := 10) rfl rfl (by omega) (by omega)
        refine va_iald hx hb hK hP 52 0 rfl rfl (vp_inI (by omega) (by omega)) dX11_judged_71 ?_
        refine lv_topi (fun v_37 ev_37 => ?_)
        subst hQ
        exact W.iret (v := v_37) hx hb hr (fun t ht hW => ⟨⟨_, r35, rfl, ⟨hRr, hEr, trivial⟩, by rw [ht]; exact hP, va_K.moved hW.alike hK, hD⟩, hS.F ht⟩) hS.2.2 dX11_judged_72
  · skip
    refine lv_if_ne (tgt := 21) hx hb dX11_judged_16 (by decide) (fun c_38 => absurd (by decide) c_38) (fun c_38 => ?_)
    refine lv_iconst (v := (-1)) hx hb dX11_judged_19 (by decide) ?_
    subst hQ
    exact W.iret (v := (-1)) hx hb hr (fun t ht hW => ⟨⟨_, r, rfl, ⟨hRr, hEr, trivial⟩, by rw [ht]; exact hP, va_K.moved hW.alike hK, hD⟩, hS.F ht⟩) hS.2.2 dX11_judged_20
set_option maxHeartbeats 4000000 in
set_option maxRecDepth 100000 in
theorem c_X11_judged.b (l : Launch) (D : va_G) (cy : Nat → ClassId) (a : Nat → Nat) (i : Nat → Int32) (r : Nat → Nat → Int32) (q : Nat → Option Nat) (tl : va_W) (p0 p1 p2 : Int32) (hRi : yRi i) (hRr : yRr r) (hh : ¬ (0 ≤ p0.toInt ∧ p0.toInt < (i 0).toInt)) : Met l yX11_judged (Cond.code yX11_judged cX11_judged 5 (some .int) :: gT) { frames := 3, cells := 0, slots := 0, locals := 67 } (va_Pc [.ref (a 0), .int p0, .int p1, .int p2] (rP D cy (xW cy a i r q (a 20) (a 12) ++ tl))) (vp_Si (fun z => z = (-1))) 0 0 (fun _ => False) := by
  refine Met.ofQ (cc := cX11_judged) (maxL := 5) (ret := (some .int)) (by decide) rfl ?_
  intro p e s m args below meth c s₁ B hml hv Q hQ
  obtain ⟨rfl, hP, hK⟩ := hv
  have hx := B.exec
  have hb := B.bytes
  have hr := B.returns
  have hlocks := B.notSynchronized
  have hT : ∀ w ∈ gT, w.before _ s = true := fun w h => atoms_spec (ws := (Cond.code yX11_judged cX11_judged 5 (some .int) :: gT)) B.pre w (List.mem_cons_of_mem _ h)
  have hown : s.vm.findClass RX11 = some m.cls := findClass_of_methodNamed B.named
  have hl := lv_entry ([.ref (a 0), .int p0, .int p1, .int p2]) (n := 5) (Nat.le_of_ble_eq_true rfl)
  rw [lg_entry_eq]
  generalize (lg_sl ([.ref (a 0), .int p0, .int p1, .int p2]) ++ List.replicate (5 - (lg_sl ([.ref (a 0), .int p0, .int p1, .int p2])).length) Slot.unset).toArray = ls at hl ⊢
  have hl : lv_has ls 5 [(0, .ref (a 0)), (1, .int p0), (2, .int p1), (3, .int p2)] := hl
  have hEi : mEi [] i i := Ei_rf
  have hEr : mEr [] r r := Er_rf
  refine lv_aload_n hx hb dX11_judged_0 rfl (lv_at hl 0 rfl) ?_
  refine lv_iload_n hx hb dX11_judged_1 rfl (lv_at hl 1 rfl) ?_
  refine va_csq (W.runV (As := [.int p0]) (rest := []) ⟨hx, hb, hml, hown, hT⟩ (c_X11_homeAt l D cy a i r q tl p0 hRi hRr) (cwV 1 hT (gV t_443 t_444 t_445 t_446 t_2) rfl rfl rfl (by decide +kernel) ⟨Nat.le_of_ble_eq_true rfl, Nat.le_of_ble_eq_true rfl⟩) (rP_v hP hK (va_recv hK hP (ci := 11) (q0 := 0) rfl rfl)) rfl rfl hl.1 rfl (lv_room (Nat.le_of_ble_eq_true rfl)) dX11_judged_2 ⟨Nat.le_of_ble_eq_true rfl, Nat.le_of_ble_eq_true rfl⟩) (fun r_1 hr_1 => ?_)
  obtain rfl : r_1 = none := hr_1.2 hh
  refine W.eq (g2 := F0 m 5 ls [.null]) rfl ?_
  refine lv_astoreN (lv' := [(4, .null), (0, .ref (a 0)), (1, .int p0), (2, .int p1), (3, .int p2)]) hx hb dX11_judged_5 hl (by decide) rfl (fun ls hl => ?_)
  refine lv_aloadN hx hb dX11_judged_7 (lv_at hl 0 rfl) ?_
  refine lv_ifnullN (tgt := 19) hx hb dX11_judged_9 (by decide) ?_
  refine lv_iconst (v := (-1)) hx hb dX11_judged_19 (by decide) ?_
  subst hQ
  exact W.iret (v := (-1)) hx hb hr (fun t ht hW => ⟨_, rfl, rfl, ht⟩) (fun q hq => absurd hq List.not_mem_nil) dX11_judged_20
set_option maxHeartbeats 4000000 in
set_option maxRecDepth 100000 in
theorem c_X11_check.y (l : Launch) (D : va_G) (cy : Nat → ClassId) (a : Nat → Nat) (i : Nat → Int32) (r : Nat → Nat → Int32) (q : Nat → Option Nat) (tl : va_W) (p0 p1 p2 : Int32) (sz : Nat) (hRi : yRi i) (hRr : yRr r) (hh : 0 ≤ p0.toInt ∧ p0.toInt < (i 0).toInt) (hq : q p0.toNatClampNeg = some (a 61)) : Met l yX11_check (Cond.code yX11_check cX11_check 6 (some .int) :: gT) { frames := 7, cells := 0, slots := 0, locals := 175 } (va_Pc [.ref (a 0), .int p0, .int p1, .int p2] (rM D cy (xW cy a i r q (a 20) (a 12) ++ (hW cy a i r ++ tl)) sz)) (va_Qi (fun (z : Int32) (u : (Nat → Int32) × (Nat → Nat → Int32)) => yRi u.1 ∧ yRr u.2 ∧ mEi [2] i u.1 ∧ mEr [27, 28, 52, 53] r u.2 ∧ True) (fun (u : (Nat → Int32) × (Nat → Nat → Int32)) t => va_P D vwCl (xW cy a u.1 u.2 q (a 20) (a 12) ++ (hW cy a u.1 u.2 ++ tl)) t.heap ∧ va_K D vwCl (vT cy) t ∧ va_D (va_A (xW cy a i r q (a 20) (a 12) ++ (hW cy a i r ++ tl)) sz) (xW cy a u.1 u.2 q (a 20) (a 12) ++ (hW cy a u.1 u.2 ++ tl))) (va_A (xW cy a i r q (a 20) (a 12) ++ (hW cy a i r ++ tl)) sz)) 0 0 (va_A (xW cy a i r q (a 20) (a 12) ++ (hW cy a i r ++ tl)) sz) := by
  refine Met.ofQ (cc := cX11_check) (maxL := 6) (ret := (some .int)) (by decide) rfl ?_
  intro p e s m args below meth c s₁ B hml hv Q hQ
  obtain ⟨rfl, hnw, hsz, hP, hK, hD0⟩ := hv
  have hx := B.exec
  have hb := B.bytes
  have hr := B.returns
  have hlocks := B.notSynchronized
  have hT : ∀ w ∈ gT, w.before _ s = true := fun w h => atoms_spec (ws := (Cond.code yX11_check cX11_check 6 (some .int) :: gT)) B.pre w (List.mem_cons_of_mem _ h)
  have hown : s.vm.findClass RX11 = some m.cls := findClass_of_methodNamed B.named
  subst hsz
  have hD := hD0.self (sz := s.heap.size)
  generalize hAe : va_A (xW cy a i r q (a 20) (a 12) ++ (hW cy a i r ++ tl)) s.heap.size = A at hD hQ
  have hA : ∀ q : Nat, s.heap.size ≤ q → A q := fun q h => by rw [← hAe]; exact Or.inr h
  have hS : va_S A s.heap s.heap [] := va_S.rf
  have hl := lv_entry ([.ref (a 0), .int p0, .int p1, .int p2]) (n := 6) (Nat.le_of_ble_eq_true rfl)
  rw [lg_entry_eq]
  generalize (lg_sl ([.ref (a 0), .int p0, .int p1, .int p2]) ++ List.replicate (6 - (lg_sl ([.ref (a 0), .int p0, .int p1, .int p2])).length) Slot.unset).toArray = ls at hl ⊢
  have hl : lv_has ls 6 [(0, .ref (a 0)), (1, .int p0), (2, .int p1), (3, .int p2)] := hl
  have hEi : mEi [2] i i := Ei_rf
  have hEr : mEr [27, 28, 52, 53] r r := Er_rf
  have hg0 : 0 ≤ (i 0).toInt ∧ (i 0).toInt ≤ 6 := hRi 0
  refine lv_aload_n hx hb dX11_check_0 rfl (lv_at hl 0 rfl) ?_
  refine lv_iload_n hx hb dX11_check_1 rfl (lv_at hl 1 rfl) ?_
  refine va_csq (W.runV (As := [.int p0]) (rest := []) ⟨hx, hb, hml, hown, hT⟩ (c_X11_homeAt l D cy a i r q (hW cy a i r ++ tl) p0 hRi hRr) (cwV 1 hT (gV t_443 t_444 t_445 t_446 t_2) rfl rfl rfl (by decide +kernel) ⟨Nat.le_of_ble_eq_true rfl, Nat.le_of_ble_eq_true rfl⟩) (rP_v hP hK (va_recv hK hP (ci := 11) (q0 := 0) rfl rfl)) rfl rfl hl.1 rfl (lv_room (Nat.le_of_ble_eq_true rfl)) dX11_check_2 ⟨Nat.le_of_ble_eq_true rfl, Nat.le_of_ble_eq_true rfl⟩) (fun r_1 hr_1 => ?_)
  obtain rfl : r_1 = some (a 61) := (hr_1.1 hh).trans hq
  refine W.eq (g2 := F0 m 5 ls [.ref (a 61)]) rfl ?_
  refine lv_astore (lv' := [(4, .ref (a 61)), (0, .ref (a 0)), (1, .int p0), (2, .int p1), (3, .int p2)]) hx hb dX11_check_5 hl (by decide) rfl (fun ls hl => ?_)
  refine lv_aload hx hb dX11_check_7 (lv_at hl 0 rfl) ?_
  refine lv_ifnull hx hb dX11_check_9 ?_
  refine lv_iload_n hx hb dX11_check_12 rfl (lv_at hl 3 rfl) ?_
  refine vp_callSi (W.runS (As := [.int p1]) (rest := []) ⟨hx, hb, hml, hown, hT⟩ (c_X11_isDay l p1) (va_cwS 1 hT (gS t_279 t_280 t_281 t_2) rfl rfl rfl (by decide +kernel) ⟨Nat.le_of_ble_eq_true rfl, Nat.le_of_ble_eq_true rfl⟩) preT rfl rfl hl.1 rfl (lv_room (Nat.le_of_ble_eq_true rfl)) dX11_check_13 ⟨Nat.le_of_ble_eq_true rfl, Nat.le_of_ble_eq_true rfl⟩) (fun r_2 hr_2 => ?_)
  have hr_2 : BR r_2 (0 ≤ p1.toInt ∧ p1.toInt ≤ 9999) 1 0 := hr_2
  rcases hr_2 with ⟨rfl, h_3⟩ | ⟨rfl, h_3⟩
  · skip
    refine lv_if_eq (tgt := 41) hx hb dX11_check_16 (by decide) (fun c_4 => absurd c_4 (by decide)) (fun c_4 => ?_)
    refine lv_iload_n hx hb dX11_check_19 rfl (lv_at hl 4 rfl) ?_
    refine lv_iconst (v := 0) hx hb dX11_check_20 (by decide) ?_
    refine lv_iconst (v := 4) hx hb dX11_check_21 (by decide) ?_
    refine vp_callSi (W.runS (As := [.int p2, .int 0, .int 4]) (rest := []) ⟨hx, hb, hml, hown, hT⟩ (c_X11_within l p2 0 4) (va_cwS 3 hT (gS t_1 t_3 t_4 t_2) rfl rfl rfl (by decide +kernel) ⟨Nat.le_of_ble_eq_true rfl, Nat.le_of_ble_eq_true rfl⟩) preT rfl rfl hl.1 rfl (lv_room (Nat.le_of_ble_eq_true rfl)) dX11_check_22 ⟨Nat.le_of_ble_eq_true rfl, Nat.le_of_ble_eq_true rfl⟩) (fun r_5 hr_5 => ?_)
    have hr_5 : BR r_5 (0 ≤ p2.toInt ∧ p2.toInt ≤ 4) 1 0 := hr_5
    rcases hr_5 with ⟨rfl, h_6⟩ | ⟨rfl, h_6⟩
    · skip
      refine lv_if_eq (tgt := 41) hx hb dX11_check_25 (by decide) (fun c_7 => absurd c_7 (by decide)) (fun c_7 => ?_)
      refine lv_iconst (v := 4) hx hb dX11_check_28 (by decide) ?_
      refine lv_iload_n hx hb dX11_check_29 rfl (lv_at hl 4 rfl) ?_
      refine lv_imul hx hb dX11_check_30 ?_
      refine lv_topi (fun v_8 ev_8 => ?_)
      have hv_8 : v_8.toInt = 4 * p2.toInt := by rw [ev_8]; have := b_rg p2; exact i_mul (a := 4) (b := p2.toInt) rfl rfl (by omega) (by omega)
      refine lv_aload_n hx hb dX11_check_31 rfl (lv_at hl 1 rfl) ?_
      refine va_get (D := D) (ci := 11) (v := .ref (a 8)) (C := RX11) (T := TX11) (N := 14) hx hb hT iX11 hown hK hP 0 rfl rfl 4 (by decide) (hT _ t_335) (fun _ h9 => h9) rfl dX11_check_32 ?_
      refine va_get (D := D) (ci := 9) (v := .int (i 2)) (C := RX9) (T := TX9) (N := 2) hx hb hT iX9 hown hK hP 8 rfl rfl 1 (by decide) (hT _ t_336) (fun _ h9 => h9) rfl dX11_check_35 ?_
      have hg_9 : 0 ≤ (i 2).toInt ∧ (i 2).toInt ≤ 220 := hRi 2
      refine lv_icmp_le (tgt := 44) hx hb dX11_check_38 (by decide) (fun c_10 => ?_) (fun c_10 => ?_)
      · have c_10 : v_8.toInt ≤ (i 2).toInt := b_le c_10
        refine lv_aload_n hx hb dX11_check_44 rfl (lv_at hl 1 rfl) ?_
        refine va_get (D := D) (ci := 11) (v := .ref (a 51)) (C := RX11) (T := TX11) (N := 14) hx hb hT iX11 hown hK hP 0 rfl rfl 11 (by decide) (hT _ t_595) (fun _ h9 => h9) rfl dX11_check_45 ?_
        refine lv_aload_n hx hb dX11_check_48 rfl (lv_at hl 1 rfl) ?_
        refine lv_aload hx hb dX11_check_49 (lv_at hl 0 rfl) ?_
        refine lv_aload_n hx hb dX11_check_51 rfl (lv_at hl 1 rfl) ?_
        refine lv_iload_n hx hb dX11_check_52 rfl (lv_at hl 2 rfl) ?_
        refine lv_iload_n hx hb dX11_check_53 rfl (lv_at hl 3 rfl) ?_
        have hF_11 := rF hD hS hA
        refine va_calli (va_runV (As := [.int p0, .int p1]) (rest := [.ref (a 61), .ref (a 0), .ref (a 51)]) ⟨hx, hb, hml, hown, hT⟩ (c_X11_awards l D cy a i r q tl p0 p1 _ hRi hRr hh hq) (cwV 2 hT (gV t_591 t_592 t_593 t_594 t_2) rfl rfl rfl (by decide +kernel) ⟨Nat.le_of_ble_eq_true rfl, Nat.le_of_ble_eq_true rfl⟩) (rM_v hnw hP hK hD (va_recv hK hP (ci := 11) (q0 := 0) rfl rfl)) rfl rfl hl.1 rfl (lv_room (Nat.le_of_ble_eq_true rfl)) dX11_check_54 ⟨Nat.le_of_ble_eq_true rfl, Nat.le_of_ble_eq_true rfl⟩) hS (fun q _ h => hF_11 q h) hF_11 (fun r_12 u_13 t H1 locs ht hvm hr_12 hB hz1 hk1 hS => ?_)
        obtain ⟨r13, rfl⟩ : ∃ z, z = u_13 := ⟨_, rfl⟩
        obtain ⟨hP, hK1, hD1⟩ := hB
        rw [ht] at hP
        have hD := hD1.weaken (fun k q _ h => hF_11 q.1 h)
        obtain ⟨hRr, hE2, hr_12⟩ := hr_12
        have hRr : yRr r13 := hRr
        have hE2 : mEr [27, 28] r r13 := hE2
        have hP : va_P D vwCl (xW cy a i r13 q (a 20) (a 12) ++ (hW cy a i r13 ++ tl)) H1 := hP
        have hD : va_D A (xW cy a i r13 q (a 20) (a 12) ++ (hW cy a i r13 ++ tl)) := hD
        have hEr : mEr [27, 28, 52, 53] _ r13 := Er_tr hEr hE2 (by decide)
        have hF_14 := rF hD hS hA
        refine va_calli (va_runV (As := [.ref (a 61), .int r_12]) (rest := [.ref (a 51)]) ⟨hx, hb, hml, hown, hT⟩ (c_X11_paidBack l D cy a i r13 q tl r_12 _ hRi hRr) (cwV 2 hT (gV t_596 t_597 t_598 t_599 t_2) rfl rfl rfl (by decide +kernel) ⟨Nat.le_of_ble_eq_true rfl, Nat.le_of_ble_eq_true rfl⟩) (rM_v hnw hP hK hD (va_recv hK hP (ci := 11) (q0 := 0) rfl rfl)) rfl rfl hl.1 rfl (lv_room (Nat.le_of_ble_eq_true rfl)) dX11_check_57 ⟨Nat.le_of_ble_eq_true rfl, Nat.le_of_ble_eq_true rfl⟩) hS (fun q _ h => hF_14 q h) hF_14 (fun r_15 u_16 t H1 locs ht hvm hr_15 hB hz1 hk1 hS => ?_)
        obtain ⟨r16, rfl⟩ : ∃ z, z = u_16 := ⟨_, rfl⟩
        obtain ⟨hP, hK1, hD1⟩ := hB
        rw [ht] at hP
        have hD := hD1.weaken (fun k q _ h => hF_14 q.1 h)
        obtain ⟨hRr, hE2, hr_15⟩ := hr_15
        have hRr : yRr r16 := hRr
        have hE2 : mEr [27, 28] r13 r16 := hE2
        have hP : va_P D vwCl (xW cy a i r16 q (a 20) (a 12) ++ (hW cy a i r16 ++ tl)) H1 := hP
        have hD : va_D A (xW cy a i r16 q (a 20) (a 12) ++ (hW cy a i r16 ++ tl)) := hD
        have hEr : mEr [27, 28, 52, 53] _ r16 := Er_tr hEr hE2 (by decide)
        refine lv_aload hx hb dX11_check_60 (lv_at hl 0 rfl) ?_
        have hF_17 := rF hD hS hA
        refine va_callv (va_runV (As := [.int r_15, .ref (a 61)]) (rest := []) ⟨hx, hb, hml, hown, hT⟩ (c_X0_divide l D cy a i r16 q tl r_15 _ hRi hRr) (cwV 2 hT (gV t_600 t_601 t_602 t_603 t_586) rfl rfl rfl (by decide +kernel) ⟨Nat.le_of_ble_eq_true rfl, Nat.le_of_ble_eq_true rfl⟩) (rQ_v hP hK hD (va_recv hK hP (ci := 0) (q0 := 51) rfl rfl)) rfl rfl hl.1 rfl (lv_room (Nat.le_of_ble_eq_true rfl)) dX11_check_62 ⟨Nat.le_of_ble_eq_true rfl, Nat.le_of_ble_eq_true rfl⟩) hS (fun q _ h => hF_17 q h) hF_17 (fun u_19 t H1 locs ht hvm hr_18 hB hz1 hk1 hS => ?_)
        obtain ⟨r19, rfl⟩ : ∃ z, z = u_19 := ⟨_, rfl⟩
        obtain ⟨hP, hK1, hD1⟩ := hB
        rw [ht] at hP
        have hD := hD1.weaken (fun k q _ h => hF_17 q.1 h)
        obtain ⟨hRr, hE2, hr_18⟩ := hr_18
        have hRr : yRr r19 := hRr
        have hE2 : mEr [52, 53] r16 r19 := hE2
        have hP : va_P D vwCl (xW cy a i r19 q (a 20) (a 12) ++ (hW cy a i r19 ++ tl)) H1 := hP
        have hD : va_D A (xW cy a i r19 q (a 20) (a 12) ++ (hW cy a i r19 ++ tl)) := hD
        have hEr : mEr [27, 28, 52, 53] _ r19 := Er_tr hEr hE2 (by decide)
        refine lv_aload_n hx hb dX11_check_65 rfl (lv_at hl 1 rfl) ?_
        refine va_get (D := D) (ci := 11) (v := .ref (a 51)) (C := RX11) (T := TX11) (N := 14) hx hb hT iX11 hown hK hP 0 rfl rfl 11 (by decide) (hT _ t_595) (fun _ h9 => h9) rfl dX11_check_66 ?_
        refine lv_aload_n hx hb dX11_check_69 rfl (lv_at hl 1 rfl) ?_
        refine va_get (D := D) (ci := 11) (v := .ref (a 8)) (C := RX11) (T := TX11) (N := 14) hx hb hT iX11 hown hK hP 0 rfl rfl 4 (by decide) (hT _ t_335) (fun _ h9 => h9) rfl dX11_check_70 ?_
        refine lv_iload_n hx hb dX11_check_73 rfl (lv_at hl 4 rfl) ?_
        refine lv_aload hx hb dX11_check_74 (lv_at hl 0 rfl) ?_
        refine va_get (D := D) (ci := 3) (v := .int (i 18)) (C := RX3) (T := TX3) (N := 12) hx hb hT iX3 hown hK hP 61 rfl rfl 1 (by decide) (hT _ t_447) (fun _ h9 => h9) rfl dX11_check_76 ?_
        have hg_20 : 1 ≤ (i 18).toInt ∧ (i 18).toInt ≤ 4 := hRi 18
        refine va_mmin hx hb (by rw [hml]; exact hl.1.symm) hown (hT _ t_568) (hT _ t_380) (hT _ t_289) (hT _ t_381) (Nat.le_of_ble_eq_true rfl) (Nat.le_of_ble_eq_true rfl) (Nat.le_of_ble_eq_true rfl) (Nat.le_of_ble_eq_true rfl) dX11_check_79 ?_
        refine lv_topi (fun v_21 ev_21 => ?_)
        refine vp_callSi (W.runV (As := [.ref (a 8), .int v_21]) (rest := []) ⟨hx, hb, hml, hown, hT⟩ (c_X0_firstUnlike l D cy a i r19 q (hW cy a i r19 ++ tl) v_21 hRi hRr) (cwV 2 hT (gV t_605 t_606 t_607 t_608 t_586) rfl rfl rfl (by decide +kernel) ⟨Nat.le_of_ble_eq_true rfl, Nat.le_of_ble_eq_true rfl⟩) (rP_v hP hK (va_recv hK hP (ci := 0) (q0 := 51) rfl rfl)) rfl rfl hl.1 rfl (lv_room (Nat.le_of_ble_eq_true rfl)) dX11_check_82 ⟨Nat.le_of_ble_eq_true rfl, Nat.le_of_ble_eq_true rfl⟩) (fun r_22 hr_22 => ?_)
        refine lv_istore (lv' := [(5, .int r_22), (4, .ref (a 61)), (0, .ref (a 0)), (1, .int p0), (2, .int p1), (3, .int p2)]) hx hb dX11_check_85 hl (by decide) rfl (fun ls hl => ?_)
        refine lv_aload_n hx hb dX11_check_87 rfl (lv_at hl 2 rfl) ?_
        refine va_get (D := D) (ci := 11) (v := .ref (a 8)) (C := RX11) (T := TX11) (N := 14) hx hb hT iX11 hown hK hP 0 rfl rfl 4 (by decide) (hT _ t_335) (fun _ h9 => h9) rfl dX11_check_88 ?_
        refine lv_iconst (v := 0) hx hb dX11_check_91 (by decide) ?_
        refine va_put (D := D) (ci := 9) (v := .int 0) (ty := .int) (C := RX9) (T := TX9) (N := 2) hx hb hT iX9 tyX9 tyX9_ok nmX9 hown hK hP hD hS 8 rfl rfl 1 (by decide) (hT _ t_336) (fun _ h9 => h9) rfl (by decide +kernel) rfl rfl (Nat.le_of_ble_eq_true rfl) dX11_check_92 (fun H locs hP hD hS => ?_)
        rw [yP2] at hP hD
        have hRi := Yi_upd hRi 2 0 ⟨by decide, by decide⟩
        have hEi := Ei_upd hEi 2 0 (by decide)
        refine lv_iload hx hb dX11_check_95 (lv_at hl 0 rfl) ?_
        refine lv_iload_n hx hb dX11_check_97 rfl (lv_at hl 5 rfl) ?_
        refine lv_icmp_ne (tgt := 114) hx hb dX11_check_98 (by decide) (fun c_23 => ?_) (fun c_23 => ?_)
        · have c_23 : r_22.toInt ≠ p2.toInt := b_ne c_23
          refine lv_iload hx hb dX11_check_114 (lv_at hl 0 rfl) ?_
          subst hQ
          exact W.iret (v := r_22) hx hb hr (fun t ht hW => ⟨⟨_, (upd i 2 0, r19), rfl, ⟨hRi, hRr, hEi, hEr, trivial⟩, by rw [ht]; exact hP, va_K.moved hW.alike hK, hD⟩, hS.F ht⟩) hS.2.2 dX11_check_116
        · have c_23 : r_22.toInt = p2.toInt := b_nne c_23
          refine lv_iload_n hx hb dX11_check_101 rfl (lv_at hl 5 rfl) ?_
          refine lv_aload hx hb dX11_check_102 (lv_at hl 1 rfl) ?_
          refine va_get (D := D) (ci := 3) (v := .int (i 18)) (C := RX3) (T := TX3) (N := 12) hx hb hT iX3 hown hK hP 61 rfl rfl 1 (by decide) (hT _ t_447) (fun _ h9 => h9) rfl dX11_check_104 ?_
          refine lv_icmp_ne (tgt := 114) hx hb dX11_check_107 (by decide) (fun c_24 => ?_) (fun c_24 => ?_)
          · have c_24 : p2.toInt ≠ (i 18).toInt := b_ne c_24
            refine lv_iload hx hb dX11_check_114 (lv_at hl 0 rfl) ?_
            subst hQ
            exact W.iret (v := r_22) hx hb hr (fun t ht hW => ⟨⟨_, (upd i 2 0, r19), rfl, ⟨hRi, hRr, hEi, hEr, trivial⟩, by rw [ht]; exact hP, va_K.moved hW.alike hK, hD⟩, hS.F ht⟩) hS.2.2 dX11_check_116
          · have c_24 : p2.toInt = (i 18).toInt := b_nne c_24
            refine lv_iconst (v := (-1)) hx hb dX11_check_110 (by decide) ?_
            refine lv_goto (tgt := 116) hx hb dX11_check_111 (by decide) ?_
            subst hQ
            exact W.iret (v := (-1)) hx hb hr (fun t ht hW => ⟨⟨_, (upd i 2 0, r19), rfl, ⟨hRi, hRr, hEi, hEr, trivial⟩, by rw [ht]; exact hP, va_K.moved hW.alike hK, hD⟩, hS.F ht⟩) hS.2.2 dX11_check_116
      · have c_10 : (i 2).toInt < v_8.toInt := b_nle c_10
        refine lv_bipush (v := (-2)) hx hb dX11_check_41 (by decide) ?_
        subst hQ
        exact W.iret (v := (-2)) hx hb hr (fun t ht hW => ⟨⟨_, (i, r), rfl, ⟨hRi, hRr, hEi, hEr, trivial⟩, by rw [ht]; exact hP, va_K.moved hW.alike hK, hD⟩, hS.F ht⟩) hS.2.2 dX11_check_43
    · skip
      refine lv_if_eq (tgt := 41) hx hb dX11_check_25 (by decide) (fun c_25 => ?_) (fun c_25 => absurd (by decide) c_25)
      refine lv_bipush (v := (-2)) hx hb dX11_check_41 (by decide) ?_
      subst hQ
      exact W.iret (v := (-2)) hx hb hr (fun t ht hW => ⟨⟨_, (i, r), rfl, ⟨hRi, hRr, hEi, hEr, trivial⟩, by rw [ht]; exact hP, va_K.moved hW.alike hK, hD⟩, hS.F ht⟩) hS.2.2 dX11_check_43
  · skip
    refine lv_if_eq (tgt := 41) hx hb dX11_check_16 (by decide) (fun c_26 => ?_) (fun c_26 => absurd (by decide) c_26)
    refine lv_bipush (v := (-2)) hx hb dX11_check_41 (by decide) ?_
    subst hQ
    exact W.iret (v := (-2)) hx hb hr (fun t ht hW => ⟨⟨_, (i, r), rfl, ⟨hRi, hRr, hEi, hEr, trivial⟩, by rw [ht]; exact hP, va_K.moved hW.alike hK, hD⟩, hS.F ht⟩) hS.2.2 dX11_check_43
set_option maxHeartbeats 4000000 in
set_option maxRecDepth 100000 in
theorem c_X11_check.b (l : Launch) (D : va_G) (cy : Nat → ClassId) (a : Nat → Nat) (i : Nat → Int32) (r : Nat → Nat → Int32) (q : Nat → Option Nat) (tl : va_W) (p0 p1 p2 : Int32) (hRi : yRi i) (hRr : yRr r) (hh : ¬ (0 ≤ p0.toInt ∧ p0.toInt < (i 0).toInt)) : Met l yX11_check (Cond.code yX11_check cX11_check 6 (some .int) :: gT) { frames := 3, cells := 0, slots := 0, locals := 67 } (va_Pc [.ref (a 0), .int p0, .int p1, .int p2] (rP D cy (xW cy a i r q (a 20) (a 12) ++ tl))) (vp_Si (fun z => z = (-2))) 0 0 (fun _ => False) := by
  refine Met.ofQ (cc := cX11_check) (maxL := 6) (ret := (some .int)) (by decide) rfl ?_
  intro p e s m args below meth c s₁ B hml hv Q hQ
  obtain ⟨rfl, hP, hK⟩ := hv
  have hx := B.exec
  have hb := B.bytes
  have hr := B.returns
  have hlocks := B.notSynchronized
  have hT : ∀ w ∈ gT, w.before _ s = true := fun w h => atoms_spec (ws := (Cond.code yX11_check cX11_check 6 (some .int) :: gT)) B.pre w (List.mem_cons_of_mem _ h)
  have hown : s.vm.findClass RX11 = some m.cls := findClass_of_methodNamed B.named
  have hl := lv_entry ([.ref (a 0), .int p0, .int p1, .int p2]) (n := 6) (Nat.le_of_ble_eq_true rfl)
  rw [lg_entry_eq]
  generalize (lg_sl ([.ref (a 0), .int p0, .int p1, .int p2]) ++ List.replicate (6 - (lg_sl ([.ref (a 0), .int p0, .int p1, .int p2])).length) Slot.unset).toArray = ls at hl ⊢
  have hl : lv_has ls 6 [(0, .ref (a 0)), (1, .int p0), (2, .int p1), (3, .int p2)] := hl
  have hEi : mEi [] i i := Ei_rf
  have hEr : mEr [] r r := Er_rf
  refine lv_aload_n hx hb dX11_check_0 rfl (lv_at hl 0 rfl) ?_
  refine lv_iload_n hx hb dX11_check_1 rfl (lv_at hl 1 rfl) ?_
  refine va_csq (W.runV (As := [.int p0]) (rest := []) ⟨hx, hb, hml, hown, hT⟩ (c_X11_homeAt l D cy a i r q tl p0 hRi hRr) (cwV 1 hT (gV t_443 t_444 t_445 t_446 t_2) rfl rfl rfl (by decide +kernel) ⟨Nat.le_of_ble_eq_true rfl, Nat.le_of_ble_eq_true rfl⟩) (rP_v hP hK (va_recv hK hP (ci := 11) (q0 := 0) rfl rfl)) rfl rfl hl.1 rfl (lv_room (Nat.le_of_ble_eq_true rfl)) dX11_check_2 ⟨Nat.le_of_ble_eq_true rfl, Nat.le_of_ble_eq_true rfl⟩) (fun r_1 hr_1 => ?_)
  obtain rfl : r_1 = none := hr_1.2 hh
  refine W.eq (g2 := F0 m 5 ls [.null]) rfl ?_
  refine lv_astoreN (lv' := [(4, .null), (0, .ref (a 0)), (1, .int p0), (2, .int p1), (3, .int p2)]) hx hb dX11_check_5 hl (by decide) rfl (fun ls hl => ?_)
  refine lv_aloadN hx hb dX11_check_7 (lv_at hl 0 rfl) ?_
  refine lv_ifnullN (tgt := 41) hx hb dX11_check_9 (by decide) ?_
  refine lv_bipush (v := (-2)) hx hb dX11_check_41 (by decide) ?_
  subst hQ
  exact W.iret (v := (-2)) hx hb hr (fun t ht hW => ⟨_, rfl, rfl, ht⟩) (fun q hq => absurd hq List.not_mem_nil) dX11_check_43
set_option maxHeartbeats 4000000 in
set_option maxRecDepth 100000 in
theorem c_X11_count.lo (l : Launch) (D : va_G) (cy : Nat → ClassId) (a : Nat → Nat) (i : Nat → Int32) (r : Nat → Nat → Int32) (q : Nat → Option Nat) (tl : va_W) (p0 : Int32) (hRi : yRi i) (hRr : yRr r) (h1 : p0.toInt ≤ 9) : Met l yX11_count (Cond.code yX11_count cX11_count 3 (some .int) :: gT) { frames := 1, cells := 0, slots := 0, locals := 24 } (va_Pc [.ref (a 0), .int p0] (rP D cy (xW cy a i r q (a 20) (a 12) ++ tl))) (vp_Si (fun z => True)) 0 0 (fun _ => False) := by
  refine Met.ofQ (cc := cX11_count) (maxL := 3) (ret := (some .int)) (by decide) rfl ?_
  intro p e s m args below meth c s₁ B hml hv Q hQ
  obtain ⟨rfl, hP, hK⟩ := hv
  have hx := B.exec
  have hb := B.bytes
  have hr := B.returns
  have hlocks := B.notSynchronized
  have hT : ∀ w ∈ gT, w.before _ s = true := fun w h => atoms_spec (ws := (Cond.code yX11_count cX11_count 3 (some .int) :: gT)) B.pre w (List.mem_cons_of_mem _ h)
  have hown : s.vm.findClass RX11 = some m.cls := findClass_of_methodNamed B.named
  have hl := lv_entry ([.ref (a 0), .int p0]) (n := 3) (Nat.le_of_ble_eq_true rfl)
  rw [lg_entry_eq]
  generalize (lg_sl ([.ref (a 0), .int p0]) ++ List.replicate (3 - (lg_sl ([.ref (a 0), .int p0])).length) Slot.unset).toArray = ls at hl ⊢
  have hl : lv_has ls 3 [(0, .ref (a 0)), (1, .int p0)] := hl
  have hEi : mEi [] i i := Ei_rf
  have hEr : mEr [] r r := Er_rf
  have hg0 : 0 ≤ (i 0).toInt ∧ (i 0).toInt ≤ 6 := hRi 0
  refine lv_iload_n hx hb dX11_count_0 rfl (lv_at hl 1 rfl) ?_
  refine lv_bipush (v := 30) hx hb dX11_count_1 (by decide) ?_
  refine lv_icmp_lt (tgt := 34) hx hb dX11_count_3 (by decide) (fun c_1 => ?_) (fun c_1 => by have c_1 : 30 ≤ p0.toInt := b_nlt c_1; omega)
  have c_1 : p0.toInt < 30 := b_lt c_1
  refine lv_iload_n hx hb dX11_count_34 rfl (lv_at hl 1 rfl) ?_
  refine lv_bipush (v := 10) hx hb dX11_count_35 (by decide) ?_
  refine lv_icmp_lt (tgt := 79) hx hb dX11_count_37 (by decide) (fun c_2 => ?_) (fun c_2 => by have c_2 : 10 ≤ p0.toInt := b_nlt c_2; omega)
  have c_2 : p0.toInt < 10 := b_lt c_2
  refine lv_iload_n hx hb dX11_count_79 rfl (lv_at hl 1 rfl) ?_
  rcases (show (p0.toInt < 0 ∨ 6 < p0.toInt) ∨ p0.toInt = 0 ∨ p0.toInt = 1 ∨ p0.toInt = 2 ∨ p0.toInt = 3 ∨ p0.toInt = 4 ∨ p0.toInt = 5 ∨ p0.toInt = 6 by omega) with h_3 | h_3 | h_3 | h_3 | h_3 | h_3 | h_3 | h_3
  · refine lv_tableOut (tgt := 177) hx hb dX11_count_80 h_3 (by decide) ?_
    refine lv_iconst (v := (-1)) hx hb dX11_count_177 (by decide) ?_
    subst hQ
    exact W.iret (v := (-1)) hx hb hr (fun t ht hW => ⟨_, rfl, trivial, ht⟩) (fun q hq => absurd hq List.not_mem_nil) dX11_count_178
  · refine lv_tableIn (off := 44) (tgt := 124) hx hb dX11_count_80 (by omega) (by omega) (by rw [h_3]; rfl) (by decide) ?_
    refine lv_aload_n hx hb dX11_count_124 rfl (lv_at hl 0 rfl) ?_
    refine va_get (D := D) (ci := 11) (v := .int (i 0)) (C := RX11) (T := TX11) (N := 14) hx hb hT iX11 hown hK hP 0 rfl rfl 2 (by decide) (hT _ t_263) (fun _ h9 => h9) rfl dX11_count_125 ?_
    have hg_4 : 0 ≤ (i 0).toInt ∧ (i 0).toInt ≤ 6 := hRi 0
    subst hQ
    exact W.iret (v := i 0) hx hb hr (fun t ht hW => ⟨_, rfl, trivial, ht⟩) (fun q hq => absurd hq List.not_mem_nil) dX11_count_128
  · refine lv_tableIn (off := 49) (tgt := 129) hx hb dX11_count_80 (by omega) (by omega) (by rw [h_3]; rfl) (by decide) ?_
    refine lv_aload_n hx hb dX11_count_129 rfl (lv_at hl 0 rfl) ?_
    refine va_get (D := D) (ci := 11) (v := .ref (a 29)) (C := RX11) (T := TX11) (N := 14) hx hb hT iX11 hown hK hP 0 rfl rfl 8 (by decide) (hT _ t_265) (fun _ h9 => h9) rfl dX11_count_130 ?_
    refine va_get (D := D) (ci := 1) (v := .int (i 10)) (C := RX1) (T := TX1) (N := 12) hx hb hT iX1 hown hK hP 29 rfl rfl 0 (by decide) (hT _ t_266) (fun _ h9 => h9) rfl dX11_count_133 ?_
    have hg_5 : 0 ≤ (i 10).toInt ∧ (i 10).toInt ≤ 30 := hRi 10
    subst hQ
    exact W.iret (v := i 10) hx hb hr (fun t ht hW => ⟨_, rfl, trivial, ht⟩) (fun q hq => absurd hq List.not_mem_nil) dX11_count_136
  · refine lv_tableIn (off := 57) (tgt := 137) hx hb dX11_count_80 (by omega) (by omega) (by rw [h_3]; rfl) (by decide) ?_
    refine lv_aload_n hx hb dX11_count_137 rfl (lv_at hl 0 rfl) ?_
    refine va_get (D := D) (ci := 11) (v := .ref (a 20)) (C := RX11) (T := TX11) (N := 14) hx hb hT iX11 hown hK hP 0 rfl rfl 6 (by decide) (hT _ t_516) (fun _ h9 => h9) rfl dX11_count_138 ?_
    refine va_get (D := D) (ci := 5) (v := .int (i 8)) (C := RX5) (T := TX5) (N := 9) hx hb hT iX5 hown hK hP 20 rfl rfl 0 (by decide) (hT _ t_609) (fun _ h9 => h9) rfl dX11_count_141 ?_
    have hg_6 : 0 ≤ (i 8).toInt ∧ (i 8).toInt ≤ 14 := hRi 8
    subst hQ
    exact W.iret (v := i 8) hx hb hr (fun t ht hW => ⟨_, rfl, trivial, ht⟩) (fun q hq => absurd hq List.not_mem_nil) dX11_count_144
  · refine lv_tableIn (off := 65) (tgt := 145) hx hb dX11_count_80 (by omega) (by omega) (by rw [h_3]; rfl) (by decide) ?_
    refine lv_aload_n hx hb dX11_count_145 rfl (lv_at hl 0 rfl) ?_
    refine va_get (D := D) (ci := 11) (v := .ref (a 8)) (C := RX11) (T := TX11) (N := 14) hx hb hT iX11 hown hK hP 0 rfl rfl 4 (by decide) (hT _ t_335) (fun _ h9 => h9) rfl dX11_count_146 ?_
    refine va_get (D := D) (ci := 9) (v := .int (i 2)) (C := RX9) (T := TX9) (N := 2) hx hb hT iX9 hown hK hP 8 rfl rfl 1 (by decide) (hT _ t_336) (fun _ h9 => h9) rfl dX11_count_149 ?_
    have hg_7 : 0 ≤ (i 2).toInt ∧ (i 2).toInt ≤ 220 := hRi 2
    subst hQ
    exact W.iret (v := i 2) hx hb hr (fun t ht hW => ⟨_, rfl, trivial, ht⟩) (fun q hq => absurd hq List.not_mem_nil) dX11_count_152
  · refine lv_tableIn (off := 73) (tgt := 153) hx hb dX11_count_80 (by omega) (by omega) (by rw [h_3]; rfl) (by decide) ?_
    refine lv_aload_n hx hb dX11_count_153 rfl (lv_at hl 0 rfl) ?_
    refine va_get (D := D) (ci := 11) (v := .ref (a 54)) (C := RX11) (T := TX11) (N := 14) hx hb hT iX11 hown hK hP 0 rfl rfl 12 (by decide) (hT _ t_292) (fun _ h9 => h9) rfl dX11_count_154 ?_
    refine va_get (D := D) (ci := 2) (v := .int (i 14)) (C := RX2) (T := TX2) (N := 4) hx hb hT iX2 hown hK hP 54 rfl rfl 0 (by decide) (hT _ t_293) (fun _ h9 => h9) rfl dX11_count_157 ?_
    have hg_8 : 0 ≤ (i 14).toInt ∧ (i 14).toInt ≤ 40 := hRi 14
    subst hQ
    exact W.iret (v := i 14) hx hb hr (fun t ht hW => ⟨_, rfl, trivial, ht⟩) (fun q hq => absurd hq List.not_mem_nil) dX11_count_160
  · refine lv_tableIn (off := 81) (tgt := 161) hx hb dX11_count_80 (by omega) (by omega) (by rw [h_3]; rfl) (by decide) ?_
    refine lv_aload_n hx hb dX11_count_161 rfl (lv_at hl 0 rfl) ?_
    refine va_get (D := D) (ci := 11) (v := .ref (a 58)) (C := RX11) (T := TX11) (N := 14) hx hb hT iX11 hown hK hP 0 rfl rfl 13 (by decide) (hT _ t_316) (fun _ h9 => h9) rfl dX11_count_162 ?_
    refine va_get (D := D) (ci := 7) (v := .int (i 15)) (C := RX7) (T := TX7) (N := 4) hx hb hT iX7 hown hK hP 58 rfl rfl 0 (by decide) (hT _ t_610) (fun _ h9 => h9) rfl dX11_count_165 ?_
    have hg_9 : 0 ≤ (i 15).toInt ∧ (i 15).toInt ≤ 30 := hRi 15
    subst hQ
    exact W.iret (v := i 15) hx hb hr (fun t ht hW => ⟨_, rfl, trivial, ht⟩) (fun q hq => absurd hq List.not_mem_nil) dX11_count_168
  · refine lv_tableIn (off := 89) (tgt := 169) hx hb dX11_count_80 (by omega) (by omega) (by rw [h_3]; rfl) (by decide) ?_
    refine lv_aload_n hx hb dX11_count_169 rfl (lv_at hl 0 rfl) ?_
    refine va_get (D := D) (ci := 11) (v := .ref (a 29)) (C := RX11) (T := TX11) (N := 14) hx hb hT iX11 hown hK hP 0 rfl rfl 8 (by decide) (hT _ t_265) (fun _ h9 => h9) rfl dX11_count_170 ?_
    refine va_get (D := D) (ci := 1) (v := .int (i 11)) (C := RX1) (T := TX1) (N := 12) hx hb hT iX1 hown hK hP 29 rfl rfl 11 (by decide) (hT _ t_272) (fun _ h9 => h9) rfl dX11_count_173 ?_
    have hg_10 : 0 ≤ (i 11).toInt ∧ (i 11).toInt ≤ 65535 := hRi 11
    subst hQ
    exact W.iret (v := i 11) hx hb hr (fun t ht hW => ⟨_, rfl, trivial, ht⟩) (fun q hq => absurd hq List.not_mem_nil) dX11_count_176
set_option maxHeartbeats 4000000 in
set_option maxRecDepth 100000 in
theorem c_X11_count.hi (l : Launch) (D : va_G) (cy : Nat → ClassId) (a : Nat → Nat) (i : Nat → Int32) (r : Nat → Nat → Int32) (q : Nat → Option Nat) (tl : va_W) (p0 : Int32) (hRi : yRi i) (hRr : yRr r) (h1 : 30 ≤ p0.toInt) : Met l yX11_count (Cond.code yX11_count cX11_count 3 (some .int) :: gT) { frames := 3, cells := 0, slots := 0, locals := 67 } (va_Pc [.ref (a 0), .int p0] (rP D cy (xW cy a i r q (a 20) (a 12) ++ tl))) (vp_Si (fun z => True)) 0 0 (fun _ => False) := by
  refine Met.ofQ (cc := cX11_count) (maxL := 3) (ret := (some .int)) (by decide) rfl ?_
  intro p e s m args below meth c s₁ B hml hv Q hQ
  obtain ⟨rfl, hP, hK⟩ := hv
  have hx := B.exec
  have hb := B.bytes
  have hr := B.returns
  have hlocks := B.notSynchronized
  have hT : ∀ w ∈ gT, w.before _ s = true := fun w h => atoms_spec (ws := (Cond.code yX11_count cX11_count 3 (some .int) :: gT)) B.pre w (List.mem_cons_of_mem _ h)
  have hown : s.vm.findClass RX11 = some m.cls := findClass_of_methodNamed B.named
  have hl := lv_entry ([.ref (a 0), .int p0]) (n := 3) (Nat.le_of_ble_eq_true rfl)
  rw [lg_entry_eq]
  generalize (lg_sl ([.ref (a 0), .int p0]) ++ List.replicate (3 - (lg_sl ([.ref (a 0), .int p0])).length) Slot.unset).toArray = ls at hl ⊢
  have hl : lv_has ls 3 [(0, .ref (a 0)), (1, .int p0)] := hl
  have hEi : mEi [] i i := Ei_rf
  have hEr : mEr [] r r := Er_rf
  have hg0 : 0 ≤ (i 0).toInt ∧ (i 0).toInt ≤ 6 := hRi 0
  refine lv_iload_n hx hb dX11_count_0 rfl (lv_at hl 1 rfl) ?_
  refine lv_bipush (v := 30) hx hb dX11_count_1 (by decide) ?_
  refine lv_icmp_lt (tgt := 34) hx hb dX11_count_3 (by decide) (fun c_1 => by have c_1 : p0.toInt < 30 := b_lt c_1; omega) (fun c_1 => ?_)
  have c_1 : 30 ≤ p0.toInt := b_nlt c_1
  refine lv_aload_n hx hb dX11_count_6 rfl (lv_at hl 0 rfl) ?_
  refine lv_iload_n hx hb dX11_count_7 rfl (lv_at hl 1 rfl) ?_
  refine lv_bipush (v := 30) hx hb dX11_count_8 (by decide) ?_
  refine lv_isub hx hb dX11_count_10 ?_
  refine lv_topi (fun v_2 ev_2 => ?_)
  have hv_2 : v_2.toInt = p0.toInt - 30 := by rw [ev_2]; have := b_rg p0; exact i_sub (a := p0.toInt) (b := 30) rfl rfl (by omega) (by omega)
  refine vp_callSi (W.runV (As := [.int v_2]) (rest := []) ⟨hx, hb, hml, hown, hT⟩ (c_X11_isClaim l D cy a i r q tl v_2 hRi hRr) (cwV 1 hT (gV t_273 t_274 t_275 t_276 t_2) rfl rfl rfl (by decide +kernel) ⟨Nat.le_of_ble_eq_true rfl, Nat.le_of_ble_eq_true rfl⟩) (rP_v hP hK (va_recv hK hP (ci := 11) (q0 := 0) rfl rfl)) rfl rfl hl.1 rfl (lv_room (Nat.le_of_ble_eq_true rfl)) dX11_count_11 ⟨Nat.le_of_ble_eq_true rfl, Nat.le_of_ble_eq_true rfl⟩) (fun r_3 hr_3 => ?_)
  have hg_4 : 0 ≤ (i 10).toInt ∧ (i 10).toInt ≤ 30 := hRi 10
  have hr_3 : BR r_3 (0 ≤ v_2.toInt ∧ v_2.toInt < (i 10).toInt) 1 0 := hr_3
  rcases hr_3 with ⟨rfl, h_5⟩ | ⟨rfl, h_5⟩
  · skip
    refine lv_if_eq (tgt := 32) hx hb dX11_count_14 (by decide) (fun c_6 => absurd c_6 (by decide)) (fun c_6 => ?_)
    refine lv_aload_n hx hb dX11_count_17 rfl (lv_at hl 0 rfl) ?_
    refine va_get (D := D) (ci := 11) (v := .ref (a 29)) (C := RX11) (T := TX11) (N := 14) hx hb hT iX11 hown hK hP 0 rfl rfl 8 (by decide) (hT _ t_265) (fun _ h9 => h9) rfl dX11_count_18 ?_
    refine va_get (D := D) (ci := 1) (v := .ref (a 30)) (C := RX1) (T := TX1) (N := 12) hx hb hT iX1 hown hK hP 29 rfl rfl 1 (by decide) (hT _ t_548) (fun _ h9 => h9) rfl dX11_count_21 ?_
    refine lv_iload_n hx hb dX11_count_24 rfl (lv_at hl 1 rfl) ?_
    refine lv_bipush (v := 30) hx hb dX11_count_25 (by decide) ?_
    refine lv_isub hx hb dX11_count_27 ?_
    refine lv_topi (fun v_7 ev_7 => ?_)
    have hv_7 : v_7.toInt = p0.toInt - 30 := by rw [ev_7]; have := b_rg p0; exact i_sub (a := p0.toInt) (b := 30) rfl rfl (by omega) (by omega)
    refine va_iald hx hb hK hP 30 0 rfl rfl (vp_inI (by omega) (by omega)) dX11_count_28 ?_
    refine lv_topi (fun v_8 ev_8 => ?_)
    have hgv_8 : 0 ≤ v_8.toInt ∧ v_8.toInt ≤ 5 := by rw [ev_8]; exact hRr 30 _
    refine lv_goto (tgt := 33) hx hb dX11_count_29 (by decide) ?_
    subst hQ
    exact W.iret (v := v_8) hx hb hr (fun t ht hW => ⟨_, rfl, trivial, ht⟩) (fun q hq => absurd hq List.not_mem_nil) dX11_count_33
  · skip
    refine lv_if_eq (tgt := 32) hx hb dX11_count_14 (by decide) (fun c_9 => ?_) (fun c_9 => absurd (by decide) c_9)
    refine lv_iconst (v := (-1)) hx hb dX11_count_32 (by decide) ?_
    subst hQ
    exact W.iret (v := (-1)) hx hb hr (fun t ht hW => ⟨_, rfl, trivial, ht⟩) (fun q hq => absurd hq List.not_mem_nil) dX11_count_33
set_option maxHeartbeats 4000000 in
set_option maxRecDepth 100000 in
theorem c_X11_count.y (l : Launch) (D : va_G) (cy : Nat → ClassId) (a : Nat → Nat) (i : Nat → Int32) (r : Nat → Nat → Int32) (q : Nat → Option Nat) (tl : va_W) (p0 : Int32) (hRi : yRi i) (hRr : yRr r) (h1 : 10 ≤ p0.toInt ∧ p0.toInt ≤ 29) (hh : p0.toInt % 10 < (i 0).toInt) (hq : ∀ z : Int32, z.toInt = p0.toInt % 10 → q z.toNatClampNeg = some (a 61)) : Met l yX11_count (Cond.code yX11_count cX11_count 3 (some .int) :: gT) { frames := 3, cells := 0, slots := 0, locals := 67 } (va_Pc [.ref (a 0), .int p0] (rP D cy (xW cy a i r q (a 20) (a 12) ++ (hW cy a i r ++ tl)))) (vp_Si (fun z => True)) 0 0 (fun _ => False) := by
  refine Met.ofQ (cc := cX11_count) (maxL := 3) (ret := (some .int)) (by decide) rfl ?_
  intro p e s m args below meth c s₁ B hml hv Q hQ
  obtain ⟨rfl, hP, hK⟩ := hv
  have hx := B.exec
  have hb := B.bytes
  have hr := B.returns
  have hlocks := B.notSynchronized
  have hT : ∀ w ∈ gT, w.before _ s = true := fun w h => atoms_spec (ws := (Cond.code yX11_count cX11_count 3 (some .int) :: gT)) B.pre w (List.mem_cons_of_mem _ h)
  have hown : s.vm.findClass RX11 = some m.cls := findClass_of_methodNamed B.named
  have hl := lv_entry ([.ref (a 0), .int p0]) (n := 3) (Nat.le_of_ble_eq_true rfl)
  rw [lg_entry_eq]
  generalize (lg_sl ([.ref (a 0), .int p0]) ++ List.replicate (3 - (lg_sl ([.ref (a 0), .int p0])).length) Slot.unset).toArray = ls at hl ⊢
  have hl : lv_has ls 3 [(0, .ref (a 0)), (1, .int p0)] := hl
  have hEi : mEi [] i i := Ei_rf
  have hEr : mEr [] r r := Er_rf
  have hg0 : 0 ≤ (i 0).toInt ∧ (i 0).toInt ≤ 6 := hRi 0
  refine lv_iload_n hx hb dX11_count_0 rfl (lv_at hl 1 rfl) ?_
  refine lv_bipush (v := 30) hx hb dX11_count_1 (by decide) ?_
  refine lv_icmp_lt (tgt := 34) hx hb dX11_count_3 (by decide) (fun c_1 => ?_) (fun c_1 => by have c_1 : 30 ≤ p0.toInt := b_nlt c_1; omega)
  have c_1 : p0.toInt < 30 := b_lt c_1
  refine lv_iload_n hx hb dX11_count_34 rfl (lv_at hl 1 rfl) ?_
  refine lv_bipush (v := 10) hx hb dX11_count_35 (by decide) ?_
  refine lv_icmp_lt (tgt := 79) hx hb dX11_count_37 (by decide) (fun c_2 => by have c_2 : p0.toInt < 10 := b_lt c_2; omega) (fun c_2 => ?_)
  have c_2 : 10 ≤ p0.toInt := b_nlt c_2
  refine lv_aload_n hx hb dX11_count_40 rfl (lv_at hl 0 rfl) ?_
  refine lv_iload_n hx hb dX11_count_41 rfl (lv_at hl 1 rfl) ?_
  refine lv_bipush (v := 10) hx hb dX11_count_42 (by decide) ?_
  refine lv_irem hx hb dX11_count_44 (by decide) ?_
  refine lv_topi (fun v_3 ev_3 => ?_)
  have hmv_3 : v_3.toInt = p0.toInt % 10 := by rw [ev_3, rem_toInt]; exact Int.tmod_eq_emod_of_nonneg (by omega)
  refine va_csq (W.runV (As := [.int v_3]) (rest := []) ⟨hx, hb, hml, hown, hT⟩ (c_X11_homeAt l D cy a i r q (hW cy a i r ++ tl) v_3 hRi hRr) (cwV 1 hT (gV t_443 t_444 t_445 t_446 t_2) rfl rfl rfl (by decide +kernel) ⟨Nat.le_of_ble_eq_true rfl, Nat.le_of_ble_eq_true rfl⟩) (rP_v hP hK (va_recv hK hP (ci := 11) (q0 := 0) rfl rfl)) rfl rfl hl.1 rfl (lv_room (Nat.le_of_ble_eq_true rfl)) dX11_count_45 ⟨Nat.le_of_ble_eq_true rfl, Nat.le_of_ble_eq_true rfl⟩) (fun r_4 hr_4 => ?_)
  obtain rfl : r_4 = some (a 61) := (hr_4.1 (by omega)).trans (hq _ hmv_3)
  refine W.eq (g2 := F0 m 48 ls [.ref (a 61)]) rfl ?_
  refine lv_astore_n (lv' := [(2, .ref (a 61)), (0, .ref (a 0)), (1, .int p0)]) hx hb dX11_count_48 rfl hl (by decide) rfl (fun ls hl => ?_)
  refine lv_aload_n hx hb dX11_count_49 rfl (lv_at hl 0 rfl) ?_
  refine lv_ifnonnull (tgt := 55) hx hb dX11_count_50 (by decide) ?_
  refine lv_iload_n hx hb dX11_count_55 rfl (lv_at hl 2 rfl) ?_
  refine lv_bipush (v := 20) hx hb dX11_count_56 (by decide) ?_
  refine lv_icmp_ge (tgt := 71) hx hb dX11_count_58 (by decide) (fun c_5 => ?_) (fun c_5 => ?_)
  · have c_5 : 20 ≤ p0.toInt := b_le c_5
    refine lv_aload_n hx hb dX11_count_71 rfl (lv_at hl 0 rfl) ?_
    refine va_get (D := D) (ci := 3) (v := .ref (a 70)) (C := RX3) (T := TX3) (N := 12) hx hb hT iX3 hown hK hP 61 rfl rfl 10 (by decide) (hT _ t_462) (fun _ h9 => h9) rfl dX11_count_72 ?_
    refine va_get (D := D) (ci := 10) (v := .int (i 24)) (C := RX10) (T := TX10) (N := 5) hx hb hT iX10 hown hK hP 70 rfl rfl 0 (by decide) (hT _ t_463) (fun _ h9 => h9) rfl dX11_count_75 ?_
    have hg_6 : 0 ≤ (i 24).toInt ∧ (i 24).toInt ≤ 20 := hRi 24
    subst hQ
    exact W.iret (v := i 24) hx hb hr (fun t ht hW => ⟨_, rfl, trivial, ht⟩) (fun q hq => absurd hq List.not_mem_nil) dX11_count_78
  · have c_5 : p0.toInt < 20 := b_nle c_5
    refine lv_aload_n hx hb dX11_count_61 rfl (lv_at hl 0 rfl) ?_
    refine va_get (D := D) (ci := 3) (v := .ref (a 65)) (C := RX3) (T := TX3) (N := 12) hx hb hT iX3 hown hK hP 61 rfl rfl 9 (by decide) (hT _ t_453) (fun _ h9 => h9) rfl dX11_count_62 ?_
    refine va_get (D := D) (ci := 10) (v := .int (i 23)) (C := RX10) (T := TX10) (N := 5) hx hb hT iX10 hown hK hP 65 rfl rfl 0 (by decide) (hT _ t_463) (fun _ h9 => h9) rfl dX11_count_65 ?_
    have hg_7 : 0 ≤ (i 23).toInt ∧ (i 23).toInt ≤ 20 := hRi 23
    refine lv_goto (tgt := 78) hx hb dX11_count_68 (by decide) ?_
    subst hQ
    exact W.iret (v := i 23) hx hb hr (fun t ht hW => ⟨_, rfl, trivial, ht⟩) (fun q hq => absurd hq List.not_mem_nil) dX11_count_78
set_option maxHeartbeats 4000000 in
set_option maxRecDepth 100000 in
theorem c_X11_count.b (l : Launch) (D : va_G) (cy : Nat → ClassId) (a : Nat → Nat) (i : Nat → Int32) (r : Nat → Nat → Int32) (q : Nat → Option Nat) (tl : va_W) (p0 : Int32) (hRi : yRi i) (hRr : yRr r) (h1 : 10 ≤ p0.toInt ∧ p0.toInt ≤ 29) (hh : ¬ p0.toInt % 10 < (i 0).toInt) : Met l yX11_count (Cond.code yX11_count cX11_count 3 (some .int) :: gT) { frames := 3, cells := 0, slots := 0, locals := 67 } (va_Pc [.ref (a 0), .int p0] (rP D cy (xW cy a i r q (a 20) (a 12) ++ tl))) (vp_Si (fun z => True)) 0 0 (fun _ => False) := by
  refine Met.ofQ (cc := cX11_count) (maxL := 3) (ret := (some .int)) (by decide) rfl ?_
  intro p e s m args below meth c s₁ B hml hv Q hQ
  obtain ⟨rfl, hP, hK⟩ := hv
  have hx := B.exec
  have hb := B.bytes
  have hr := B.returns
  have hlocks := B.notSynchronized
  have hT : ∀ w ∈ gT, w.before _ s = true := fun w h => atoms_spec (ws := (Cond.code yX11_count cX11_count 3 (some .int) :: gT)) B.pre w (List.mem_cons_of_mem _ h)
  have hown : s.vm.findClass RX11 = some m.cls := findClass_of_methodNamed B.named
  have hl := lv_entry ([.ref (a 0), .int p0]) (n := 3) (Nat.le_of_ble_eq_true rfl)
  rw [lg_entry_eq]
  generalize (lg_sl ([.ref (a 0), .int p0]) ++ List.replicate (3 - (lg_sl ([.ref (a 0), .int p0])).length) Slot.unset).toArray = ls at hl ⊢
  have hl : lv_has ls 3 [(0, .ref (a 0)), (1, .int p0)] := hl
  have hEi : mEi [] i i := Ei_rf
  have hEr : mEr [] r r := Er_rf
  have hg0 : 0 ≤ (i 0).toInt ∧ (i 0).toInt ≤ 6 := hRi 0
  refine lv_iload_n hx hb dX11_count_0 rfl (lv_at hl 1 rfl) ?_
  refine lv_bipush (v := 30) hx hb dX11_count_1 (by decide) ?_
  refine lv_icmp_lt (tgt := 34) hx hb dX11_count_3 (by decide) (fun c_1 => ?_) (fun c_1 => by have c_1 : 30 ≤ p0.toInt := b_nlt c_1; omega)
  have c_1 : p0.toInt < 30 := b_lt c_1
  refine lv_iload_n hx hb dX11_count_34 rfl (lv_at hl 1 rfl) ?_
  refine lv_bipush (v := 10) hx hb dX11_count_35 (by decide) ?_
  refine lv_icmp_lt (tgt := 79) hx hb dX11_count_37 (by decide) (fun c_2 => by have c_2 : p0.toInt < 10 := b_lt c_2; omega) (fun c_2 => ?_)
  have c_2 : 10 ≤ p0.toInt := b_nlt c_2
  refine lv_aload_n hx hb dX11_count_40 rfl (lv_at hl 0 rfl) ?_
  refine lv_iload_n hx hb dX11_count_41 rfl (lv_at hl 1 rfl) ?_
  refine lv_bipush (v := 10) hx hb dX11_count_42 (by decide) ?_
  refine lv_irem hx hb dX11_count_44 (by decide) ?_
  refine lv_topi (fun v_3 ev_3 => ?_)
  have hmv_3 : v_3.toInt = p0.toInt % 10 := by rw [ev_3, rem_toInt]; exact Int.tmod_eq_emod_of_nonneg (by omega)
  refine va_csq (W.runV (As := [.int v_3]) (rest := []) ⟨hx, hb, hml, hown, hT⟩ (c_X11_homeAt l D cy a i r q tl v_3 hRi hRr) (cwV 1 hT (gV t_443 t_444 t_445 t_446 t_2) rfl rfl rfl (by decide +kernel) ⟨Nat.le_of_ble_eq_true rfl, Nat.le_of_ble_eq_true rfl⟩) (rP_v hP hK (va_recv hK hP (ci := 11) (q0 := 0) rfl rfl)) rfl rfl hl.1 rfl (lv_room (Nat.le_of_ble_eq_true rfl)) dX11_count_45 ⟨Nat.le_of_ble_eq_true rfl, Nat.le_of_ble_eq_true rfl⟩) (fun r_4 hr_4 => ?_)
  obtain rfl : r_4 = none := hr_4.2 (by omega)
  refine W.eq (g2 := F0 m 48 ls [.null]) rfl ?_
  refine lv_astore_nN (lv' := [(2, .null), (0, .ref (a 0)), (1, .int p0)]) hx hb dX11_count_48 rfl hl (by decide) rfl (fun ls hl => ?_)
  refine lv_aload_nN hx hb dX11_count_49 rfl (lv_at hl 0 rfl) ?_
  refine lv_ifnonnullN hx hb dX11_count_50 ?_
  refine lv_iconst (v := (-1)) hx hb dX11_count_53 (by decide) ?_
  subst hQ
  exact W.iret (v := (-1)) hx hb hr (fun t ht hW => ⟨_, rfl, trivial, ht⟩) (fun q hq => absurd hq List.not_mem_nil) dX11_count_54
