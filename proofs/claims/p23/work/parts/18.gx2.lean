set_option maxRecDepth 100000 in
theorem t_279 : Cond.code yX11_isDay cX11_isDay 1 (some .boolean) ∈ gT := tm (tb3 (List.mem_of_getElem? (i := 232) (by rfl))) (by decide +kernel)
set_option maxRecDepth 100000 in
theorem t_280 : Cond.methodLink RX11 186 yX11_isDay ∈ gT := tm (tb3 (List.mem_of_getElem? (i := 230) (by rfl))) (by decide +kernel)
set_option maxRecDepth 100000 in
theorem t_281 : Cond.static yX11_isDay ∈ gT := tm (tb3 (List.mem_of_getElem? (i := 231) (by rfl))) (by decide +kernel)
set_option maxRecDepth 100000 in
theorem t_282 : Cond.fieldLink RX11 202 "DepositJudge$Docket" "madeOn" "[I" ∈ gT := tm (tb1 (List.mem_of_getElem? (i := 153) (by rfl))) (by decide +kernel)
set_option maxRecDepth 100000 in
theorem t_283 : Cond.fieldLink RX11 205 "DepositJudge$Docket" "answeredOn" "[I" ∈ gT := tm (tb1 (List.mem_of_getElem? (i := 157) (by rfl))) (by decide +kernel)
set_option maxRecDepth 100000 in
theorem t_284 : Cond.fieldLink RX11 208 "DepositJudge$Docket" "proof" "[Z" ∈ gT := tm (tb1 (List.mem_of_getElem? (i := 159) (by rfl))) (by decide +kernel)
set_option maxRecDepth 100000 in
theorem t_285 : Cond.fieldLink RX2 15 "DepositJudge$Doubles" "times" "[I" ∈ gT := tm (tb1 (List.mem_of_getElem? (i := 213) (by rfl))) (by decide +kernel)
set_option maxRecDepth 100000 in
theorem t_286 : Cond.fieldLink RX2 19 "DepositJudge$Doubles" "apart" "[I" ∈ gT := tm (tb1 (List.mem_of_getElem? (i := 215) (by rfl))) (by decide +kernel)
set_option maxRecDepth 100000 in
theorem t_287 : Cond.methodLink RX2 25 Lib.Math.abs.name ∈ gT := tm (tb4 (List.mem_of_getElem? (i := 109) (by rfl))) (by decide +kernel)
set_option maxRecDepth 100000 in
theorem t_288 : Cond.static Lib.Math.abs.name ∈ gT := tm (tb4 (List.mem_of_getElem? (i := 110) (by rfl))) (by decide +kernel)
set_option maxRecDepth 100000 in
theorem t_289 : Cond.initialized "java/lang/Math" ∈ gT := tm (tb1 (List.mem_of_getElem? (i := 14) (by rfl))) (by decide +kernel)
set_option maxRecDepth 100000 in
theorem t_290 : Cond.code Lib.Math.abs.name Lib.Math.abs.code 1 (some .int) ∈ gT := tm (tb4 (List.mem_of_getElem? (i := 111) (by rfl))) (by decide +kernel)
set_option maxRecDepth 100000 in
theorem t_291 : Cond.fieldLink RX2 22 "DepositJudge$Doubles" "more" "[I" ∈ gT := tm (tb1 (List.mem_of_getElem? (i := 217) (by rfl))) (by decide +kernel)
set_option maxRecDepth 100000 in
theorem t_292 : Cond.fieldLink RX11 82 "DepositJudge" "doubles" "LDepositJudge$Doubles;" ∈ gT := tm (tb2 (List.mem_of_getElem? (i := 23) (by rfl))) (by decide +kernel)
set_option maxRecDepth 100000 in
theorem t_293 : Cond.fieldLink RX11 282 "DepositJudge$Doubles" "count" "I" ∈ gT := tm (tb1 (List.mem_of_getElem? (i := 212) (by rfl))) (by decide +kernel)
set_option maxRecDepth 100000 in
theorem t_294 : Cond.code yX2_add cX2_add 3 none ∈ gT := tm (tb4 (List.mem_of_getElem? (i := 108) (by rfl))) (by decide +kernel)
set_option maxRecDepth 100000 in
theorem t_295 : Cond.initialized RX2 ∈ gT := tm (tb1 (List.mem_of_getElem? (i := 9) (by rfl))) (by decide +kernel)
set_option maxRecDepth 100000 in
theorem t_296 : Cond.methodLink RX11 283 yX2_add ∈ gT := tm (tb4 (List.mem_of_getElem? (i := 105) (by rfl))) (by decide +kernel)
set_option maxRecDepth 100000 in
theorem t_297 : Cond.instanceMethod yX2_add ∈ gT := tm (tb4 (List.mem_of_getElem? (i := 106) (by rfl))) (by decide +kernel)
set_option maxRecDepth 100000 in
theorem t_298 : Cond.selects RX2 yX2_add yX2_add ∈ gT := tm (tb4 (List.mem_of_getElem? (i := 107) (by rfl))) (by decide +kernel)
set_option maxRecDepth 100000 in
theorem t_299 : Cond.fieldLink RX7 22 "DepositJudge$Pictures" "gaps" "[I" ∈ gT := tm (tb2 (List.mem_of_getElem? (i := 1) (by rfl))) (by decide +kernel)
set_option maxRecDepth 100000 in
theorem t_300 : Cond.code yX7_gap cX7_gap 3 (some .int) ∈ gT := tm (tb4 (List.mem_of_getElem? (i := 143) (by rfl))) (by decide +kernel)
set_option maxRecDepth 100000 in
theorem t_301 : Cond.initialized RX7 ∈ gT := tm (tb1 (List.mem_of_getElem? (i := 10) (by rfl))) (by decide +kernel)
set_option maxRecDepth 100000 in
theorem t_302 : Cond.methodLink RX7 26 yX7_gap ∈ gT := tm (tb4 (List.mem_of_getElem? (i := 140) (by rfl))) (by decide +kernel)
set_option maxRecDepth 100000 in
theorem t_303 : Cond.instanceMethod yX7_gap ∈ gT := tm (tb4 (List.mem_of_getElem? (i := 141) (by rfl))) (by decide +kernel)
set_option maxRecDepth 100000 in
theorem t_304 : Cond.selects RX7 yX7_gap yX7_gap ∈ gT := tm (tb4 (List.mem_of_getElem? (i := 142) (by rfl))) (by decide +kernel)
set_option maxRecDepth 100000 in
theorem t_305 : Cond.constant RX7 25 (-1000000) ∈ gT := tm (tb1 (List.mem_of_getElem? (i := 234) (by rfl))) (by decide +kernel)
set_option maxRecDepth 100000 in
theorem t_306 : Cond.methodLink RX7 34 Lib.Math.max.name ∈ gT := tm (tb4 (List.mem_of_getElem? (i := 148) (by rfl))) (by decide +kernel)
set_option maxRecDepth 100000 in
theorem t_307 : Cond.static Lib.Math.max.name ∈ gT := tm (tb3 (List.mem_of_getElem? (i := 71) (by rfl))) (by decide +kernel)
set_option maxRecDepth 100000 in
theorem t_308 : Cond.code Lib.Math.max.name Lib.Math.max.code 2 (some .int) ∈ gT := tm (tb3 (List.mem_of_getElem? (i := 72) (by rfl))) (by decide +kernel)
set_option maxRecDepth 100000 in
theorem t_309 : Cond.fieldLink RX7 9 "DepositJudge$Pictures" "facts" "I" ∈ gT := tm (tb1 (List.mem_of_getElem? (i := 235) (by rfl))) (by decide +kernel)
set_option maxRecDepth 100000 in
theorem t_310 : Cond.fieldLink RX7 15 "DepositJudge$Pictures" "wrongCount" "I" ∈ gT := tm (tb1 (List.mem_of_getElem? (i := 237) (by rfl))) (by decide +kernel)
set_option maxRecDepth 100000 in
theorem t_311 : Cond.code yX7_stretch cX7_stretch 7 none ∈ gT := tm (tb4 (List.mem_of_getElem? (i := 147) (by rfl))) (by decide +kernel)
set_option maxRecDepth 100000 in
theorem t_312 : Cond.methodLink RX7 30 yX7_stretch ∈ gT := tm (tb4 (List.mem_of_getElem? (i := 144) (by rfl))) (by decide +kernel)
set_option maxRecDepth 100000 in
theorem t_313 : Cond.instanceMethod yX7_stretch ∈ gT := tm (tb4 (List.mem_of_getElem? (i := 146) (by rfl))) (by decide +kernel)
theorem t_314 : Cond.selects RX7 yX7_stretch yX7_stretch ∈ gT := tmp (List.mem_of_getElem? (i := 31) (by decide +kernel)) (by decide +kernel)
set_option maxRecDepth 100000 in
theorem t_315 : Cond.fieldLink RX7 18 "DepositJudge$Pictures" "wrongFacts" "[I" ∈ gT := tm (tb1 (List.mem_of_getElem? (i := 239) (by rfl))) (by decide +kernel)
set_option maxRecDepth 100000 in
theorem t_316 : Cond.fieldLink RX11 89 "DepositJudge" "pictures" "LDepositJudge$Pictures;" ∈ gT := tm (tb2 (List.mem_of_getElem? (i := 24) (by rfl))) (by decide +kernel)
set_option maxRecDepth 100000 in
theorem t_317 : Cond.code yX7_add cX7_add 5 (some .int) ∈ gT := tm (tb4 (List.mem_of_getElem? (i := 139) (by rfl))) (by decide +kernel)
set_option maxRecDepth 100000 in
theorem t_318 : Cond.methodLink RX11 308 yX7_add ∈ gT := tm (tb4 (List.mem_of_getElem? (i := 136) (by rfl))) (by decide +kernel)
set_option maxRecDepth 100000 in
theorem t_319 : Cond.instanceMethod yX7_add ∈ gT := tm (tb4 (List.mem_of_getElem? (i := 137) (by rfl))) (by decide +kernel)
set_option maxRecDepth 100000 in
theorem t_320 : Cond.selects RX7 yX7_add yX7_add ∈ gT := tm (tb4 (List.mem_of_getElem? (i := 138) (by rfl))) (by decide +kernel)
set_option maxRecDepth 100000 in
theorem t_321 : Cond.methodLink RX11 311 yX7_gap ∈ gT := tm (tb4 (List.mem_of_getElem? (i := 154) (by rfl))) (by decide +kernel)
set_option maxRecDepth 100000 in
theorem t_322 : Cond.constant RX11 289 (-1000000) ∈ gT := tm (tb4 (List.mem_of_getElem? (i := 116) (by rfl))) (by decide +kernel)
set_option maxRecDepth 100000 in
theorem t_323 : Cond.constant RX11 310 (-100000) ∈ gT := tm (tb4 (List.mem_of_getElem? (i := 153) (by rfl))) (by decide +kernel)
set_option maxRecDepth 100000 in
theorem t_324 : Cond.fieldLink RX11 314 "DepositJudge$Pictures" "wrongCount" "I" ∈ gT := tm (tb1 (List.mem_of_getElem? (i := 238) (by rfl))) (by decide +kernel)
set_option maxRecDepth 100000 in
theorem t_325 : Cond.fieldLink RX11 317 "DepositJudge$Pictures" "wrongFacts" "[I" ∈ gT := tm (tb2 (List.mem_of_getElem? (i := 0) (by rfl))) (by decide +kernel)
set_option maxRecDepth 100000 in
theorem t_326 : Cond.fieldLink RX11 286 "DepositJudge$Doubles" "times" "[I" ∈ gT := tm (tb1 (List.mem_of_getElem? (i := 214) (by rfl))) (by decide +kernel)
set_option maxRecDepth 100000 in
theorem t_327 : Cond.fieldLink RX11 293 "DepositJudge$Doubles" "more" "[I" ∈ gT := tm (tb1 (List.mem_of_getElem? (i := 218) (by rfl))) (by decide +kernel)
set_option maxRecDepth 100000 in
theorem t_328 : Cond.methodLink RX11 296 Lib.Math.abs.name ∈ gT := tm (tb4 (List.mem_of_getElem? (i := 117) (by rfl))) (by decide +kernel)
set_option maxRecDepth 100000 in
theorem t_329 : Cond.code yX11_commonDivisor cX11_commonDivisor 6 (some .int) ∈ gT := tm (tb4 (List.mem_of_getElem? (i := 120) (by rfl))) (by decide +kernel)
set_option maxRecDepth 100000 in
theorem t_330 : Cond.methodLink RX11 301 yX11_commonDivisor ∈ gT := tm (tb4 (List.mem_of_getElem? (i := 118) (by rfl))) (by decide +kernel)
set_option maxRecDepth 100000 in
theorem t_331 : Cond.static yX11_commonDivisor ∈ gT := tm (tb4 (List.mem_of_getElem? (i := 119) (by rfl))) (by decide +kernel)
set_option maxRecDepth 100000 in
theorem t_332 : Cond.fieldLink RX11 290 "DepositJudge$Doubles" "apart" "[I" ∈ gT := tm (tb1 (List.mem_of_getElem? (i := 216) (by rfl))) (by decide +kernel)
set_option maxRecDepth 100000 in
theorem t_333 : Cond.fieldLink RX9 15 "DepositJudge$Tape" "length" "I" ∈ gT := tm (tb1 (List.mem_of_getElem? (i := 68) (by rfl))) (by decide +kernel)
set_option maxRecDepth 100000 in
theorem t_334 : Cond.fieldLink RX9 9 "DepositJudge$Tape" "bytes" "[B" ∈ gT := tm (tb1 (List.mem_of_getElem? (i := 66) (by rfl))) (by decide +kernel)
set_option maxRecDepth 100000 in
theorem t_335 : Cond.fieldLink RX11 36 "DepositJudge" "tape" "LDepositJudge$Tape;" ∈ gT := tm (tb2 (List.mem_of_getElem? (i := 15) (by rfl))) (by decide +kernel)
set_option maxRecDepth 100000 in
theorem t_336 : Cond.fieldLink RX11 141 "DepositJudge$Tape" "length" "I" ∈ gT := tm (tb1 (List.mem_of_getElem? (i := 69) (by rfl))) (by decide +kernel)
set_option maxRecDepth 100000 in
theorem t_337 : Cond.code yX9_add cX9_add 3 none ∈ gT := tm (tb2 (List.mem_of_getElem? (i := 224) (by rfl))) (by decide +kernel)
set_option maxRecDepth 100000 in
theorem t_338 : Cond.initialized RX9 ∈ gT := tm (tb1 (List.mem_of_getElem? (i := 4) (by rfl))) (by decide +kernel)
set_option maxRecDepth 100000 in
theorem t_339 : Cond.methodLink RX11 144 yX9_add ∈ gT := tm (tb2 (List.mem_of_getElem? (i := 221) (by rfl))) (by decide +kernel)
set_option maxRecDepth 100000 in
theorem t_340 : Cond.instanceMethod yX9_add ∈ gT := tm (tb2 (List.mem_of_getElem? (i := 222) (by rfl))) (by decide +kernel)
set_option maxRecDepth 100000 in
theorem t_341 : Cond.selects RX9 yX9_add yX9_add ∈ gT := tm (tb2 (List.mem_of_getElem? (i := 223) (by rfl))) (by decide +kernel)
set_option maxRecDepth 100000 in
theorem t_342 : Cond.fieldLink RX1 9 "DepositJudge$Docket" "claims" "I" ∈ gT := tm (tb1 (List.mem_of_getElem? (i := 142) (by rfl))) (by decide +kernel)
set_option maxRecDepth 100000 in
theorem t_343 : Cond.fieldLink RX1 15 "DepositJudge$Docket" "homes" "[I" ∈ gT := tm (tb1 (List.mem_of_getElem? (i := 144) (by rfl))) (by decide +kernel)
set_option maxRecDepth 100000 in
theorem t_344 : Cond.fieldLink RX1 19 "DepositJudge$Docket" "things" "[I" ∈ gT := tm (tb1 (List.mem_of_getElem? (i := 146) (by rfl))) (by decide +kernel)
set_option maxRecDepth 100000 in
theorem t_345 : Cond.fieldLink RX1 34 "DepositJudge$Docket" "answeredOn" "[I" ∈ gT := tm (tb1 (List.mem_of_getElem? (i := 156) (by rfl))) (by decide +kernel)
set_option maxRecDepth 100000 in
theorem t_346 : Cond.fieldLink RX1 41 "DepositJudge$Docket" "ownerOffers" "[I" ∈ gT := tm (tb1 (List.mem_of_getElem? (i := 160) (by rfl))) (by decide +kernel)
set_option maxRecDepth 100000 in
theorem t_347 : Cond.fieldLink RX1 44 "DepositJudge$Docket" "tenantOffers" "[I" ∈ gT := tm (tb1 (List.mem_of_getElem? (i := 162) (by rfl))) (by decide +kernel)
set_option maxRecDepth 100000 in
theorem t_348 : Cond.fieldLink RX1 22 "DepositJudge$Docket" "causes" "[I" ∈ gT := tm (tb1 (List.mem_of_getElem? (i := 148) (by rfl))) (by decide +kernel)
set_option maxRecDepth 100000 in
theorem t_349 : Cond.fieldLink RX1 25 "DepositJudge$Docket" "evidences" "[I" ∈ gT := tm (tb1 (List.mem_of_getElem? (i := 150) (by rfl))) (by decide +kernel)
set_option maxRecDepth 100000 in
theorem t_350 : Cond.fieldLink RX1 28 "DepositJudge$Docket" "madeOn" "[I" ∈ gT := tm (tb1 (List.mem_of_getElem? (i := 152) (by rfl))) (by decide +kernel)
set_option maxRecDepth 100000 in
theorem t_351 : Cond.fieldLink RX1 31 "DepositJudge$Docket" "agreed" "[I" ∈ gT := tm (tb1 (List.mem_of_getElem? (i := 154) (by rfl))) (by decide +kernel)
set_option maxRecDepth 100000 in
theorem t_352 : Cond.fieldLink RX1 37 "DepositJudge$Docket" "proof" "[Z" ∈ gT := tm (tb1 (List.mem_of_getElem? (i := 158) (by rfl))) (by decide +kernel)
set_option maxRecDepth 100000 in
theorem t_353 : Cond.fieldLink RX1 47 "DepositJudge$Docket" "x" "I" ∈ gT := tm (tb1 (List.mem_of_getElem? (i := 164) (by rfl))) (by decide +kernel)
set_option maxRecDepth 100000 in
theorem t_354 : Cond.fieldLink RX11 65 "DepositJudge" "keptDocket" "LDepositJudge$Docket;" ∈ gT := tm (tb2 (List.mem_of_getElem? (i := 20) (by rfl))) (by decide +kernel)
set_option maxRecDepth 100000 in
theorem t_355 : Cond.code yX1_copyFrom cX1_copyFrom 3 none ∈ gT := tm (tb4 (List.mem_of_getElem? (i := 170) (by rfl))) (by decide +kernel)
set_option maxRecDepth 100000 in
theorem t_356 : Cond.initialized RX1 ∈ gT := tm (tb1 (List.mem_of_getElem? (i := 7) (by rfl))) (by decide +kernel)
set_option maxRecDepth 100000 in
theorem t_357 : Cond.methodLink RX11 332 yX1_copyFrom ∈ gT := tm (tb4 (List.mem_of_getElem? (i := 167) (by rfl))) (by decide +kernel)
set_option maxRecDepth 100000 in
theorem t_358 : Cond.instanceMethod yX1_copyFrom ∈ gT := tm (tb4 (List.mem_of_getElem? (i := 168) (by rfl))) (by decide +kernel)
set_option maxRecDepth 100000 in
theorem t_359 : Cond.selects RX1 yX1_copyFrom yX1_copyFrom ∈ gT := tm (tb4 (List.mem_of_getElem? (i := 169) (by rfl))) (by decide +kernel)
set_option maxRecDepth 100000 in
theorem t_360 : Cond.fieldLink RX11 68 "DepositJudge" "wasKept" "Z" ∈ gT := tm (tb2 (List.mem_of_getElem? (i := 21) (by rfl))) (by decide +kernel)
set_option maxRecDepth 100000 in
theorem t_361 : Cond.fieldLink RX8 9 "DepositJudge$PriceList" "lives" "[I" ∈ gT := tm (tb1 (List.mem_of_getElem? (i := 34) (by rfl))) (by decide +kernel)
set_option maxRecDepth 100000 in
theorem t_362 : Cond.fieldLink RX8 15 "DepositJudge$PriceList" "pence" "[I" ∈ gT := tm (tb1 (List.mem_of_getElem? (i := 36) (by rfl))) (by decide +kernel)
set_option maxRecDepth 100000 in
theorem t_363 : Cond.fieldLink RX5 37 "DepositJudge$Law" "stack" "[I" ∈ gT := tm (tb1 (List.mem_of_getElem? (i := 97) (by rfl))) (by decide +kernel)
set_option maxRecDepth 100000 in
theorem t_364 : Cond.fieldLink RX5 31 "DepositJudge$Law" "signs" "[I" ∈ gT := tm (tb1 (List.mem_of_getElem? (i := 95) (by rfl))) (by decide +kernel)
set_option maxRecDepth 100000 in
theorem t_365 : Cond.fieldLink RX5 34 "DepositJudge$Law" "operands" "[I" ∈ gT := tm (tb1 (List.mem_of_getElem? (i := 96) (by rfl))) (by decide +kernel)
set_option maxRecDepth 100000 in
theorem t_366 : Cond.code yX5_combine cX5_combine 3 (some .int) ∈ gT := tm (tb3 (List.mem_of_getElem? (i := 198) (by rfl))) (by decide +kernel)
set_option maxRecDepth 100000 in
theorem t_367 : Cond.initialized RX5 ∈ gT := tm (tb1 (List.mem_of_getElem? (i := 6) (by rfl))) (by decide +kernel)
set_option maxRecDepth 100000 in
theorem t_368 : Cond.methodLink RX5 61 yX5_combine ∈ gT := tm (tb3 (List.mem_of_getElem? (i := 196) (by rfl))) (by decide +kernel)
set_option maxRecDepth 100000 in
theorem t_369 : Cond.static yX5_combine ∈ gT := tm (tb3 (List.mem_of_getElem? (i := 197) (by rfl))) (by decide +kernel)
set_option maxRecDepth 100000 in
theorem t_370 : Cond.fieldLink RX5 9 "DepositJudge$Law" "clauses" "I" ∈ gT := tm (tb1 (List.mem_of_getElem? (i := 88) (by rfl))) (by decide +kernel)
set_option maxRecDepth 100000 in
theorem t_371 : Cond.fieldLink RX5 18 "DepositJudge$Law" "clauseLetters" "[I" ∈ gT := tm (tb1 (List.mem_of_getElem? (i := 91) (by rfl))) (by decide +kernel)
set_option maxRecDepth 100000 in
theorem t_372 : Cond.fieldLink RX5 25 "DepositJudge$Law" "testsFrom" "[I" ∈ gT := tm (tb1 (List.mem_of_getElem? (i := 93) (by rfl))) (by decide +kernel)
set_option maxRecDepth 100000 in
theorem t_373 : Cond.fieldLink RX5 28 "DepositJudge$Law" "testsTo" "[I" ∈ gT := tm (tb1 (List.mem_of_getElem? (i := 94) (by rfl))) (by decide +kernel)
set_option maxRecDepth 100000 in
theorem t_374 : Cond.code yX5_run cX5_run 10 (some .int) ∈ gT := tm (tb3 (List.mem_of_getElem? (i := 194) (by rfl))) (by decide +kernel)
set_option maxRecDepth 100000 in
theorem t_375 : Cond.methodLink RX5 44 yX5_run ∈ gT := tm (tb3 (List.mem_of_getElem? (i := 191) (by rfl))) (by decide +kernel)
set_option maxRecDepth 100000 in
theorem t_376 : Cond.instanceMethod yX5_run ∈ gT := tm (tb3 (List.mem_of_getElem? (i := 193) (by rfl))) (by decide +kernel)
theorem t_377 : Cond.selects RX5 yX5_run yX5_run ∈ gT := tmp (List.mem_of_getElem? (i := 20) (by decide +kernel)) (by decide +kernel)
set_option maxRecDepth 100000 in
theorem t_378 : Cond.fieldLink RX5 22 "DepositJudge$Law" "amountsFrom" "[I" ∈ gT := tm (tb1 (List.mem_of_getElem? (i := 92) (by rfl))) (by decide +kernel)
set_option maxRecDepth 100000 in
theorem t_379 : Cond.methodLink RX5 48 Lib.Math.min.name ∈ gT := tm (tb3 (List.mem_of_getElem? (i := 199) (by rfl))) (by decide +kernel)
set_option maxRecDepth 100000 in
theorem t_380 : Cond.static Lib.Math.min.name ∈ gT := tm (tb2 (List.mem_of_getElem? (i := 238) (by rfl))) (by decide +kernel)
set_option maxRecDepth 100000 in
theorem t_381 : Cond.code Lib.Math.min.name Lib.Math.min.code 2 (some .int) ∈ gT := tm (tb2 (List.mem_of_getElem? (i := 239) (by rfl))) (by decide +kernel)
set_option maxRecDepth 100000 in
theorem t_382 : Cond.methodLink RX5 54 Lib.Math.max.name ∈ gT := tm (tb3 (List.mem_of_getElem? (i := 200) (by rfl))) (by decide +kernel)
def dl_210 : List (Nat × (Instr × Nat)) := [(0, (.aload_n 0, 1)), (1, (.iload_n 1, 1)), (2, (.invokevirtual 196, 3)), (5, (.ifCond .eq 23, 3)), (8, (.iload_n 2, 1)), (9, (.invokestatic 186, 3)), (12, (.ifCond .eq 16, 3)), (15, (.iload_n 2, 1)), (16, (.aload_n 0, 1)), (17, (.getfield 61, 3)), (20, (.getfield 202, 3)), (23, (.iload_n 1, 1)), (24, (.iaload, 1)), (25, (.if_icmp .ge 5, 3)), (28, (.iconst 0, 1)), (29, (.ireturn, 1)), (30, (.aload_n 0, 1)), (31, (.getfield 61, 3)), (34, (.getfield 205, 3)), (37, (.iload_n 1, 1))]
theorem dh_210 : dchk cX11_answer dl_210 = true := by decide +kernel
theorem dX11_answer_0 : decode cX11_answer 0 = .ok (.aload_n 0, 1) := dget dh_210 (k := 0) rfl
theorem dX11_answer_1 : decode cX11_answer 1 = .ok (.iload_n 1, 1) := dget dh_210 (k := 1) rfl
theorem dX11_answer_2 : decode cX11_answer 2 = .ok (.invokevirtual 196, 3) := dget dh_210 (k := 2) rfl
theorem dX11_answer_5 : decode cX11_answer 5 = .ok (.ifCond .eq 23, 3) := dget dh_210 (k := 3) rfl
theorem dX11_answer_8 : decode cX11_answer 8 = .ok (.iload_n 2, 1) := dget dh_210 (k := 4) rfl
theorem dX11_answer_9 : decode cX11_answer 9 = .ok (.invokestatic 186, 3) := dget dh_210 (k := 5) rfl
theorem dX11_answer_12 : decode cX11_answer 12 = .ok (.ifCond .eq 16, 3) := dget dh_210 (k := 6) rfl
theorem dX11_answer_15 : decode cX11_answer 15 = .ok (.iload_n 2, 1) := dget dh_210 (k := 7) rfl
theorem dX11_answer_16 : decode cX11_answer 16 = .ok (.aload_n 0, 1) := dget dh_210 (k := 8) rfl
theorem dX11_answer_17 : decode cX11_answer 17 = .ok (.getfield 61, 3) := dget dh_210 (k := 9) rfl
theorem dX11_answer_20 : decode cX11_answer 20 = .ok (.getfield 202, 3) := dget dh_210 (k := 10) rfl
theorem dX11_answer_23 : decode cX11_answer 23 = .ok (.iload_n 1, 1) := dget dh_210 (k := 11) rfl
theorem dX11_answer_24 : decode cX11_answer 24 = .ok (.iaload, 1) := dget dh_210 (k := 12) rfl
theorem dX11_answer_25 : decode cX11_answer 25 = .ok (.if_icmp .ge 5, 3) := dget dh_210 (k := 13) rfl
theorem dX11_answer_28 : decode cX11_answer 28 = .ok (.iconst 0, 1) := dget dh_210 (k := 14) rfl
theorem dX11_answer_29 : decode cX11_answer 29 = .ok (.ireturn, 1) := dget dh_210 (k := 15) rfl
theorem dX11_answer_30 : decode cX11_answer 30 = .ok (.aload_n 0, 1) := dget dh_210 (k := 16) rfl
theorem dX11_answer_31 : decode cX11_answer 31 = .ok (.getfield 61, 3) := dget dh_210 (k := 17) rfl
theorem dX11_answer_34 : decode cX11_answer 34 = .ok (.getfield 205, 3) := dget dh_210 (k := 18) rfl
theorem dX11_answer_37 : decode cX11_answer 37 = .ok (.iload_n 1, 1) := dget dh_210 (k := 19) rfl
def dl_211 : List (Nat × (Instr × Nat)) := [(38, (.iload_n 2, 1)), (39, (.iastore, 1)), (40, (.aload_n 0, 1)), (41, (.getfield 61, 3)), (44, (.getfield 208, 3)), (47, (.iload_n 1, 1)), (48, (.iload_n 3, 1)), (49, (.bastore, 1)), (50, (.iconst 1, 1)), (51, (.ireturn, 1))]
theorem dh_211 : dchk cX11_answer dl_211 = true := by decide +kernel
theorem dX11_answer_38 : decode cX11_answer 38 = .ok (.iload_n 2, 1) := dget dh_211 (k := 0) rfl
theorem dX11_answer_39 : decode cX11_answer 39 = .ok (.iastore, 1) := dget dh_211 (k := 1) rfl
theorem dX11_answer_40 : decode cX11_answer 40 = .ok (.aload_n 0, 1) := dget dh_211 (k := 2) rfl
theorem dX11_answer_41 : decode cX11_answer 41 = .ok (.getfield 61, 3) := dget dh_211 (k := 3) rfl
theorem dX11_answer_44 : decode cX11_answer 44 = .ok (.getfield 208, 3) := dget dh_211 (k := 4) rfl
theorem dX11_answer_47 : decode cX11_answer 47 = .ok (.iload_n 1, 1) := dget dh_211 (k := 5) rfl
theorem dX11_answer_48 : decode cX11_answer 48 = .ok (.iload_n 3, 1) := dget dh_211 (k := 6) rfl
theorem dX11_answer_49 : decode cX11_answer 49 = .ok (.bastore, 1) := dget dh_211 (k := 7) rfl
theorem dX11_answer_50 : decode cX11_answer 50 = .ok (.iconst 1, 1) := dget dh_211 (k := 8) rfl
theorem dX11_answer_51 : decode cX11_answer 51 = .ok (.ireturn, 1) := dget dh_211 (k := 9) rfl
def dl_212 : List (Nat × (Instr × Nat)) := [(0, (.iload_n 0, 1)), (1, (.istore_n 2, 1)), (2, (.iload_n 1, 1)), (3, (.istore_n 3, 1)), (4, (.iconst 0, 1)), (5, (.istore 4, 2)), (7, (.iload 4, 2)), (9, (.bipush 64, 2)), (11, (.if_icmp .ge 23, 3)), (14, (.iload_n 3, 1)), (15, (.ifCond .eq 19, 3)), (18, (.iload_n 2, 1)), (19, (.iload_n 3, 1)), (20, (.irem, 1)), (21, (.istore 5, 2)), (23, (.iload_n 3, 1)), (24, (.istore_n 2, 1)), (25, (.iload 5, 2)), (27, (.istore_n 3, 1)), (28, (.iinc 4 1, 3))]
theorem dh_212 : dchk cX11_commonDivisor dl_212 = true := by decide +kernel
theorem dX11_commonDivisor_0 : decode cX11_commonDivisor 0 = .ok (.iload_n 0, 1) := dget dh_212 (k := 0) rfl
theorem dX11_commonDivisor_1 : decode cX11_commonDivisor 1 = .ok (.istore_n 2, 1) := dget dh_212 (k := 1) rfl
theorem dX11_commonDivisor_2 : decode cX11_commonDivisor 2 = .ok (.iload_n 1, 1) := dget dh_212 (k := 2) rfl
theorem dX11_commonDivisor_3 : decode cX11_commonDivisor 3 = .ok (.istore_n 3, 1) := dget dh_212 (k := 3) rfl
theorem dX11_commonDivisor_4 : decode cX11_commonDivisor 4 = .ok (.iconst 0, 1) := dget dh_212 (k := 4) rfl
theorem dX11_commonDivisor_5 : decode cX11_commonDivisor 5 = .ok (.istore 4, 2) := dget dh_212 (k := 5) rfl
theorem dX11_commonDivisor_7 : decode cX11_commonDivisor 7 = .ok (.iload 4, 2) := dget dh_212 (k := 6) rfl
theorem dX11_commonDivisor_9 : decode cX11_commonDivisor 9 = .ok (.bipush 64, 2) := dget dh_212 (k := 7) rfl
theorem dX11_commonDivisor_11 : decode cX11_commonDivisor 11 = .ok (.if_icmp .ge 23, 3) := dget dh_212 (k := 8) rfl
theorem dX11_commonDivisor_14 : decode cX11_commonDivisor 14 = .ok (.iload_n 3, 1) := dget dh_212 (k := 9) rfl
theorem dX11_commonDivisor_15 : decode cX11_commonDivisor 15 = .ok (.ifCond .eq 19, 3) := dget dh_212 (k := 10) rfl
theorem dX11_commonDivisor_18 : decode cX11_commonDivisor 18 = .ok (.iload_n 2, 1) := dget dh_212 (k := 11) rfl
theorem dX11_commonDivisor_19 : decode cX11_commonDivisor 19 = .ok (.iload_n 3, 1) := dget dh_212 (k := 12) rfl
theorem dX11_commonDivisor_20 : decode cX11_commonDivisor 20 = .ok (.irem, 1) := dget dh_212 (k := 13) rfl
theorem dX11_commonDivisor_21 : decode cX11_commonDivisor 21 = .ok (.istore 5, 2) := dget dh_212 (k := 14) rfl
theorem dX11_commonDivisor_23 : decode cX11_commonDivisor 23 = .ok (.iload_n 3, 1) := dget dh_212 (k := 15) rfl
theorem dX11_commonDivisor_24 : decode cX11_commonDivisor 24 = .ok (.istore_n 2, 1) := dget dh_212 (k := 16) rfl
theorem dX11_commonDivisor_25 : decode cX11_commonDivisor 25 = .ok (.iload 5, 2) := dget dh_212 (k := 17) rfl
theorem dX11_commonDivisor_27 : decode cX11_commonDivisor 27 = .ok (.istore_n 3, 1) := dget dh_212 (k := 18) rfl
theorem dX11_commonDivisor_28 : decode cX11_commonDivisor 28 = .ok (.iinc 4 1, 3) := dget dh_212 (k := 19) rfl
def dl_213 : List (Nat × (Instr × Nat)) := [(31, (.goto (-24), 3)), (34, (.iload_n 2, 1)), (35, (.ireturn, 1))]
theorem dh_213 : dchk cX11_commonDivisor dl_213 = true := by decide +kernel
theorem dX11_commonDivisor_31 : decode cX11_commonDivisor 31 = .ok (.goto (-24), 3) := dget dh_213 (k := 0) rfl
theorem dX11_commonDivisor_34 : decode cX11_commonDivisor 34 = .ok (.iload_n 2, 1) := dget dh_213 (k := 1) rfl
theorem dX11_commonDivisor_35 : decode cX11_commonDivisor 35 = .ok (.ireturn, 1) := dget dh_213 (k := 2) rfl
def dl_214 : List (Nat × (Instr × Nat)) := [(0, (.iload_n 1, 1)), (1, (.iconst 0, 1)), (2, (.bipush 9, 2)), (4, (.invokestatic 93, 3)), (7, (.ifCond .eq 12, 3)), (10, (.iload_n 2, 1)), (11, (.iconst 0, 1)), (12, (.iconst 1, 1)), (13, (.invokestatic 93, 3)), (16, (.ifCond .ne 7, 3)), (19, (.ldc_w 310, 3)), (22, (.ireturn, 1)), (23, (.iload_n 2, 1)), (24, (.ifCond .ne 16, 3)), (27, (.aload_n 0, 1)), (28, (.getfield 89, 3)), (31, (.bipush 10, 2)), (33, (.iload_n 1, 1)), (34, (.invokevirtual 311, 3)), (37, (.goto 13, 3))]
theorem dh_214 : dchk cX11_dated dl_214 = true := by decide +kernel
theorem dX11_dated_0 : decode cX11_dated 0 = .ok (.iload_n 1, 1) := dget dh_214 (k := 0) rfl
theorem dX11_dated_1 : decode cX11_dated 1 = .ok (.iconst 0, 1) := dget dh_214 (k := 1) rfl
theorem dX11_dated_2 : decode cX11_dated 2 = .ok (.bipush 9, 2) := dget dh_214 (k := 2) rfl
theorem dX11_dated_4 : decode cX11_dated 4 = .ok (.invokestatic 93, 3) := dget dh_214 (k := 3) rfl
theorem dX11_dated_7 : decode cX11_dated 7 = .ok (.ifCond .eq 12, 3) := dget dh_214 (k := 4) rfl
theorem dX11_dated_10 : decode cX11_dated 10 = .ok (.iload_n 2, 1) := dget dh_214 (k := 5) rfl
theorem dX11_dated_11 : decode cX11_dated 11 = .ok (.iconst 0, 1) := dget dh_214 (k := 6) rfl
theorem dX11_dated_12 : decode cX11_dated 12 = .ok (.iconst 1, 1) := dget dh_214 (k := 7) rfl
theorem dX11_dated_13 : decode cX11_dated 13 = .ok (.invokestatic 93, 3) := dget dh_214 (k := 8) rfl
theorem dX11_dated_16 : decode cX11_dated 16 = .ok (.ifCond .ne 7, 3) := dget dh_214 (k := 9) rfl
theorem dX11_dated_19 : decode cX11_dated 19 = .ok (.ldc_w 310, 3) := dget dh_214 (k := 10) rfl
theorem dX11_dated_22 : decode cX11_dated 22 = .ok (.ireturn, 1) := dget dh_214 (k := 11) rfl
theorem dX11_dated_23 : decode cX11_dated 23 = .ok (.iload_n 2, 1) := dget dh_214 (k := 12) rfl
theorem dX11_dated_24 : decode cX11_dated 24 = .ok (.ifCond .ne 16, 3) := dget dh_214 (k := 13) rfl
theorem dX11_dated_27 : decode cX11_dated 27 = .ok (.aload_n 0, 1) := dget dh_214 (k := 14) rfl
theorem dX11_dated_28 : decode cX11_dated 28 = .ok (.getfield 89, 3) := dget dh_214 (k := 15) rfl
theorem dX11_dated_31 : decode cX11_dated 31 = .ok (.bipush 10, 2) := dget dh_214 (k := 16) rfl
theorem dX11_dated_33 : decode cX11_dated 33 = .ok (.iload_n 1, 1) := dget dh_214 (k := 17) rfl
theorem dX11_dated_34 : decode cX11_dated 34 = .ok (.invokevirtual 311, 3) := dget dh_214 (k := 18) rfl
theorem dX11_dated_37 : decode cX11_dated 37 = .ok (.goto 13, 3) := dget dh_214 (k := 19) rfl
def dl_215 : List (Nat × (Instr × Nat)) := [(40, (.aload_n 0, 1)), (41, (.getfield 89, 3)), (44, (.iload_n 1, 1)), (45, (.bipush 10, 2)), (47, (.invokevirtual 311, 3)), (50, (.istore_n 3, 1)), (51, (.iload_n 3, 1)), (52, (.ldc_w 289, 3)), (55, (.if_icmp .ne 7, 3)), (58, (.ldc_w 310, 3)), (61, (.ireturn, 1)), (62, (.iload_n 2, 1)), (63, (.ifCond .ne 7, 3)), (66, (.iload_n 3, 1)), (67, (.goto 5, 3)), (70, (.iload_n 3, 1)), (71, (.ineg, 1)), (72, (.ireturn, 1))]
theorem dh_215 : dchk cX11_dated dl_215 = true := by decide +kernel
theorem dX11_dated_40 : decode cX11_dated 40 = .ok (.aload_n 0, 1) := dget dh_215 (k := 0) rfl
theorem dX11_dated_41 : decode cX11_dated 41 = .ok (.getfield 89, 3) := dget dh_215 (k := 1) rfl
theorem dX11_dated_44 : decode cX11_dated 44 = .ok (.iload_n 1, 1) := dget dh_215 (k := 2) rfl
theorem dX11_dated_45 : decode cX11_dated 45 = .ok (.bipush 10, 2) := dget dh_215 (k := 3) rfl
theorem dX11_dated_47 : decode cX11_dated 47 = .ok (.invokevirtual 311, 3) := dget dh_215 (k := 4) rfl
theorem dX11_dated_50 : decode cX11_dated 50 = .ok (.istore_n 3, 1) := dget dh_215 (k := 5) rfl
theorem dX11_dated_51 : decode cX11_dated 51 = .ok (.iload_n 3, 1) := dget dh_215 (k := 6) rfl
theorem dX11_dated_52 : decode cX11_dated 52 = .ok (.ldc_w 289, 3) := dget dh_215 (k := 7) rfl
theorem dX11_dated_55 : decode cX11_dated 55 = .ok (.if_icmp .ne 7, 3) := dget dh_215 (k := 8) rfl
theorem dX11_dated_58 : decode cX11_dated 58 = .ok (.ldc_w 310, 3) := dget dh_215 (k := 9) rfl
theorem dX11_dated_61 : decode cX11_dated 61 = .ok (.ireturn, 1) := dget dh_215 (k := 10) rfl
theorem dX11_dated_62 : decode cX11_dated 62 = .ok (.iload_n 2, 1) := dget dh_215 (k := 11) rfl
theorem dX11_dated_63 : decode cX11_dated 63 = .ok (.ifCond .ne 7, 3) := dget dh_215 (k := 12) rfl
theorem dX11_dated_66 : decode cX11_dated 66 = .ok (.iload_n 3, 1) := dget dh_215 (k := 13) rfl
theorem dX11_dated_67 : decode cX11_dated 67 = .ok (.goto 5, 3) := dget dh_215 (k := 14) rfl
theorem dX11_dated_70 : decode cX11_dated 70 = .ok (.iload_n 3, 1) := dget dh_215 (k := 15) rfl
theorem dX11_dated_71 : decode cX11_dated 71 = .ok (.ineg, 1) := dget dh_215 (k := 16) rfl
theorem dX11_dated_72 : decode cX11_dated 72 = .ok (.ireturn, 1) := dget dh_215 (k := 17) rfl
def dl_216 : List (Nat × (Instr × Nat)) := [(0, (.iload_n 1, 1)), (1, (.iconst 0, 1)), (2, (.bipush 10, 2)), (4, (.invokestatic 93, 3)), (7, (.ifCond .eq 31, 3)), (10, (.iload_n 2, 1)), (11, (.iconst 0, 1)), (12, (.bipush 10, 2)), (14, (.invokestatic 93, 3)), (17, (.ifCond .eq 21, 3)), (20, (.iload_n 1, 1)), (21, (.iload_n 2, 1)), (22, (.if_icmp .eq 16, 3)), (25, (.iload_n 3, 1)), (26, (.sipush (-999), 3)), (29, (.sipush 999, 3)), (32, (.invokestatic 93, 3)), (35, (.ifCond .ne 5, 3)), (38, (.iconst (-1), 1)), (39, (.ireturn, 1))]
theorem dh_216 : dchk cX11_fact dl_216 = true := by decide +kernel
theorem dX11_fact_0 : decode cX11_fact 0 = .ok (.iload_n 1, 1) := dget dh_216 (k := 0) rfl
theorem dX11_fact_1 : decode cX11_fact 1 = .ok (.iconst 0, 1) := dget dh_216 (k := 1) rfl
theorem dX11_fact_2 : decode cX11_fact 2 = .ok (.bipush 10, 2) := dget dh_216 (k := 2) rfl
theorem dX11_fact_4 : decode cX11_fact 4 = .ok (.invokestatic 93, 3) := dget dh_216 (k := 3) rfl
theorem dX11_fact_7 : decode cX11_fact 7 = .ok (.ifCond .eq 31, 3) := dget dh_216 (k := 4) rfl
theorem dX11_fact_10 : decode cX11_fact 10 = .ok (.iload_n 2, 1) := dget dh_216 (k := 5) rfl
theorem dX11_fact_11 : decode cX11_fact 11 = .ok (.iconst 0, 1) := dget dh_216 (k := 6) rfl
theorem dX11_fact_12 : decode cX11_fact 12 = .ok (.bipush 10, 2) := dget dh_216 (k := 7) rfl
theorem dX11_fact_14 : decode cX11_fact 14 = .ok (.invokestatic 93, 3) := dget dh_216 (k := 8) rfl
theorem dX11_fact_17 : decode cX11_fact 17 = .ok (.ifCond .eq 21, 3) := dget dh_216 (k := 9) rfl
theorem dX11_fact_20 : decode cX11_fact 20 = .ok (.iload_n 1, 1) := dget dh_216 (k := 10) rfl
theorem dX11_fact_21 : decode cX11_fact 21 = .ok (.iload_n 2, 1) := dget dh_216 (k := 11) rfl
theorem dX11_fact_22 : decode cX11_fact 22 = .ok (.if_icmp .eq 16, 3) := dget dh_216 (k := 12) rfl
theorem dX11_fact_25 : decode cX11_fact 25 = .ok (.iload_n 3, 1) := dget dh_216 (k := 13) rfl
theorem dX11_fact_26 : decode cX11_fact 26 = .ok (.sipush (-999), 3) := dget dh_216 (k := 14) rfl
theorem dX11_fact_29 : decode cX11_fact 29 = .ok (.sipush 999, 3) := dget dh_216 (k := 15) rfl
theorem dX11_fact_32 : decode cX11_fact 32 = .ok (.invokestatic 93, 3) := dget dh_216 (k := 16) rfl
theorem dX11_fact_35 : decode cX11_fact 35 = .ok (.ifCond .ne 5, 3) := dget dh_216 (k := 17) rfl
theorem dX11_fact_38 : decode cX11_fact 38 = .ok (.iconst (-1), 1) := dget dh_216 (k := 18) rfl
theorem dX11_fact_39 : decode cX11_fact 39 = .ok (.ireturn, 1) := dget dh_216 (k := 19) rfl
def dl_217 : List (Nat × (Instr × Nat)) := [(40, (.aload_n 0, 1)), (41, (.getfield 89, 3)), (44, (.iload_n 1, 1)), (45, (.iload_n 2, 1)), (46, (.iload_n 3, 1)), (47, (.invokevirtual 308, 3)), (50, (.ireturn, 1))]
theorem dh_217 : dchk cX11_fact dl_217 = true := by decide +kernel
theorem dX11_fact_40 : decode cX11_fact 40 = .ok (.aload_n 0, 1) := dget dh_217 (k := 0) rfl
theorem dX11_fact_41 : decode cX11_fact 41 = .ok (.getfield 89, 3) := dget dh_217 (k := 1) rfl
theorem dX11_fact_44 : decode cX11_fact 44 = .ok (.iload_n 1, 1) := dget dh_217 (k := 2) rfl
theorem dX11_fact_45 : decode cX11_fact 45 = .ok (.iload_n 2, 1) := dget dh_217 (k := 3) rfl
theorem dX11_fact_46 : decode cX11_fact 46 = .ok (.iload_n 3, 1) := dget dh_217 (k := 4) rfl
theorem dX11_fact_47 : decode cX11_fact 47 = .ok (.invokevirtual 308, 3) := dget dh_217 (k := 5) rfl
theorem dX11_fact_50 : decode cX11_fact 50 = .ok (.ireturn, 1) := dget dh_217 (k := 6) rfl
def dl_218 : List (Nat × (Instr × Nat)) := [(0, (.aload_n 0, 1)), (1, (.getfield 36, 3)), (4, (.getfield 141, 3)), (7, (.sipush 200, 3)), (10, (.if_icmp .le 5, 3)), (13, (.iconst (-1), 1)), (14, (.ireturn, 1)), (15, (.aload_n 0, 1)), (16, (.getfield 36, 3)), (19, (.iload_n 1, 1)), (20, (.invokevirtual 144, 3)), (23, (.aload_n 0, 1)), (24, (.getfield 36, 3)), (27, (.iload_n 2, 1)), (28, (.invokevirtual 144, 3)), (31, (.aload_n 0, 1)), (32, (.getfield 36, 3)), (35, (.iload_n 3, 1)), (36, (.invokevirtual 144, 3)), (39, (.aload_n 0, 1))]
theorem dh_218 : dchk cX11_feed dl_218 = true := by decide +kernel
theorem dX11_feed_0 : decode cX11_feed 0 = .ok (.aload_n 0, 1) := dget dh_218 (k := 0) rfl
theorem dX11_feed_1 : decode cX11_feed 1 = .ok (.getfield 36, 3) := dget dh_218 (k := 1) rfl
theorem dX11_feed_4 : decode cX11_feed 4 = .ok (.getfield 141, 3) := dget dh_218 (k := 2) rfl
theorem dX11_feed_7 : decode cX11_feed 7 = .ok (.sipush 200, 3) := dget dh_218 (k := 3) rfl
theorem dX11_feed_10 : decode cX11_feed 10 = .ok (.if_icmp .le 5, 3) := dget dh_218 (k := 4) rfl
theorem dX11_feed_13 : decode cX11_feed 13 = .ok (.iconst (-1), 1) := dget dh_218 (k := 5) rfl
theorem dX11_feed_14 : decode cX11_feed 14 = .ok (.ireturn, 1) := dget dh_218 (k := 6) rfl
theorem dX11_feed_15 : decode cX11_feed 15 = .ok (.aload_n 0, 1) := dget dh_218 (k := 7) rfl
theorem dX11_feed_16 : decode cX11_feed 16 = .ok (.getfield 36, 3) := dget dh_218 (k := 8) rfl
theorem dX11_feed_19 : decode cX11_feed 19 = .ok (.iload_n 1, 1) := dget dh_218 (k := 9) rfl
theorem dX11_feed_20 : decode cX11_feed 20 = .ok (.invokevirtual 144, 3) := dget dh_218 (k := 10) rfl
theorem dX11_feed_23 : decode cX11_feed 23 = .ok (.aload_n 0, 1) := dget dh_218 (k := 11) rfl
theorem dX11_feed_24 : decode cX11_feed 24 = .ok (.getfield 36, 3) := dget dh_218 (k := 12) rfl
theorem dX11_feed_27 : decode cX11_feed 27 = .ok (.iload_n 2, 1) := dget dh_218 (k := 13) rfl
theorem dX11_feed_28 : decode cX11_feed 28 = .ok (.invokevirtual 144, 3) := dget dh_218 (k := 14) rfl
theorem dX11_feed_31 : decode cX11_feed 31 = .ok (.aload_n 0, 1) := dget dh_218 (k := 15) rfl
theorem dX11_feed_32 : decode cX11_feed 32 = .ok (.getfield 36, 3) := dget dh_218 (k := 16) rfl
theorem dX11_feed_35 : decode cX11_feed 35 = .ok (.iload_n 3, 1) := dget dh_218 (k := 17) rfl
theorem dX11_feed_36 : decode cX11_feed 36 = .ok (.invokevirtual 144, 3) := dget dh_218 (k := 18) rfl
theorem dX11_feed_39 : decode cX11_feed 39 = .ok (.aload_n 0, 1) := dget dh_218 (k := 19) rfl
def dl_219 : List (Nat × (Instr × Nat)) := [(40, (.getfield 36, 3)), (43, (.iload 4, 2)), (45, (.invokevirtual 144, 3)), (48, (.aload_n 0, 1)), (49, (.getfield 36, 3)), (52, (.iload 5, 2)), (54, (.invokevirtual 144, 3)), (57, (.aload_n 0, 1)), (58, (.getfield 36, 3)), (61, (.getfield 141, 3)), (64, (.ireturn, 1))]
theorem dh_219 : dchk cX11_feed dl_219 = true := by decide +kernel
theorem dX11_feed_40 : decode cX11_feed 40 = .ok (.getfield 36, 3) := dget dh_219 (k := 0) rfl
theorem dX11_feed_43 : decode cX11_feed 43 = .ok (.iload 4, 2) := dget dh_219 (k := 1) rfl
theorem dX11_feed_45 : decode cX11_feed 45 = .ok (.invokevirtual 144, 3) := dget dh_219 (k := 2) rfl
theorem dX11_feed_48 : decode cX11_feed 48 = .ok (.aload_n 0, 1) := dget dh_219 (k := 3) rfl
theorem dX11_feed_49 : decode cX11_feed 49 = .ok (.getfield 36, 3) := dget dh_219 (k := 4) rfl
theorem dX11_feed_52 : decode cX11_feed 52 = .ok (.iload 5, 2) := dget dh_219 (k := 5) rfl
theorem dX11_feed_54 : decode cX11_feed 54 = .ok (.invokevirtual 144, 3) := dget dh_219 (k := 6) rfl
theorem dX11_feed_57 : decode cX11_feed 57 = .ok (.aload_n 0, 1) := dget dh_219 (k := 7) rfl
theorem dX11_feed_58 : decode cX11_feed 58 = .ok (.getfield 36, 3) := dget dh_219 (k := 8) rfl
theorem dX11_feed_61 : decode cX11_feed 61 = .ok (.getfield 141, 3) := dget dh_219 (k := 9) rfl
theorem dX11_feed_64 : decode cX11_feed 64 = .ok (.ireturn, 1) := dget dh_219 (k := 10) rfl
def dl_220 : List (Nat × (Instr × Nat)) := [(0, (.aload_n 0, 1)), (1, (.getfield 65, 3)), (4, (.aload_n 0, 1)), (5, (.getfield 61, 3)), (8, (.invokevirtual 332, 3)), (11, (.aload_n 0, 1)), (12, (.iconst 1, 1)), (13, (.putfield 68, 3)), (16, (.aload_n 0, 1)), (17, (.getfield 61, 3)), (20, (.getfield 320, 3)), (23, (.ireturn, 1))]
theorem dh_220 : dchk cX11_keep dl_220 = true := by decide +kernel
theorem dX11_keep_0 : decode cX11_keep 0 = .ok (.aload_n 0, 1) := dget dh_220 (k := 0) rfl
theorem dX11_keep_1 : decode cX11_keep 1 = .ok (.getfield 65, 3) := dget dh_220 (k := 1) rfl
theorem dX11_keep_4 : decode cX11_keep 4 = .ok (.aload_n 0, 1) := dget dh_220 (k := 2) rfl
theorem dX11_keep_5 : decode cX11_keep 5 = .ok (.getfield 61, 3) := dget dh_220 (k := 3) rfl
theorem dX11_keep_8 : decode cX11_keep 8 = .ok (.invokevirtual 332, 3) := dget dh_220 (k := 4) rfl
theorem dX11_keep_11 : decode cX11_keep 11 = .ok (.aload_n 0, 1) := dget dh_220 (k := 5) rfl
theorem dX11_keep_12 : decode cX11_keep 12 = .ok (.iconst 1, 1) := dget dh_220 (k := 6) rfl
theorem dX11_keep_13 : decode cX11_keep 13 = .ok (.putfield 68, 3) := dget dh_220 (k := 7) rfl
theorem dX11_keep_16 : decode cX11_keep 16 = .ok (.aload_n 0, 1) := dget dh_220 (k := 8) rfl
theorem dX11_keep_17 : decode cX11_keep 17 = .ok (.getfield 61, 3) := dget dh_220 (k := 9) rfl
theorem dX11_keep_20 : decode cX11_keep 20 = .ok (.getfield 320, 3) := dget dh_220 (k := 10) rfl
theorem dX11_keep_23 : decode cX11_keep 23 = .ok (.ireturn, 1) := dget dh_220 (k := 11) rfl
def dl_221 : List (Nat × (Instr × Nat)) := [(0, (.iload_n 1, 1)), (1, (.iconst 0, 1)), (2, (.iconst 5, 1)), (3, (.invokestatic 93, 3)), (6, (.ifCond .eq 24, 3)), (9, (.iload_n 2, 1)), (10, (.iconst 0, 1)), (11, (.iconst 3, 1)), (12, (.invokestatic 93, 3)), (15, (.ifCond .eq 15, 3)), (18, (.aload_n 0, 1)), (19, (.getfield 82, 3)), (22, (.getfield 286, 3)), (25, (.iload_n 1, 1)), (26, (.iaload, 1)), (27, (.ifCond .ne 7, 3)), (30, (.ldc_w 289, 3)), (33, (.ireturn, 1)), (34, (.iload_n 2, 1)), (35, (.iconst 2, 1))]
theorem dh_221 : dchk cX11_spread dl_221 = true := by decide +kernel
theorem dX11_spread_0 : decode cX11_spread 0 = .ok (.iload_n 1, 1) := dget dh_221 (k := 0) rfl
theorem dX11_spread_1 : decode cX11_spread 1 = .ok (.iconst 0, 1) := dget dh_221 (k := 1) rfl
theorem dX11_spread_2 : decode cX11_spread 2 = .ok (.iconst 5, 1) := dget dh_221 (k := 2) rfl
theorem dX11_spread_3 : decode cX11_spread 3 = .ok (.invokestatic 93, 3) := dget dh_221 (k := 3) rfl
theorem dX11_spread_6 : decode cX11_spread 6 = .ok (.ifCond .eq 24, 3) := dget dh_221 (k := 4) rfl
theorem dX11_spread_9 : decode cX11_spread 9 = .ok (.iload_n 2, 1) := dget dh_221 (k := 5) rfl
theorem dX11_spread_10 : decode cX11_spread 10 = .ok (.iconst 0, 1) := dget dh_221 (k := 6) rfl
theorem dX11_spread_11 : decode cX11_spread 11 = .ok (.iconst 3, 1) := dget dh_221 (k := 7) rfl
theorem dX11_spread_12 : decode cX11_spread 12 = .ok (.invokestatic 93, 3) := dget dh_221 (k := 8) rfl
theorem dX11_spread_15 : decode cX11_spread 15 = .ok (.ifCond .eq 15, 3) := dget dh_221 (k := 9) rfl
theorem dX11_spread_18 : decode cX11_spread 18 = .ok (.aload_n 0, 1) := dget dh_221 (k := 10) rfl
theorem dX11_spread_19 : decode cX11_spread 19 = .ok (.getfield 82, 3) := dget dh_221 (k := 11) rfl
theorem dX11_spread_22 : decode cX11_spread 22 = .ok (.getfield 286, 3) := dget dh_221 (k := 12) rfl
theorem dX11_spread_25 : decode cX11_spread 25 = .ok (.iload_n 1, 1) := dget dh_221 (k := 13) rfl
theorem dX11_spread_26 : decode cX11_spread 26 = .ok (.iaload, 1) := dget dh_221 (k := 14) rfl
theorem dX11_spread_27 : decode cX11_spread 27 = .ok (.ifCond .ne 7, 3) := dget dh_221 (k := 15) rfl
theorem dX11_spread_30 : decode cX11_spread 30 = .ok (.ldc_w 289, 3) := dget dh_221 (k := 16) rfl
theorem dX11_spread_33 : decode cX11_spread 33 = .ok (.ireturn, 1) := dget dh_221 (k := 17) rfl
theorem dX11_spread_34 : decode cX11_spread 34 = .ok (.iload_n 2, 1) := dget dh_221 (k := 18) rfl
theorem dX11_spread_35 : decode cX11_spread 35 = .ok (.iconst 2, 1) := dget dh_221 (k := 19) rfl
def dl_222 : List (Nat × (Instr × Nat)) := [(36, (.if_icmp .ge 15, 3)), (39, (.aload_n 0, 1)), (40, (.getfield 82, 3)), (43, (.getfield 290, 3)), (46, (.iload_n 1, 1)), (47, (.iaload, 1)), (48, (.goto 12, 3)), (51, (.aload_n 0, 1)), (52, (.getfield 82, 3)), (55, (.getfield 293, 3)), (58, (.iload_n 1, 1)), (59, (.iaload, 1)), (60, (.istore_n 3, 1)), (61, (.aload_n 0, 1)), (62, (.getfield 82, 3)), (65, (.getfield 286, 3)), (68, (.iload_n 1, 1)), (69, (.iaload, 1)), (70, (.istore 4, 2)), (72, (.iload_n 3, 1))]
theorem dh_222 : dchk cX11_spread dl_222 = true := by decide +kernel
theorem dX11_spread_36 : decode cX11_spread 36 = .ok (.if_icmp .ge 15, 3) := dget dh_222 (k := 0) rfl
theorem dX11_spread_39 : decode cX11_spread 39 = .ok (.aload_n 0, 1) := dget dh_222 (k := 1) rfl
theorem dX11_spread_40 : decode cX11_spread 40 = .ok (.getfield 82, 3) := dget dh_222 (k := 2) rfl
theorem dX11_spread_43 : decode cX11_spread 43 = .ok (.getfield 290, 3) := dget dh_222 (k := 3) rfl
theorem dX11_spread_46 : decode cX11_spread 46 = .ok (.iload_n 1, 1) := dget dh_222 (k := 4) rfl
theorem dX11_spread_47 : decode cX11_spread 47 = .ok (.iaload, 1) := dget dh_222 (k := 5) rfl
theorem dX11_spread_48 : decode cX11_spread 48 = .ok (.goto 12, 3) := dget dh_222 (k := 6) rfl
theorem dX11_spread_51 : decode cX11_spread 51 = .ok (.aload_n 0, 1) := dget dh_222 (k := 7) rfl
theorem dX11_spread_52 : decode cX11_spread 52 = .ok (.getfield 82, 3) := dget dh_222 (k := 8) rfl
theorem dX11_spread_55 : decode cX11_spread 55 = .ok (.getfield 293, 3) := dget dh_222 (k := 9) rfl
theorem dX11_spread_58 : decode cX11_spread 58 = .ok (.iload_n 1, 1) := dget dh_222 (k := 10) rfl
theorem dX11_spread_59 : decode cX11_spread 59 = .ok (.iaload, 1) := dget dh_222 (k := 11) rfl
theorem dX11_spread_60 : decode cX11_spread 60 = .ok (.istore_n 3, 1) := dget dh_222 (k := 12) rfl
theorem dX11_spread_61 : decode cX11_spread 61 = .ok (.aload_n 0, 1) := dget dh_222 (k := 13) rfl
theorem dX11_spread_62 : decode cX11_spread 62 = .ok (.getfield 82, 3) := dget dh_222 (k := 14) rfl
theorem dX11_spread_65 : decode cX11_spread 65 = .ok (.getfield 286, 3) := dget dh_222 (k := 15) rfl
theorem dX11_spread_68 : decode cX11_spread 68 = .ok (.iload_n 1, 1) := dget dh_222 (k := 16) rfl
theorem dX11_spread_69 : decode cX11_spread 69 = .ok (.iaload, 1) := dget dh_222 (k := 17) rfl
theorem dX11_spread_70 : decode cX11_spread 70 = .ok (.istore 4, 2) := dget dh_222 (k := 18) rfl
theorem dX11_spread_72 : decode cX11_spread 72 = .ok (.iload_n 3, 1) := dget dh_222 (k := 19) rfl
def dl_223 : List (Nat × (Instr × Nat)) := [(73, (.invokestatic 296, 3)), (76, (.iload 4, 2)), (78, (.invokestatic 301, 3)), (81, (.istore 5, 2)), (83, (.iload 5, 2)), (85, (.ifCond .ne 7, 3)), (88, (.ldc_w 289, 3)), (91, (.ireturn, 1)), (92, (.iload_n 2, 1)), (93, (.iconst 2, 1)), (94, (.irem, 1)), (95, (.ifCond .ne 7, 3)), (98, (.iload_n 3, 1)), (99, (.goto 5, 3)), (102, (.iload 4, 2)), (104, (.iload 5, 2)), (106, (.idiv, 1)), (107, (.ireturn, 1))]
theorem dh_223 : dchk cX11_spread dl_223 = true := by decide +kernel
theorem dX11_spread_73 : decode cX11_spread 73 = .ok (.invokestatic 296, 3) := dget dh_223 (k := 0) rfl
theorem dX11_spread_76 : decode cX11_spread 76 = .ok (.iload 4, 2) := dget dh_223 (k := 1) rfl
theorem dX11_spread_78 : decode cX11_spread 78 = .ok (.invokestatic 301, 3) := dget dh_223 (k := 2) rfl
theorem dX11_spread_81 : decode cX11_spread 81 = .ok (.istore 5, 2) := dget dh_223 (k := 3) rfl
theorem dX11_spread_83 : decode cX11_spread 83 = .ok (.iload 5, 2) := dget dh_223 (k := 4) rfl
theorem dX11_spread_85 : decode cX11_spread 85 = .ok (.ifCond .ne 7, 3) := dget dh_223 (k := 5) rfl
theorem dX11_spread_88 : decode cX11_spread 88 = .ok (.ldc_w 289, 3) := dget dh_223 (k := 6) rfl
theorem dX11_spread_91 : decode cX11_spread 91 = .ok (.ireturn, 1) := dget dh_223 (k := 7) rfl
theorem dX11_spread_92 : decode cX11_spread 92 = .ok (.iload_n 2, 1) := dget dh_223 (k := 8) rfl
theorem dX11_spread_93 : decode cX11_spread 93 = .ok (.iconst 2, 1) := dget dh_223 (k := 9) rfl
theorem dX11_spread_94 : decode cX11_spread 94 = .ok (.irem, 1) := dget dh_223 (k := 10) rfl
theorem dX11_spread_95 : decode cX11_spread 95 = .ok (.ifCond .ne 7, 3) := dget dh_223 (k := 11) rfl
theorem dX11_spread_98 : decode cX11_spread 98 = .ok (.iload_n 3, 1) := dget dh_223 (k := 12) rfl
theorem dX11_spread_99 : decode cX11_spread 99 = .ok (.goto 5, 3) := dget dh_223 (k := 13) rfl
theorem dX11_spread_102 : decode cX11_spread 102 = .ok (.iload 4, 2) := dget dh_223 (k := 14) rfl
theorem dX11_spread_104 : decode cX11_spread 104 = .ok (.iload 5, 2) := dget dh_223 (k := 15) rfl
theorem dX11_spread_106 : decode cX11_spread 106 = .ok (.idiv, 1) := dget dh_223 (k := 16) rfl
theorem dX11_spread_107 : decode cX11_spread 107 = .ok (.ireturn, 1) := dget dh_223 (k := 17) rfl
def dl_224 : List (Nat × (Instr × Nat)) := [(0, (.iload_n 1, 1)), (1, (.iconst 0, 1)), (2, (.iconst 5, 1)), (3, (.invokestatic 93, 3)), (6, (.ifCond .eq 52, 3)), (9, (.iload_n 2, 1)), (10, (.iconst 0, 1)), (11, (.iconst 5, 1)), (12, (.invokestatic 93, 3)), (15, (.ifCond .eq 43, 3)), (18, (.iload_n 1, 1)), (19, (.iload_n 2, 1)), (20, (.if_icmp .eq 38, 3)), (23, (.iload_n 3, 1)), (24, (.iconst 0, 1)), (25, (.sipush 9999, 3)), (28, (.invokestatic 93, 3)), (31, (.ifCond .eq 27, 3)), (34, (.iload 4, 2)), (36, (.iconst 0, 1))]
theorem dh_224 : dchk cX11_twice dl_224 = true := by decide +kernel
theorem dX11_twice_0 : decode cX11_twice 0 = .ok (.iload_n 1, 1) := dget dh_224 (k := 0) rfl
theorem dX11_twice_1 : decode cX11_twice 1 = .ok (.iconst 0, 1) := dget dh_224 (k := 1) rfl
theorem dX11_twice_2 : decode cX11_twice 2 = .ok (.iconst 5, 1) := dget dh_224 (k := 2) rfl
theorem dX11_twice_3 : decode cX11_twice 3 = .ok (.invokestatic 93, 3) := dget dh_224 (k := 3) rfl
theorem dX11_twice_6 : decode cX11_twice 6 = .ok (.ifCond .eq 52, 3) := dget dh_224 (k := 4) rfl
theorem dX11_twice_9 : decode cX11_twice 9 = .ok (.iload_n 2, 1) := dget dh_224 (k := 5) rfl
theorem dX11_twice_10 : decode cX11_twice 10 = .ok (.iconst 0, 1) := dget dh_224 (k := 6) rfl
theorem dX11_twice_11 : decode cX11_twice 11 = .ok (.iconst 5, 1) := dget dh_224 (k := 7) rfl
theorem dX11_twice_12 : decode cX11_twice 12 = .ok (.invokestatic 93, 3) := dget dh_224 (k := 8) rfl
theorem dX11_twice_15 : decode cX11_twice 15 = .ok (.ifCond .eq 43, 3) := dget dh_224 (k := 9) rfl
theorem dX11_twice_18 : decode cX11_twice 18 = .ok (.iload_n 1, 1) := dget dh_224 (k := 10) rfl
theorem dX11_twice_19 : decode cX11_twice 19 = .ok (.iload_n 2, 1) := dget dh_224 (k := 11) rfl
theorem dX11_twice_20 : decode cX11_twice 20 = .ok (.if_icmp .eq 38, 3) := dget dh_224 (k := 12) rfl
theorem dX11_twice_23 : decode cX11_twice 23 = .ok (.iload_n 3, 1) := dget dh_224 (k := 13) rfl
theorem dX11_twice_24 : decode cX11_twice 24 = .ok (.iconst 0, 1) := dget dh_224 (k := 14) rfl
theorem dX11_twice_25 : decode cX11_twice 25 = .ok (.sipush 9999, 3) := dget dh_224 (k := 15) rfl
theorem dX11_twice_28 : decode cX11_twice 28 = .ok (.invokestatic 93, 3) := dget dh_224 (k := 16) rfl
theorem dX11_twice_31 : decode cX11_twice 31 = .ok (.ifCond .eq 27, 3) := dget dh_224 (k := 17) rfl
theorem dX11_twice_34 : decode cX11_twice 34 = .ok (.iload 4, 2) := dget dh_224 (k := 18) rfl
theorem dX11_twice_36 : decode cX11_twice 36 = .ok (.iconst 0, 1) := dget dh_224 (k := 19) rfl
def dl_225 : List (Nat × (Instr × Nat)) := [(37, (.sipush 9999, 3)), (40, (.invokestatic 93, 3)), (43, (.ifCond .eq 15, 3)), (46, (.aload_n 0, 1)), (47, (.getfield 82, 3)), (50, (.getfield 282, 3)), (53, (.bipush 40, 2)), (55, (.if_icmp .lt 5, 3)), (58, (.iconst (-1), 1)), (59, (.ireturn, 1)), (60, (.aload_n 0, 1)), (61, (.getfield 82, 3)), (64, (.dup, 1)), (65, (.getfield 282, 3)), (68, (.iconst 1, 1)), (69, (.iadd, 1)), (70, (.putfield 282, 3)), (73, (.aload_n 0, 1)), (74, (.getfield 82, 3)), (77, (.iload_n 1, 1))]
theorem dh_225 : dchk cX11_twice dl_225 = true := by decide +kernel
theorem dX11_twice_37 : decode cX11_twice 37 = .ok (.sipush 9999, 3) := dget dh_225 (k := 0) rfl
theorem dX11_twice_40 : decode cX11_twice 40 = .ok (.invokestatic 93, 3) := dget dh_225 (k := 1) rfl
theorem dX11_twice_43 : decode cX11_twice 43 = .ok (.ifCond .eq 15, 3) := dget dh_225 (k := 2) rfl
theorem dX11_twice_46 : decode cX11_twice 46 = .ok (.aload_n 0, 1) := dget dh_225 (k := 3) rfl
theorem dX11_twice_47 : decode cX11_twice 47 = .ok (.getfield 82, 3) := dget dh_225 (k := 4) rfl
theorem dX11_twice_50 : decode cX11_twice 50 = .ok (.getfield 282, 3) := dget dh_225 (k := 5) rfl
theorem dX11_twice_53 : decode cX11_twice 53 = .ok (.bipush 40, 2) := dget dh_225 (k := 6) rfl
theorem dX11_twice_55 : decode cX11_twice 55 = .ok (.if_icmp .lt 5, 3) := dget dh_225 (k := 7) rfl
theorem dX11_twice_58 : decode cX11_twice 58 = .ok (.iconst (-1), 1) := dget dh_225 (k := 8) rfl
theorem dX11_twice_59 : decode cX11_twice 59 = .ok (.ireturn, 1) := dget dh_225 (k := 9) rfl
theorem dX11_twice_60 : decode cX11_twice 60 = .ok (.aload_n 0, 1) := dget dh_225 (k := 10) rfl
theorem dX11_twice_61 : decode cX11_twice 61 = .ok (.getfield 82, 3) := dget dh_225 (k := 11) rfl
theorem dX11_twice_64 : decode cX11_twice 64 = .ok (.dup, 1) := dget dh_225 (k := 12) rfl
theorem dX11_twice_65 : decode cX11_twice 65 = .ok (.getfield 282, 3) := dget dh_225 (k := 13) rfl
theorem dX11_twice_68 : decode cX11_twice 68 = .ok (.iconst 1, 1) := dget dh_225 (k := 14) rfl
theorem dX11_twice_69 : decode cX11_twice 69 = .ok (.iadd, 1) := dget dh_225 (k := 15) rfl
theorem dX11_twice_70 : decode cX11_twice 70 = .ok (.putfield 282, 3) := dget dh_225 (k := 16) rfl
theorem dX11_twice_73 : decode cX11_twice 73 = .ok (.aload_n 0, 1) := dget dh_225 (k := 17) rfl
theorem dX11_twice_74 : decode cX11_twice 74 = .ok (.getfield 82, 3) := dget dh_225 (k := 18) rfl
theorem dX11_twice_77 : decode cX11_twice 77 = .ok (.iload_n 1, 1) := dget dh_225 (k := 19) rfl
def dl_226 : List (Nat × (Instr × Nat)) := [(78, (.iload_n 3, 1)), (79, (.iload 4, 2)), (81, (.isub, 1)), (82, (.invokevirtual 283, 3)), (85, (.aload_n 0, 1)), (86, (.getfield 82, 3)), (89, (.iload_n 2, 1)), (90, (.iload 4, 2)), (92, (.iload_n 3, 1)), (93, (.isub, 1)), (94, (.invokevirtual 283, 3)), (97, (.aload_n 0, 1)), (98, (.getfield 82, 3)), (101, (.getfield 282, 3)), (104, (.ireturn, 1))]
theorem dh_226 : dchk cX11_twice dl_226 = true := by decide +kernel
theorem dX11_twice_78 : decode cX11_twice 78 = .ok (.iload_n 3, 1) := dget dh_226 (k := 0) rfl
theorem dX11_twice_79 : decode cX11_twice 79 = .ok (.iload 4, 2) := dget dh_226 (k := 1) rfl
theorem dX11_twice_81 : decode cX11_twice 81 = .ok (.isub, 1) := dget dh_226 (k := 2) rfl
theorem dX11_twice_82 : decode cX11_twice 82 = .ok (.invokevirtual 283, 3) := dget dh_226 (k := 3) rfl
theorem dX11_twice_85 : decode cX11_twice 85 = .ok (.aload_n 0, 1) := dget dh_226 (k := 4) rfl
theorem dX11_twice_86 : decode cX11_twice 86 = .ok (.getfield 82, 3) := dget dh_226 (k := 5) rfl
theorem dX11_twice_89 : decode cX11_twice 89 = .ok (.iload_n 2, 1) := dget dh_226 (k := 6) rfl
theorem dX11_twice_90 : decode cX11_twice 90 = .ok (.iload 4, 2) := dget dh_226 (k := 7) rfl
theorem dX11_twice_92 : decode cX11_twice 92 = .ok (.iload_n 3, 1) := dget dh_226 (k := 8) rfl
theorem dX11_twice_93 : decode cX11_twice 93 = .ok (.isub, 1) := dget dh_226 (k := 9) rfl
theorem dX11_twice_94 : decode cX11_twice 94 = .ok (.invokevirtual 283, 3) := dget dh_226 (k := 10) rfl
theorem dX11_twice_97 : decode cX11_twice 97 = .ok (.aload_n 0, 1) := dget dh_226 (k := 11) rfl
theorem dX11_twice_98 : decode cX11_twice 98 = .ok (.getfield 82, 3) := dget dh_226 (k := 12) rfl
theorem dX11_twice_101 : decode cX11_twice 101 = .ok (.getfield 282, 3) := dget dh_226 (k := 13) rfl
theorem dX11_twice_104 : decode cX11_twice 104 = .ok (.ireturn, 1) := dget dh_226 (k := 14) rfl
def dl_227 : List (Nat × (Instr × Nat)) := [(0, (.aload_n 0, 1)), (1, (.getfield 68, 3)), (4, (.ifCond .ne 5, 3)), (7, (.iconst 0, 1)), (8, (.ireturn, 1)), (9, (.aload_n 0, 1)), (10, (.getfield 61, 3)), (13, (.aload_n 0, 1)), (14, (.getfield 65, 3)), (17, (.invokevirtual 332, 3)), (20, (.iconst 1, 1)), (21, (.ireturn, 1))]
theorem dh_227 : dchk cX11_undo dl_227 = true := by decide +kernel
theorem dX11_undo_0 : decode cX11_undo 0 = .ok (.aload_n 0, 1) := dget dh_227 (k := 0) rfl
theorem dX11_undo_1 : decode cX11_undo 1 = .ok (.getfield 68, 3) := dget dh_227 (k := 1) rfl
theorem dX11_undo_4 : decode cX11_undo 4 = .ok (.ifCond .ne 5, 3) := dget dh_227 (k := 2) rfl
theorem dX11_undo_7 : decode cX11_undo 7 = .ok (.iconst 0, 1) := dget dh_227 (k := 3) rfl
theorem dX11_undo_8 : decode cX11_undo 8 = .ok (.ireturn, 1) := dget dh_227 (k := 4) rfl
theorem dX11_undo_9 : decode cX11_undo 9 = .ok (.aload_n 0, 1) := dget dh_227 (k := 5) rfl
theorem dX11_undo_10 : decode cX11_undo 10 = .ok (.getfield 61, 3) := dget dh_227 (k := 6) rfl
theorem dX11_undo_13 : decode cX11_undo 13 = .ok (.aload_n 0, 1) := dget dh_227 (k := 7) rfl
theorem dX11_undo_14 : decode cX11_undo 14 = .ok (.getfield 65, 3) := dget dh_227 (k := 8) rfl
theorem dX11_undo_17 : decode cX11_undo 17 = .ok (.invokevirtual 332, 3) := dget dh_227 (k := 9) rfl
theorem dX11_undo_20 : decode cX11_undo 20 = .ok (.iconst 1, 1) := dget dh_227 (k := 10) rfl
theorem dX11_undo_21 : decode cX11_undo 21 = .ok (.ireturn, 1) := dget dh_227 (k := 11) rfl
def dl_228 : List (Nat × (Instr × Nat)) := [(0, (.iload_n 1, 1)), (1, (.iconst (-1), 1)), (2, (.if_icmp .ne 11, 3)), (5, (.aload_n 0, 1)), (6, (.getfield 89, 3)), (9, (.getfield 314, 3)), (12, (.ireturn, 1)), (13, (.iload_n 1, 1)), (14, (.iconst 0, 1)), (15, (.aload_n 0, 1)), (16, (.getfield 89, 3)), (19, (.getfield 314, 3)), (22, (.iconst 1, 1)), (23, (.isub, 1)), (24, (.invokestatic 93, 3)), (27, (.ifCond .eq 15, 3)), (30, (.aload_n 0, 1)), (31, (.getfield 89, 3)), (34, (.getfield 317, 3)), (37, (.iload_n 1, 1))]
theorem dh_228 : dchk cX11_wrong dl_228 = true := by decide +kernel
theorem dX11_wrong_0 : decode cX11_wrong 0 = .ok (.iload_n 1, 1) := dget dh_228 (k := 0) rfl
theorem dX11_wrong_1 : decode cX11_wrong 1 = .ok (.iconst (-1), 1) := dget dh_228 (k := 1) rfl
theorem dX11_wrong_2 : decode cX11_wrong 2 = .ok (.if_icmp .ne 11, 3) := dget dh_228 (k := 2) rfl
theorem dX11_wrong_5 : decode cX11_wrong 5 = .ok (.aload_n 0, 1) := dget dh_228 (k := 3) rfl
theorem dX11_wrong_6 : decode cX11_wrong 6 = .ok (.getfield 89, 3) := dget dh_228 (k := 4) rfl
theorem dX11_wrong_9 : decode cX11_wrong 9 = .ok (.getfield 314, 3) := dget dh_228 (k := 5) rfl
theorem dX11_wrong_12 : decode cX11_wrong 12 = .ok (.ireturn, 1) := dget dh_228 (k := 6) rfl
theorem dX11_wrong_13 : decode cX11_wrong 13 = .ok (.iload_n 1, 1) := dget dh_228 (k := 7) rfl
theorem dX11_wrong_14 : decode cX11_wrong 14 = .ok (.iconst 0, 1) := dget dh_228 (k := 8) rfl
theorem dX11_wrong_15 : decode cX11_wrong 15 = .ok (.aload_n 0, 1) := dget dh_228 (k := 9) rfl
theorem dX11_wrong_16 : decode cX11_wrong 16 = .ok (.getfield 89, 3) := dget dh_228 (k := 10) rfl
theorem dX11_wrong_19 : decode cX11_wrong 19 = .ok (.getfield 314, 3) := dget dh_228 (k := 11) rfl
theorem dX11_wrong_22 : decode cX11_wrong 22 = .ok (.iconst 1, 1) := dget dh_228 (k := 12) rfl
theorem dX11_wrong_23 : decode cX11_wrong 23 = .ok (.isub, 1) := dget dh_228 (k := 13) rfl
theorem dX11_wrong_24 : decode cX11_wrong 24 = .ok (.invokestatic 93, 3) := dget dh_228 (k := 14) rfl
theorem dX11_wrong_27 : decode cX11_wrong 27 = .ok (.ifCond .eq 15, 3) := dget dh_228 (k := 15) rfl
theorem dX11_wrong_30 : decode cX11_wrong 30 = .ok (.aload_n 0, 1) := dget dh_228 (k := 16) rfl
theorem dX11_wrong_31 : decode cX11_wrong 31 = .ok (.getfield 89, 3) := dget dh_228 (k := 17) rfl
theorem dX11_wrong_34 : decode cX11_wrong 34 = .ok (.getfield 317, 3) := dget dh_228 (k := 18) rfl
theorem dX11_wrong_37 : decode cX11_wrong 37 = .ok (.iload_n 1, 1) := dget dh_228 (k := 19) rfl
def dl_229 : List (Nat × (Instr × Nat)) := [(38, (.iaload, 1)), (39, (.goto 4, 3)), (42, (.iconst (-1), 1)), (43, (.ireturn, 1))]
theorem dh_229 : dchk cX11_wrong dl_229 = true := by decide +kernel
theorem dX11_wrong_38 : decode cX11_wrong 38 = .ok (.iaload, 1) := dget dh_229 (k := 0) rfl
theorem dX11_wrong_39 : decode cX11_wrong 39 = .ok (.goto 4, 3) := dget dh_229 (k := 1) rfl
theorem dX11_wrong_42 : decode cX11_wrong 42 = .ok (.iconst (-1), 1) := dget dh_229 (k := 2) rfl
theorem dX11_wrong_43 : decode cX11_wrong 43 = .ok (.ireturn, 1) := dget dh_229 (k := 3) rfl
def dl_230 : List (Nat × (Instr × Nat)) := [(0, (.aload_n 0, 1)), (1, (.getfield 9, 3)), (4, (.bipush 30, 2)), (6, (.if_icmp .lt 5, 3)), (9, (.iconst (-1), 1)), (10, (.ireturn, 1)), (11, (.aload_n 0, 1)), (12, (.getfield 15, 3)), (15, (.aload_n 0, 1)), (16, (.getfield 9, 3)), (19, (.iload_n 1, 1)), (20, (.iastore, 1)), (21, (.aload_n 0, 1)), (22, (.getfield 19, 3)), (25, (.aload_n 0, 1)), (26, (.getfield 9, 3)), (29, (.iload_n 2, 1)), (30, (.iastore, 1)), (31, (.aload_n 0, 1)), (32, (.getfield 22, 3))]
theorem dh_230 : dchk cX1_add dl_230 = true := by decide +kernel
theorem dX1_add_0 : decode cX1_add 0 = .ok (.aload_n 0, 1) := dget dh_230 (k := 0) rfl
theorem dX1_add_1 : decode cX1_add 1 = .ok (.getfield 9, 3) := dget dh_230 (k := 1) rfl
theorem dX1_add_4 : decode cX1_add 4 = .ok (.bipush 30, 2) := dget dh_230 (k := 2) rfl
theorem dX1_add_6 : decode cX1_add 6 = .ok (.if_icmp .lt 5, 3) := dget dh_230 (k := 3) rfl
theorem dX1_add_9 : decode cX1_add 9 = .ok (.iconst (-1), 1) := dget dh_230 (k := 4) rfl
theorem dX1_add_10 : decode cX1_add 10 = .ok (.ireturn, 1) := dget dh_230 (k := 5) rfl
theorem dX1_add_11 : decode cX1_add 11 = .ok (.aload_n 0, 1) := dget dh_230 (k := 6) rfl
theorem dX1_add_12 : decode cX1_add 12 = .ok (.getfield 15, 3) := dget dh_230 (k := 7) rfl
theorem dX1_add_15 : decode cX1_add 15 = .ok (.aload_n 0, 1) := dget dh_230 (k := 8) rfl
theorem dX1_add_16 : decode cX1_add 16 = .ok (.getfield 9, 3) := dget dh_230 (k := 9) rfl
theorem dX1_add_19 : decode cX1_add 19 = .ok (.iload_n 1, 1) := dget dh_230 (k := 10) rfl
theorem dX1_add_20 : decode cX1_add 20 = .ok (.iastore, 1) := dget dh_230 (k := 11) rfl
theorem dX1_add_21 : decode cX1_add 21 = .ok (.aload_n 0, 1) := dget dh_230 (k := 12) rfl
theorem dX1_add_22 : decode cX1_add 22 = .ok (.getfield 19, 3) := dget dh_230 (k := 13) rfl
theorem dX1_add_25 : decode cX1_add 25 = .ok (.aload_n 0, 1) := dget dh_230 (k := 14) rfl
theorem dX1_add_26 : decode cX1_add 26 = .ok (.getfield 9, 3) := dget dh_230 (k := 15) rfl
theorem dX1_add_29 : decode cX1_add 29 = .ok (.iload_n 2, 1) := dget dh_230 (k := 16) rfl
theorem dX1_add_30 : decode cX1_add 30 = .ok (.iastore, 1) := dget dh_230 (k := 17) rfl
theorem dX1_add_31 : decode cX1_add 31 = .ok (.aload_n 0, 1) := dget dh_230 (k := 18) rfl
theorem dX1_add_32 : decode cX1_add 32 = .ok (.getfield 22, 3) := dget dh_230 (k := 19) rfl
def dl_231 : List (Nat × (Instr × Nat)) := [(35, (.aload_n 0, 1)), (36, (.getfield 9, 3)), (39, (.iload_n 3, 1)), (40, (.iastore, 1)), (41, (.aload_n 0, 1)), (42, (.getfield 25, 3)), (45, (.aload_n 0, 1)), (46, (.getfield 9, 3)), (49, (.iload 4, 2)), (51, (.iastore, 1)), (52, (.aload_n 0, 1)), (53, (.getfield 28, 3)), (56, (.aload_n 0, 1)), (57, (.getfield 9, 3)), (60, (.iload 5, 2)), (62, (.iastore, 1)), (63, (.aload_n 0, 1)), (64, (.getfield 31, 3)), (67, (.aload_n 0, 1)), (68, (.getfield 9, 3))]
theorem dh_231 : dchk cX1_add dl_231 = true := by decide +kernel
theorem dX1_add_35 : decode cX1_add 35 = .ok (.aload_n 0, 1) := dget dh_231 (k := 0) rfl
theorem dX1_add_36 : decode cX1_add 36 = .ok (.getfield 9, 3) := dget dh_231 (k := 1) rfl
theorem dX1_add_39 : decode cX1_add 39 = .ok (.iload_n 3, 1) := dget dh_231 (k := 2) rfl
theorem dX1_add_40 : decode cX1_add 40 = .ok (.iastore, 1) := dget dh_231 (k := 3) rfl
theorem dX1_add_41 : decode cX1_add 41 = .ok (.aload_n 0, 1) := dget dh_231 (k := 4) rfl
theorem dX1_add_42 : decode cX1_add 42 = .ok (.getfield 25, 3) := dget dh_231 (k := 5) rfl
theorem dX1_add_45 : decode cX1_add 45 = .ok (.aload_n 0, 1) := dget dh_231 (k := 6) rfl
theorem dX1_add_46 : decode cX1_add 46 = .ok (.getfield 9, 3) := dget dh_231 (k := 7) rfl
theorem dX1_add_49 : decode cX1_add 49 = .ok (.iload 4, 2) := dget dh_231 (k := 8) rfl
theorem dX1_add_51 : decode cX1_add 51 = .ok (.iastore, 1) := dget dh_231 (k := 9) rfl
theorem dX1_add_52 : decode cX1_add 52 = .ok (.aload_n 0, 1) := dget dh_231 (k := 10) rfl
theorem dX1_add_53 : decode cX1_add 53 = .ok (.getfield 28, 3) := dget dh_231 (k := 11) rfl
theorem dX1_add_56 : decode cX1_add 56 = .ok (.aload_n 0, 1) := dget dh_231 (k := 12) rfl
theorem dX1_add_57 : decode cX1_add 57 = .ok (.getfield 9, 3) := dget dh_231 (k := 13) rfl
theorem dX1_add_60 : decode cX1_add 60 = .ok (.iload 5, 2) := dget dh_231 (k := 14) rfl
theorem dX1_add_62 : decode cX1_add 62 = .ok (.iastore, 1) := dget dh_231 (k := 15) rfl
theorem dX1_add_63 : decode cX1_add 63 = .ok (.aload_n 0, 1) := dget dh_231 (k := 16) rfl
theorem dX1_add_64 : decode cX1_add 64 = .ok (.getfield 31, 3) := dget dh_231 (k := 17) rfl
theorem dX1_add_67 : decode cX1_add 67 = .ok (.aload_n 0, 1) := dget dh_231 (k := 18) rfl
theorem dX1_add_68 : decode cX1_add 68 = .ok (.getfield 9, 3) := dget dh_231 (k := 19) rfl
def dl_232 : List (Nat × (Instr × Nat)) := [(71, (.iconst 0, 1)), (72, (.iastore, 1)), (73, (.aload_n 0, 1)), (74, (.getfield 34, 3)), (77, (.aload_n 0, 1)), (78, (.getfield 9, 3)), (81, (.iconst (-1), 1)), (82, (.iastore, 1)), (83, (.aload_n 0, 1)), (84, (.getfield 37, 3)), (87, (.aload_n 0, 1)), (88, (.getfield 9, 3)), (91, (.iconst 0, 1)), (92, (.bastore, 1)), (93, (.aload_n 0, 1)), (94, (.dup, 1)), (95, (.getfield 9, 3)), (98, (.iconst 1, 1)), (99, (.iadd, 1)), (100, (.putfield 9, 3))]
theorem dh_232 : dchk cX1_add dl_232 = true := by decide +kernel
theorem dX1_add_71 : decode cX1_add 71 = .ok (.iconst 0, 1) := dget dh_232 (k := 0) rfl
theorem dX1_add_72 : decode cX1_add 72 = .ok (.iastore, 1) := dget dh_232 (k := 1) rfl
theorem dX1_add_73 : decode cX1_add 73 = .ok (.aload_n 0, 1) := dget dh_232 (k := 2) rfl
theorem dX1_add_74 : decode cX1_add 74 = .ok (.getfield 34, 3) := dget dh_232 (k := 3) rfl
theorem dX1_add_77 : decode cX1_add 77 = .ok (.aload_n 0, 1) := dget dh_232 (k := 4) rfl
theorem dX1_add_78 : decode cX1_add 78 = .ok (.getfield 9, 3) := dget dh_232 (k := 5) rfl
theorem dX1_add_81 : decode cX1_add 81 = .ok (.iconst (-1), 1) := dget dh_232 (k := 6) rfl
theorem dX1_add_82 : decode cX1_add 82 = .ok (.iastore, 1) := dget dh_232 (k := 7) rfl
theorem dX1_add_83 : decode cX1_add 83 = .ok (.aload_n 0, 1) := dget dh_232 (k := 8) rfl
theorem dX1_add_84 : decode cX1_add 84 = .ok (.getfield 37, 3) := dget dh_232 (k := 9) rfl
theorem dX1_add_87 : decode cX1_add 87 = .ok (.aload_n 0, 1) := dget dh_232 (k := 10) rfl
theorem dX1_add_88 : decode cX1_add 88 = .ok (.getfield 9, 3) := dget dh_232 (k := 11) rfl
theorem dX1_add_91 : decode cX1_add 91 = .ok (.iconst 0, 1) := dget dh_232 (k := 12) rfl
theorem dX1_add_92 : decode cX1_add 92 = .ok (.bastore, 1) := dget dh_232 (k := 13) rfl
theorem dX1_add_93 : decode cX1_add 93 = .ok (.aload_n 0, 1) := dget dh_232 (k := 14) rfl
theorem dX1_add_94 : decode cX1_add 94 = .ok (.dup, 1) := dget dh_232 (k := 15) rfl
theorem dX1_add_95 : decode cX1_add 95 = .ok (.getfield 9, 3) := dget dh_232 (k := 16) rfl
theorem dX1_add_98 : decode cX1_add 98 = .ok (.iconst 1, 1) := dget dh_232 (k := 17) rfl
theorem dX1_add_99 : decode cX1_add 99 = .ok (.iadd, 1) := dget dh_232 (k := 18) rfl
theorem dX1_add_100 : decode cX1_add 100 = .ok (.putfield 9, 3) := dget dh_232 (k := 19) rfl
def dl_233 : List (Nat × (Instr × Nat)) := [(103, (.aload_n 0, 1)), (104, (.getfield 9, 3)), (107, (.iconst 1, 1)), (108, (.isub, 1)), (109, (.ireturn, 1))]
theorem dh_233 : dchk cX1_add dl_233 = true := by decide +kernel
theorem dX1_add_103 : decode cX1_add 103 = .ok (.aload_n 0, 1) := dget dh_233 (k := 0) rfl
theorem dX1_add_104 : decode cX1_add 104 = .ok (.getfield 9, 3) := dget dh_233 (k := 1) rfl
theorem dX1_add_107 : decode cX1_add 107 = .ok (.iconst 1, 1) := dget dh_233 (k := 2) rfl
theorem dX1_add_108 : decode cX1_add 108 = .ok (.isub, 1) := dget dh_233 (k := 3) rfl
theorem dX1_add_109 : decode cX1_add 109 = .ok (.ireturn, 1) := dget dh_233 (k := 4) rfl
def dl_234 : List (Nat × (Instr × Nat)) := [(0, (.aload_n 0, 1)), (1, (.aload_n 1, 1)), (2, (.getfield 9, 3)), (5, (.putfield 9, 3)), (8, (.aload_n 0, 1)), (9, (.aload_n 1, 1)), (10, (.getfield 47, 3)), (13, (.putfield 47, 3)), (16, (.iconst 0, 1)), (17, (.istore_n 2, 1)), (18, (.iload_n 2, 1)), (19, (.aload_n 0, 1)), (20, (.getfield 9, 3)), (23, (.if_icmp .ge 105, 3)), (26, (.aload_n 0, 1)), (27, (.getfield 15, 3)), (30, (.iload_n 2, 1)), (31, (.aload_n 1, 1)), (32, (.getfield 15, 3)), (35, (.iload_n 2, 1))]
theorem dh_234 : dchk cX1_copyFrom dl_234 = true := by decide +kernel
theorem dX1_copyFrom_0 : decode cX1_copyFrom 0 = .ok (.aload_n 0, 1) := dget dh_234 (k := 0) rfl
theorem dX1_copyFrom_1 : decode cX1_copyFrom 1 = .ok (.aload_n 1, 1) := dget dh_234 (k := 1) rfl
theorem dX1_copyFrom_2 : decode cX1_copyFrom 2 = .ok (.getfield 9, 3) := dget dh_234 (k := 2) rfl
theorem dX1_copyFrom_5 : decode cX1_copyFrom 5 = .ok (.putfield 9, 3) := dget dh_234 (k := 3) rfl
theorem dX1_copyFrom_8 : decode cX1_copyFrom 8 = .ok (.aload_n 0, 1) := dget dh_234 (k := 4) rfl
theorem dX1_copyFrom_9 : decode cX1_copyFrom 9 = .ok (.aload_n 1, 1) := dget dh_234 (k := 5) rfl
theorem dX1_copyFrom_10 : decode cX1_copyFrom 10 = .ok (.getfield 47, 3) := dget dh_234 (k := 6) rfl
theorem dX1_copyFrom_13 : decode cX1_copyFrom 13 = .ok (.putfield 47, 3) := dget dh_234 (k := 7) rfl
theorem dX1_copyFrom_16 : decode cX1_copyFrom 16 = .ok (.iconst 0, 1) := dget dh_234 (k := 8) rfl
theorem dX1_copyFrom_17 : decode cX1_copyFrom 17 = .ok (.istore_n 2, 1) := dget dh_234 (k := 9) rfl
theorem dX1_copyFrom_18 : decode cX1_copyFrom 18 = .ok (.iload_n 2, 1) := dget dh_234 (k := 10) rfl
theorem dX1_copyFrom_19 : decode cX1_copyFrom 19 = .ok (.aload_n 0, 1) := dget dh_234 (k := 11) rfl
theorem dX1_copyFrom_20 : decode cX1_copyFrom 20 = .ok (.getfield 9, 3) := dget dh_234 (k := 12) rfl
theorem dX1_copyFrom_23 : decode cX1_copyFrom 23 = .ok (.if_icmp .ge 105, 3) := dget dh_234 (k := 13) rfl
theorem dX1_copyFrom_26 : decode cX1_copyFrom 26 = .ok (.aload_n 0, 1) := dget dh_234 (k := 14) rfl
theorem dX1_copyFrom_27 : decode cX1_copyFrom 27 = .ok (.getfield 15, 3) := dget dh_234 (k := 15) rfl
theorem dX1_copyFrom_30 : decode cX1_copyFrom 30 = .ok (.iload_n 2, 1) := dget dh_234 (k := 16) rfl
theorem dX1_copyFrom_31 : decode cX1_copyFrom 31 = .ok (.aload_n 1, 1) := dget dh_234 (k := 17) rfl
theorem dX1_copyFrom_32 : decode cX1_copyFrom 32 = .ok (.getfield 15, 3) := dget dh_234 (k := 18) rfl
theorem dX1_copyFrom_35 : decode cX1_copyFrom 35 = .ok (.iload_n 2, 1) := dget dh_234 (k := 19) rfl
def dl_235 : List (Nat × (Instr × Nat)) := [(36, (.iaload, 1)), (37, (.iastore, 1)), (38, (.aload_n 0, 1)), (39, (.getfield 19, 3)), (42, (.iload_n 2, 1)), (43, (.aload_n 1, 1)), (44, (.getfield 19, 3)), (47, (.iload_n 2, 1)), (48, (.iaload, 1)), (49, (.iastore, 1)), (50, (.aload_n 0, 1)), (51, (.getfield 22, 3)), (54, (.iload_n 2, 1)), (55, (.aload_n 1, 1)), (56, (.getfield 22, 3)), (59, (.iload_n 2, 1)), (60, (.iaload, 1)), (61, (.iastore, 1)), (62, (.aload_n 0, 1)), (63, (.getfield 25, 3))]
theorem dh_235 : dchk cX1_copyFrom dl_235 = true := by decide +kernel
theorem dX1_copyFrom_36 : decode cX1_copyFrom 36 = .ok (.iaload, 1) := dget dh_235 (k := 0) rfl
theorem dX1_copyFrom_37 : decode cX1_copyFrom 37 = .ok (.iastore, 1) := dget dh_235 (k := 1) rfl
theorem dX1_copyFrom_38 : decode cX1_copyFrom 38 = .ok (.aload_n 0, 1) := dget dh_235 (k := 2) rfl
theorem dX1_copyFrom_39 : decode cX1_copyFrom 39 = .ok (.getfield 19, 3) := dget dh_235 (k := 3) rfl
theorem dX1_copyFrom_42 : decode cX1_copyFrom 42 = .ok (.iload_n 2, 1) := dget dh_235 (k := 4) rfl
theorem dX1_copyFrom_43 : decode cX1_copyFrom 43 = .ok (.aload_n 1, 1) := dget dh_235 (k := 5) rfl
theorem dX1_copyFrom_44 : decode cX1_copyFrom 44 = .ok (.getfield 19, 3) := dget dh_235 (k := 6) rfl
theorem dX1_copyFrom_47 : decode cX1_copyFrom 47 = .ok (.iload_n 2, 1) := dget dh_235 (k := 7) rfl
theorem dX1_copyFrom_48 : decode cX1_copyFrom 48 = .ok (.iaload, 1) := dget dh_235 (k := 8) rfl
theorem dX1_copyFrom_49 : decode cX1_copyFrom 49 = .ok (.iastore, 1) := dget dh_235 (k := 9) rfl
theorem dX1_copyFrom_50 : decode cX1_copyFrom 50 = .ok (.aload_n 0, 1) := dget dh_235 (k := 10) rfl
theorem dX1_copyFrom_51 : decode cX1_copyFrom 51 = .ok (.getfield 22, 3) := dget dh_235 (k := 11) rfl
theorem dX1_copyFrom_54 : decode cX1_copyFrom 54 = .ok (.iload_n 2, 1) := dget dh_235 (k := 12) rfl
theorem dX1_copyFrom_55 : decode cX1_copyFrom 55 = .ok (.aload_n 1, 1) := dget dh_235 (k := 13) rfl
theorem dX1_copyFrom_56 : decode cX1_copyFrom 56 = .ok (.getfield 22, 3) := dget dh_235 (k := 14) rfl
theorem dX1_copyFrom_59 : decode cX1_copyFrom 59 = .ok (.iload_n 2, 1) := dget dh_235 (k := 15) rfl
theorem dX1_copyFrom_60 : decode cX1_copyFrom 60 = .ok (.iaload, 1) := dget dh_235 (k := 16) rfl
theorem dX1_copyFrom_61 : decode cX1_copyFrom 61 = .ok (.iastore, 1) := dget dh_235 (k := 17) rfl
theorem dX1_copyFrom_62 : decode cX1_copyFrom 62 = .ok (.aload_n 0, 1) := dget dh_235 (k := 18) rfl
theorem dX1_copyFrom_63 : decode cX1_copyFrom 63 = .ok (.getfield 25, 3) := dget dh_235 (k := 19) rfl
def dl_236 : List (Nat × (Instr × Nat)) := [(66, (.iload_n 2, 1)), (67, (.aload_n 1, 1)), (68, (.getfield 25, 3)), (71, (.iload_n 2, 1)), (72, (.iaload, 1)), (73, (.iastore, 1)), (74, (.aload_n 0, 1)), (75, (.getfield 28, 3)), (78, (.iload_n 2, 1)), (79, (.aload_n 1, 1)), (80, (.getfield 28, 3)), (83, (.iload_n 2, 1)), (84, (.iaload, 1)), (85, (.iastore, 1)), (86, (.aload_n 0, 1)), (87, (.getfield 31, 3)), (90, (.iload_n 2, 1)), (91, (.aload_n 1, 1)), (92, (.getfield 31, 3)), (95, (.iload_n 2, 1))]
theorem dh_236 : dchk cX1_copyFrom dl_236 = true := by decide +kernel
theorem dX1_copyFrom_66 : decode cX1_copyFrom 66 = .ok (.iload_n 2, 1) := dget dh_236 (k := 0) rfl
theorem dX1_copyFrom_67 : decode cX1_copyFrom 67 = .ok (.aload_n 1, 1) := dget dh_236 (k := 1) rfl
theorem dX1_copyFrom_68 : decode cX1_copyFrom 68 = .ok (.getfield 25, 3) := dget dh_236 (k := 2) rfl
theorem dX1_copyFrom_71 : decode cX1_copyFrom 71 = .ok (.iload_n 2, 1) := dget dh_236 (k := 3) rfl
theorem dX1_copyFrom_72 : decode cX1_copyFrom 72 = .ok (.iaload, 1) := dget dh_236 (k := 4) rfl
theorem dX1_copyFrom_73 : decode cX1_copyFrom 73 = .ok (.iastore, 1) := dget dh_236 (k := 5) rfl
theorem dX1_copyFrom_74 : decode cX1_copyFrom 74 = .ok (.aload_n 0, 1) := dget dh_236 (k := 6) rfl
theorem dX1_copyFrom_75 : decode cX1_copyFrom 75 = .ok (.getfield 28, 3) := dget dh_236 (k := 7) rfl
theorem dX1_copyFrom_78 : decode cX1_copyFrom 78 = .ok (.iload_n 2, 1) := dget dh_236 (k := 8) rfl
theorem dX1_copyFrom_79 : decode cX1_copyFrom 79 = .ok (.aload_n 1, 1) := dget dh_236 (k := 9) rfl
theorem dX1_copyFrom_80 : decode cX1_copyFrom 80 = .ok (.getfield 28, 3) := dget dh_236 (k := 10) rfl
theorem dX1_copyFrom_83 : decode cX1_copyFrom 83 = .ok (.iload_n 2, 1) := dget dh_236 (k := 11) rfl
theorem dX1_copyFrom_84 : decode cX1_copyFrom 84 = .ok (.iaload, 1) := dget dh_236 (k := 12) rfl
theorem dX1_copyFrom_85 : decode cX1_copyFrom 85 = .ok (.iastore, 1) := dget dh_236 (k := 13) rfl
theorem dX1_copyFrom_86 : decode cX1_copyFrom 86 = .ok (.aload_n 0, 1) := dget dh_236 (k := 14) rfl
theorem dX1_copyFrom_87 : decode cX1_copyFrom 87 = .ok (.getfield 31, 3) := dget dh_236 (k := 15) rfl
theorem dX1_copyFrom_90 : decode cX1_copyFrom 90 = .ok (.iload_n 2, 1) := dget dh_236 (k := 16) rfl
theorem dX1_copyFrom_91 : decode cX1_copyFrom 91 = .ok (.aload_n 1, 1) := dget dh_236 (k := 17) rfl
theorem dX1_copyFrom_92 : decode cX1_copyFrom 92 = .ok (.getfield 31, 3) := dget dh_236 (k := 18) rfl
theorem dX1_copyFrom_95 : decode cX1_copyFrom 95 = .ok (.iload_n 2, 1) := dget dh_236 (k := 19) rfl
def dl_237 : List (Nat × (Instr × Nat)) := [(96, (.iaload, 1)), (97, (.iastore, 1)), (98, (.aload_n 0, 1)), (99, (.getfield 34, 3)), (102, (.iload_n 2, 1)), (103, (.aload_n 1, 1)), (104, (.getfield 34, 3)), (107, (.iload_n 2, 1)), (108, (.iaload, 1)), (109, (.iastore, 1)), (110, (.aload_n 0, 1)), (111, (.getfield 37, 3)), (114, (.iload_n 2, 1)), (115, (.aload_n 1, 1)), (116, (.getfield 37, 3)), (119, (.iload_n 2, 1)), (120, (.baload, 1)), (121, (.bastore, 1)), (122, (.iinc 2 1, 3)), (125, (.goto (-107), 3))]
theorem dh_237 : dchk cX1_copyFrom dl_237 = true := by decide +kernel
theorem dX1_copyFrom_96 : decode cX1_copyFrom 96 = .ok (.iaload, 1) := dget dh_237 (k := 0) rfl
theorem dX1_copyFrom_97 : decode cX1_copyFrom 97 = .ok (.iastore, 1) := dget dh_237 (k := 1) rfl
theorem dX1_copyFrom_98 : decode cX1_copyFrom 98 = .ok (.aload_n 0, 1) := dget dh_237 (k := 2) rfl
theorem dX1_copyFrom_99 : decode cX1_copyFrom 99 = .ok (.getfield 34, 3) := dget dh_237 (k := 3) rfl
theorem dX1_copyFrom_102 : decode cX1_copyFrom 102 = .ok (.iload_n 2, 1) := dget dh_237 (k := 4) rfl
theorem dX1_copyFrom_103 : decode cX1_copyFrom 103 = .ok (.aload_n 1, 1) := dget dh_237 (k := 5) rfl
theorem dX1_copyFrom_104 : decode cX1_copyFrom 104 = .ok (.getfield 34, 3) := dget dh_237 (k := 6) rfl
theorem dX1_copyFrom_107 : decode cX1_copyFrom 107 = .ok (.iload_n 2, 1) := dget dh_237 (k := 7) rfl
theorem dX1_copyFrom_108 : decode cX1_copyFrom 108 = .ok (.iaload, 1) := dget dh_237 (k := 8) rfl
theorem dX1_copyFrom_109 : decode cX1_copyFrom 109 = .ok (.iastore, 1) := dget dh_237 (k := 9) rfl
theorem dX1_copyFrom_110 : decode cX1_copyFrom 110 = .ok (.aload_n 0, 1) := dget dh_237 (k := 10) rfl
theorem dX1_copyFrom_111 : decode cX1_copyFrom 111 = .ok (.getfield 37, 3) := dget dh_237 (k := 11) rfl
theorem dX1_copyFrom_114 : decode cX1_copyFrom 114 = .ok (.iload_n 2, 1) := dget dh_237 (k := 12) rfl
theorem dX1_copyFrom_115 : decode cX1_copyFrom 115 = .ok (.aload_n 1, 1) := dget dh_237 (k := 13) rfl
theorem dX1_copyFrom_116 : decode cX1_copyFrom 116 = .ok (.getfield 37, 3) := dget dh_237 (k := 14) rfl
theorem dX1_copyFrom_119 : decode cX1_copyFrom 119 = .ok (.iload_n 2, 1) := dget dh_237 (k := 15) rfl
theorem dX1_copyFrom_120 : decode cX1_copyFrom 120 = .ok (.baload, 1) := dget dh_237 (k := 16) rfl
theorem dX1_copyFrom_121 : decode cX1_copyFrom 121 = .ok (.bastore, 1) := dget dh_237 (k := 17) rfl
theorem dX1_copyFrom_122 : decode cX1_copyFrom 122 = .ok (.iinc 2 1, 3) := dget dh_237 (k := 18) rfl
theorem dX1_copyFrom_125 : decode cX1_copyFrom 125 = .ok (.goto (-107), 3) := dget dh_237 (k := 19) rfl
def dl_238 : List (Nat × (Instr × Nat)) := [(128, (.iconst 0, 1)), (129, (.istore_n 2, 1)), (130, (.iload_n 2, 1)), (131, (.bipush 6, 2)), (133, (.if_icmp .ge 33, 3)), (136, (.aload_n 0, 1)), (137, (.getfield 41, 3)), (140, (.iload_n 2, 1)), (141, (.aload_n 1, 1)), (142, (.getfield 41, 3)), (145, (.iload_n 2, 1)), (146, (.iaload, 1)), (147, (.iastore, 1)), (148, (.aload_n 0, 1)), (149, (.getfield 44, 3)), (152, (.iload_n 2, 1)), (153, (.aload_n 1, 1)), (154, (.getfield 44, 3)), (157, (.iload_n 2, 1)), (158, (.iaload, 1))]
theorem dh_238 : dchk cX1_copyFrom dl_238 = true := by decide +kernel
theorem dX1_copyFrom_128 : decode cX1_copyFrom 128 = .ok (.iconst 0, 1) := dget dh_238 (k := 0) rfl
theorem dX1_copyFrom_129 : decode cX1_copyFrom 129 = .ok (.istore_n 2, 1) := dget dh_238 (k := 1) rfl
theorem dX1_copyFrom_130 : decode cX1_copyFrom 130 = .ok (.iload_n 2, 1) := dget dh_238 (k := 2) rfl
theorem dX1_copyFrom_131 : decode cX1_copyFrom 131 = .ok (.bipush 6, 2) := dget dh_238 (k := 3) rfl
theorem dX1_copyFrom_133 : decode cX1_copyFrom 133 = .ok (.if_icmp .ge 33, 3) := dget dh_238 (k := 4) rfl
theorem dX1_copyFrom_136 : decode cX1_copyFrom 136 = .ok (.aload_n 0, 1) := dget dh_238 (k := 5) rfl
theorem dX1_copyFrom_137 : decode cX1_copyFrom 137 = .ok (.getfield 41, 3) := dget dh_238 (k := 6) rfl
theorem dX1_copyFrom_140 : decode cX1_copyFrom 140 = .ok (.iload_n 2, 1) := dget dh_238 (k := 7) rfl
theorem dX1_copyFrom_141 : decode cX1_copyFrom 141 = .ok (.aload_n 1, 1) := dget dh_238 (k := 8) rfl
theorem dX1_copyFrom_142 : decode cX1_copyFrom 142 = .ok (.getfield 41, 3) := dget dh_238 (k := 9) rfl
theorem dX1_copyFrom_145 : decode cX1_copyFrom 145 = .ok (.iload_n 2, 1) := dget dh_238 (k := 10) rfl
theorem dX1_copyFrom_146 : decode cX1_copyFrom 146 = .ok (.iaload, 1) := dget dh_238 (k := 11) rfl
theorem dX1_copyFrom_147 : decode cX1_copyFrom 147 = .ok (.iastore, 1) := dget dh_238 (k := 12) rfl
theorem dX1_copyFrom_148 : decode cX1_copyFrom 148 = .ok (.aload_n 0, 1) := dget dh_238 (k := 13) rfl
theorem dX1_copyFrom_149 : decode cX1_copyFrom 149 = .ok (.getfield 44, 3) := dget dh_238 (k := 14) rfl
theorem dX1_copyFrom_152 : decode cX1_copyFrom 152 = .ok (.iload_n 2, 1) := dget dh_238 (k := 15) rfl
theorem dX1_copyFrom_153 : decode cX1_copyFrom 153 = .ok (.aload_n 1, 1) := dget dh_238 (k := 16) rfl
theorem dX1_copyFrom_154 : decode cX1_copyFrom 154 = .ok (.getfield 44, 3) := dget dh_238 (k := 17) rfl
theorem dX1_copyFrom_157 : decode cX1_copyFrom 157 = .ok (.iload_n 2, 1) := dget dh_238 (k := 18) rfl
theorem dX1_copyFrom_158 : decode cX1_copyFrom 158 = .ok (.iaload, 1) := dget dh_238 (k := 19) rfl
def dl_239 : List (Nat × (Instr × Nat)) := [(159, (.iastore, 1)), (160, (.iinc 2 1, 3)), (163, (.goto (-33), 3)), (166, (.return_, 1))]
theorem dh_239 : dchk cX1_copyFrom dl_239 = true := by decide +kernel
theorem dX1_copyFrom_159 : decode cX1_copyFrom 159 = .ok (.iastore, 1) := dget dh_239 (k := 0) rfl
theorem dX1_copyFrom_160 : decode cX1_copyFrom 160 = .ok (.iinc 2 1, 3) := dget dh_239 (k := 1) rfl
theorem dX1_copyFrom_163 : decode cX1_copyFrom 163 = .ok (.goto (-33), 3) := dget dh_239 (k := 2) rfl
theorem dX1_copyFrom_166 : decode cX1_copyFrom 166 = .ok (.return_, 1) := dget dh_239 (k := 3) rfl
def dl_240 : List (Nat × (Instr × Nat)) := [(0, (.aload_n 0, 1)), (1, (.getfield 41, 3)), (4, (.iload_n 1, 1)), (5, (.iconst (-1), 1)), (6, (.iastore, 1)), (7, (.aload_n 0, 1)), (8, (.getfield 44, 3)), (11, (.iload_n 1, 1)), (12, (.iconst (-1), 1)), (13, (.iastore, 1)), (14, (.return_, 1))]
theorem dh_240 : dchk cX1_dropOffers dl_240 = true := by decide +kernel
theorem dX1_dropOffers_0 : decode cX1_dropOffers 0 = .ok (.aload_n 0, 1) := dget dh_240 (k := 0) rfl
theorem dX1_dropOffers_1 : decode cX1_dropOffers 1 = .ok (.getfield 41, 3) := dget dh_240 (k := 1) rfl
theorem dX1_dropOffers_4 : decode cX1_dropOffers 4 = .ok (.iload_n 1, 1) := dget dh_240 (k := 2) rfl
theorem dX1_dropOffers_5 : decode cX1_dropOffers 5 = .ok (.iconst (-1), 1) := dget dh_240 (k := 3) rfl
theorem dX1_dropOffers_6 : decode cX1_dropOffers 6 = .ok (.iastore, 1) := dget dh_240 (k := 4) rfl
theorem dX1_dropOffers_7 : decode cX1_dropOffers 7 = .ok (.aload_n 0, 1) := dget dh_240 (k := 5) rfl
theorem dX1_dropOffers_8 : decode cX1_dropOffers 8 = .ok (.getfield 44, 3) := dget dh_240 (k := 6) rfl
theorem dX1_dropOffers_11 : decode cX1_dropOffers 11 = .ok (.iload_n 1, 1) := dget dh_240 (k := 7) rfl
theorem dX1_dropOffers_12 : decode cX1_dropOffers 12 = .ok (.iconst (-1), 1) := dget dh_240 (k := 8) rfl
theorem dX1_dropOffers_13 : decode cX1_dropOffers 13 = .ok (.iastore, 1) := dget dh_240 (k := 9) rfl
theorem dX1_dropOffers_14 : decode cX1_dropOffers 14 = .ok (.return_, 1) := dget dh_240 (k := 10) rfl
def dl_241 : List (Nat × (Instr × Nat)) := [(0, (.aload_n 0, 1)), (1, (.getfield 41, 3)), (4, (.iload_n 1, 1)), (5, (.iaload, 1)), (6, (.iconst (-1), 1)), (7, (.if_icmp .eq 17, 3)), (10, (.aload_n 0, 1)), (11, (.getfield 44, 3)), (14, (.iload_n 1, 1)), (15, (.iaload, 1)), (16, (.iconst (-1), 1)), (17, (.if_icmp .eq 7, 3)), (20, (.iconst 1, 1)), (21, (.goto 4, 3)), (24, (.iconst 0, 1)), (25, (.ireturn, 1))]
theorem dh_241 : dchk cX1_hasBothOffers dl_241 = true := by decide +kernel
theorem dX1_hasBothOffers_0 : decode cX1_hasBothOffers 0 = .ok (.aload_n 0, 1) := dget dh_241 (k := 0) rfl
theorem dX1_hasBothOffers_1 : decode cX1_hasBothOffers 1 = .ok (.getfield 41, 3) := dget dh_241 (k := 1) rfl
theorem dX1_hasBothOffers_4 : decode cX1_hasBothOffers 4 = .ok (.iload_n 1, 1) := dget dh_241 (k := 2) rfl
theorem dX1_hasBothOffers_5 : decode cX1_hasBothOffers 5 = .ok (.iaload, 1) := dget dh_241 (k := 3) rfl
theorem dX1_hasBothOffers_6 : decode cX1_hasBothOffers 6 = .ok (.iconst (-1), 1) := dget dh_241 (k := 4) rfl
theorem dX1_hasBothOffers_7 : decode cX1_hasBothOffers 7 = .ok (.if_icmp .eq 17, 3) := dget dh_241 (k := 5) rfl
theorem dX1_hasBothOffers_10 : decode cX1_hasBothOffers 10 = .ok (.aload_n 0, 1) := dget dh_241 (k := 6) rfl
theorem dX1_hasBothOffers_11 : decode cX1_hasBothOffers 11 = .ok (.getfield 44, 3) := dget dh_241 (k := 7) rfl
theorem dX1_hasBothOffers_14 : decode cX1_hasBothOffers 14 = .ok (.iload_n 1, 1) := dget dh_241 (k := 8) rfl
theorem dX1_hasBothOffers_15 : decode cX1_hasBothOffers 15 = .ok (.iaload, 1) := dget dh_241 (k := 9) rfl
theorem dX1_hasBothOffers_16 : decode cX1_hasBothOffers 16 = .ok (.iconst (-1), 1) := dget dh_241 (k := 10) rfl
theorem dX1_hasBothOffers_17 : decode cX1_hasBothOffers 17 = .ok (.if_icmp .eq 7, 3) := dget dh_241 (k := 11) rfl
theorem dX1_hasBothOffers_20 : decode cX1_hasBothOffers 20 = .ok (.iconst 1, 1) := dget dh_241 (k := 12) rfl
theorem dX1_hasBothOffers_21 : decode cX1_hasBothOffers 21 = .ok (.goto 4, 3) := dget dh_241 (k := 13) rfl
theorem dX1_hasBothOffers_24 : decode cX1_hasBothOffers 24 = .ok (.iconst 0, 1) := dget dh_241 (k := 14) rfl
theorem dX1_hasBothOffers_25 : decode cX1_hasBothOffers 25 = .ok (.ireturn, 1) := dget dh_241 (k := 15) rfl
def dl_242 : List (Nat × (Instr × Nat)) := [(0, (.aload_n 0, 1)), (1, (.getfield 34, 3)), (4, (.iload_n 1, 1)), (5, (.iaload, 1)), (6, (.iconst (-1), 1)), (7, (.if_icmp .eq 17, 3)), (10, (.aload_n 0, 1)), (11, (.getfield 34, 3)), (14, (.iload_n 1, 1)), (15, (.iaload, 1)), (16, (.iload_n 2, 1)), (17, (.if_icmp .gt 7, 3)), (20, (.iconst 1, 1)), (21, (.goto 4, 3)), (24, (.iconst 0, 1)), (25, (.ireturn, 1))]
theorem dh_242 : dchk cX1_isAnsweredBy dl_242 = true := by decide +kernel
theorem dX1_isAnsweredBy_0 : decode cX1_isAnsweredBy 0 = .ok (.aload_n 0, 1) := dget dh_242 (k := 0) rfl
theorem dX1_isAnsweredBy_1 : decode cX1_isAnsweredBy 1 = .ok (.getfield 34, 3) := dget dh_242 (k := 1) rfl
theorem dX1_isAnsweredBy_4 : decode cX1_isAnsweredBy 4 = .ok (.iload_n 1, 1) := dget dh_242 (k := 2) rfl
theorem dX1_isAnsweredBy_5 : decode cX1_isAnsweredBy 5 = .ok (.iaload, 1) := dget dh_242 (k := 3) rfl
theorem dX1_isAnsweredBy_6 : decode cX1_isAnsweredBy 6 = .ok (.iconst (-1), 1) := dget dh_242 (k := 4) rfl
theorem dX1_isAnsweredBy_7 : decode cX1_isAnsweredBy 7 = .ok (.if_icmp .eq 17, 3) := dget dh_242 (k := 5) rfl
theorem dX1_isAnsweredBy_10 : decode cX1_isAnsweredBy 10 = .ok (.aload_n 0, 1) := dget dh_242 (k := 6) rfl
theorem dX1_isAnsweredBy_11 : decode cX1_isAnsweredBy 11 = .ok (.getfield 34, 3) := dget dh_242 (k := 7) rfl
theorem dX1_isAnsweredBy_14 : decode cX1_isAnsweredBy 14 = .ok (.iload_n 1, 1) := dget dh_242 (k := 8) rfl
theorem dX1_isAnsweredBy_15 : decode cX1_isAnsweredBy 15 = .ok (.iaload, 1) := dget dh_242 (k := 9) rfl
theorem dX1_isAnsweredBy_16 : decode cX1_isAnsweredBy 16 = .ok (.iload_n 2, 1) := dget dh_242 (k := 10) rfl
theorem dX1_isAnsweredBy_17 : decode cX1_isAnsweredBy 17 = .ok (.if_icmp .gt 7, 3) := dget dh_242 (k := 11) rfl
theorem dX1_isAnsweredBy_20 : decode cX1_isAnsweredBy 20 = .ok (.iconst 1, 1) := dget dh_242 (k := 12) rfl
theorem dX1_isAnsweredBy_21 : decode cX1_isAnsweredBy 21 = .ok (.goto 4, 3) := dget dh_242 (k := 13) rfl
theorem dX1_isAnsweredBy_24 : decode cX1_isAnsweredBy 24 = .ok (.iconst 0, 1) := dget dh_242 (k := 14) rfl
theorem dX1_isAnsweredBy_25 : decode cX1_isAnsweredBy 25 = .ok (.ireturn, 1) := dget dh_242 (k := 15) rfl
def dl_243 : List (Nat × (Instr × Nat)) := [(0, (.iconst 0, 1)), (1, (.istore_n 3, 1)), (2, (.iload_n 3, 1)), (3, (.aload_n 0, 1)), (4, (.getfield 9, 3)), (7, (.if_icmp .ge 31, 3)), (10, (.aload_n 0, 1)), (11, (.getfield 15, 3)), (14, (.iload_n 3, 1)), (15, (.iaload, 1)), (16, (.iload_n 1, 1)), (17, (.if_icmp .ne 15, 3)), (20, (.aload_n 0, 1)), (21, (.getfield 19, 3)), (24, (.iload_n 3, 1)), (25, (.iaload, 1)), (26, (.iload_n 2, 1)), (27, (.if_icmp .ne 5, 3)), (30, (.iconst 1, 1)), (31, (.ireturn, 1))]
theorem dh_243 : dchk cX1_isClaimed dl_243 = true := by decide +kernel
theorem dX1_isClaimed_0 : decode cX1_isClaimed 0 = .ok (.iconst 0, 1) := dget dh_243 (k := 0) rfl
theorem dX1_isClaimed_1 : decode cX1_isClaimed 1 = .ok (.istore_n 3, 1) := dget dh_243 (k := 1) rfl
theorem dX1_isClaimed_2 : decode cX1_isClaimed 2 = .ok (.iload_n 3, 1) := dget dh_243 (k := 2) rfl
theorem dX1_isClaimed_3 : decode cX1_isClaimed 3 = .ok (.aload_n 0, 1) := dget dh_243 (k := 3) rfl
theorem dX1_isClaimed_4 : decode cX1_isClaimed 4 = .ok (.getfield 9, 3) := dget dh_243 (k := 4) rfl
theorem dX1_isClaimed_7 : decode cX1_isClaimed 7 = .ok (.if_icmp .ge 31, 3) := dget dh_243 (k := 5) rfl
theorem dX1_isClaimed_10 : decode cX1_isClaimed 10 = .ok (.aload_n 0, 1) := dget dh_243 (k := 6) rfl
theorem dX1_isClaimed_11 : decode cX1_isClaimed 11 = .ok (.getfield 15, 3) := dget dh_243 (k := 7) rfl
theorem dX1_isClaimed_14 : decode cX1_isClaimed 14 = .ok (.iload_n 3, 1) := dget dh_243 (k := 8) rfl
theorem dX1_isClaimed_15 : decode cX1_isClaimed 15 = .ok (.iaload, 1) := dget dh_243 (k := 9) rfl
theorem dX1_isClaimed_16 : decode cX1_isClaimed 16 = .ok (.iload_n 1, 1) := dget dh_243 (k := 10) rfl
theorem dX1_isClaimed_17 : decode cX1_isClaimed 17 = .ok (.if_icmp .ne 15, 3) := dget dh_243 (k := 11) rfl
theorem dX1_isClaimed_20 : decode cX1_isClaimed 20 = .ok (.aload_n 0, 1) := dget dh_243 (k := 12) rfl
theorem dX1_isClaimed_21 : decode cX1_isClaimed 21 = .ok (.getfield 19, 3) := dget dh_243 (k := 13) rfl
theorem dX1_isClaimed_24 : decode cX1_isClaimed 24 = .ok (.iload_n 3, 1) := dget dh_243 (k := 14) rfl
theorem dX1_isClaimed_25 : decode cX1_isClaimed 25 = .ok (.iaload, 1) := dget dh_243 (k := 15) rfl
theorem dX1_isClaimed_26 : decode cX1_isClaimed 26 = .ok (.iload_n 2, 1) := dget dh_243 (k := 16) rfl
theorem dX1_isClaimed_27 : decode cX1_isClaimed 27 = .ok (.if_icmp .ne 5, 3) := dget dh_243 (k := 17) rfl
theorem dX1_isClaimed_30 : decode cX1_isClaimed 30 = .ok (.iconst 1, 1) := dget dh_243 (k := 18) rfl
theorem dX1_isClaimed_31 : decode cX1_isClaimed 31 = .ok (.ireturn, 1) := dget dh_243 (k := 19) rfl
def dl_244 : List (Nat × (Instr × Nat)) := [(32, (.iinc 3 1, 3)), (35, (.goto (-33), 3)), (38, (.iconst 0, 1)), (39, (.ireturn, 1))]
theorem dh_244 : dchk cX1_isClaimed dl_244 = true := by decide +kernel
theorem dX1_isClaimed_32 : decode cX1_isClaimed 32 = .ok (.iinc 3 1, 3) := dget dh_244 (k := 0) rfl
theorem dX1_isClaimed_35 : decode cX1_isClaimed 35 = .ok (.goto (-33), 3) := dget dh_244 (k := 1) rfl
theorem dX1_isClaimed_38 : decode cX1_isClaimed 38 = .ok (.iconst 0, 1) := dget dh_244 (k := 2) rfl
theorem dX1_isClaimed_39 : decode cX1_isClaimed 39 = .ok (.ireturn, 1) := dget dh_244 (k := 3) rfl
def dl_245 : List (Nat × (Instr × Nat)) := [(0, (.aload_n 0, 1)), (1, (.getfield 15, 3)), (4, (.iload_n 1, 1)), (5, (.dup2, 1)), (6, (.iaload, 1)), (7, (.iconst 1, 1)), (8, (.iadd, 1)), (9, (.iastore, 1)), (10, (.aload_n 0, 1)), (11, (.getfield 19, 3)), (14, (.iload_n 1, 1)), (15, (.dup2, 1)), (16, (.iaload, 1)), (17, (.iload_n 2, 1)), (18, (.invokestatic 25, 3)), (21, (.iadd, 1)), (22, (.iastore, 1)), (23, (.aload_n 0, 1)), (24, (.getfield 22, 3)), (27, (.iload_n 1, 1))]
theorem dh_245 : dchk cX2_add dl_245 = true := by decide +kernel
theorem dX2_add_0 : decode cX2_add 0 = .ok (.aload_n 0, 1) := dget dh_245 (k := 0) rfl
theorem dX2_add_1 : decode cX2_add 1 = .ok (.getfield 15, 3) := dget dh_245 (k := 1) rfl
theorem dX2_add_4 : decode cX2_add 4 = .ok (.iload_n 1, 1) := dget dh_245 (k := 2) rfl
theorem dX2_add_5 : decode cX2_add 5 = .ok (.dup2, 1) := dget dh_245 (k := 3) rfl
theorem dX2_add_6 : decode cX2_add 6 = .ok (.iaload, 1) := dget dh_245 (k := 4) rfl
theorem dX2_add_7 : decode cX2_add 7 = .ok (.iconst 1, 1) := dget dh_245 (k := 5) rfl
theorem dX2_add_8 : decode cX2_add 8 = .ok (.iadd, 1) := dget dh_245 (k := 6) rfl
theorem dX2_add_9 : decode cX2_add 9 = .ok (.iastore, 1) := dget dh_245 (k := 7) rfl
theorem dX2_add_10 : decode cX2_add 10 = .ok (.aload_n 0, 1) := dget dh_245 (k := 8) rfl
theorem dX2_add_11 : decode cX2_add 11 = .ok (.getfield 19, 3) := dget dh_245 (k := 9) rfl
theorem dX2_add_14 : decode cX2_add 14 = .ok (.iload_n 1, 1) := dget dh_245 (k := 10) rfl
theorem dX2_add_15 : decode cX2_add 15 = .ok (.dup2, 1) := dget dh_245 (k := 11) rfl
theorem dX2_add_16 : decode cX2_add 16 = .ok (.iaload, 1) := dget dh_245 (k := 12) rfl
theorem dX2_add_17 : decode cX2_add 17 = .ok (.iload_n 2, 1) := dget dh_245 (k := 13) rfl
theorem dX2_add_18 : decode cX2_add 18 = .ok (.invokestatic 25, 3) := dget dh_245 (k := 14) rfl
theorem dX2_add_21 : decode cX2_add 21 = .ok (.iadd, 1) := dget dh_245 (k := 15) rfl
theorem dX2_add_22 : decode cX2_add 22 = .ok (.iastore, 1) := dget dh_245 (k := 16) rfl
theorem dX2_add_23 : decode cX2_add 23 = .ok (.aload_n 0, 1) := dget dh_245 (k := 17) rfl
theorem dX2_add_24 : decode cX2_add 24 = .ok (.getfield 22, 3) := dget dh_245 (k := 18) rfl
theorem dX2_add_27 : decode cX2_add 27 = .ok (.iload_n 1, 1) := dget dh_245 (k := 19) rfl
def dl_246 : List (Nat × (Instr × Nat)) := [(28, (.dup2, 1)), (29, (.iaload, 1)), (30, (.iload_n 2, 1)), (31, (.iadd, 1)), (32, (.iastore, 1)), (33, (.return_, 1))]
theorem dh_246 : dchk cX2_add dl_246 = true := by decide +kernel
theorem dX2_add_28 : decode cX2_add 28 = .ok (.dup2, 1) := dget dh_246 (k := 0) rfl
theorem dX2_add_29 : decode cX2_add 29 = .ok (.iaload, 1) := dget dh_246 (k := 1) rfl
theorem dX2_add_30 : decode cX2_add 30 = .ok (.iload_n 2, 1) := dget dh_246 (k := 2) rfl
theorem dX2_add_31 : decode cX2_add 31 = .ok (.iadd, 1) := dget dh_246 (k := 3) rfl
theorem dX2_add_32 : decode cX2_add 32 = .ok (.iastore, 1) := dget dh_246 (k := 4) rfl
theorem dX2_add_33 : decode cX2_add 33 = .ok (.return_, 1) := dget dh_246 (k := 5) rfl
def dl_247 : List (Nat × (Instr × Nat)) := [(0, (.iconst 0, 1)), (1, (.istore 5, 2)), (3, (.iload 5, 2)), (5, (.aload_n 0, 1)), (6, (.getfield 9, 3)), (9, (.if_icmp .ge 71, 3)), (12, (.aload_n 0, 1)), (13, (.getfield 18, 3)), (16, (.iload 5, 2)), (18, (.iaload, 1)), (19, (.iload_n 1, 1)), (20, (.if_icmp .ne 54, 3)), (23, (.aload_n 0, 1)), (24, (.aload_n 0, 1)), (25, (.getfield 25, 3)), (28, (.iload 5, 2)), (30, (.iaload, 1)), (31, (.aload_n 0, 1)), (32, (.getfield 28, 3)), (35, (.iload 5, 2))]
theorem dh_247 : dchk cX5_amount dl_247 = true := by decide +kernel
theorem dX5_amount_0 : decode cX5_amount 0 = .ok (.iconst 0, 1) := dget dh_247 (k := 0) rfl
theorem dX5_amount_1 : decode cX5_amount 1 = .ok (.istore 5, 2) := dget dh_247 (k := 1) rfl
theorem dX5_amount_3 : decode cX5_amount 3 = .ok (.iload 5, 2) := dget dh_247 (k := 2) rfl
theorem dX5_amount_5 : decode cX5_amount 5 = .ok (.aload_n 0, 1) := dget dh_247 (k := 3) rfl
theorem dX5_amount_6 : decode cX5_amount 6 = .ok (.getfield 9, 3) := dget dh_247 (k := 4) rfl
theorem dX5_amount_9 : decode cX5_amount 9 = .ok (.if_icmp .ge 71, 3) := dget dh_247 (k := 5) rfl
theorem dX5_amount_12 : decode cX5_amount 12 = .ok (.aload_n 0, 1) := dget dh_247 (k := 6) rfl
theorem dX5_amount_13 : decode cX5_amount 13 = .ok (.getfield 18, 3) := dget dh_247 (k := 7) rfl
theorem dX5_amount_16 : decode cX5_amount 16 = .ok (.iload 5, 2) := dget dh_247 (k := 8) rfl
theorem dX5_amount_18 : decode cX5_amount 18 = .ok (.iaload, 1) := dget dh_247 (k := 9) rfl
theorem dX5_amount_19 : decode cX5_amount 19 = .ok (.iload_n 1, 1) := dget dh_247 (k := 10) rfl
theorem dX5_amount_20 : decode cX5_amount 20 = .ok (.if_icmp .ne 54, 3) := dget dh_247 (k := 11) rfl
theorem dX5_amount_23 : decode cX5_amount 23 = .ok (.aload_n 0, 1) := dget dh_247 (k := 12) rfl
theorem dX5_amount_24 : decode cX5_amount 24 = .ok (.aload_n 0, 1) := dget dh_247 (k := 13) rfl
theorem dX5_amount_25 : decode cX5_amount 25 = .ok (.getfield 25, 3) := dget dh_247 (k := 14) rfl
theorem dX5_amount_28 : decode cX5_amount 28 = .ok (.iload 5, 2) := dget dh_247 (k := 15) rfl
theorem dX5_amount_30 : decode cX5_amount 30 = .ok (.iaload, 1) := dget dh_247 (k := 16) rfl
theorem dX5_amount_31 : decode cX5_amount 31 = .ok (.aload_n 0, 1) := dget dh_247 (k := 17) rfl
theorem dX5_amount_32 : decode cX5_amount 32 = .ok (.getfield 28, 3) := dget dh_247 (k := 18) rfl
theorem dX5_amount_35 : decode cX5_amount 35 = .ok (.iload 5, 2) := dget dh_247 (k := 19) rfl
def dl_248 : List (Nat × (Instr × Nat)) := [(37, (.iaload, 1)), (38, (.aload_n 2, 1)), (39, (.invokevirtual 44, 3)), (42, (.ifCond .eq 32, 3)), (45, (.iconst 0, 1)), (46, (.iload 4, 2)), (48, (.aload_n 0, 1)), (49, (.aload_n 0, 1)), (50, (.getfield 22, 3)), (53, (.iload 5, 2)), (55, (.iaload, 1)), (56, (.aload_n 0, 1)), (57, (.getfield 25, 3)), (60, (.iload 5, 2)), (62, (.iaload, 1)), (63, (.aload_n 2, 1)), (64, (.invokevirtual 44, 3)), (67, (.invokestatic 48, 3)), (70, (.invokestatic 54, 3)), (73, (.ireturn, 1))]
theorem dh_248 : dchk cX5_amount dl_248 = true := by decide +kernel
theorem dX5_amount_37 : decode cX5_amount 37 = .ok (.iaload, 1) := dget dh_248 (k := 0) rfl
theorem dX5_amount_38 : decode cX5_amount 38 = .ok (.aload_n 2, 1) := dget dh_248 (k := 1) rfl
theorem dX5_amount_39 : decode cX5_amount 39 = .ok (.invokevirtual 44, 3) := dget dh_248 (k := 2) rfl
theorem dX5_amount_42 : decode cX5_amount 42 = .ok (.ifCond .eq 32, 3) := dget dh_248 (k := 3) rfl
theorem dX5_amount_45 : decode cX5_amount 45 = .ok (.iconst 0, 1) := dget dh_248 (k := 4) rfl
theorem dX5_amount_46 : decode cX5_amount 46 = .ok (.iload 4, 2) := dget dh_248 (k := 5) rfl
theorem dX5_amount_48 : decode cX5_amount 48 = .ok (.aload_n 0, 1) := dget dh_248 (k := 6) rfl
theorem dX5_amount_49 : decode cX5_amount 49 = .ok (.aload_n 0, 1) := dget dh_248 (k := 7) rfl
theorem dX5_amount_50 : decode cX5_amount 50 = .ok (.getfield 22, 3) := dget dh_248 (k := 8) rfl
theorem dX5_amount_53 : decode cX5_amount 53 = .ok (.iload 5, 2) := dget dh_248 (k := 9) rfl
theorem dX5_amount_55 : decode cX5_amount 55 = .ok (.iaload, 1) := dget dh_248 (k := 10) rfl
theorem dX5_amount_56 : decode cX5_amount 56 = .ok (.aload_n 0, 1) := dget dh_248 (k := 11) rfl
theorem dX5_amount_57 : decode cX5_amount 57 = .ok (.getfield 25, 3) := dget dh_248 (k := 12) rfl
theorem dX5_amount_60 : decode cX5_amount 60 = .ok (.iload 5, 2) := dget dh_248 (k := 13) rfl
theorem dX5_amount_62 : decode cX5_amount 62 = .ok (.iaload, 1) := dget dh_248 (k := 14) rfl
theorem dX5_amount_63 : decode cX5_amount 63 = .ok (.aload_n 2, 1) := dget dh_248 (k := 15) rfl
theorem dX5_amount_64 : decode cX5_amount 64 = .ok (.invokevirtual 44, 3) := dget dh_248 (k := 16) rfl
theorem dX5_amount_67 : decode cX5_amount 67 = .ok (.invokestatic 48, 3) := dget dh_248 (k := 17) rfl
theorem dX5_amount_70 : decode cX5_amount 70 = .ok (.invokestatic 54, 3) := dget dh_248 (k := 18) rfl
theorem dX5_amount_73 : decode cX5_amount 73 = .ok (.ireturn, 1) := dget dh_248 (k := 19) rfl
def dl_249 : List (Nat × (Instr × Nat)) := [(74, (.iinc 5 1, 3)), (77, (.goto (-74), 3)), (80, (.iload_n 3, 1)), (81, (.ireturn, 1))]
theorem dh_249 : dchk cX5_amount dl_249 = true := by decide +kernel
theorem dX5_amount_74 : decode cX5_amount 74 = .ok (.iinc 5 1, 3) := dget dh_249 (k := 0) rfl
theorem dX5_amount_77 : decode cX5_amount 77 = .ok (.goto (-74), 3) := dget dh_249 (k := 1) rfl
theorem dX5_amount_80 : decode cX5_amount 80 = .ok (.iload_n 3, 1) := dget dh_249 (k := 2) rfl
theorem dX5_amount_81 : decode cX5_amount 81 = .ok (.ireturn, 1) := dget dh_249 (k := 3) rfl
def dl_250 : List (Nat × (Instr × Nat)) := [(0, (.iload_n 0, 1)), (1, (.lookupswitch 125 #[(37, 91), (42, 75), (43, 67), (45, 71), (47, 79), (60, 103), (62, 114)], 67)), (68, (.iload_n 1, 1)), (69, (.iload_n 2, 1)), (70, (.iadd, 1)), (71, (.ireturn, 1)), (72, (.iload_n 1, 1)), (73, (.iload_n 2, 1)), (74, (.isub, 1)), (75, (.ireturn, 1)), (76, (.iload_n 1, 1)), (77, (.iload_n 2, 1)), (78, (.imul, 1)), (79, (.ireturn, 1)), (80, (.iload_n 2, 1)), (81, (.ifCond .ne 7, 3)), (84, (.iconst 0, 1)), (85, (.goto 6, 3)), (88, (.iload_n 1, 1)), (89, (.iload_n 2, 1))]
theorem dh_250 : dchk cX5_combine dl_250 = true := by decide +kernel
theorem dX5_combine_0 : decode cX5_combine 0 = .ok (.iload_n 0, 1) := dget dh_250 (k := 0) rfl
theorem dX5_combine_1 : decode cX5_combine 1 = .ok (.lookupswitch 125 #[(37, 91), (42, 75), (43, 67), (45, 71), (47, 79), (60, 103), (62, 114)], 67) := dget dh_250 (k := 1) rfl
theorem dX5_combine_68 : decode cX5_combine 68 = .ok (.iload_n 1, 1) := dget dh_250 (k := 2) rfl
theorem dX5_combine_69 : decode cX5_combine 69 = .ok (.iload_n 2, 1) := dget dh_250 (k := 3) rfl
theorem dX5_combine_70 : decode cX5_combine 70 = .ok (.iadd, 1) := dget dh_250 (k := 4) rfl
theorem dX5_combine_71 : decode cX5_combine 71 = .ok (.ireturn, 1) := dget dh_250 (k := 5) rfl
theorem dX5_combine_72 : decode cX5_combine 72 = .ok (.iload_n 1, 1) := dget dh_250 (k := 6) rfl
theorem dX5_combine_73 : decode cX5_combine 73 = .ok (.iload_n 2, 1) := dget dh_250 (k := 7) rfl
theorem dX5_combine_74 : decode cX5_combine 74 = .ok (.isub, 1) := dget dh_250 (k := 8) rfl
theorem dX5_combine_75 : decode cX5_combine 75 = .ok (.ireturn, 1) := dget dh_250 (k := 9) rfl
theorem dX5_combine_76 : decode cX5_combine 76 = .ok (.iload_n 1, 1) := dget dh_250 (k := 10) rfl
theorem dX5_combine_77 : decode cX5_combine 77 = .ok (.iload_n 2, 1) := dget dh_250 (k := 11) rfl
theorem dX5_combine_78 : decode cX5_combine 78 = .ok (.imul, 1) := dget dh_250 (k := 12) rfl
theorem dX5_combine_79 : decode cX5_combine 79 = .ok (.ireturn, 1) := dget dh_250 (k := 13) rfl
theorem dX5_combine_80 : decode cX5_combine 80 = .ok (.iload_n 2, 1) := dget dh_250 (k := 14) rfl
theorem dX5_combine_81 : decode cX5_combine 81 = .ok (.ifCond .ne 7, 3) := dget dh_250 (k := 15) rfl
theorem dX5_combine_84 : decode cX5_combine 84 = .ok (.iconst 0, 1) := dget dh_250 (k := 16) rfl
theorem dX5_combine_85 : decode cX5_combine 85 = .ok (.goto 6, 3) := dget dh_250 (k := 17) rfl
theorem dX5_combine_88 : decode cX5_combine 88 = .ok (.iload_n 1, 1) := dget dh_250 (k := 18) rfl
theorem dX5_combine_89 : decode cX5_combine 89 = .ok (.iload_n 2, 1) := dget dh_250 (k := 19) rfl
def dl_251 : List (Nat × (Instr × Nat)) := [(90, (.idiv, 1)), (91, (.ireturn, 1)), (92, (.iload_n 2, 1)), (93, (.ifCond .ne 7, 3)), (96, (.iconst 0, 1)), (97, (.goto 6, 3)), (100, (.iload_n 1, 1)), (101, (.iload_n 2, 1)), (102, (.irem, 1)), (103, (.ireturn, 1)), (104, (.iload_n 1, 1)), (105, (.iload_n 2, 1)), (106, (.if_icmp .ge 7, 3)), (109, (.iconst 1, 1)), (110, (.goto 4, 3)), (113, (.iconst 0, 1)), (114, (.ireturn, 1)), (115, (.iload_n 1, 1)), (116, (.iload_n 2, 1)), (117, (.if_icmp .le 7, 3))]
theorem dh_251 : dchk cX5_combine dl_251 = true := by decide +kernel
theorem dX5_combine_90 : decode cX5_combine 90 = .ok (.idiv, 1) := dget dh_251 (k := 0) rfl
theorem dX5_combine_91 : decode cX5_combine 91 = .ok (.ireturn, 1) := dget dh_251 (k := 1) rfl
theorem dX5_combine_92 : decode cX5_combine 92 = .ok (.iload_n 2, 1) := dget dh_251 (k := 2) rfl
theorem dX5_combine_93 : decode cX5_combine 93 = .ok (.ifCond .ne 7, 3) := dget dh_251 (k := 3) rfl
theorem dX5_combine_96 : decode cX5_combine 96 = .ok (.iconst 0, 1) := dget dh_251 (k := 4) rfl
theorem dX5_combine_97 : decode cX5_combine 97 = .ok (.goto 6, 3) := dget dh_251 (k := 5) rfl
theorem dX5_combine_100 : decode cX5_combine 100 = .ok (.iload_n 1, 1) := dget dh_251 (k := 6) rfl
theorem dX5_combine_101 : decode cX5_combine 101 = .ok (.iload_n 2, 1) := dget dh_251 (k := 7) rfl
theorem dX5_combine_102 : decode cX5_combine 102 = .ok (.irem, 1) := dget dh_251 (k := 8) rfl
theorem dX5_combine_103 : decode cX5_combine 103 = .ok (.ireturn, 1) := dget dh_251 (k := 9) rfl
theorem dX5_combine_104 : decode cX5_combine 104 = .ok (.iload_n 1, 1) := dget dh_251 (k := 10) rfl
theorem dX5_combine_105 : decode cX5_combine 105 = .ok (.iload_n 2, 1) := dget dh_251 (k := 11) rfl
theorem dX5_combine_106 : decode cX5_combine 106 = .ok (.if_icmp .ge 7, 3) := dget dh_251 (k := 12) rfl
theorem dX5_combine_109 : decode cX5_combine 109 = .ok (.iconst 1, 1) := dget dh_251 (k := 13) rfl
theorem dX5_combine_110 : decode cX5_combine 110 = .ok (.goto 4, 3) := dget dh_251 (k := 14) rfl
theorem dX5_combine_113 : decode cX5_combine 113 = .ok (.iconst 0, 1) := dget dh_251 (k := 15) rfl
theorem dX5_combine_114 : decode cX5_combine 114 = .ok (.ireturn, 1) := dget dh_251 (k := 16) rfl
theorem dX5_combine_115 : decode cX5_combine 115 = .ok (.iload_n 1, 1) := dget dh_251 (k := 17) rfl
theorem dX5_combine_116 : decode cX5_combine 116 = .ok (.iload_n 2, 1) := dget dh_251 (k := 18) rfl
theorem dX5_combine_117 : decode cX5_combine 117 = .ok (.if_icmp .le 7, 3) := dget dh_251 (k := 19) rfl
def dl_252 : List (Nat × (Instr × Nat)) := [(120, (.iconst 1, 1)), (121, (.goto 4, 3)), (124, (.iconst 0, 1)), (125, (.ireturn, 1)), (126, (.iload_n 1, 1)), (127, (.iload_n 2, 1)), (128, (.if_icmp .ne 7, 3)), (131, (.iconst 1, 1)), (132, (.goto 4, 3)), (135, (.iconst 0, 1)), (136, (.ireturn, 1))]
theorem dh_252 : dchk cX5_combine dl_252 = true := by decide +kernel
theorem dX5_combine_120 : decode cX5_combine 120 = .ok (.iconst 1, 1) := dget dh_252 (k := 0) rfl
theorem dX5_combine_121 : decode cX5_combine 121 = .ok (.goto 4, 3) := dget dh_252 (k := 1) rfl
theorem dX5_combine_124 : decode cX5_combine 124 = .ok (.iconst 0, 1) := dget dh_252 (k := 2) rfl
theorem dX5_combine_125 : decode cX5_combine 125 = .ok (.ireturn, 1) := dget dh_252 (k := 3) rfl
theorem dX5_combine_126 : decode cX5_combine 126 = .ok (.iload_n 1, 1) := dget dh_252 (k := 4) rfl
theorem dX5_combine_127 : decode cX5_combine 127 = .ok (.iload_n 2, 1) := dget dh_252 (k := 5) rfl
theorem dX5_combine_128 : decode cX5_combine 128 = .ok (.if_icmp .ne 7, 3) := dget dh_252 (k := 6) rfl
theorem dX5_combine_131 : decode cX5_combine 131 = .ok (.iconst 1, 1) := dget dh_252 (k := 7) rfl
theorem dX5_combine_132 : decode cX5_combine 132 = .ok (.goto 4, 3) := dget dh_252 (k := 8) rfl
theorem dX5_combine_135 : decode cX5_combine 135 = .ok (.iconst 0, 1) := dget dh_252 (k := 9) rfl
theorem dX5_combine_136 : decode cX5_combine 136 = .ok (.ireturn, 1) := dget dh_252 (k := 10) rfl
def dl_253 : List (Nat × (Instr × Nat)) := [(0, (.iconst 0, 1)), (1, (.istore 4, 2)), (3, (.iload_n 1, 1)), (4, (.istore 5, 2)), (6, (.iconst 0, 1)), (7, (.istore 6, 2)), (9, (.iload 6, 2)), (11, (.sipush 200, 3)), (14, (.if_icmp .ge 294, 3)), (17, (.iload 5, 2)), (19, (.iconst 0, 1)), (20, (.iload_n 2, 1)), (21, (.iconst 1, 1)), (22, (.isub, 1)), (23, (.invokestatic 57, 3)), (26, (.ifCond .eq 282, 3)), (29, (.iload_n 2, 1)), (30, (.sipush 200, 3)), (33, (.if_icmp .gt 275, 3)), (36, (.aload_n 0, 1))]
theorem dh_253 : dchk cX5_run dl_253 = true := by decide +kernel
theorem dX5_run_0 : decode cX5_run 0 = .ok (.iconst 0, 1) := dget dh_253 (k := 0) rfl
theorem dX5_run_1 : decode cX5_run 1 = .ok (.istore 4, 2) := dget dh_253 (k := 1) rfl
theorem dX5_run_3 : decode cX5_run 3 = .ok (.iload_n 1, 1) := dget dh_253 (k := 2) rfl
theorem dX5_run_4 : decode cX5_run 4 = .ok (.istore 5, 2) := dget dh_253 (k := 3) rfl
theorem dX5_run_6 : decode cX5_run 6 = .ok (.iconst 0, 1) := dget dh_253 (k := 4) rfl
theorem dX5_run_7 : decode cX5_run 7 = .ok (.istore 6, 2) := dget dh_253 (k := 5) rfl
theorem dX5_run_9 : decode cX5_run 9 = .ok (.iload 6, 2) := dget dh_253 (k := 6) rfl
theorem dX5_run_11 : decode cX5_run 11 = .ok (.sipush 200, 3) := dget dh_253 (k := 7) rfl
theorem dX5_run_14 : decode cX5_run 14 = .ok (.if_icmp .ge 294, 3) := dget dh_253 (k := 8) rfl
theorem dX5_run_17 : decode cX5_run 17 = .ok (.iload 5, 2) := dget dh_253 (k := 9) rfl
theorem dX5_run_19 : decode cX5_run 19 = .ok (.iconst 0, 1) := dget dh_253 (k := 10) rfl
theorem dX5_run_20 : decode cX5_run 20 = .ok (.iload_n 2, 1) := dget dh_253 (k := 11) rfl
theorem dX5_run_21 : decode cX5_run 21 = .ok (.iconst 1, 1) := dget dh_253 (k := 12) rfl
theorem dX5_run_22 : decode cX5_run 22 = .ok (.isub, 1) := dget dh_253 (k := 13) rfl
theorem dX5_run_23 : decode cX5_run 23 = .ok (.invokestatic 57, 3) := dget dh_253 (k := 14) rfl
theorem dX5_run_26 : decode cX5_run 26 = .ok (.ifCond .eq 282, 3) := dget dh_253 (k := 15) rfl
theorem dX5_run_29 : decode cX5_run 29 = .ok (.iload_n 2, 1) := dget dh_253 (k := 16) rfl
theorem dX5_run_30 : decode cX5_run 30 = .ok (.sipush 200, 3) := dget dh_253 (k := 17) rfl
theorem dX5_run_33 : decode cX5_run 33 = .ok (.if_icmp .gt 275, 3) := dget dh_253 (k := 18) rfl
theorem dX5_run_36 : decode cX5_run 36 = .ok (.aload_n 0, 1) := dget dh_253 (k := 19) rfl
def dl_254 : List (Nat × (Instr × Nat)) := [(37, (.getfield 31, 3)), (40, (.iload 5, 2)), (42, (.iaload, 1)), (43, (.istore 7, 2)), (45, (.aload_n 0, 1)), (46, (.getfield 34, 3)), (49, (.iload 5, 2)), (51, (.iaload, 1)), (52, (.istore 8, 2)), (54, (.iinc 5 1, 3)), (57, (.iload 7, 2)), (59, (.bipush 48, 2)), (61, (.if_icmp .eq 10, 3)), (64, (.iload 7, 2)), (66, (.bipush 107, 2)), (68, (.if_icmp .ne 60, 3)), (71, (.iload 4, 2)), (73, (.sipush 200, 3)), (76, (.if_icmp .ge 21, 3)), (79, (.iload 7, 2))]
theorem dh_254 : dchk cX5_run dl_254 = true := by decide +kernel
theorem dX5_run_37 : decode cX5_run 37 = .ok (.getfield 31, 3) := dget dh_254 (k := 0) rfl
theorem dX5_run_40 : decode cX5_run 40 = .ok (.iload 5, 2) := dget dh_254 (k := 1) rfl
theorem dX5_run_42 : decode cX5_run 42 = .ok (.iaload, 1) := dget dh_254 (k := 2) rfl
theorem dX5_run_43 : decode cX5_run 43 = .ok (.istore 7, 2) := dget dh_254 (k := 3) rfl
theorem dX5_run_45 : decode cX5_run 45 = .ok (.aload_n 0, 1) := dget dh_254 (k := 4) rfl
theorem dX5_run_46 : decode cX5_run 46 = .ok (.getfield 34, 3) := dget dh_254 (k := 5) rfl
theorem dX5_run_49 : decode cX5_run 49 = .ok (.iload 5, 2) := dget dh_254 (k := 6) rfl
theorem dX5_run_51 : decode cX5_run 51 = .ok (.iaload, 1) := dget dh_254 (k := 7) rfl
theorem dX5_run_52 : decode cX5_run 52 = .ok (.istore 8, 2) := dget dh_254 (k := 8) rfl
theorem dX5_run_54 : decode cX5_run 54 = .ok (.iinc 5 1, 3) := dget dh_254 (k := 9) rfl
theorem dX5_run_57 : decode cX5_run 57 = .ok (.iload 7, 2) := dget dh_254 (k := 10) rfl
theorem dX5_run_59 : decode cX5_run 59 = .ok (.bipush 48, 2) := dget dh_254 (k := 11) rfl
theorem dX5_run_61 : decode cX5_run 61 = .ok (.if_icmp .eq 10, 3) := dget dh_254 (k := 12) rfl
theorem dX5_run_64 : decode cX5_run 64 = .ok (.iload 7, 2) := dget dh_254 (k := 13) rfl
theorem dX5_run_66 : decode cX5_run 66 = .ok (.bipush 107, 2) := dget dh_254 (k := 14) rfl
theorem dX5_run_68 : decode cX5_run 68 = .ok (.if_icmp .ne 60, 3) := dget dh_254 (k := 15) rfl
theorem dX5_run_71 : decode cX5_run 71 = .ok (.iload 4, 2) := dget dh_254 (k := 16) rfl
theorem dX5_run_73 : decode cX5_run 73 = .ok (.sipush 200, 3) := dget dh_254 (k := 17) rfl
theorem dX5_run_76 : decode cX5_run 76 = .ok (.if_icmp .ge 21, 3) := dget dh_254 (k := 18) rfl
theorem dX5_run_79 : decode cX5_run 79 = .ok (.iload 7, 2) := dget dh_254 (k := 19) rfl
def dl_255 : List (Nat × (Instr × Nat)) := [(81, (.bipush 107, 2)), (83, (.if_icmp .ne 16, 3)), (86, (.iload 8, 2)), (88, (.iconst 0, 1)), (89, (.bipush 9, 2)), (91, (.invokestatic 57, 3)), (94, (.ifCond .ne 5, 3)), (97, (.iconst 0, 1)), (98, (.ireturn, 1)), (99, (.aload_n 0, 1)), (100, (.getfield 37, 3)), (103, (.iload 4, 2)), (105, (.iload 7, 2)), (107, (.bipush 48, 2)), (109, (.if_icmp .ne 8, 3)), (112, (.iload 8, 2)), (114, (.goto 7, 3)), (117, (.aload_n 3, 1)), (118, (.iload 8, 2)), (120, (.iaload, 1))]
theorem dh_255 : dchk cX5_run dl_255 = true := by decide +kernel
theorem dX5_run_81 : decode cX5_run 81 = .ok (.bipush 107, 2) := dget dh_255 (k := 0) rfl
theorem dX5_run_83 : decode cX5_run 83 = .ok (.if_icmp .ne 16, 3) := dget dh_255 (k := 1) rfl
theorem dX5_run_86 : decode cX5_run 86 = .ok (.iload 8, 2) := dget dh_255 (k := 2) rfl
theorem dX5_run_88 : decode cX5_run 88 = .ok (.iconst 0, 1) := dget dh_255 (k := 3) rfl
theorem dX5_run_89 : decode cX5_run 89 = .ok (.bipush 9, 2) := dget dh_255 (k := 4) rfl
theorem dX5_run_91 : decode cX5_run 91 = .ok (.invokestatic 57, 3) := dget dh_255 (k := 5) rfl
theorem dX5_run_94 : decode cX5_run 94 = .ok (.ifCond .ne 5, 3) := dget dh_255 (k := 6) rfl
theorem dX5_run_97 : decode cX5_run 97 = .ok (.iconst 0, 1) := dget dh_255 (k := 7) rfl
theorem dX5_run_98 : decode cX5_run 98 = .ok (.ireturn, 1) := dget dh_255 (k := 8) rfl
theorem dX5_run_99 : decode cX5_run 99 = .ok (.aload_n 0, 1) := dget dh_255 (k := 9) rfl
theorem dX5_run_100 : decode cX5_run 100 = .ok (.getfield 37, 3) := dget dh_255 (k := 10) rfl
theorem dX5_run_103 : decode cX5_run 103 = .ok (.iload 4, 2) := dget dh_255 (k := 11) rfl
theorem dX5_run_105 : decode cX5_run 105 = .ok (.iload 7, 2) := dget dh_255 (k := 12) rfl
theorem dX5_run_107 : decode cX5_run 107 = .ok (.bipush 48, 2) := dget dh_255 (k := 13) rfl
theorem dX5_run_109 : decode cX5_run 109 = .ok (.if_icmp .ne 8, 3) := dget dh_255 (k := 14) rfl
theorem dX5_run_112 : decode cX5_run 112 = .ok (.iload 8, 2) := dget dh_255 (k := 15) rfl
theorem dX5_run_114 : decode cX5_run 114 = .ok (.goto 7, 3) := dget dh_255 (k := 16) rfl
theorem dX5_run_117 : decode cX5_run 117 = .ok (.aload_n 3, 1) := dget dh_255 (k := 17) rfl
theorem dX5_run_118 : decode cX5_run 118 = .ok (.iload 8, 2) := dget dh_255 (k := 18) rfl
theorem dX5_run_120 : decode cX5_run 120 = .ok (.iaload, 1) := dget dh_255 (k := 19) rfl
def dl_256 : List (Nat × (Instr × Nat)) := [(121, (.iastore, 1)), (122, (.iinc 4 1, 3)), (125, (.goto 177, 3)), (128, (.iload 7, 2)), (130, (.bipush 33, 2)), (132, (.if_icmp .eq 17, 3)), (135, (.iload 7, 2)), (137, (.bipush 124, 2)), (139, (.if_icmp .eq 10, 3)), (142, (.iload 7, 2)), (144, (.bipush 38, 2)), (146, (.if_icmp .ne 89, 3)), (149, (.iload 4, 2)), (151, (.iconst 1, 1)), (152, (.if_icmp .ge 5, 3)), (155, (.iconst 0, 1)), (156, (.ireturn, 1)), (157, (.aload_n 0, 1)), (158, (.getfield 37, 3)), (161, (.iload 4, 2))]
theorem dh_256 : dchk cX5_run dl_256 = true := by decide +kernel
theorem dX5_run_121 : decode cX5_run 121 = .ok (.iastore, 1) := dget dh_256 (k := 0) rfl
theorem dX5_run_122 : decode cX5_run 122 = .ok (.iinc 4 1, 3) := dget dh_256 (k := 1) rfl
theorem dX5_run_125 : decode cX5_run 125 = .ok (.goto 177, 3) := dget dh_256 (k := 2) rfl
theorem dX5_run_128 : decode cX5_run 128 = .ok (.iload 7, 2) := dget dh_256 (k := 3) rfl
theorem dX5_run_130 : decode cX5_run 130 = .ok (.bipush 33, 2) := dget dh_256 (k := 4) rfl
theorem dX5_run_132 : decode cX5_run 132 = .ok (.if_icmp .eq 17, 3) := dget dh_256 (k := 5) rfl
theorem dX5_run_135 : decode cX5_run 135 = .ok (.iload 7, 2) := dget dh_256 (k := 6) rfl
theorem dX5_run_137 : decode cX5_run 137 = .ok (.bipush 124, 2) := dget dh_256 (k := 7) rfl
theorem dX5_run_139 : decode cX5_run 139 = .ok (.if_icmp .eq 10, 3) := dget dh_256 (k := 8) rfl
theorem dX5_run_142 : decode cX5_run 142 = .ok (.iload 7, 2) := dget dh_256 (k := 9) rfl
theorem dX5_run_144 : decode cX5_run 144 = .ok (.bipush 38, 2) := dget dh_256 (k := 10) rfl
theorem dX5_run_146 : decode cX5_run 146 = .ok (.if_icmp .ne 89, 3) := dget dh_256 (k := 11) rfl
theorem dX5_run_149 : decode cX5_run 149 = .ok (.iload 4, 2) := dget dh_256 (k := 12) rfl
theorem dX5_run_151 : decode cX5_run 151 = .ok (.iconst 1, 1) := dget dh_256 (k := 13) rfl
theorem dX5_run_152 : decode cX5_run 152 = .ok (.if_icmp .ge 5, 3) := dget dh_256 (k := 14) rfl
theorem dX5_run_155 : decode cX5_run 155 = .ok (.iconst 0, 1) := dget dh_256 (k := 15) rfl
theorem dX5_run_156 : decode cX5_run 156 = .ok (.ireturn, 1) := dget dh_256 (k := 16) rfl
theorem dX5_run_157 : decode cX5_run 157 = .ok (.aload_n 0, 1) := dget dh_256 (k := 17) rfl
theorem dX5_run_158 : decode cX5_run 158 = .ok (.getfield 37, 3) := dget dh_256 (k := 18) rfl
theorem dX5_run_161 : decode cX5_run 161 = .ok (.iload 4, 2) := dget dh_256 (k := 19) rfl
def dl_257 : List (Nat × (Instr × Nat)) := [(163, (.iconst 1, 1)), (164, (.isub, 1)), (165, (.iaload, 1)), (166, (.ifCond .eq 7, 3)), (169, (.iconst 1, 1)), (170, (.goto 4, 3)), (173, (.iconst 0, 1)), (174, (.istore 9, 2)), (176, (.iload 7, 2)), (178, (.bipush 33, 2)), (180, (.if_icmp .ne 25, 3)), (183, (.aload_n 0, 1)), (184, (.getfield 37, 3)), (187, (.iload 4, 2)), (189, (.iconst 1, 1)), (190, (.isub, 1)), (191, (.iload 9, 2)), (193, (.ifCond .eq 7, 3)), (196, (.iconst 0, 1)), (197, (.goto 4, 3))]
theorem dh_257 : dchk cX5_run dl_257 = true := by decide +kernel
theorem dX5_run_163 : decode cX5_run 163 = .ok (.iconst 1, 1) := dget dh_257 (k := 0) rfl
theorem dX5_run_164 : decode cX5_run 164 = .ok (.isub, 1) := dget dh_257 (k := 1) rfl
theorem dX5_run_165 : decode cX5_run 165 = .ok (.iaload, 1) := dget dh_257 (k := 2) rfl
theorem dX5_run_166 : decode cX5_run 166 = .ok (.ifCond .eq 7, 3) := dget dh_257 (k := 3) rfl
theorem dX5_run_169 : decode cX5_run 169 = .ok (.iconst 1, 1) := dget dh_257 (k := 4) rfl
theorem dX5_run_170 : decode cX5_run 170 = .ok (.goto 4, 3) := dget dh_257 (k := 5) rfl
theorem dX5_run_173 : decode cX5_run 173 = .ok (.iconst 0, 1) := dget dh_257 (k := 6) rfl
theorem dX5_run_174 : decode cX5_run 174 = .ok (.istore 9, 2) := dget dh_257 (k := 7) rfl
theorem dX5_run_176 : decode cX5_run 176 = .ok (.iload 7, 2) := dget dh_257 (k := 8) rfl
theorem dX5_run_178 : decode cX5_run 178 = .ok (.bipush 33, 2) := dget dh_257 (k := 9) rfl
theorem dX5_run_180 : decode cX5_run 180 = .ok (.if_icmp .ne 25, 3) := dget dh_257 (k := 10) rfl
theorem dX5_run_183 : decode cX5_run 183 = .ok (.aload_n 0, 1) := dget dh_257 (k := 11) rfl
theorem dX5_run_184 : decode cX5_run 184 = .ok (.getfield 37, 3) := dget dh_257 (k := 12) rfl
theorem dX5_run_187 : decode cX5_run 187 = .ok (.iload 4, 2) := dget dh_257 (k := 13) rfl
theorem dX5_run_189 : decode cX5_run 189 = .ok (.iconst 1, 1) := dget dh_257 (k := 14) rfl
theorem dX5_run_190 : decode cX5_run 190 = .ok (.isub, 1) := dget dh_257 (k := 15) rfl
theorem dX5_run_191 : decode cX5_run 191 = .ok (.iload 9, 2) := dget dh_257 (k := 16) rfl
theorem dX5_run_193 : decode cX5_run 193 = .ok (.ifCond .eq 7, 3) := dget dh_257 (k := 17) rfl
theorem dX5_run_196 : decode cX5_run 196 = .ok (.iconst 0, 1) := dget dh_257 (k := 18) rfl
theorem dX5_run_197 : decode cX5_run 197 = .ok (.goto 4, 3) := dget dh_257 (k := 19) rfl
def dl_258 : List (Nat × (Instr × Nat)) := [(200, (.iconst 1, 1)), (201, (.iastore, 1)), (202, (.goto 30, 3)), (205, (.iload 9, 2)), (207, (.iload 7, 2)), (209, (.bipush 124, 2)), (211, (.if_icmp .ne 7, 3)), (214, (.iconst 1, 1)), (215, (.goto 4, 3)), (218, (.iconst 0, 1)), (219, (.if_icmp .ne 10, 3)), (222, (.iload 8, 2)), (224, (.istore 5, 2)), (226, (.goto 6, 3)), (229, (.iinc 4 (-1), 3)), (232, (.goto 70, 3)), (235, (.iload 4, 2)), (237, (.iconst 2, 1)), (238, (.if_icmp .lt 29, 3)), (241, (.iload 7, 2))]
theorem dh_258 : dchk cX5_run dl_258 = true := by decide +kernel
theorem dX5_run_200 : decode cX5_run 200 = .ok (.iconst 1, 1) := dget dh_258 (k := 0) rfl
theorem dX5_run_201 : decode cX5_run 201 = .ok (.iastore, 1) := dget dh_258 (k := 1) rfl
theorem dX5_run_202 : decode cX5_run 202 = .ok (.goto 30, 3) := dget dh_258 (k := 2) rfl
theorem dX5_run_205 : decode cX5_run 205 = .ok (.iload 9, 2) := dget dh_258 (k := 3) rfl
theorem dX5_run_207 : decode cX5_run 207 = .ok (.iload 7, 2) := dget dh_258 (k := 4) rfl
theorem dX5_run_209 : decode cX5_run 209 = .ok (.bipush 124, 2) := dget dh_258 (k := 5) rfl
theorem dX5_run_211 : decode cX5_run 211 = .ok (.if_icmp .ne 7, 3) := dget dh_258 (k := 6) rfl
theorem dX5_run_214 : decode cX5_run 214 = .ok (.iconst 1, 1) := dget dh_258 (k := 7) rfl
theorem dX5_run_215 : decode cX5_run 215 = .ok (.goto 4, 3) := dget dh_258 (k := 8) rfl
theorem dX5_run_218 : decode cX5_run 218 = .ok (.iconst 0, 1) := dget dh_258 (k := 9) rfl
theorem dX5_run_219 : decode cX5_run 219 = .ok (.if_icmp .ne 10, 3) := dget dh_258 (k := 10) rfl
theorem dX5_run_222 : decode cX5_run 222 = .ok (.iload 8, 2) := dget dh_258 (k := 11) rfl
theorem dX5_run_224 : decode cX5_run 224 = .ok (.istore 5, 2) := dget dh_258 (k := 12) rfl
theorem dX5_run_226 : decode cX5_run 226 = .ok (.goto 6, 3) := dget dh_258 (k := 13) rfl
theorem dX5_run_229 : decode cX5_run 229 = .ok (.iinc 4 (-1), 3) := dget dh_258 (k := 14) rfl
theorem dX5_run_232 : decode cX5_run 232 = .ok (.goto 70, 3) := dget dh_258 (k := 15) rfl
theorem dX5_run_235 : decode cX5_run 235 = .ok (.iload 4, 2) := dget dh_258 (k := 16) rfl
theorem dX5_run_237 : decode cX5_run 237 = .ok (.iconst 2, 1) := dget dh_258 (k := 17) rfl
theorem dX5_run_238 : decode cX5_run 238 = .ok (.if_icmp .lt 29, 3) := dget dh_258 (k := 18) rfl
theorem dX5_run_241 : decode cX5_run 241 = .ok (.iload 7, 2) := dget dh_258 (k := 19) rfl
def dl_259 : List (Nat × (Instr × Nat)) := [(243, (.bipush 47, 2)), (245, (.if_icmp .eq 10, 3)), (248, (.iload 7, 2)), (250, (.bipush 37, 2)), (252, (.if_icmp .ne 17, 3)), (255, (.aload_n 0, 1)), (256, (.getfield 37, 3)), (259, (.iload 4, 2)), (261, (.iconst 1, 1)), (262, (.isub, 1)), (263, (.iaload, 1)), (264, (.ifCond .ne 5, 3)), (267, (.iconst 0, 1)), (268, (.ireturn, 1)), (269, (.iinc 4 (-1), 3)), (272, (.aload_n 0, 1)), (273, (.getfield 37, 3)), (276, (.iload 4, 2)), (278, (.iconst 1, 1)), (279, (.isub, 1))]
theorem dh_259 : dchk cX5_run dl_259 = true := by decide +kernel
theorem dX5_run_243 : decode cX5_run 243 = .ok (.bipush 47, 2) := dget dh_259 (k := 0) rfl
theorem dX5_run_245 : decode cX5_run 245 = .ok (.if_icmp .eq 10, 3) := dget dh_259 (k := 1) rfl
theorem dX5_run_248 : decode cX5_run 248 = .ok (.iload 7, 2) := dget dh_259 (k := 2) rfl
theorem dX5_run_250 : decode cX5_run 250 = .ok (.bipush 37, 2) := dget dh_259 (k := 3) rfl
theorem dX5_run_252 : decode cX5_run 252 = .ok (.if_icmp .ne 17, 3) := dget dh_259 (k := 4) rfl
theorem dX5_run_255 : decode cX5_run 255 = .ok (.aload_n 0, 1) := dget dh_259 (k := 5) rfl
theorem dX5_run_256 : decode cX5_run 256 = .ok (.getfield 37, 3) := dget dh_259 (k := 6) rfl
theorem dX5_run_259 : decode cX5_run 259 = .ok (.iload 4, 2) := dget dh_259 (k := 7) rfl
theorem dX5_run_261 : decode cX5_run 261 = .ok (.iconst 1, 1) := dget dh_259 (k := 8) rfl
theorem dX5_run_262 : decode cX5_run 262 = .ok (.isub, 1) := dget dh_259 (k := 9) rfl
theorem dX5_run_263 : decode cX5_run 263 = .ok (.iaload, 1) := dget dh_259 (k := 10) rfl
theorem dX5_run_264 : decode cX5_run 264 = .ok (.ifCond .ne 5, 3) := dget dh_259 (k := 11) rfl
theorem dX5_run_267 : decode cX5_run 267 = .ok (.iconst 0, 1) := dget dh_259 (k := 12) rfl
theorem dX5_run_268 : decode cX5_run 268 = .ok (.ireturn, 1) := dget dh_259 (k := 13) rfl
theorem dX5_run_269 : decode cX5_run 269 = .ok (.iinc 4 (-1), 3) := dget dh_259 (k := 14) rfl
theorem dX5_run_272 : decode cX5_run 272 = .ok (.aload_n 0, 1) := dget dh_259 (k := 15) rfl
theorem dX5_run_273 : decode cX5_run 273 = .ok (.getfield 37, 3) := dget dh_259 (k := 16) rfl
theorem dX5_run_276 : decode cX5_run 276 = .ok (.iload 4, 2) := dget dh_259 (k := 17) rfl
theorem dX5_run_278 : decode cX5_run 278 = .ok (.iconst 1, 1) := dget dh_259 (k := 18) rfl
theorem dX5_run_279 : decode cX5_run 279 = .ok (.isub, 1) := dget dh_259 (k := 19) rfl
def dl_260 : List (Nat × (Instr × Nat)) := [(280, (.iload 7, 2)), (282, (.aload_n 0, 1)), (283, (.getfield 37, 3)), (286, (.iload 4, 2)), (288, (.iconst 1, 1)), (289, (.isub, 1)), (290, (.iaload, 1)), (291, (.aload_n 0, 1)), (292, (.getfield 37, 3)), (295, (.iload 4, 2)), (297, (.iaload, 1)), (298, (.invokestatic 61, 3)), (301, (.iastore, 1)), (302, (.iinc 6 1, 3)), (305, (.goto (-296), 3)), (308, (.iload 4, 2)), (310, (.ifCond .le 15, 3)), (313, (.aload_n 0, 1)), (314, (.getfield 37, 3)), (317, (.iload 4, 2))]
theorem dh_260 : dchk cX5_run dl_260 = true := by decide +kernel
theorem dX5_run_280 : decode cX5_run 280 = .ok (.iload 7, 2) := dget dh_260 (k := 0) rfl
theorem dX5_run_282 : decode cX5_run 282 = .ok (.aload_n 0, 1) := dget dh_260 (k := 1) rfl
theorem dX5_run_283 : decode cX5_run 283 = .ok (.getfield 37, 3) := dget dh_260 (k := 2) rfl
theorem dX5_run_286 : decode cX5_run 286 = .ok (.iload 4, 2) := dget dh_260 (k := 3) rfl
theorem dX5_run_288 : decode cX5_run 288 = .ok (.iconst 1, 1) := dget dh_260 (k := 4) rfl
theorem dX5_run_289 : decode cX5_run 289 = .ok (.isub, 1) := dget dh_260 (k := 5) rfl
theorem dX5_run_290 : decode cX5_run 290 = .ok (.iaload, 1) := dget dh_260 (k := 6) rfl
theorem dX5_run_291 : decode cX5_run 291 = .ok (.aload_n 0, 1) := dget dh_260 (k := 7) rfl
theorem dX5_run_292 : decode cX5_run 292 = .ok (.getfield 37, 3) := dget dh_260 (k := 8) rfl
theorem dX5_run_295 : decode cX5_run 295 = .ok (.iload 4, 2) := dget dh_260 (k := 9) rfl
theorem dX5_run_297 : decode cX5_run 297 = .ok (.iaload, 1) := dget dh_260 (k := 10) rfl
theorem dX5_run_298 : decode cX5_run 298 = .ok (.invokestatic 61, 3) := dget dh_260 (k := 11) rfl
theorem dX5_run_301 : decode cX5_run 301 = .ok (.iastore, 1) := dget dh_260 (k := 12) rfl
theorem dX5_run_302 : decode cX5_run 302 = .ok (.iinc 6 1, 3) := dget dh_260 (k := 13) rfl
theorem dX5_run_305 : decode cX5_run 305 = .ok (.goto (-296), 3) := dget dh_260 (k := 14) rfl
theorem dX5_run_308 : decode cX5_run 308 = .ok (.iload 4, 2) := dget dh_260 (k := 15) rfl
theorem dX5_run_310 : decode cX5_run 310 = .ok (.ifCond .le 15, 3) := dget dh_260 (k := 16) rfl
theorem dX5_run_313 : decode cX5_run 313 = .ok (.aload_n 0, 1) := dget dh_260 (k := 17) rfl
theorem dX5_run_314 : decode cX5_run 314 = .ok (.getfield 37, 3) := dget dh_260 (k := 18) rfl
theorem dX5_run_317 : decode cX5_run 317 = .ok (.iload 4, 2) := dget dh_260 (k := 19) rfl
def dl_261 : List (Nat × (Instr × Nat)) := [(319, (.iconst 1, 1)), (320, (.isub, 1)), (321, (.iaload, 1)), (322, (.goto 4, 3)), (325, (.iconst 0, 1)), (326, (.ireturn, 1))]
theorem dh_261 : dchk cX5_run dl_261 = true := by decide +kernel
theorem dX5_run_319 : decode cX5_run 319 = .ok (.iconst 1, 1) := dget dh_261 (k := 0) rfl
theorem dX5_run_320 : decode cX5_run 320 = .ok (.isub, 1) := dget dh_261 (k := 1) rfl
theorem dX5_run_321 : decode cX5_run 321 = .ok (.iaload, 1) := dget dh_261 (k := 2) rfl
theorem dX5_run_322 : decode cX5_run 322 = .ok (.goto 4, 3) := dget dh_261 (k := 3) rfl
theorem dX5_run_325 : decode cX5_run 325 = .ok (.iconst 0, 1) := dget dh_261 (k := 4) rfl
theorem dX5_run_326 : decode cX5_run 326 = .ok (.ireturn, 1) := dget dh_261 (k := 5) rfl
def dl_262 : List (Nat × (Instr × Nat)) := [(0, (.iconst 0, 1)), (1, (.istore_n 3, 1)), (2, (.iload_n 3, 1)), (3, (.aload_n 0, 1)), (4, (.getfield 9, 3)), (7, (.if_icmp .ge 41, 3)), (10, (.aload_n 0, 1)), (11, (.getfield 18, 3)), (14, (.iload_n 3, 1)), (15, (.iaload, 1)), (16, (.iload_n 1, 1)), (17, (.if_icmp .ne 25, 3)), (20, (.aload_n 0, 1)), (21, (.aload_n 0, 1)), (22, (.getfield 25, 3)), (25, (.iload_n 3, 1)), (26, (.iaload, 1)), (27, (.aload_n 0, 1)), (28, (.getfield 28, 3)), (31, (.iload_n 3, 1))]
theorem dh_262 : dchk cX5_someHolds dl_262 = true := by decide +kernel
theorem dX5_someHolds_0 : decode cX5_someHolds 0 = .ok (.iconst 0, 1) := dget dh_262 (k := 0) rfl
theorem dX5_someHolds_1 : decode cX5_someHolds 1 = .ok (.istore_n 3, 1) := dget dh_262 (k := 1) rfl
theorem dX5_someHolds_2 : decode cX5_someHolds 2 = .ok (.iload_n 3, 1) := dget dh_262 (k := 2) rfl
theorem dX5_someHolds_3 : decode cX5_someHolds 3 = .ok (.aload_n 0, 1) := dget dh_262 (k := 3) rfl
theorem dX5_someHolds_4 : decode cX5_someHolds 4 = .ok (.getfield 9, 3) := dget dh_262 (k := 4) rfl
theorem dX5_someHolds_7 : decode cX5_someHolds 7 = .ok (.if_icmp .ge 41, 3) := dget dh_262 (k := 5) rfl
theorem dX5_someHolds_10 : decode cX5_someHolds 10 = .ok (.aload_n 0, 1) := dget dh_262 (k := 6) rfl
theorem dX5_someHolds_11 : decode cX5_someHolds 11 = .ok (.getfield 18, 3) := dget dh_262 (k := 7) rfl
theorem dX5_someHolds_14 : decode cX5_someHolds 14 = .ok (.iload_n 3, 1) := dget dh_262 (k := 8) rfl
theorem dX5_someHolds_15 : decode cX5_someHolds 15 = .ok (.iaload, 1) := dget dh_262 (k := 9) rfl
theorem dX5_someHolds_16 : decode cX5_someHolds 16 = .ok (.iload_n 1, 1) := dget dh_262 (k := 10) rfl
theorem dX5_someHolds_17 : decode cX5_someHolds 17 = .ok (.if_icmp .ne 25, 3) := dget dh_262 (k := 11) rfl
theorem dX5_someHolds_20 : decode cX5_someHolds 20 = .ok (.aload_n 0, 1) := dget dh_262 (k := 12) rfl
theorem dX5_someHolds_21 : decode cX5_someHolds 21 = .ok (.aload_n 0, 1) := dget dh_262 (k := 13) rfl
theorem dX5_someHolds_22 : decode cX5_someHolds 22 = .ok (.getfield 25, 3) := dget dh_262 (k := 14) rfl
theorem dX5_someHolds_25 : decode cX5_someHolds 25 = .ok (.iload_n 3, 1) := dget dh_262 (k := 15) rfl
theorem dX5_someHolds_26 : decode cX5_someHolds 26 = .ok (.iaload, 1) := dget dh_262 (k := 16) rfl
theorem dX5_someHolds_27 : decode cX5_someHolds 27 = .ok (.aload_n 0, 1) := dget dh_262 (k := 17) rfl
theorem dX5_someHolds_28 : decode cX5_someHolds 28 = .ok (.getfield 28, 3) := dget dh_262 (k := 18) rfl
theorem dX5_someHolds_31 : decode cX5_someHolds 31 = .ok (.iload_n 3, 1) := dget dh_262 (k := 19) rfl
def dl_263 : List (Nat × (Instr × Nat)) := [(32, (.iaload, 1)), (33, (.aload_n 2, 1)), (34, (.invokevirtual 44, 3)), (37, (.ifCond .eq 5, 3)), (40, (.iconst 1, 1)), (41, (.ireturn, 1)), (42, (.iinc 3 1, 3)), (45, (.goto (-43), 3)), (48, (.iconst 0, 1)), (49, (.ireturn, 1))]
theorem dh_263 : dchk cX5_someHolds dl_263 = true := by decide +kernel
theorem dX5_someHolds_32 : decode cX5_someHolds 32 = .ok (.iaload, 1) := dget dh_263 (k := 0) rfl
theorem dX5_someHolds_33 : decode cX5_someHolds 33 = .ok (.aload_n 2, 1) := dget dh_263 (k := 1) rfl
theorem dX5_someHolds_34 : decode cX5_someHolds 34 = .ok (.invokevirtual 44, 3) := dget dh_263 (k := 2) rfl
theorem dX5_someHolds_37 : decode cX5_someHolds 37 = .ok (.ifCond .eq 5, 3) := dget dh_263 (k := 3) rfl
theorem dX5_someHolds_40 : decode cX5_someHolds 40 = .ok (.iconst 1, 1) := dget dh_263 (k := 4) rfl
theorem dX5_someHolds_41 : decode cX5_someHolds 41 = .ok (.ireturn, 1) := dget dh_263 (k := 5) rfl
theorem dX5_someHolds_42 : decode cX5_someHolds 42 = .ok (.iinc 3 1, 3) := dget dh_263 (k := 6) rfl
theorem dX5_someHolds_45 : decode cX5_someHolds 45 = .ok (.goto (-43), 3) := dget dh_263 (k := 7) rfl
theorem dX5_someHolds_48 : decode cX5_someHolds 48 = .ok (.iconst 0, 1) := dget dh_263 (k := 8) rfl
theorem dX5_someHolds_49 : decode cX5_someHolds 49 = .ok (.ireturn, 1) := dget dh_263 (k := 9) rfl
def dl_264 : List (Nat × (Instr × Nat)) := [(0, (.aload_n 0, 1)), (1, (.getfield 9, 3)), (4, (.bipush 30, 2)), (6, (.if_icmp .ge 12, 3)), (9, (.aload_n 0, 1)), (10, (.getfield 15, 3)), (13, (.bipush 30, 2)), (15, (.if_icmp .lt 5, 3)), (18, (.iconst (-1), 1)), (19, (.ireturn, 1)), (20, (.aload_n 0, 1)), (21, (.iload_n 2, 1)), (22, (.iload_n 1, 1)), (23, (.invokevirtual 26, 3)), (26, (.istore 4, 2)), (28, (.iload 4, 2)), (30, (.ldc 25, 2)), (32, (.if_icmp .eq 36, 3)), (35, (.iload 4, 2)), (37, (.iload_n 3, 1))]
theorem dh_264 : dchk cX7_add dl_264 = true := by decide +kernel
theorem dX7_add_0 : decode cX7_add 0 = .ok (.aload_n 0, 1) := dget dh_264 (k := 0) rfl
theorem dX7_add_1 : decode cX7_add 1 = .ok (.getfield 9, 3) := dget dh_264 (k := 1) rfl
theorem dX7_add_4 : decode cX7_add 4 = .ok (.bipush 30, 2) := dget dh_264 (k := 2) rfl
theorem dX7_add_6 : decode cX7_add 6 = .ok (.if_icmp .ge 12, 3) := dget dh_264 (k := 3) rfl
theorem dX7_add_9 : decode cX7_add 9 = .ok (.aload_n 0, 1) := dget dh_264 (k := 4) rfl
theorem dX7_add_10 : decode cX7_add 10 = .ok (.getfield 15, 3) := dget dh_264 (k := 5) rfl
theorem dX7_add_13 : decode cX7_add 13 = .ok (.bipush 30, 2) := dget dh_264 (k := 6) rfl
theorem dX7_add_15 : decode cX7_add 15 = .ok (.if_icmp .lt 5, 3) := dget dh_264 (k := 7) rfl
theorem dX7_add_18 : decode cX7_add 18 = .ok (.iconst (-1), 1) := dget dh_264 (k := 8) rfl
theorem dX7_add_19 : decode cX7_add 19 = .ok (.ireturn, 1) := dget dh_264 (k := 9) rfl
theorem dX7_add_20 : decode cX7_add 20 = .ok (.aload_n 0, 1) := dget dh_264 (k := 10) rfl
theorem dX7_add_21 : decode cX7_add 21 = .ok (.iload_n 2, 1) := dget dh_264 (k := 11) rfl
theorem dX7_add_22 : decode cX7_add 22 = .ok (.iload_n 1, 1) := dget dh_264 (k := 12) rfl
theorem dX7_add_23 : decode cX7_add 23 = .ok (.invokevirtual 26, 3) := dget dh_264 (k := 13) rfl
theorem dX7_add_26 : decode cX7_add 26 = .ok (.istore 4, 2) := dget dh_264 (k := 14) rfl
theorem dX7_add_28 : decode cX7_add 28 = .ok (.iload 4, 2) := dget dh_264 (k := 15) rfl
theorem dX7_add_30 : decode cX7_add 30 = .ok (.ldc 25, 2) := dget dh_264 (k := 16) rfl
theorem dX7_add_32 : decode cX7_add 32 = .ok (.if_icmp .eq 36, 3) := dget dh_264 (k := 17) rfl
theorem dX7_add_35 : decode cX7_add 35 = .ok (.iload 4, 2) := dget dh_264 (k := 18) rfl
theorem dX7_add_37 : decode cX7_add 37 = .ok (.iload_n 3, 1) := dget dh_264 (k := 19) rfl
def dl_265 : List (Nat × (Instr × Nat)) := [(38, (.iadd, 1)), (39, (.ifCond .le 29, 3)), (42, (.aload_n 0, 1)), (43, (.getfield 18, 3)), (46, (.aload_n 0, 1)), (47, (.getfield 15, 3)), (50, (.aload_n 0, 1)), (51, (.getfield 9, 3)), (54, (.iastore, 1)), (55, (.aload_n 0, 1)), (56, (.dup, 1)), (57, (.getfield 15, 3)), (60, (.iconst 1, 1)), (61, (.iadd, 1)), (62, (.putfield 15, 3)), (65, (.goto 10, 3)), (68, (.aload_n 0, 1)), (69, (.iload_n 1, 1)), (70, (.iload_n 2, 1)), (71, (.iload_n 3, 1))]
theorem dh_265 : dchk cX7_add dl_265 = true := by decide +kernel
theorem dX7_add_38 : decode cX7_add 38 = .ok (.iadd, 1) := dget dh_265 (k := 0) rfl
theorem dX7_add_39 : decode cX7_add 39 = .ok (.ifCond .le 29, 3) := dget dh_265 (k := 1) rfl
theorem dX7_add_42 : decode cX7_add 42 = .ok (.aload_n 0, 1) := dget dh_265 (k := 2) rfl
theorem dX7_add_43 : decode cX7_add 43 = .ok (.getfield 18, 3) := dget dh_265 (k := 3) rfl
theorem dX7_add_46 : decode cX7_add 46 = .ok (.aload_n 0, 1) := dget dh_265 (k := 4) rfl
theorem dX7_add_47 : decode cX7_add 47 = .ok (.getfield 15, 3) := dget dh_265 (k := 5) rfl
theorem dX7_add_50 : decode cX7_add 50 = .ok (.aload_n 0, 1) := dget dh_265 (k := 6) rfl
theorem dX7_add_51 : decode cX7_add 51 = .ok (.getfield 9, 3) := dget dh_265 (k := 7) rfl
theorem dX7_add_54 : decode cX7_add 54 = .ok (.iastore, 1) := dget dh_265 (k := 8) rfl
theorem dX7_add_55 : decode cX7_add 55 = .ok (.aload_n 0, 1) := dget dh_265 (k := 9) rfl
theorem dX7_add_56 : decode cX7_add 56 = .ok (.dup, 1) := dget dh_265 (k := 10) rfl
theorem dX7_add_57 : decode cX7_add 57 = .ok (.getfield 15, 3) := dget dh_265 (k := 11) rfl
theorem dX7_add_60 : decode cX7_add 60 = .ok (.iconst 1, 1) := dget dh_265 (k := 12) rfl
theorem dX7_add_61 : decode cX7_add 61 = .ok (.iadd, 1) := dget dh_265 (k := 13) rfl
theorem dX7_add_62 : decode cX7_add 62 = .ok (.putfield 15, 3) := dget dh_265 (k := 14) rfl
theorem dX7_add_65 : decode cX7_add 65 = .ok (.goto 10, 3) := dget dh_265 (k := 15) rfl
theorem dX7_add_68 : decode cX7_add 68 = .ok (.aload_n 0, 1) := dget dh_265 (k := 16) rfl
theorem dX7_add_69 : decode cX7_add 69 = .ok (.iload_n 1, 1) := dget dh_265 (k := 17) rfl
theorem dX7_add_70 : decode cX7_add 70 = .ok (.iload_n 2, 1) := dget dh_265 (k := 18) rfl
theorem dX7_add_71 : decode cX7_add 71 = .ok (.iload_n 3, 1) := dget dh_265 (k := 19) rfl
def dl_266 : List (Nat × (Instr × Nat)) := [(72, (.invokevirtual 30, 3)), (75, (.aload_n 0, 1)), (76, (.dup, 1)), (77, (.getfield 9, 3)), (80, (.iconst 1, 1)), (81, (.iadd, 1)), (82, (.putfield 9, 3)), (85, (.aload_n 0, 1)), (86, (.getfield 9, 3)), (89, (.ireturn, 1))]
theorem dh_266 : dchk cX7_add dl_266 = true := by decide +kernel
theorem dX7_add_72 : decode cX7_add 72 = .ok (.invokevirtual 30, 3) := dget dh_266 (k := 0) rfl
theorem dX7_add_75 : decode cX7_add 75 = .ok (.aload_n 0, 1) := dget dh_266 (k := 1) rfl
theorem dX7_add_76 : decode cX7_add 76 = .ok (.dup, 1) := dget dh_266 (k := 2) rfl
theorem dX7_add_77 : decode cX7_add 77 = .ok (.getfield 9, 3) := dget dh_266 (k := 3) rfl
theorem dX7_add_80 : decode cX7_add 80 = .ok (.iconst 1, 1) := dget dh_266 (k := 4) rfl
theorem dX7_add_81 : decode cX7_add 81 = .ok (.iadd, 1) := dget dh_266 (k := 5) rfl
theorem dX7_add_82 : decode cX7_add 82 = .ok (.putfield 9, 3) := dget dh_266 (k := 6) rfl
theorem dX7_add_85 : decode cX7_add 85 = .ok (.aload_n 0, 1) := dget dh_266 (k := 7) rfl
theorem dX7_add_86 : decode cX7_add 86 = .ok (.getfield 9, 3) := dget dh_266 (k := 8) rfl
theorem dX7_add_89 : decode cX7_add 89 = .ok (.ireturn, 1) := dget dh_266 (k := 9) rfl
def dl_267 : List (Nat × (Instr × Nat)) := [(0, (.aload_n 0, 1)), (1, (.getfield 22, 3)), (4, (.iload_n 1, 1)), (5, (.bipush 11, 2)), (7, (.imul, 1)), (8, (.iload_n 2, 1)), (9, (.iadd, 1)), (10, (.iaload, 1)), (11, (.ireturn, 1))]
theorem dh_267 : dchk cX7_gap dl_267 = true := by decide +kernel
theorem dX7_gap_0 : decode cX7_gap 0 = .ok (.aload_n 0, 1) := dget dh_267 (k := 0) rfl
theorem dX7_gap_1 : decode cX7_gap 1 = .ok (.getfield 22, 3) := dget dh_267 (k := 1) rfl
theorem dX7_gap_4 : decode cX7_gap 4 = .ok (.iload_n 1, 1) := dget dh_267 (k := 2) rfl
theorem dX7_gap_5 : decode cX7_gap 5 = .ok (.bipush 11, 2) := dget dh_267 (k := 3) rfl
theorem dX7_gap_7 : decode cX7_gap 7 = .ok (.imul, 1) := dget dh_267 (k := 4) rfl
theorem dX7_gap_8 : decode cX7_gap 8 = .ok (.iload_n 2, 1) := dget dh_267 (k := 5) rfl
theorem dX7_gap_9 : decode cX7_gap 9 = .ok (.iadd, 1) := dget dh_267 (k := 6) rfl
theorem dX7_gap_10 : decode cX7_gap 10 = .ok (.iaload, 1) := dget dh_267 (k := 7) rfl
theorem dX7_gap_11 : decode cX7_gap 11 = .ok (.ireturn, 1) := dget dh_267 (k := 8) rfl
def dl_268 : List (Nat × (Instr × Nat)) := [(0, (.iconst 0, 1)), (1, (.istore 4, 2)), (3, (.iload 4, 2)), (5, (.bipush 11, 2)), (7, (.if_icmp .ge 94, 3)), (10, (.iconst 0, 1)), (11, (.istore 5, 2)), (13, (.iload 5, 2)), (15, (.bipush 11, 2)), (17, (.if_icmp .ge 78, 3)), (20, (.aload_n 0, 1)), (21, (.iload 4, 2)), (23, (.iload_n 1, 1)), (24, (.invokevirtual 26, 3)), (27, (.ldc 25, 2)), (29, (.if_icmp .eq 60, 3)), (32, (.aload_n 0, 1)), (33, (.iload_n 2, 1)), (34, (.iload 5, 2)), (36, (.invokevirtual 26, 3))]
theorem dh_268 : dchk cX7_stretch dl_268 = true := by decide +kernel
theorem dX7_stretch_0 : decode cX7_stretch 0 = .ok (.iconst 0, 1) := dget dh_268 (k := 0) rfl
theorem dX7_stretch_1 : decode cX7_stretch 1 = .ok (.istore 4, 2) := dget dh_268 (k := 1) rfl
theorem dX7_stretch_3 : decode cX7_stretch 3 = .ok (.iload 4, 2) := dget dh_268 (k := 2) rfl
theorem dX7_stretch_5 : decode cX7_stretch 5 = .ok (.bipush 11, 2) := dget dh_268 (k := 3) rfl
theorem dX7_stretch_7 : decode cX7_stretch 7 = .ok (.if_icmp .ge 94, 3) := dget dh_268 (k := 4) rfl
theorem dX7_stretch_10 : decode cX7_stretch 10 = .ok (.iconst 0, 1) := dget dh_268 (k := 5) rfl
theorem dX7_stretch_11 : decode cX7_stretch 11 = .ok (.istore 5, 2) := dget dh_268 (k := 6) rfl
theorem dX7_stretch_13 : decode cX7_stretch 13 = .ok (.iload 5, 2) := dget dh_268 (k := 7) rfl
theorem dX7_stretch_15 : decode cX7_stretch 15 = .ok (.bipush 11, 2) := dget dh_268 (k := 8) rfl
theorem dX7_stretch_17 : decode cX7_stretch 17 = .ok (.if_icmp .ge 78, 3) := dget dh_268 (k := 9) rfl
theorem dX7_stretch_20 : decode cX7_stretch 20 = .ok (.aload_n 0, 1) := dget dh_268 (k := 10) rfl
theorem dX7_stretch_21 : decode cX7_stretch 21 = .ok (.iload 4, 2) := dget dh_268 (k := 11) rfl
theorem dX7_stretch_23 : decode cX7_stretch 23 = .ok (.iload_n 1, 1) := dget dh_268 (k := 12) rfl
theorem dX7_stretch_24 : decode cX7_stretch 24 = .ok (.invokevirtual 26, 3) := dget dh_268 (k := 13) rfl
theorem dX7_stretch_27 : decode cX7_stretch 27 = .ok (.ldc 25, 2) := dget dh_268 (k := 14) rfl
theorem dX7_stretch_29 : decode cX7_stretch 29 = .ok (.if_icmp .eq 60, 3) := dget dh_268 (k := 15) rfl
theorem dX7_stretch_32 : decode cX7_stretch 32 = .ok (.aload_n 0, 1) := dget dh_268 (k := 16) rfl
theorem dX7_stretch_33 : decode cX7_stretch 33 = .ok (.iload_n 2, 1) := dget dh_268 (k := 17) rfl
theorem dX7_stretch_34 : decode cX7_stretch 34 = .ok (.iload 5, 2) := dget dh_268 (k := 18) rfl
theorem dX7_stretch_36 : decode cX7_stretch 36 = .ok (.invokevirtual 26, 3) := dget dh_268 (k := 19) rfl
def dl_269 : List (Nat × (Instr × Nat)) := [(39, (.ldc 25, 2)), (41, (.if_icmp .eq 48, 3)), (44, (.aload_n 0, 1)), (45, (.iload 4, 2)), (47, (.iload_n 1, 1)), (48, (.invokevirtual 26, 3)), (51, (.iload_n 3, 1)), (52, (.iadd, 1)), (53, (.aload_n 0, 1)), (54, (.iload_n 2, 1)), (55, (.iload 5, 2)), (57, (.invokevirtual 26, 3)), (60, (.iadd, 1)), (61, (.istore 6, 2)), (63, (.aload_n 0, 1)), (64, (.getfield 22, 3)), (67, (.iload 4, 2)), (69, (.bipush 11, 2)), (71, (.imul, 1)), (72, (.iload 5, 2))]
theorem dh_269 : dchk cX7_stretch dl_269 = true := by decide +kernel
theorem dX7_stretch_39 : decode cX7_stretch 39 = .ok (.ldc 25, 2) := dget dh_269 (k := 0) rfl
theorem dX7_stretch_41 : decode cX7_stretch 41 = .ok (.if_icmp .eq 48, 3) := dget dh_269 (k := 1) rfl
theorem dX7_stretch_44 : decode cX7_stretch 44 = .ok (.aload_n 0, 1) := dget dh_269 (k := 2) rfl
theorem dX7_stretch_45 : decode cX7_stretch 45 = .ok (.iload 4, 2) := dget dh_269 (k := 3) rfl
theorem dX7_stretch_47 : decode cX7_stretch 47 = .ok (.iload_n 1, 1) := dget dh_269 (k := 4) rfl
theorem dX7_stretch_48 : decode cX7_stretch 48 = .ok (.invokevirtual 26, 3) := dget dh_269 (k := 5) rfl
theorem dX7_stretch_51 : decode cX7_stretch 51 = .ok (.iload_n 3, 1) := dget dh_269 (k := 6) rfl
theorem dX7_stretch_52 : decode cX7_stretch 52 = .ok (.iadd, 1) := dget dh_269 (k := 7) rfl
theorem dX7_stretch_53 : decode cX7_stretch 53 = .ok (.aload_n 0, 1) := dget dh_269 (k := 8) rfl
theorem dX7_stretch_54 : decode cX7_stretch 54 = .ok (.iload_n 2, 1) := dget dh_269 (k := 9) rfl
theorem dX7_stretch_55 : decode cX7_stretch 55 = .ok (.iload 5, 2) := dget dh_269 (k := 10) rfl
theorem dX7_stretch_57 : decode cX7_stretch 57 = .ok (.invokevirtual 26, 3) := dget dh_269 (k := 11) rfl
theorem dX7_stretch_60 : decode cX7_stretch 60 = .ok (.iadd, 1) := dget dh_269 (k := 12) rfl
theorem dX7_stretch_61 : decode cX7_stretch 61 = .ok (.istore 6, 2) := dget dh_269 (k := 13) rfl
theorem dX7_stretch_63 : decode cX7_stretch 63 = .ok (.aload_n 0, 1) := dget dh_269 (k := 14) rfl
theorem dX7_stretch_64 : decode cX7_stretch 64 = .ok (.getfield 22, 3) := dget dh_269 (k := 15) rfl
theorem dX7_stretch_67 : decode cX7_stretch 67 = .ok (.iload 4, 2) := dget dh_269 (k := 16) rfl
theorem dX7_stretch_69 : decode cX7_stretch 69 = .ok (.bipush 11, 2) := dget dh_269 (k := 17) rfl
theorem dX7_stretch_71 : decode cX7_stretch 71 = .ok (.imul, 1) := dget dh_269 (k := 18) rfl
theorem dX7_stretch_72 : decode cX7_stretch 72 = .ok (.iload 5, 2) := dget dh_269 (k := 19) rfl
def dl_270 : List (Nat × (Instr × Nat)) := [(74, (.iadd, 1)), (75, (.aload_n 0, 1)), (76, (.iload 4, 2)), (78, (.iload 5, 2)), (80, (.invokevirtual 26, 3)), (83, (.iload 6, 2)), (85, (.invokestatic 34, 3)), (88, (.iastore, 1)), (89, (.iinc 5 1, 3)), (92, (.goto (-79), 3)), (95, (.iinc 4 1, 3)), (98, (.goto (-95), 3)), (101, (.return_, 1))]
theorem dh_270 : dchk cX7_stretch dl_270 = true := by decide +kernel
theorem dX7_stretch_74 : decode cX7_stretch 74 = .ok (.iadd, 1) := dget dh_270 (k := 0) rfl
theorem dX7_stretch_75 : decode cX7_stretch 75 = .ok (.aload_n 0, 1) := dget dh_270 (k := 1) rfl
theorem dX7_stretch_76 : decode cX7_stretch 76 = .ok (.iload 4, 2) := dget dh_270 (k := 2) rfl
theorem dX7_stretch_78 : decode cX7_stretch 78 = .ok (.iload 5, 2) := dget dh_270 (k := 3) rfl
theorem dX7_stretch_80 : decode cX7_stretch 80 = .ok (.invokevirtual 26, 3) := dget dh_270 (k := 4) rfl
theorem dX7_stretch_83 : decode cX7_stretch 83 = .ok (.iload 6, 2) := dget dh_270 (k := 5) rfl
theorem dX7_stretch_85 : decode cX7_stretch 85 = .ok (.invokestatic 34, 3) := dget dh_270 (k := 6) rfl
theorem dX7_stretch_88 : decode cX7_stretch 88 = .ok (.iastore, 1) := dget dh_270 (k := 7) rfl
theorem dX7_stretch_89 : decode cX7_stretch 89 = .ok (.iinc 5 1, 3) := dget dh_270 (k := 8) rfl
theorem dX7_stretch_92 : decode cX7_stretch 92 = .ok (.goto (-79), 3) := dget dh_270 (k := 9) rfl
theorem dX7_stretch_95 : decode cX7_stretch 95 = .ok (.iinc 4 1, 3) := dget dh_270 (k := 10) rfl
theorem dX7_stretch_98 : decode cX7_stretch 98 = .ok (.goto (-95), 3) := dget dh_270 (k := 11) rfl
theorem dX7_stretch_101 : decode cX7_stretch 101 = .ok (.return_, 1) := dget dh_270 (k := 12) rfl
def dl_271 : List (Nat × (Instr × Nat)) := [(0, (.aload_n 0, 1)), (1, (.getfield 9, 3)), (4, (.iload_n 1, 1)), (5, (.iaload, 1)), (6, (.istore 4, 2)), (8, (.iload 4, 2)), (10, (.ifCond .le 9, 3)), (13, (.iload_n 3, 1)), (14, (.iload 4, 2)), (16, (.if_icmp .lt 5, 3)), (19, (.iconst 0, 1)), (20, (.ireturn, 1)), (21, (.aload_n 0, 1)), (22, (.getfield 15, 3)), (25, (.iload_n 1, 1)), (26, (.iconst 4, 1)), (27, (.imul, 1)), (28, (.iload_n 2, 1)), (29, (.iadd, 1)), (30, (.iaload, 1))]
theorem dh_271 : dchk cX8_worth dl_271 = true := by decide +kernel
theorem dX8_worth_0 : decode cX8_worth 0 = .ok (.aload_n 0, 1) := dget dh_271 (k := 0) rfl
theorem dX8_worth_1 : decode cX8_worth 1 = .ok (.getfield 9, 3) := dget dh_271 (k := 1) rfl
theorem dX8_worth_4 : decode cX8_worth 4 = .ok (.iload_n 1, 1) := dget dh_271 (k := 2) rfl
theorem dX8_worth_5 : decode cX8_worth 5 = .ok (.iaload, 1) := dget dh_271 (k := 3) rfl
theorem dX8_worth_6 : decode cX8_worth 6 = .ok (.istore 4, 2) := dget dh_271 (k := 4) rfl
theorem dX8_worth_8 : decode cX8_worth 8 = .ok (.iload 4, 2) := dget dh_271 (k := 5) rfl
theorem dX8_worth_10 : decode cX8_worth 10 = .ok (.ifCond .le 9, 3) := dget dh_271 (k := 6) rfl
theorem dX8_worth_13 : decode cX8_worth 13 = .ok (.iload_n 3, 1) := dget dh_271 (k := 7) rfl
theorem dX8_worth_14 : decode cX8_worth 14 = .ok (.iload 4, 2) := dget dh_271 (k := 8) rfl
theorem dX8_worth_16 : decode cX8_worth 16 = .ok (.if_icmp .lt 5, 3) := dget dh_271 (k := 9) rfl
theorem dX8_worth_19 : decode cX8_worth 19 = .ok (.iconst 0, 1) := dget dh_271 (k := 10) rfl
theorem dX8_worth_20 : decode cX8_worth 20 = .ok (.ireturn, 1) := dget dh_271 (k := 11) rfl
theorem dX8_worth_21 : decode cX8_worth 21 = .ok (.aload_n 0, 1) := dget dh_271 (k := 12) rfl
theorem dX8_worth_22 : decode cX8_worth 22 = .ok (.getfield 15, 3) := dget dh_271 (k := 13) rfl
theorem dX8_worth_25 : decode cX8_worth 25 = .ok (.iload_n 1, 1) := dget dh_271 (k := 14) rfl
theorem dX8_worth_26 : decode cX8_worth 26 = .ok (.iconst 4, 1) := dget dh_271 (k := 15) rfl
theorem dX8_worth_27 : decode cX8_worth 27 = .ok (.imul, 1) := dget dh_271 (k := 16) rfl
theorem dX8_worth_28 : decode cX8_worth 28 = .ok (.iload_n 2, 1) := dget dh_271 (k := 17) rfl
theorem dX8_worth_29 : decode cX8_worth 29 = .ok (.iadd, 1) := dget dh_271 (k := 18) rfl
theorem dX8_worth_30 : decode cX8_worth 30 = .ok (.iaload, 1) := dget dh_271 (k := 19) rfl
def dl_272 : List (Nat × (Instr × Nat)) := [(31, (.iload 4, 2)), (33, (.iload_n 3, 1)), (34, (.isub, 1)), (35, (.imul, 1)), (36, (.iload 4, 2)), (38, (.idiv, 1)), (39, (.ireturn, 1))]
theorem dh_272 : dchk cX8_worth dl_272 = true := by decide +kernel
theorem dX8_worth_31 : decode cX8_worth 31 = .ok (.iload 4, 2) := dget dh_272 (k := 0) rfl
theorem dX8_worth_33 : decode cX8_worth 33 = .ok (.iload_n 3, 1) := dget dh_272 (k := 1) rfl
theorem dX8_worth_34 : decode cX8_worth 34 = .ok (.isub, 1) := dget dh_272 (k := 2) rfl
theorem dX8_worth_35 : decode cX8_worth 35 = .ok (.imul, 1) := dget dh_272 (k := 3) rfl
theorem dX8_worth_36 : decode cX8_worth 36 = .ok (.iload 4, 2) := dget dh_272 (k := 4) rfl
theorem dX8_worth_38 : decode cX8_worth 38 = .ok (.idiv, 1) := dget dh_272 (k := 5) rfl
theorem dX8_worth_39 : decode cX8_worth 39 = .ok (.ireturn, 1) := dget dh_272 (k := 6) rfl
def dl_273 : List (Nat × (Instr × Nat)) := [(0, (.bipush 24, 2)), (2, (.istore_n 2, 1)), (3, (.iload_n 2, 1)), (4, (.ifCond .lt 42, 3)), (7, (.aload_n 0, 1)), (8, (.getfield 15, 3)), (11, (.sipush 220, 3)), (14, (.if_icmp .ge 32, 3)), (17, (.aload_n 0, 1)), (18, (.getfield 9, 3)), (21, (.aload_n 0, 1)), (22, (.getfield 15, 3)), (25, (.iload_n 1, 1)), (26, (.iload_n 2, 1)), (27, (.ishr, 1)), (28, (.i2b, 1)), (29, (.bastore, 1)), (30, (.aload_n 0, 1)), (31, (.dup, 1)), (32, (.getfield 15, 3))]
theorem dh_273 : dchk cX9_add dl_273 = true := by decide +kernel
theorem dX9_add_0 : decode cX9_add 0 = .ok (.bipush 24, 2) := dget dh_273 (k := 0) rfl
theorem dX9_add_2 : decode cX9_add 2 = .ok (.istore_n 2, 1) := dget dh_273 (k := 1) rfl
theorem dX9_add_3 : decode cX9_add 3 = .ok (.iload_n 2, 1) := dget dh_273 (k := 2) rfl
theorem dX9_add_4 : decode cX9_add 4 = .ok (.ifCond .lt 42, 3) := dget dh_273 (k := 3) rfl
theorem dX9_add_7 : decode cX9_add 7 = .ok (.aload_n 0, 1) := dget dh_273 (k := 4) rfl
theorem dX9_add_8 : decode cX9_add 8 = .ok (.getfield 15, 3) := dget dh_273 (k := 5) rfl
theorem dX9_add_11 : decode cX9_add 11 = .ok (.sipush 220, 3) := dget dh_273 (k := 6) rfl
theorem dX9_add_14 : decode cX9_add 14 = .ok (.if_icmp .ge 32, 3) := dget dh_273 (k := 7) rfl
theorem dX9_add_17 : decode cX9_add 17 = .ok (.aload_n 0, 1) := dget dh_273 (k := 8) rfl
theorem dX9_add_18 : decode cX9_add 18 = .ok (.getfield 9, 3) := dget dh_273 (k := 9) rfl
theorem dX9_add_21 : decode cX9_add 21 = .ok (.aload_n 0, 1) := dget dh_273 (k := 10) rfl
theorem dX9_add_22 : decode cX9_add 22 = .ok (.getfield 15, 3) := dget dh_273 (k := 11) rfl
theorem dX9_add_25 : decode cX9_add 25 = .ok (.iload_n 1, 1) := dget dh_273 (k := 12) rfl
theorem dX9_add_26 : decode cX9_add 26 = .ok (.iload_n 2, 1) := dget dh_273 (k := 13) rfl
theorem dX9_add_27 : decode cX9_add 27 = .ok (.ishr, 1) := dget dh_273 (k := 14) rfl
theorem dX9_add_28 : decode cX9_add 28 = .ok (.i2b, 1) := dget dh_273 (k := 15) rfl
theorem dX9_add_29 : decode cX9_add 29 = .ok (.bastore, 1) := dget dh_273 (k := 16) rfl
theorem dX9_add_30 : decode cX9_add 30 = .ok (.aload_n 0, 1) := dget dh_273 (k := 17) rfl
theorem dX9_add_31 : decode cX9_add 31 = .ok (.dup, 1) := dget dh_273 (k := 18) rfl
theorem dX9_add_32 : decode cX9_add 32 = .ok (.getfield 15, 3) := dget dh_273 (k := 19) rfl
def dl_274 : List (Nat × (Instr × Nat)) := [(35, (.iconst 1, 1)), (36, (.iadd, 1)), (37, (.putfield 15, 3)), (40, (.iinc 2 (-8), 3)), (43, (.goto (-40), 3)), (46, (.return_, 1))]
theorem dh_274 : dchk cX9_add dl_274 = true := by decide +kernel
theorem dX9_add_35 : decode cX9_add 35 = .ok (.iconst 1, 1) := dget dh_274 (k := 0) rfl
theorem dX9_add_36 : decode cX9_add 36 = .ok (.iadd, 1) := dget dh_274 (k := 1) rfl
theorem dX9_add_37 : decode cX9_add 37 = .ok (.putfield 15, 3) := dget dh_274 (k := 2) rfl
theorem dX9_add_40 : decode cX9_add 40 = .ok (.iinc 2 (-8), 3) := dget dh_274 (k := 3) rfl
theorem dX9_add_43 : decode cX9_add 43 = .ok (.goto (-40), 3) := dget dh_274 (k := 4) rfl
theorem dX9_add_46 : decode cX9_add 46 = .ok (.return_, 1) := dget dh_274 (k := 5) rfl
def dl_275 : List (Nat × (Instr × Nat)) := [(0, (.iconst 0, 1)), (1, (.istore_n 2, 1)), (2, (.iconst 4, 1)), (3, (.iload_n 1, 1)), (4, (.imul, 1)), (5, (.istore_n 3, 1)), (6, (.iload_n 3, 1)), (7, (.ifCond .lt 41, 3)), (10, (.iload_n 3, 1)), (11, (.iconst 4, 1)), (12, (.iload_n 1, 1)), (13, (.imul, 1)), (14, (.iconst 4, 1)), (15, (.iadd, 1)), (16, (.if_icmp .ge 32, 3)), (19, (.iload_n 3, 1)), (20, (.sipush 220, 3)), (23, (.if_icmp .ge 25, 3)), (26, (.iload_n 2, 1)), (27, (.bipush 8, 2))]
theorem dh_275 : dchk cX9_numberAt dl_275 = true := by decide +kernel
theorem dX9_numberAt_0 : decode cX9_numberAt 0 = .ok (.iconst 0, 1) := dget dh_275 (k := 0) rfl
theorem dX9_numberAt_1 : decode cX9_numberAt 1 = .ok (.istore_n 2, 1) := dget dh_275 (k := 1) rfl
theorem dX9_numberAt_2 : decode cX9_numberAt 2 = .ok (.iconst 4, 1) := dget dh_275 (k := 2) rfl
theorem dX9_numberAt_3 : decode cX9_numberAt 3 = .ok (.iload_n 1, 1) := dget dh_275 (k := 3) rfl
theorem dX9_numberAt_4 : decode cX9_numberAt 4 = .ok (.imul, 1) := dget dh_275 (k := 4) rfl
theorem dX9_numberAt_5 : decode cX9_numberAt 5 = .ok (.istore_n 3, 1) := dget dh_275 (k := 5) rfl
theorem dX9_numberAt_6 : decode cX9_numberAt 6 = .ok (.iload_n 3, 1) := dget dh_275 (k := 6) rfl
theorem dX9_numberAt_7 : decode cX9_numberAt 7 = .ok (.ifCond .lt 41, 3) := dget dh_275 (k := 7) rfl
theorem dX9_numberAt_10 : decode cX9_numberAt 10 = .ok (.iload_n 3, 1) := dget dh_275 (k := 8) rfl
theorem dX9_numberAt_11 : decode cX9_numberAt 11 = .ok (.iconst 4, 1) := dget dh_275 (k := 9) rfl
theorem dX9_numberAt_12 : decode cX9_numberAt 12 = .ok (.iload_n 1, 1) := dget dh_275 (k := 10) rfl
theorem dX9_numberAt_13 : decode cX9_numberAt 13 = .ok (.imul, 1) := dget dh_275 (k := 11) rfl
theorem dX9_numberAt_14 : decode cX9_numberAt 14 = .ok (.iconst 4, 1) := dget dh_275 (k := 12) rfl
theorem dX9_numberAt_15 : decode cX9_numberAt 15 = .ok (.iadd, 1) := dget dh_275 (k := 13) rfl
theorem dX9_numberAt_16 : decode cX9_numberAt 16 = .ok (.if_icmp .ge 32, 3) := dget dh_275 (k := 14) rfl
theorem dX9_numberAt_19 : decode cX9_numberAt 19 = .ok (.iload_n 3, 1) := dget dh_275 (k := 15) rfl
theorem dX9_numberAt_20 : decode cX9_numberAt 20 = .ok (.sipush 220, 3) := dget dh_275 (k := 16) rfl
theorem dX9_numberAt_23 : decode cX9_numberAt 23 = .ok (.if_icmp .ge 25, 3) := dget dh_275 (k := 17) rfl
theorem dX9_numberAt_26 : decode cX9_numberAt 26 = .ok (.iload_n 2, 1) := dget dh_275 (k := 18) rfl
theorem dX9_numberAt_27 : decode cX9_numberAt 27 = .ok (.bipush 8, 2) := dget dh_275 (k := 19) rfl
def dl_276 : List (Nat × (Instr × Nat)) := [(29, (.ishl, 1)), (30, (.aload_n 0, 1)), (31, (.getfield 9, 3)), (34, (.iload_n 3, 1)), (35, (.baload, 1)), (36, (.sipush 255, 3)), (39, (.iand, 1)), (40, (.ior, 1)), (41, (.istore_n 2, 1)), (42, (.iinc 3 1, 3)), (45, (.goto (-39), 3)), (48, (.iload_n 2, 1)), (49, (.ireturn, 1))]
theorem dh_276 : dchk cX9_numberAt dl_276 = true := by decide +kernel
theorem dX9_numberAt_29 : decode cX9_numberAt 29 = .ok (.ishl, 1) := dget dh_276 (k := 0) rfl
theorem dX9_numberAt_30 : decode cX9_numberAt 30 = .ok (.aload_n 0, 1) := dget dh_276 (k := 1) rfl
theorem dX9_numberAt_31 : decode cX9_numberAt 31 = .ok (.getfield 9, 3) := dget dh_276 (k := 2) rfl
theorem dX9_numberAt_34 : decode cX9_numberAt 34 = .ok (.iload_n 3, 1) := dget dh_276 (k := 3) rfl
theorem dX9_numberAt_35 : decode cX9_numberAt 35 = .ok (.baload, 1) := dget dh_276 (k := 4) rfl
theorem dX9_numberAt_36 : decode cX9_numberAt 36 = .ok (.sipush 255, 3) := dget dh_276 (k := 5) rfl
theorem dX9_numberAt_39 : decode cX9_numberAt 39 = .ok (.iand, 1) := dget dh_276 (k := 6) rfl
theorem dX9_numberAt_40 : decode cX9_numberAt 40 = .ok (.ior, 1) := dget dh_276 (k := 7) rfl
theorem dX9_numberAt_41 : decode cX9_numberAt 41 = .ok (.istore_n 2, 1) := dget dh_276 (k := 8) rfl
theorem dX9_numberAt_42 : decode cX9_numberAt 42 = .ok (.iinc 3 1, 3) := dget dh_276 (k := 9) rfl
theorem dX9_numberAt_45 : decode cX9_numberAt 45 = .ok (.goto (-39), 3) := dget dh_276 (k := 10) rfl
theorem dX9_numberAt_48 : decode cX9_numberAt 48 = .ok (.iload_n 2, 1) := dget dh_276 (k := 11) rfl
theorem dX9_numberAt_49 : decode cX9_numberAt 49 = .ok (.ireturn, 1) := dget dh_276 (k := 12) rfl
set_option maxHeartbeats 4000000 in
set_option maxRecDepth 100000 in
theorem c_X11_answer (l : Launch) (D : va_G) (cy : Nat → ClassId) (a : Nat → Nat) (i : Nat → Int32) (r : Nat → Nat → Int32) (q : Nat → Option Nat) (tl : va_W) (p0 p1 p2 : Int32) (sz : Nat) (hRi : yRi i) (hRr : yRr r) : Met l yX11_answer (Cond.code yX11_answer cX11_answer 4 (some .boolean) :: gT) { frames := 3, cells := 0, slots := 0, locals := 67 } (va_Pc [.ref (a 0), .int p0, .int p1, .int p2] (rQ D cy (xW cy a i r q (a 20) (a 12) ++ tl) sz)) (va_Qi (fun (z : Int32) (u : Nat → Nat → Int32) => yRr u ∧ mEr [36, 37] r u ∧ True) (fun (u : Nat → Nat → Int32) t => va_P D vwCl (xW cy a i u q (a 20) (a 12) ++ tl) t.heap ∧ va_K D vwCl (vT cy) t ∧ va_D (va_A (xW cy a i r q (a 20) (a 12) ++ tl) sz) (xW cy a i u q (a 20) (a 12) ++ tl)) (va_A (xW cy a i r q (a 20) (a 12) ++ tl) sz)) 0 0 (va_A (xW cy a i r q (a 20) (a 12) ++ tl) sz) := by
  refine Met.ofQ (cc := cX11_answer) (maxL := 4) (ret := (some .boolean)) (by decide) rfl ?_
  intro p e s m args below meth c s₁ B hml hv Q hQ
  obtain ⟨rfl, hsz, hP, hK, hD0⟩ := hv
  have hx := B.exec
  have hb := B.bytes
  have hr := B.returns
  have hlocks := B.notSynchronized
  have hT : ∀ w ∈ gT, w.before _ s = true := fun w h => atoms_spec (ws := (Cond.code yX11_answer cX11_answer 4 (some .boolean) :: gT)) B.pre w (List.mem_cons_of_mem _ h)
  have hown : s.vm.findClass RX11 = some m.cls := findClass_of_methodNamed B.named
  subst hsz
  have hD := hD0.self (sz := s.heap.size)
  generalize hAe : va_A (xW cy a i r q (a 20) (a 12) ++ tl) s.heap.size = A at hD hQ
  have hA : ∀ q : Nat, s.heap.size ≤ q → A q := fun q h => by rw [← hAe]; exact Or.inr h
  have hS : va_S A s.heap s.heap [] := va_S.rf
  have hl := lv_entry ([.ref (a 0), .int p0, .int p1, .int p2]) (n := 4) (Nat.le_of_ble_eq_true rfl)
  rw [lg_entry_eq]
  generalize (lg_sl ([.ref (a 0), .int p0, .int p1, .int p2]) ++ List.replicate (4 - (lg_sl ([.ref (a 0), .int p0, .int p1, .int p2])).length) Slot.unset).toArray = ls at hl ⊢
  have hl : lv_has ls 4 [(0, .ref (a 0)), (1, .int p0), (2, .int p1), (3, .int p2)] := hl
  have hEi : mEi [] i i := Ei_rf
  have hEr : mEr [36, 37] r r := Er_rf
  refine lv_aload_n hx hb dX11_answer_0 rfl (lv_at hl 0 rfl) ?_
  refine lv_iload_n hx hb dX11_answer_1 rfl (lv_at hl 1 rfl) ?_
  refine vp_callSi (W.runV (As := [.int p0]) (rest := []) ⟨hx, hb, hml, hown, hT⟩ (c_X11_isClaim l D cy a i r q tl p0 hRi hRr) (cwV 1 hT (gV t_273 t_274 t_275 t_276 t_2) rfl rfl rfl (by decide +kernel) ⟨Nat.le_of_ble_eq_true rfl, Nat.le_of_ble_eq_true rfl⟩) (rP_v hP hK (va_recv hK hP (ci := 11) (q0 := 0) rfl rfl)) rfl rfl hl.1 rfl (lv_room (Nat.le_of_ble_eq_true rfl)) dX11_answer_2 ⟨Nat.le_of_ble_eq_true rfl, Nat.le_of_ble_eq_true rfl⟩) (fun r_1 hr_1 => ?_)
  have hg_2 : 0 ≤ (i 10).toInt ∧ (i 10).toInt ≤ 30 := hRi 10
  have hr_1 : BR r_1 (0 ≤ p0.toInt ∧ p0.toInt < (i 10).toInt) 1 0 := hr_1
  rcases hr_1 with ⟨rfl, h_3⟩ | ⟨rfl, h_3⟩
  · skip
    refine lv_if_eq (tgt := 28) hx hb dX11_answer_5 (by decide) (fun c_4 => absurd c_4 (by decide)) (fun c_4 => ?_)
    refine lv_iload_n hx hb dX11_answer_8 rfl (lv_at hl 2 rfl) ?_
    refine vp_callSi (W.runS (As := [.int p1]) (rest := []) ⟨hx, hb, hml, hown, hT⟩ (c_X11_isDay l p1) (va_cwS 1 hT (gS t_279 t_280 t_281 t_2) rfl rfl rfl (by decide +kernel) ⟨Nat.le_of_ble_eq_true rfl, Nat.le_of_ble_eq_true rfl⟩) preT rfl rfl hl.1 rfl (lv_room (Nat.le_of_ble_eq_true rfl)) dX11_answer_9 ⟨Nat.le_of_ble_eq_true rfl, Nat.le_of_ble_eq_true rfl⟩) (fun r_5 hr_5 => ?_)
    have hr_5 : BR r_5 (0 ≤ p1.toInt ∧ p1.toInt ≤ 9999) 1 0 := hr_5
    rcases hr_5 with ⟨rfl, h_6⟩ | ⟨rfl, h_6⟩
    · skip
      refine lv_if_eq (tgt := 28) hx hb dX11_answer_12 (by decide) (fun c_7 => absurd c_7 (by decide)) (fun c_7 => ?_)
      refine lv_iload_n hx hb dX11_answer_15 rfl (lv_at hl 2 rfl) ?_
      refine lv_aload_n hx hb dX11_answer_16 rfl (lv_at hl 0 rfl) ?_
      refine va_get (D := D) (ci := 11) (v := .ref (a 29)) (C := RX11) (T := TX11) (N := 14) hx hb hT iX11 hown hK hP 0 rfl rfl 8 (by decide) (hT _ t_265) (fun _ h9 => h9) rfl dX11_answer_17 ?_
      refine va_get (D := D) (ci := 1) (v := .ref (a 34)) (C := RX1) (T := TX1) (N := 12) hx hb hT iX1 hown hK hP 29 rfl rfl 5 (by decide) (hT _ t_282) (fun _ h9 => h9) rfl dX11_answer_20 ?_
      refine lv_iload_n hx hb dX11_answer_23 rfl (lv_at hl 1 rfl) ?_
      refine va_iald hx hb hK hP 34 0 rfl rfl (vp_inI (by omega) (by omega)) dX11_answer_24 ?_
      refine lv_topi (fun v_8 ev_8 => ?_)
      have hgv_8 : 0 ≤ v_8.toInt ∧ v_8.toInt ≤ 9999 := by rw [ev_8]; exact hRr 34 _
      refine lv_icmp_ge (tgt := 30) hx hb dX11_answer_25 (by decide) (fun c_9 => ?_) (fun c_9 => ?_)
      · have c_9 : v_8.toInt ≤ p1.toInt := b_le c_9
        refine lv_aload_n hx hb dX11_answer_30 rfl (lv_at hl 0 rfl) ?_
        refine va_get (D := D) (ci := 11) (v := .ref (a 29)) (C := RX11) (T := TX11) (N := 14) hx hb hT iX11 hown hK hP 0 rfl rfl 8 (by decide) (hT _ t_265) (fun _ h9 => h9) rfl dX11_answer_31 ?_
        refine va_get (D := D) (ci := 1) (v := .ref (a 36)) (C := RX1) (T := TX1) (N := 12) hx hb hT iX1 hown hK hP 29 rfl rfl 7 (by decide) (hT _ t_283) (fun _ h9 => h9) rfl dX11_answer_34 ?_
        refine lv_iload_n hx hb dX11_answer_37 rfl (lv_at hl 1 rfl) ?_
        refine lv_iload_n hx hb dX11_answer_38 rfl (lv_at hl 2 rfl) ?_
        refine va_iast hx hb hK hP hD hS 36 0 rfl rfl (vp_inI (by omega) (by omega)) dX11_answer_39 (fun H locs hP hD hS => ?_)
        rw [zS36] at hP hD
        have hRr : yRr (va_up r 36 (upd (r 36) p0.toNatClampNeg p1)) := Yr_upd hRr 36 (p0.toNatClampNeg) p1 ⟨by show (-1 : Int) ≤ p1.toInt; omega, by show p1.toInt ≤ (9999 : Int); omega⟩
        have hEr : mEr [36, 37] _ (va_up r 36 (upd (r 36) p0.toNatClampNeg p1)) := Er_up hEr 36 _ (by decide)
        refine lv_aload_n hx hb dX11_answer_40 rfl (lv_at hl 0 rfl) ?_
        refine va_get (D := D) (ci := 11) (v := .ref (a 29)) (C := RX11) (T := TX11) (N := 14) hx hb hT iX11 hown hK hP 0 rfl rfl 8 (by decide) (hT _ t_265) (fun _ h9 => h9) rfl dX11_answer_41 ?_
        refine va_get (D := D) (ci := 1) (v := .ref (a 37)) (C := RX1) (T := TX1) (N := 12) hx hb hT iX1 hown hK hP 29 rfl rfl 8 (by decide) (hT _ t_284) (fun _ h9 => h9) rfl dX11_answer_44 ?_
        refine lv_iload_n hx hb dX11_answer_47 rfl (lv_at hl 1 rfl) ?_
        refine lv_iload_n hx hb dX11_answer_48 rfl (lv_at hl 3 rfl) ?_
        refine va_zast hx hb hK hP hD hS 37 2 rfl rfl (vp_inI (by omega) (by omega)) dX11_answer_49 (fun H locs hP hD hS => ?_)
        rw [zS37] at hP hD
        have hRr : yRr (va_up (va_up r 36 (upd (r 36) p0.toNatClampNeg p1)) 37 (upd (r 37) p0.toNatClampNeg (vp_nar .boolean p2))) := Yr_upd hRr 37 (p0.toNatClampNeg) (vp_nar .boolean p2) (b_rg _)
        have hEr : mEr [36, 37] _ (va_up (va_up r 36 (upd (r 36) p0.toNatClampNeg p1)) 37 (upd (r 37) p0.toNatClampNeg (vp_nar .boolean p2))) := Er_up hEr 37 _ (by decide)
        refine lv_iconst (v := 1) hx hb dX11_answer_50 (by decide) ?_
        subst hQ
        exact W.zret hx hb hr rfl (fun t ht hW => ⟨⟨_, (va_up (va_up r 36 (upd (r 36) p0.toNatClampNeg p1)) 37 (upd (r 37) p0.toNatClampNeg (vp_nar .boolean p2))), rfl, ⟨hRr, hEr, trivial⟩, by rw [ht]; exact hP, va_K.moved hW.alike hK, hD⟩, hS.F ht⟩) hS.2.2 dX11_answer_51
      · have c_9 : p1.toInt < v_8.toInt := b_nle c_9
        refine lv_iconst (v := 0) hx hb dX11_answer_28 (by decide) ?_
        subst hQ
        exact W.zret hx hb hr rfl (fun t ht hW => ⟨⟨_, r, rfl, ⟨hRr, hEr, trivial⟩, by rw [ht]; exact hP, va_K.moved hW.alike hK, hD⟩, hS.F ht⟩) hS.2.2 dX11_answer_29
    · skip
      refine lv_if_eq (tgt := 28) hx hb dX11_answer_12 (by decide) (fun c_10 => ?_) (fun c_10 => absurd (by decide) c_10)
      refine lv_iconst (v := 0) hx hb dX11_answer_28 (by decide) ?_
      subst hQ
      exact W.zret hx hb hr rfl (fun t ht hW => ⟨⟨_, r, rfl, ⟨hRr, hEr, trivial⟩, by rw [ht]; exact hP, va_K.moved hW.alike hK, hD⟩, hS.F ht⟩) hS.2.2 dX11_answer_29
  · skip
    refine lv_if_eq (tgt := 28) hx hb dX11_answer_5 (by decide) (fun c_11 => ?_) (fun c_11 => absurd (by decide) c_11)
    refine lv_iconst (v := 0) hx hb dX11_answer_28 (by decide) ?_
    subst hQ
    exact W.zret hx hb hr rfl (fun t ht hW => ⟨⟨_, r, rfl, ⟨hRr, hEr, trivial⟩, by rw [ht]; exact hP, va_K.moved hW.alike hK, hD⟩, hS.F ht⟩) hS.2.2 dX11_answer_29
set_option maxHeartbeats 4000000 in
set_option maxRecDepth 100000 in
theorem c_X2_add (l : Launch) (D : va_G) (cy : Nat → ClassId) (a : Nat → Nat) (i : Nat → Int32) (r : Nat → Nat → Int32) (q : Nat → Option Nat) (tl : va_W) (p0 p1 : Int32) (sz : Nat) (hRi : yRi i) (hRr : yRr r) (q0 : 0 ≤ p0.toInt ∧ p0.toInt ≤ 5) : Met l yX2_add (Cond.code yX2_add cX2_add 3 none :: gT) { frames := 1, cells := 0, slots := 0, locals := 24 } (va_Pc [.ref (a 54), .int p0, .int p1] (rQ D cy (xW cy a i r q (a 20) (a 12) ++ tl) sz)) (va_Qv (fun u : Nat → Nat → Int32 => yRr u ∧ mEr [55, 56, 57] r u ∧ True) (fun (u : Nat → Nat → Int32) t => va_P D vwCl (xW cy a i u q (a 20) (a 12) ++ tl) t.heap ∧ va_K D vwCl (vT cy) t ∧ va_D (va_A (xW cy a i r q (a 20) (a 12) ++ tl) sz) (xW cy a i u q (a 20) (a 12) ++ tl)) (va_A (xW cy a i r q (a 20) (a 12) ++ tl) sz)) 0 0 (va_A (xW cy a i r q (a 20) (a 12) ++ tl) sz) := by
  refine Met.ofQ (cc := cX2_add) (maxL := 3) (ret := none) (by decide) rfl ?_
  intro p e s m args below meth c s₁ B hml hv Q hQ
  obtain ⟨rfl, hsz, hP, hK, hD0⟩ := hv
  have hx := B.exec
  have hb := B.bytes
  have hr := B.returns
  have hlocks := B.notSynchronized
  have hT : ∀ w ∈ gT, w.before _ s = true := fun w h => atoms_spec (ws := (Cond.code yX2_add cX2_add 3 none :: gT)) B.pre w (List.mem_cons_of_mem _ h)
  have hown : s.vm.findClass RX2 = some m.cls := findClass_of_methodNamed B.named
  subst hsz
  have hD := hD0.self (sz := s.heap.size)
  generalize hAe : va_A (xW cy a i r q (a 20) (a 12) ++ tl) s.heap.size = A at hD hQ
  have hA : ∀ q : Nat, s.heap.size ≤ q → A q := fun q h => by rw [← hAe]; exact Or.inr h
  have hS : va_S A s.heap s.heap [] := va_S.rf
  have hl := lv_entry ([.ref (a 54), .int p0, .int p1]) (n := 3) (Nat.le_of_ble_eq_true rfl)
  rw [lg_entry_eq]
  generalize (lg_sl ([.ref (a 54), .int p0, .int p1]) ++ List.replicate (3 - (lg_sl ([.ref (a 54), .int p0, .int p1])).length) Slot.unset).toArray = ls at hl ⊢
  have hl : lv_has ls 3 [(0, .ref (a 54)), (1, .int p0), (2, .int p1)] := hl
  have hEi : mEi [] i i := Ei_rf
  have hEr : mEr [55, 56, 57] r r := Er_rf
  refine lv_aload_n hx hb dX2_add_0 rfl (lv_at hl 0 rfl) ?_
  refine va_get (D := D) (ci := 2) (v := .ref (a 55)) (C := RX2) (T := TX2) (N := 4) hx hb hT iX2 hown hK hP 54 rfl rfl 1 (by decide) (hT _ t_285) (fun _ h9 => h9) rfl dX2_add_1 ?_
  refine lv_iload_n hx hb dX2_add_4 rfl (lv_at hl 1 rfl) ?_
  refine lv_dup2_11 hx hb dX2_add_5 rfl rfl ?_
  refine va_iald hx hb hK hP 55 0 rfl rfl (vp_inI (by omega) (by omega)) dX2_add_6 ?_
  refine lv_topi (fun v_1 ev_1 => ?_)
  refine lv_iconst (v := 1) hx hb dX2_add_7 (by decide) ?_
  refine lv_iadd hx hb dX2_add_8 ?_
  refine lv_topi (fun v_2 ev_2 => ?_)
  refine va_iast hx hb hK hP hD hS 55 0 rfl rfl (vp_inI (by omega) (by omega)) dX2_add_9 (fun H locs hP hD hS => ?_)
  rw [zS55] at hP hD
  have hRr : yRr (va_up r 55 (upd (r 55) p0.toNatClampNeg v_2)) := Yr_upd hRr 55 (p0.toNatClampNeg) v_2 (b_rg _)
  have hEr : mEr [55, 56, 57] _ (va_up r 55 (upd (r 55) p0.toNatClampNeg v_2)) := Er_up hEr 55 _ (by decide)
  refine lv_aload_n hx hb dX2_add_10 rfl (lv_at hl 0 rfl) ?_
  refine va_get (D := D) (ci := 2) (v := .ref (a 56)) (C := RX2) (T := TX2) (N := 4) hx hb hT iX2 hown hK hP 54 rfl rfl 2 (by decide) (hT _ t_286) (fun _ h9 => h9) rfl dX2_add_11 ?_
  refine lv_iload_n hx hb dX2_add_14 rfl (lv_at hl 1 rfl) ?_
  refine lv_dup2_11 hx hb dX2_add_15 rfl rfl ?_
  refine va_iald hx hb hK hP 56 0 rfl rfl (vp_inI (by omega) (by omega)) dX2_add_16 ?_
  refine lv_topi (fun v_3 ev_3 => ?_)
  refine lv_iload_n hx hb dX2_add_17 rfl (lv_at hl 2 rfl) ?_
  refine va_mabs hx hb (by rw [hml]; exact hl.1.symm) hown (hT _ t_287) (hT _ t_288) (hT _ t_289) (hT _ t_290) (Nat.le_of_ble_eq_true rfl) (Nat.le_of_ble_eq_true rfl) (Nat.le_of_ble_eq_true rfl) (Nat.le_of_ble_eq_true rfl) dX2_add_18 ?_
  refine lv_topi (fun v_4 ev_4 => ?_)
  refine lv_iadd hx hb dX2_add_21 ?_
  refine lv_topi (fun v_5 ev_5 => ?_)
  refine va_iast hx hb hK hP hD hS 56 0 rfl rfl (vp_inI (by omega) (by omega)) dX2_add_22 (fun H locs hP hD hS => ?_)
  rw [zS56] at hP hD
  have hRr : yRr (va_up (va_up r 55 (upd (r 55) p0.toNatClampNeg v_2)) 56 (upd (r 56) p0.toNatClampNeg v_5)) := Yr_upd hRr 56 (p0.toNatClampNeg) v_5 (b_rg _)
  have hEr : mEr [55, 56, 57] _ (va_up (va_up r 55 (upd (r 55) p0.toNatClampNeg v_2)) 56 (upd (r 56) p0.toNatClampNeg v_5)) := Er_up hEr 56 _ (by decide)
  refine lv_aload_n hx hb dX2_add_23 rfl (lv_at hl 0 rfl) ?_
  refine va_get (D := D) (ci := 2) (v := .ref (a 57)) (C := RX2) (T := TX2) (N := 4) hx hb hT iX2 hown hK hP 54 rfl rfl 3 (by decide) (hT _ t_291) (fun _ h9 => h9) rfl dX2_add_24 ?_
  refine lv_iload_n hx hb dX2_add_27 rfl (lv_at hl 1 rfl) ?_
  refine lv_dup2_11 hx hb dX2_add_28 rfl rfl ?_
  refine va_iald hx hb hK hP 57 0 rfl rfl (vp_inI (by omega) (by omega)) dX2_add_29 ?_
  refine lv_topi (fun v_6 ev_6 => ?_)
  refine lv_iload_n hx hb dX2_add_30 rfl (lv_at hl 2 rfl) ?_
  refine lv_iadd hx hb dX2_add_31 ?_
  refine lv_topi (fun v_7 ev_7 => ?_)
  refine va_iast hx hb hK hP hD hS 57 0 rfl rfl (vp_inI (by omega) (by omega)) dX2_add_32 (fun H locs hP hD hS => ?_)
  rw [zS57] at hP hD
  have hRr : yRr (va_up (va_up (va_up r 55 (upd (r 55) p0.toNatClampNeg v_2)) 56 (upd (r 56) p0.toNatClampNeg v_5)) 57 (upd (r 57) p0.toNatClampNeg v_7)) := Yr_upd hRr 57 (p0.toNatClampNeg) v_7 (b_rg _)
  have hEr : mEr [55, 56, 57] _ (va_up (va_up (va_up r 55 (upd (r 55) p0.toNatClampNeg v_2)) 56 (upd (r 56) p0.toNatClampNeg v_5)) 57 (upd (r 57) p0.toNatClampNeg v_7)) := Er_up hEr 57 _ (by decide)
  subst hQ
  exact W.vret hx hb hr (fun t ht hW => ⟨⟨(va_up (va_up (va_up r 55 (upd (r 55) p0.toNatClampNeg v_2)) 56 (upd (r 56) p0.toNatClampNeg v_5)) 57 (upd (r 57) p0.toNatClampNeg v_7)), rfl, ⟨hRr, hEr, trivial⟩, by rw [ht]; exact hP, va_K.moved hW.alike hK, hD⟩, hS.F ht⟩) hS.2.2 dX2_add_33
set_option maxHeartbeats 4000000 in
set_option maxRecDepth 100000 in
theorem c_X11_twice (l : Launch) (D : va_G) (cy : Nat → ClassId) (a : Nat → Nat) (i : Nat → Int32) (r : Nat → Nat → Int32) (q : Nat → Option Nat) (tl : va_W) (p0 p1 p2 p3 : Int32) (sz : Nat) (hRi : yRi i) (hRr : yRr r) : Met l yX11_twice (Cond.code yX11_twice cX11_twice 5 (some .int) :: gT) { frames := 2, cells := 0, slots := 0, locals := 46 } (va_Pc [.ref (a 0), .int p0, .int p1, .int p2, .int p3] (rQ D cy (xW cy a i r q (a 20) (a 12) ++ tl) sz)) (va_Qi (fun (z : Int32) (u : (Nat → Int32) × (Nat → Nat → Int32)) => yRi u.1 ∧ yRr u.2 ∧ mEi [14] i u.1 ∧ mEr [55, 56, 57] r u.2 ∧ True) (fun (u : (Nat → Int32) × (Nat → Nat → Int32)) t => va_P D vwCl (xW cy a u.1 u.2 q (a 20) (a 12) ++ tl) t.heap ∧ va_K D vwCl (vT cy) t ∧ va_D (va_A (xW cy a i r q (a 20) (a 12) ++ tl) sz) (xW cy a u.1 u.2 q (a 20) (a 12) ++ tl)) (va_A (xW cy a i r q (a 20) (a 12) ++ tl) sz)) 0 0 (va_A (xW cy a i r q (a 20) (a 12) ++ tl) sz) := by
  refine Met.ofQ (cc := cX11_twice) (maxL := 5) (ret := (some .int)) (by decide) rfl ?_
  intro p e s m args below meth c s₁ B hml hv Q hQ
  obtain ⟨rfl, hsz, hP, hK, hD0⟩ := hv
  have hx := B.exec
  have hb := B.bytes
  have hr := B.returns
  have hlocks := B.notSynchronized
  have hT : ∀ w ∈ gT, w.before _ s = true := fun w h => atoms_spec (ws := (Cond.code yX11_twice cX11_twice 5 (some .int) :: gT)) B.pre w (List.mem_cons_of_mem _ h)
  have hown : s.vm.findClass RX11 = some m.cls := findClass_of_methodNamed B.named
  subst hsz
  have hD := hD0.self (sz := s.heap.size)
  generalize hAe : va_A (xW cy a i r q (a 20) (a 12) ++ tl) s.heap.size = A at hD hQ
  have hA : ∀ q : Nat, s.heap.size ≤ q → A q := fun q h => by rw [← hAe]; exact Or.inr h
  have hS : va_S A s.heap s.heap [] := va_S.rf
  have hl := lv_entry ([.ref (a 0), .int p0, .int p1, .int p2, .int p3]) (n := 5) (Nat.le_of_ble_eq_true rfl)
  rw [lg_entry_eq]
  generalize (lg_sl ([.ref (a 0), .int p0, .int p1, .int p2, .int p3]) ++ List.replicate (5 - (lg_sl ([.ref (a 0), .int p0, .int p1, .int p2, .int p3])).length) Slot.unset).toArray = ls at hl ⊢
  have hl : lv_has ls 5 [(0, .ref (a 0)), (1, .int p0), (2, .int p1), (3, .int p2), (4, .int p3)] := hl
  have hEi : mEi [14] i i := Ei_rf
  have hEr : mEr [55, 56, 57] r r := Er_rf
  refine lv_iload_n hx hb dX11_twice_0 rfl (lv_at hl 1 rfl) ?_
  refine lv_iconst (v := 0) hx hb dX11_twice_1 (by decide) ?_
  refine lv_iconst (v := 5) hx hb dX11_twice_2 (by decide) ?_
  refine vp_callSi (W.runS (As := [.int p0, .int 0, .int 5]) (rest := []) ⟨hx, hb, hml, hown, hT⟩ (c_X11_within l p0 0 5) (va_cwS 3 hT (gS t_1 t_3 t_4 t_2) rfl rfl rfl (by decide +kernel) ⟨Nat.le_of_ble_eq_true rfl, Nat.le_of_ble_eq_true rfl⟩) preT rfl rfl hl.1 rfl (lv_room (Nat.le_of_ble_eq_true rfl)) dX11_twice_3 ⟨Nat.le_of_ble_eq_true rfl, Nat.le_of_ble_eq_true rfl⟩) (fun r_1 hr_1 => ?_)
  have hr_1 : BR r_1 (0 ≤ p0.toInt ∧ p0.toInt ≤ 5) 1 0 := hr_1
  rcases hr_1 with ⟨rfl, h_2⟩ | ⟨rfl, h_2⟩
  · skip
    refine lv_if_eq (tgt := 58) hx hb dX11_twice_6 (by decide) (fun c_3 => absurd c_3 (by decide)) (fun c_3 => ?_)
    refine lv_iload_n hx hb dX11_twice_9 rfl (lv_at hl 2 rfl) ?_
    refine lv_iconst (v := 0) hx hb dX11_twice_10 (by decide) ?_
    refine lv_iconst (v := 5) hx hb dX11_twice_11 (by decide) ?_
    refine vp_callSi (W.runS (As := [.int p1, .int 0, .int 5]) (rest := []) ⟨hx, hb, hml, hown, hT⟩ (c_X11_within l p1 0 5) (va_cwS 3 hT (gS t_1 t_3 t_4 t_2) rfl rfl rfl (by decide +kernel) ⟨Nat.le_of_ble_eq_true rfl, Nat.le_of_ble_eq_true rfl⟩) preT rfl rfl hl.1 rfl (lv_room (Nat.le_of_ble_eq_true rfl)) dX11_twice_12 ⟨Nat.le_of_ble_eq_true rfl, Nat.le_of_ble_eq_true rfl⟩) (fun r_4 hr_4 => ?_)
    have hr_4 : BR r_4 (0 ≤ p1.toInt ∧ p1.toInt ≤ 5) 1 0 := hr_4
    rcases hr_4 with ⟨rfl, h_5⟩ | ⟨rfl, h_5⟩
    · skip
      refine lv_if_eq (tgt := 58) hx hb dX11_twice_15 (by decide) (fun c_6 => absurd c_6 (by decide)) (fun c_6 => ?_)
      refine lv_iload_n hx hb dX11_twice_18 rfl (lv_at hl 1 rfl) ?_
      refine lv_iload_n hx hb dX11_twice_19 rfl (lv_at hl 2 rfl) ?_
      refine lv_icmp_eq (tgt := 58) hx hb dX11_twice_20 (by decide) (fun c_7 => ?_) (fun c_7 => ?_)
      · have c_7 : p0.toInt = p1.toInt := b_eq c_7
        refine lv_iconst (v := (-1)) hx hb dX11_twice_58 (by decide) ?_
        subst hQ
        exact W.iret (v := (-1)) hx hb hr (fun t ht hW => ⟨⟨_, (i, r), rfl, ⟨hRi, hRr, hEi, hEr, trivial⟩, by rw [ht]; exact hP, va_K.moved hW.alike hK, hD⟩, hS.F ht⟩) hS.2.2 dX11_twice_59
      · have c_7 : p0.toInt ≠ p1.toInt := b_ne c_7
        refine lv_iload_n hx hb dX11_twice_23 rfl (lv_at hl 3 rfl) ?_
        refine lv_iconst (v := 0) hx hb dX11_twice_24 (by decide) ?_
        refine lv_sipush (v := 9999) hx hb dX11_twice_25 (by decide) ?_
        refine vp_callSi (W.runS (As := [.int p2, .int 0, .int 9999]) (rest := []) ⟨hx, hb, hml, hown, hT⟩ (c_X11_within l p2 0 9999) (va_cwS 3 hT (gS t_1 t_3 t_4 t_2) rfl rfl rfl (by decide +kernel) ⟨Nat.le_of_ble_eq_true rfl, Nat.le_of_ble_eq_true rfl⟩) preT rfl rfl hl.1 rfl (lv_room (Nat.le_of_ble_eq_true rfl)) dX11_twice_28 ⟨Nat.le_of_ble_eq_true rfl, Nat.le_of_ble_eq_true rfl⟩) (fun r_8 hr_8 => ?_)
        have hr_8 : BR r_8 (0 ≤ p2.toInt ∧ p2.toInt ≤ 9999) 1 0 := hr_8
        rcases hr_8 with ⟨rfl, h_9⟩ | ⟨rfl, h_9⟩
        · skip
          refine lv_if_eq (tgt := 58) hx hb dX11_twice_31 (by decide) (fun c_10 => absurd c_10 (by decide)) (fun c_10 => ?_)
          refine lv_iload hx hb dX11_twice_34 (lv_at hl 4 rfl) ?_
          refine lv_iconst (v := 0) hx hb dX11_twice_36 (by decide) ?_
          refine lv_sipush (v := 9999) hx hb dX11_twice_37 (by decide) ?_
          refine vp_callSi (W.runS (As := [.int p3, .int 0, .int 9999]) (rest := []) ⟨hx, hb, hml, hown, hT⟩ (c_X11_within l p3 0 9999) (va_cwS 3 hT (gS t_1 t_3 t_4 t_2) rfl rfl rfl (by decide +kernel) ⟨Nat.le_of_ble_eq_true rfl, Nat.le_of_ble_eq_true rfl⟩) preT rfl rfl hl.1 rfl (lv_room (Nat.le_of_ble_eq_true rfl)) dX11_twice_40 ⟨Nat.le_of_ble_eq_true rfl, Nat.le_of_ble_eq_true rfl⟩) (fun r_11 hr_11 => ?_)
          have hr_11 : BR r_11 (0 ≤ p3.toInt ∧ p3.toInt ≤ 9999) 1 0 := hr_11
          rcases hr_11 with ⟨rfl, h_12⟩ | ⟨rfl, h_12⟩
          · skip
            refine lv_if_eq (tgt := 58) hx hb dX11_twice_43 (by decide) (fun c_13 => absurd c_13 (by decide)) (fun c_13 => ?_)
            refine lv_aload_n hx hb dX11_twice_46 rfl (lv_at hl 0 rfl) ?_
            refine va_get (D := D) (ci := 11) (v := .ref (a 54)) (C := RX11) (T := TX11) (N := 14) hx hb hT iX11 hown hK hP 0 rfl rfl 12 (by decide) (hT _ t_292) (fun _ h9 => h9) rfl dX11_twice_47 ?_
            refine va_get (D := D) (ci := 2) (v := .int (i 14)) (C := RX2) (T := TX2) (N := 4) hx hb hT iX2 hown hK hP 54 rfl rfl 0 (by decide) (hT _ t_293) (fun _ h9 => h9) rfl dX11_twice_50 ?_
            have hg_14 : 0 ≤ (i 14).toInt ∧ (i 14).toInt ≤ 40 := hRi 14
            refine lv_bipush (v := 40) hx hb dX11_twice_53 (by decide) ?_
            refine lv_icmp_lt (tgt := 60) hx hb dX11_twice_55 (by decide) (fun c_15 => ?_) (fun c_15 => ?_)
            · have c_15 : (i 14).toInt < 40 := b_lt c_15
              refine lv_aload_n hx hb dX11_twice_60 rfl (lv_at hl 0 rfl) ?_
              refine va_get (D := D) (ci := 11) (v := .ref (a 54)) (C := RX11) (T := TX11) (N := 14) hx hb hT iX11 hown hK hP 0 rfl rfl 12 (by decide) (hT _ t_292) (fun _ h9 => h9) rfl dX11_twice_61 ?_
              refine lv_dup hx hb dX11_twice_64 rfl ?_
              refine va_get (D := D) (ci := 2) (v := .int (i 14)) (C := RX2) (T := TX2) (N := 4) hx hb hT iX2 hown hK hP 54 rfl rfl 0 (by decide) (hT _ t_293) (fun _ h9 => h9) rfl dX11_twice_65 ?_
              refine lv_iconst (v := 1) hx hb dX11_twice_68 (by decide) ?_
              refine lv_iadd hx hb dX11_twice_69 ?_
              refine lv_topi (fun v_16 ev_16 => ?_)
              have hv_16 : v_16.toInt = (i 14).toInt + 1 := by rw [ev_16]; have := b_rg (i 14); exact i_add (a := (i 14).toInt) (b := 1) rfl rfl (by omega) (by omega)
              refine va_put (D := D) (ci := 2) (v := .int v_16) (ty := .int) (C := RX2) (T := TX2) (N := 4) hx hb hT iX2 tyX2 tyX2_ok nmX2 hown hK hP hD hS 54 rfl rfl 0 (by decide) (hT _ t_293) (fun _ h9 => h9) rfl (by decide +kernel) rfl rfl (Nat.le_of_ble_eq_true rfl) dX11_twice_70 (fun H locs hP hD hS => ?_)
              rw [zP14] at hP hD
              have hRi := Yi_upd hRi 14 v_16 ⟨by show (0 : Int) ≤ v_16.toInt; omega, by show v_16.toInt ≤ (40 : Int); omega⟩
              have hEi := Ei_upd hEi 14 v_16 (by decide)
              refine lv_aload_n hx hb dX11_twice_73 rfl (lv_at hl 0 rfl) ?_
              refine va_get (D := D) (ci := 11) (v := .ref (a 54)) (C := RX11) (T := TX11) (N := 14) hx hb hT iX11 hown hK hP 0 rfl rfl 12 (by decide) (hT _ t_292) (fun _ h9 => h9) rfl dX11_twice_74 ?_
              refine lv_iload_n hx hb dX11_twice_77 rfl (lv_at hl 1 rfl) ?_
              refine lv_iload_n hx hb dX11_twice_78 rfl (lv_at hl 3 rfl) ?_
              refine lv_iload hx hb dX11_twice_79 (lv_at hl 4 rfl) ?_
              refine lv_isub hx hb dX11_twice_81 ?_
              refine lv_topi (fun v_17 ev_17 => ?_)
              have hv_17 : v_17.toInt = p2.toInt - p3.toInt := by rw [ev_17]; have := b_rg p2; have := b_rg p3; exact i_sub (a := p2.toInt) (b := p3.toInt) rfl rfl (by omega) (by omega)
              have hF_18 := rF hD hS hA
              refine va_callv (va_runV (As := [.int p0, .int v_17]) (rest := []) ⟨hx, hb, hml, hown, hT⟩ (c_X2_add l D cy a (upd i 14 v_16) r q tl p0 v_17 _ hRi hRr (by omega)) (cwV 2 hT (gV t_294 t_296 t_297 t_298 t_295) rfl rfl rfl (by decide +kernel) ⟨Nat.le_of_ble_eq_true rfl, Nat.le_of_ble_eq_true rfl⟩) (rQ_v hP hK hD (va_recv hK hP (ci := 2) (q0 := 54) rfl rfl)) rfl rfl hl.1 rfl (lv_room (Nat.le_of_ble_eq_true rfl)) dX11_twice_82 ⟨Nat.le_of_ble_eq_true rfl, Nat.le_of_ble_eq_true rfl⟩) hS (fun q _ h => hF_18 q h) hF_18 (fun u_20 t H1 locs ht hvm hr_19 hB hz1 hk1 hS => ?_)
              obtain ⟨r20, rfl⟩ : ∃ z, z = u_20 := ⟨_, rfl⟩
              obtain ⟨hP, hK1, hD1⟩ := hB
              rw [ht] at hP
              have hD := hD1.weaken (fun k q _ h => hF_18 q.1 h)
              obtain ⟨hRr, hE2, hr_19⟩ := hr_19
              have hRr : yRr r20 := hRr
              have hE2 : mEr [55, 56, 57] r r20 := hE2
              have hP : va_P D vwCl (xW cy a (upd i 14 v_16) r20 q (a 20) (a 12) ++ tl) H1 := hP
              have hD : va_D A (xW cy a (upd i 14 v_16) r20 q (a 20) (a 12) ++ tl) := hD
              have hEr : mEr [55, 56, 57] _ r20 := Er_tr hEr hE2 (by decide)
              refine lv_aload_n hx hb dX11_twice_85 rfl (lv_at hl 0 rfl) ?_
              refine va_get (D := D) (ci := 11) (v := .ref (a 54)) (C := RX11) (T := TX11) (N := 14) hx hb hT iX11 hown hK hP 0 rfl rfl 12 (by decide) (hT _ t_292) (fun _ h9 => h9) rfl dX11_twice_86 ?_
              refine lv_iload_n hx hb dX11_twice_89 rfl (lv_at hl 2 rfl) ?_
              refine lv_iload hx hb dX11_twice_90 (lv_at hl 4 rfl) ?_
              refine lv_iload_n hx hb dX11_twice_92 rfl (lv_at hl 3 rfl) ?_
              refine lv_isub hx hb dX11_twice_93 ?_
              refine lv_topi (fun v_21 ev_21 => ?_)
              have hv_21 : v_21.toInt = p3.toInt - p2.toInt := by rw [ev_21]; have := b_rg p3; have := b_rg p2; exact i_sub (a := p3.toInt) (b := p2.toInt) rfl rfl (by omega) (by omega)
              have hF_22 := rF hD hS hA
              refine va_callv (va_runV (As := [.int p1, .int v_21]) (rest := []) ⟨hx, hb, hml, hown, hT⟩ (c_X2_add l D cy a (upd i 14 v_16) r20 q tl p1 v_21 _ hRi hRr (by omega)) (cwV 2 hT (gV t_294 t_296 t_297 t_298 t_295) rfl rfl rfl (by decide +kernel) ⟨Nat.le_of_ble_eq_true rfl, Nat.le_of_ble_eq_true rfl⟩) (rQ_v hP hK hD (va_recv hK hP (ci := 2) (q0 := 54) rfl rfl)) rfl rfl hl.1 rfl (lv_room (Nat.le_of_ble_eq_true rfl)) dX11_twice_94 ⟨Nat.le_of_ble_eq_true rfl, Nat.le_of_ble_eq_true rfl⟩) hS (fun q _ h => hF_22 q h) hF_22 (fun u_24 t H1 locs ht hvm hr_23 hB hz1 hk1 hS => ?_)
              obtain ⟨r24, rfl⟩ : ∃ z, z = u_24 := ⟨_, rfl⟩
              obtain ⟨hP, hK1, hD1⟩ := hB
              rw [ht] at hP
              have hD := hD1.weaken (fun k q _ h => hF_22 q.1 h)
              obtain ⟨hRr, hE2, hr_23⟩ := hr_23
              have hRr : yRr r24 := hRr
              have hE2 : mEr [55, 56, 57] r20 r24 := hE2
              have hP : va_P D vwCl (xW cy a (upd i 14 v_16) r24 q (a 20) (a 12) ++ tl) H1 := hP
              have hD : va_D A (xW cy a (upd i 14 v_16) r24 q (a 20) (a 12) ++ tl) := hD
              have hEr : mEr [55, 56, 57] _ r24 := Er_tr hEr hE2 (by decide)
              refine lv_aload_n hx hb dX11_twice_97 rfl (lv_at hl 0 rfl) ?_
              refine va_get (D := D) (ci := 11) (v := .ref (a 54)) (C := RX11) (T := TX11) (N := 14) hx hb hT iX11 hown hK hP 0 rfl rfl 12 (by decide) (hT _ t_292) (fun _ h9 => h9) rfl dX11_twice_98 ?_
              refine va_get (D := D) (ci := 2) (v := .int v_16) (C := RX2) (T := TX2) (N := 4) hx hb hT iX2 hown hK hP 54 rfl rfl 0 (by decide) (hT _ t_293) (fun _ h9 => h9) rfl dX11_twice_101 ?_
              subst hQ
              exact W.iret (v := v_16) hx hb hr (fun t ht hW => ⟨⟨_, (upd i 14 v_16, r24), rfl, ⟨hRi, hRr, hEi, hEr, trivial⟩, by rw [ht]; exact hP, va_K.moved hW.alike hK, hD⟩, hS.F ht⟩) hS.2.2 dX11_twice_104
            · have c_15 : 40 ≤ (i 14).toInt := b_nlt c_15
              refine lv_iconst (v := (-1)) hx hb dX11_twice_58 (by decide) ?_
              subst hQ
              exact W.iret (v := (-1)) hx hb hr (fun t ht hW => ⟨⟨_, (i, r), rfl, ⟨hRi, hRr, hEi, hEr, trivial⟩, by rw [ht]; exact hP, va_K.moved hW.alike hK, hD⟩, hS.F ht⟩) hS.2.2 dX11_twice_59
          · skip
            refine lv_if_eq (tgt := 58) hx hb dX11_twice_43 (by decide) (fun c_25 => ?_) (fun c_25 => absurd (by decide) c_25)
            refine lv_iconst (v := (-1)) hx hb dX11_twice_58 (by decide) ?_
            subst hQ
            exact W.iret (v := (-1)) hx hb hr (fun t ht hW => ⟨⟨_, (i, r), rfl, ⟨hRi, hRr, hEi, hEr, trivial⟩, by rw [ht]; exact hP, va_K.moved hW.alike hK, hD⟩, hS.F ht⟩) hS.2.2 dX11_twice_59
        · skip
          refine lv_if_eq (tgt := 58) hx hb dX11_twice_31 (by decide) (fun c_26 => ?_) (fun c_26 => absurd (by decide) c_26)
          refine lv_iconst (v := (-1)) hx hb dX11_twice_58 (by decide) ?_
          subst hQ
          exact W.iret (v := (-1)) hx hb hr (fun t ht hW => ⟨⟨_, (i, r), rfl, ⟨hRi, hRr, hEi, hEr, trivial⟩, by rw [ht]; exact hP, va_K.moved hW.alike hK, hD⟩, hS.F ht⟩) hS.2.2 dX11_twice_59
    · skip
      refine lv_if_eq (tgt := 58) hx hb dX11_twice_15 (by decide) (fun c_27 => ?_) (fun c_27 => absurd (by decide) c_27)
      refine lv_iconst (v := (-1)) hx hb dX11_twice_58 (by decide) ?_
      subst hQ
      exact W.iret (v := (-1)) hx hb hr (fun t ht hW => ⟨⟨_, (i, r), rfl, ⟨hRi, hRr, hEi, hEr, trivial⟩, by rw [ht]; exact hP, va_K.moved hW.alike hK, hD⟩, hS.F ht⟩) hS.2.2 dX11_twice_59
  · skip
    refine lv_if_eq (tgt := 58) hx hb dX11_twice_6 (by decide) (fun c_28 => ?_) (fun c_28 => absurd (by decide) c_28)
    refine lv_iconst (v := (-1)) hx hb dX11_twice_58 (by decide) ?_
    subst hQ
    exact W.iret (v := (-1)) hx hb hr (fun t ht hW => ⟨⟨_, (i, r), rfl, ⟨hRi, hRr, hEi, hEr, trivial⟩, by rw [ht]; exact hP, va_K.moved hW.alike hK, hD⟩, hS.F ht⟩) hS.2.2 dX11_twice_59
set_option maxHeartbeats 4000000 in
set_option maxRecDepth 100000 in
theorem c_X7_gap (l : Launch) (D : va_G) (cy : Nat → ClassId) (a : Nat → Nat) (i : Nat → Int32) (r : Nat → Nat → Int32) (q : Nat → Option Nat) (tl : va_W) (p0 p1 : Int32) (hRi : yRi i) (hRr : yRr r) (q0 : 0 ≤ p0.toInt ∧ p0.toInt ≤ 10) (q1 : 0 ≤ p1.toInt ∧ p1.toInt ≤ 10) : Met l yX7_gap (Cond.code yX7_gap cX7_gap 3 (some .int) :: gT) { frames := 1, cells := 0, slots := 0, locals := 24 } (va_Pc [.ref (a 58), .int p0, .int p1] (rP D cy (xW cy a i r q (a 20) (a 12) ++ tl))) (vp_Si (fun z => True)) 0 0 (fun _ => False) := by
  refine Met.ofQ (cc := cX7_gap) (maxL := 3) (ret := (some .int)) (by decide) rfl ?_
  intro p e s m args below meth c s₁ B hml hv Q hQ
  obtain ⟨rfl, hP, hK⟩ := hv
  have hx := B.exec
  have hb := B.bytes
  have hr := B.returns
  have hlocks := B.notSynchronized
  have hT : ∀ w ∈ gT, w.before _ s = true := fun w h => atoms_spec (ws := (Cond.code yX7_gap cX7_gap 3 (some .int) :: gT)) B.pre w (List.mem_cons_of_mem _ h)
  have hown : s.vm.findClass RX7 = some m.cls := findClass_of_methodNamed B.named
  have hl := lv_entry ([.ref (a 58), .int p0, .int p1]) (n := 3) (Nat.le_of_ble_eq_true rfl)
  rw [lg_entry_eq]
  generalize (lg_sl ([.ref (a 58), .int p0, .int p1]) ++ List.replicate (3 - (lg_sl ([.ref (a 58), .int p0, .int p1])).length) Slot.unset).toArray = ls at hl ⊢
  have hl : lv_has ls 3 [(0, .ref (a 58)), (1, .int p0), (2, .int p1)] := hl
  have hEi : mEi [] i i := Ei_rf
  have hEr : mEr [] r r := Er_rf
  refine lv_aload_n hx hb dX7_gap_0 rfl (lv_at hl 0 rfl) ?_
  refine va_get (D := D) (ci := 7) (v := .ref (a 60)) (C := RX7) (T := TX7) (N := 4) hx hb hT iX7 hown hK hP 58 rfl rfl 3 (by decide) (hT _ t_299) (fun _ h9 => h9) rfl dX7_gap_1 ?_
  refine lv_iload_n hx hb dX7_gap_4 rfl (lv_at hl 1 rfl) ?_
  refine lv_bipush (v := 11) hx hb dX7_gap_5 (by decide) ?_
  refine lv_imul hx hb dX7_gap_7 ?_
  refine lv_topi (fun v_1 ev_1 => ?_)
  have hv_1 : v_1.toInt = p0.toInt * 11 := by rw [ev_1]; have := b_rg p0; exact i_mul (a := p0.toInt) (b := 11) rfl rfl (by omega) (by omega)
  refine lv_iload_n hx hb dX7_gap_8 rfl (lv_at hl 2 rfl) ?_
  refine lv_iadd hx hb dX7_gap_9 ?_
  refine lv_topi (fun v_2 ev_2 => ?_)
  have hv_2 : v_2.toInt = v_1.toInt + p1.toInt := by rw [ev_2]; have := b_rg v_1; have := b_rg p1; exact i_add (a := v_1.toInt) (b := p1.toInt) rfl rfl (by omega) (by omega)
  refine va_iald hx hb hK hP 60 0 rfl rfl (vp_inI (by omega) (by omega)) dX7_gap_10 ?_
  refine lv_topi (fun v_3 ev_3 => ?_)
  subst hQ
  exact W.iret (v := v_3) hx hb hr (fun t ht hW => ⟨_, rfl, trivial, ht⟩) (fun q hq => absurd hq List.not_mem_nil) dX7_gap_11
set_option maxHeartbeats 4000000 in
set_option maxRecDepth 100000 in
theorem c_X7_stretch (l : Launch) (D : va_G) (cy : Nat → ClassId) (a : Nat → Nat) (i : Nat → Int32) (r : Nat → Nat → Int32) (q : Nat → Option Nat) (tl : va_W) (p0 p1 p2 : Int32) (sz : Nat) (hRi : yRi i) (hRr : yRr r) (q0 : 0 ≤ p0.toInt ∧ p0.toInt ≤ 10) (q1 : 0 ≤ p1.toInt ∧ p1.toInt ≤ 10) : Met l yX7_stretch (Cond.code yX7_stretch cX7_stretch 7 none :: gT) { frames := 2, cells := 0, slots := 0, locals := 46 } (va_Pc [.ref (a 58), .int p0, .int p1, .int p2] (rQ D cy (xW cy a i r q (a 20) (a 12) ++ tl) sz)) (va_Qv (fun u : Nat → Nat → Int32 => yRr u ∧ mEr [60] r u ∧ True) (fun (u : Nat → Nat → Int32) t => va_P D vwCl (xW cy a i u q (a 20) (a 12) ++ tl) t.heap ∧ va_K D vwCl (vT cy) t ∧ va_D (va_A (xW cy a i r q (a 20) (a 12) ++ tl) sz) (xW cy a i u q (a 20) (a 12) ++ tl)) (va_A (xW cy a i r q (a 20) (a 12) ++ tl) sz)) 0 0 (va_A (xW cy a i r q (a 20) (a 12) ++ tl) sz) := by
  refine Met.ofQ (cc := cX7_stretch) (maxL := 7) (ret := none) (by decide) rfl ?_
  intro p e s m args below meth c s₁ B hml hv Q hQ
  obtain ⟨rfl, hsz, hP, hK, hD0⟩ := hv
  have hx := B.exec
  have hb := B.bytes
  have hr := B.returns
  have hlocks := B.notSynchronized
  have hT : ∀ w ∈ gT, w.before _ s = true := fun w h => atoms_spec (ws := (Cond.code yX7_stretch cX7_stretch 7 none :: gT)) B.pre w (List.mem_cons_of_mem _ h)
  have hown : s.vm.findClass RX7 = some m.cls := findClass_of_methodNamed B.named
  subst hsz
  have hD := hD0.self (sz := s.heap.size)
  generalize hAe : va_A (xW cy a i r q (a 20) (a 12) ++ tl) s.heap.size = A at hD hQ
  have hA : ∀ q : Nat, s.heap.size ≤ q → A q := fun q h => by rw [← hAe]; exact Or.inr h
  have hS : va_S A s.heap s.heap [] := va_S.rf
  have hl := lv_entry ([.ref (a 58), .int p0, .int p1, .int p2]) (n := 7) (Nat.le_of_ble_eq_true rfl)
  rw [lg_entry_eq]
  generalize (lg_sl ([.ref (a 58), .int p0, .int p1, .int p2]) ++ List.replicate (7 - (lg_sl ([.ref (a 58), .int p0, .int p1, .int p2])).length) Slot.unset).toArray = ls at hl ⊢
  have hl : lv_has ls 7 [(0, .ref (a 58)), (1, .int p0), (2, .int p1), (3, .int p2)] := hl
  have hEi : mEi [] i i := Ei_rf
  have hEr : mEr [60] r r := Er_rf
  refine lv_iconst (v := 0) hx hb dX7_stretch_0 (by decide) ?_
  refine lv_istore (lv' := [(4, .int 0), (0, .ref (a 58)), (1, .int p0), (2, .int p1), (3, .int p2)]) hx hb dX7_stretch_1 hl (by decide) rfl (fun ls hl => ?_)
  have loop_1 : ∀ (n : Nat) (x1_4 : Int32) (r1 : Nat → Nat → Int32) (H : Heap) (locs : List Loc) (ls : Array Slot), (11 - x1_4.toInt).toNat < n → (0 ≤ x1_4.toInt ∧ x1_4.toInt ≤ 11) → yRr r1 → mEr [60] r r1 → va_P D vwCl (xW cy a i r1 q (a 20) (a 12) ++ tl) H → va_D A (xW cy a i r1 q (a 20) (a 12) ++ tl) → va_S A s.heap H locs → lv_has ls 7 [(4, .int x1_4), (0, .ref (a 58)), (1, .int p0), (2, .int p1), (3, .int p2)] → W p l e ({ frames := 2, cells := 0, slots := 0, locals := 46 } : Room) s m ([.ref (a 58), .int p0, .int p1, .int p2] : List Value).toArray below meth c H locs 0 0 Q (F0 m 3 ls []) := by
    intro n
    induction n with
    | zero =>
      intro x1_4 r1 H locs ls hm1 hf1_0 hRr hEr hP hD hS hl
      exact absurd hm1 (by omega)
    | succ n ih1 =>
      intro x1_4 r1 H locs ls hm1 hf1_0 hRr hEr hP hD hS hl
      refine lv_iload hx hb dX7_stretch_3 (lv_at hl 0 rfl) ?_
      refine lv_bipush (v := 11) hx hb dX7_stretch_5 (by decide) ?_
      refine lv_icmp_ge (tgt := 101) hx hb dX7_stretch_7 (by decide) (fun c_2 => ?_) (fun c_2 => ?_)
      · have c_2 : 11 ≤ x1_4.toInt := b_le c_2
        subst hQ
        exact W.vret hx hb hr (fun t ht hW => ⟨⟨r1, rfl, ⟨hRr, hEr, trivial⟩, by rw [ht]; exact hP, va_K.moved hW.alike hK, hD⟩, hS.F ht⟩) hS.2.2 dX7_stretch_101
      · have c_2 : x1_4.toInt < 11 := b_nle c_2
        refine lv_iconst (v := 0) hx hb dX7_stretch_10 (by decide) ?_
        refine lv_istore (lv' := [(5, .int 0), (4, .int x1_4), (0, .ref (a 58)), (1, .int p0), (2, .int p1), (3, .int p2)]) hx hb dX7_stretch_11 hl (by decide) rfl (fun ls hl => ?_)
        have loop_3 : ∀ (n : Nat) (x3_5 : Int32) (r3 : Nat → Nat → Int32) (H : Heap) (locs : List Loc) (ls : Array Slot), (11 - x3_5.toInt).toNat < n → (0 ≤ x3_5.toInt ∧ x3_5.toInt ≤ 11) → yRr r3 → mEr [60] r r3 → va_P D vwCl (xW cy a i r3 q (a 20) (a 12) ++ tl) H → va_D A (xW cy a i r3 q (a 20) (a 12) ++ tl) → va_S A s.heap H locs → lv_has ls 7 [(5, .int x3_5), (4, .int x1_4), (0, .ref (a 58)), (1, .int p0), (2, .int p1), (3, .int p2)] → W p l e ({ frames := 2, cells := 0, slots := 0, locals := 46 } : Room) s m ([.ref (a 58), .int p0, .int p1, .int p2] : List Value).toArray below meth c H locs 0 0 Q (F0 m 13 ls []) := by
          intro n
          induction n with
          | zero =>
            intro x3_5 r3 H locs ls hm3 hf3_0 hRr hEr hP hD hS hl
            exact absurd hm3 (by omega)
          | succ n ih3 =>
            intro x3_5 r3 H locs ls hm3 hf3_0 hRr hEr hP hD hS hl
            refine lv_iload hx hb dX7_stretch_13 (lv_at hl 0 rfl) ?_
            refine lv_bipush (v := 11) hx hb dX7_stretch_15 (by decide) ?_
            refine lv_icmp_ge (tgt := 95) hx hb dX7_stretch_17 (by decide) (fun c_4 => ?_) (fun c_4 => ?_)
            · have c_4 : 11 ≤ x3_5.toInt := b_le c_4
              obtain ⟨x_5, ex_5⟩ : ∃ y : Int32, y = x1_4 + 1 := ⟨_, rfl⟩
              refine lv_iinc (v := x_5) (lv' := [(4, .int x_5), (5, .int x3_5), (0, .ref (a 58)), (1, .int p0), (2, .int p1), (3, .int p2)]) hx hb dX7_stretch_95 hl (k := 1) rfl (by rw [ex_5]; rfl) (by decide) rfl (fun ls hl => ?_)
              have hx_5 : x_5.toInt = x1_4.toInt + 1 := by rw [ex_5]; have := b_rg x1_4; exact i_add (a := x1_4.toInt) (b := 1) rfl rfl (by omega) (by omega)
              refine lv_goto (tgt := 3) hx hb dX7_stretch_98 (by decide) ?_
              exact ih1 x_5 r3 _ _ _ (by first | omega | (simp only [Int.toNat]; omega)) (by first | omega | decide) hRr hEr  hP hD hS (lv_sub hl [0, 2, 3, 4, 5] rfl)
            · have c_4 : x3_5.toInt < 11 := b_nle c_4
              refine lv_aload_n hx hb dX7_stretch_20 rfl (lv_at hl 2 rfl) ?_
              refine lv_iload hx hb dX7_stretch_21 (lv_at hl 1 rfl) ?_
              refine lv_iload_n hx hb dX7_stretch_23 rfl (lv_at hl 3 rfl) ?_
              refine vp_callSi (W.runV (As := [.int x1_4, .int p0]) (rest := []) ⟨hx, hb, hml, hown, hT⟩ (c_X7_gap l D cy a i r3 q tl x1_4 p0 hRi hRr (by first | omega | decide) (by first | omega | decide)) (cwV 2 hT (gV t_300 t_302 t_303 t_304 t_301) rfl rfl rfl (by decide +kernel) ⟨Nat.le_of_ble_eq_true rfl, Nat.le_of_ble_eq_true rfl⟩) (rP_v hP hK (va_recv hK hP (ci := 7) (q0 := 58) rfl rfl)) rfl rfl hl.1 rfl (lv_room (Nat.le_of_ble_eq_true rfl)) dX7_stretch_24 ⟨Nat.le_of_ble_eq_true rfl, Nat.le_of_ble_eq_true rfl⟩) (fun r_6 hr_6 => ?_)
              refine lv_ldc (v := (-1000000)) hx hb hown (hT _ t_305) dX7_stretch_27 ?_
              refine lv_icmp_eq (tgt := 89) hx hb dX7_stretch_29 (by decide) (fun c_7 => ?_) (fun c_7 => ?_)
              · have c_7 : r_6.toInt = (-1000000) := b_eq c_7
                obtain ⟨x_8, ex_8⟩ : ∃ y : Int32, y = x3_5 + 1 := ⟨_, rfl⟩
                refine lv_iinc (v := x_8) (lv' := [(5, .int x_8), (4, .int x1_4), (0, .ref (a 58)), (1, .int p0), (2, .int p1), (3, .int p2)]) hx hb dX7_stretch_89 hl (k := 0) rfl (by rw [ex_8]; rfl) (by decide) rfl (fun ls hl => ?_)
                have hx_8 : x_8.toInt = x3_5.toInt + 1 := by rw [ex_8]; have := b_rg x3_5; exact i_add (a := x3_5.toInt) (b := 1) rfl rfl (by omega) (by omega)
                refine lv_goto (tgt := 13) hx hb dX7_stretch_92 (by decide) ?_
                exact ih3 x_8 r3 _ _ _ (by first | omega | (simp only [Int.toNat]; omega)) (by first | omega | decide) hRr hEr  hP hD hS (lv_sub hl [0, 1, 2, 3, 4, 5] rfl)
              · have c_7 : r_6.toInt ≠ (-1000000) := b_ne c_7
                refine lv_aload_n hx hb dX7_stretch_32 rfl (lv_at hl 2 rfl) ?_
                refine lv_iload_n hx hb dX7_stretch_33 rfl (lv_at hl 4 rfl) ?_
                refine lv_iload hx hb dX7_stretch_34 (lv_at hl 0 rfl) ?_
                refine vp_callSi (W.runV (As := [.int p1, .int x3_5]) (rest := []) ⟨hx, hb, hml, hown, hT⟩ (c_X7_gap l D cy a i r3 q tl p1 x3_5 hRi hRr (by first | omega | decide) (by first | omega | decide)) (cwV 2 hT (gV t_300 t_302 t_303 t_304 t_301) rfl rfl rfl (by decide +kernel) ⟨Nat.le_of_ble_eq_true rfl, Nat.le_of_ble_eq_true rfl⟩) (rP_v hP hK (va_recv hK hP (ci := 7) (q0 := 58) rfl rfl)) rfl rfl hl.1 rfl (lv_room (Nat.le_of_ble_eq_true rfl)) dX7_stretch_36 ⟨Nat.le_of_ble_eq_true rfl, Nat.le_of_ble_eq_true rfl⟩) (fun r_9 hr_9 => ?_)
                refine lv_ldc (v := (-1000000)) hx hb hown (hT _ t_305) dX7_stretch_39 ?_
                refine lv_icmp_eq (tgt := 89) hx hb dX7_stretch_41 (by decide) (fun c_10 => ?_) (fun c_10 => ?_)
                · have c_10 : r_9.toInt = (-1000000) := b_eq c_10
                  obtain ⟨x_11, ex_11⟩ : ∃ y : Int32, y = x3_5 + 1 := ⟨_, rfl⟩
                  refine lv_iinc (v := x_11) (lv' := [(5, .int x_11), (4, .int x1_4), (0, .ref (a 58)), (1, .int p0), (2, .int p1), (3, .int p2)]) hx hb dX7_stretch_89 hl (k := 0) rfl (by rw [ex_11]; rfl) (by decide) rfl (fun ls hl => ?_)
                  have hx_11 : x_11.toInt = x3_5.toInt + 1 := by rw [ex_11]; have := b_rg x3_5; exact i_add (a := x3_5.toInt) (b := 1) rfl rfl (by omega) (by omega)
                  refine lv_goto (tgt := 13) hx hb dX7_stretch_92 (by decide) ?_
                  exact ih3 x_11 r3 _ _ _ (by first | omega | (simp only [Int.toNat]; omega)) (by first | omega | decide) hRr hEr  hP hD hS (lv_sub hl [0, 1, 2, 3, 4, 5] rfl)
                · have c_10 : r_9.toInt ≠ (-1000000) := b_ne c_10
                  refine lv_aload_n hx hb dX7_stretch_44 rfl (lv_at hl 2 rfl) ?_
                  refine lv_iload hx hb dX7_stretch_45 (lv_at hl 1 rfl) ?_
                  refine lv_iload_n hx hb dX7_stretch_47 rfl (lv_at hl 3 rfl) ?_
                  refine vp_callSi (W.runV (As := [.int x1_4, .int p0]) (rest := []) ⟨hx, hb, hml, hown, hT⟩ (c_X7_gap l D cy a i r3 q tl x1_4 p0 hRi hRr (by first | omega | decide) (by first | omega | decide)) (cwV 2 hT (gV t_300 t_302 t_303 t_304 t_301) rfl rfl rfl (by decide +kernel) ⟨Nat.le_of_ble_eq_true rfl, Nat.le_of_ble_eq_true rfl⟩) (rP_v hP hK (va_recv hK hP (ci := 7) (q0 := 58) rfl rfl)) rfl rfl hl.1 rfl (lv_room (Nat.le_of_ble_eq_true rfl)) dX7_stretch_48 ⟨Nat.le_of_ble_eq_true rfl, Nat.le_of_ble_eq_true rfl⟩) (fun r_12 hr_12 => ?_)
                  refine lv_iload_n hx hb dX7_stretch_51 rfl (lv_at hl 5 rfl) ?_
                  refine lv_iadd hx hb dX7_stretch_52 ?_
                  refine lv_topi (fun v_13 ev_13 => ?_)
                  refine lv_aload_n hx hb dX7_stretch_53 rfl (lv_at hl 2 rfl) ?_
                  refine lv_iload_n hx hb dX7_stretch_54 rfl (lv_at hl 4 rfl) ?_
                  refine lv_iload hx hb dX7_stretch_55 (lv_at hl 0 rfl) ?_
                  refine vp_callSi (W.runV (As := [.int p1, .int x3_5]) (rest := [.int v_13]) ⟨hx, hb, hml, hown, hT⟩ (c_X7_gap l D cy a i r3 q tl p1 x3_5 hRi hRr (by first | omega | decide) (by first | omega | decide)) (cwV 2 hT (gV t_300 t_302 t_303 t_304 t_301) rfl rfl rfl (by decide +kernel) ⟨Nat.le_of_ble_eq_true rfl, Nat.le_of_ble_eq_true rfl⟩) (rP_v hP hK (va_recv hK hP (ci := 7) (q0 := 58) rfl rfl)) rfl rfl hl.1 rfl (lv_room (Nat.le_of_ble_eq_true rfl)) dX7_stretch_57 ⟨Nat.le_of_ble_eq_true rfl, Nat.le_of_ble_eq_true rfl⟩) (fun r_14 hr_14 => ?_)
                  refine lv_iadd hx hb dX7_stretch_60 ?_
                  refine lv_topi (fun v_15 ev_15 => ?_)
                  refine lv_istore (lv' := [(6, .int v_15), (5, .int x3_5), (4, .int x1_4), (0, .ref (a 58)), (1, .int p0), (2, .int p1), (3, .int p2)]) hx hb dX7_stretch_61 hl (by decide) rfl (fun ls hl => ?_)
                  refine lv_aload_n hx hb dX7_stretch_63 rfl (lv_at hl 3 rfl) ?_
                  refine va_get (D := D) (ci := 7) (v := .ref (a 60)) (C := RX7) (T := TX7) (N := 4) hx hb hT iX7 hown hK hP 58 rfl rfl 3 (by decide) (hT _ t_299) (fun _ h9 => h9) rfl dX7_stretch_64 ?_
                  refine lv_iload hx hb dX7_stretch_67 (lv_at hl 2 rfl) ?_
                  refine lv_bipush (v := 11) hx hb dX7_stretch_69 (by decide) ?_
                  refine lv_imul hx hb dX7_stretch_71 ?_
                  refine lv_topi (fun v_16 ev_16 => ?_)
                  have hv_16 : v_16.toInt = x1_4.toInt * 11 := by rw [ev_16]; have := b_rg x1_4; exact i_mul (a := x1_4.toInt) (b := 11) rfl rfl (by omega) (by omega)
                  refine lv_iload hx hb dX7_stretch_72 (lv_at hl 1 rfl) ?_
                  refine lv_iadd hx hb dX7_stretch_74 ?_
                  refine lv_topi (fun v_17 ev_17 => ?_)
                  have hv_17 : v_17.toInt = v_16.toInt + x3_5.toInt := by rw [ev_17]; have := b_rg v_16; have := b_rg x3_5; exact i_add (a := v_16.toInt) (b := x3_5.toInt) rfl rfl (by omega) (by omega)
                  refine lv_aload_n hx hb dX7_stretch_75 rfl (lv_at hl 3 rfl) ?_
                  refine lv_iload hx hb dX7_stretch_76 (lv_at hl 2 rfl) ?_
                  refine lv_iload hx hb dX7_stretch_78 (lv_at hl 1 rfl) ?_
                  refine vp_callSi (W.runV (As := [.int x1_4, .int x3_5]) (rest := [.int v_17, .ref (a 60)]) ⟨hx, hb, hml, hown, hT⟩ (c_X7_gap l D cy a i r3 q tl x1_4 x3_5 hRi hRr (by first | omega | decide) (by first | omega | decide)) (cwV 2 hT (gV t_300 t_302 t_303 t_304 t_301) rfl rfl rfl (by decide +kernel) ⟨Nat.le_of_ble_eq_true rfl, Nat.le_of_ble_eq_true rfl⟩) (rP_v hP hK (va_recv hK hP (ci := 7) (q0 := 58) rfl rfl)) rfl rfl hl.1 rfl (lv_room (Nat.le_of_ble_eq_true rfl)) dX7_stretch_80 ⟨Nat.le_of_ble_eq_true rfl, Nat.le_of_ble_eq_true rfl⟩) (fun r_18 hr_18 => ?_)
                  refine lv_iload hx hb dX7_stretch_83 (lv_at hl 0 rfl) ?_
                  refine va_mmax hx hb (by rw [hml]; exact hl.1.symm) hown (hT _ t_306) (hT _ t_307) (hT _ t_289) (hT _ t_308) (Nat.le_of_ble_eq_true rfl) (Nat.le_of_ble_eq_true rfl) (Nat.le_of_ble_eq_true rfl) (Nat.le_of_ble_eq_true rfl) dX7_stretch_85 ?_
                  refine lv_topi (fun v_19 ev_19 => ?_)
                  refine va_iast hx hb hK hP hD hS 60 0 rfl rfl (vp_inI (by omega) (by omega)) dX7_stretch_88 (fun H locs hP hD hS => ?_)
                  rw [zS60] at hP hD
                  have hRr : yRr (va_up r3 60 (upd (r3 60) v_17.toNatClampNeg v_19)) := Yr_upd hRr 60 (v_17.toNatClampNeg) v_19 (b_rg _)
                  have hEr : mEr [60] _ (va_up r3 60 (upd (r3 60) v_17.toNatClampNeg v_19)) := Er_up hEr 60 _ (by decide)
                  obtain ⟨x_20, ex_20⟩ : ∃ y : Int32, y = x3_5 + 1 := ⟨_, rfl⟩
                  refine lv_iinc (v := x_20) (lv' := [(5, .int x_20), (6, .int v_15), (4, .int x1_4), (0, .ref (a 58)), (1, .int p0), (2, .int p1), (3, .int p2)]) hx hb dX7_stretch_89 hl (k := 1) rfl (by rw [ex_20]; rfl) (by decide) rfl (fun ls hl => ?_)
                  have hx_20 : x_20.toInt = x3_5.toInt + 1 := by rw [ex_20]; have := b_rg x3_5; exact i_add (a := x3_5.toInt) (b := 1) rfl rfl (by omega) (by omega)
                  refine lv_goto (tgt := 13) hx hb dX7_stretch_92 (by decide) ?_
                  exact ih3 x_20 (va_up r3 60 (upd (r3 60) v_17.toNatClampNeg v_19)) _ _ _ (by first | omega | (simp only [Int.toNat]; omega)) (by first | omega | decide) hRr hEr  hP hD hS (lv_sub hl [0, 2, 3, 4, 5, 6] rfl)
        exact loop_3 _ 0 r1 _ _ _ (Nat.lt_succ_self _) (by first | omega | decide) hRr hEr  hP hD hS hl
  exact loop_1 _ 0 r _ _ _ (Nat.lt_succ_self _) (by first | omega | decide) hRr hEr  hP hD hS hl
set_option maxHeartbeats 4000000 in
set_option maxRecDepth 100000 in
theorem c_X7_add (l : Launch) (D : va_G) (cy : Nat → ClassId) (a : Nat → Nat) (i : Nat → Int32) (r : Nat → Nat → Int32) (q : Nat → Option Nat) (tl : va_W) (p0 p1 p2 : Int32) (sz : Nat) (hRi : yRi i) (hRr : yRr r) (q0 : 0 ≤ p0.toInt ∧ p0.toInt ≤ 10) (q1 : 0 ≤ p1.toInt ∧ p1.toInt ≤ 10) : Met l yX7_add (Cond.code yX7_add cX7_add 5 (some .int) :: gT) { frames := 3, cells := 0, slots := 0, locals := 72 } (va_Pc [.ref (a 58), .int p0, .int p1, .int p2] (rQ D cy (xW cy a i r q (a 20) (a 12) ++ tl) sz)) (va_Qi (fun (z : Int32) (u : (Nat → Int32) × (Nat → Nat → Int32)) => yRi u.1 ∧ yRr u.2 ∧ mEi [15, 16] i u.1 ∧ mEr [59, 60] r u.2 ∧ True) (fun (u : (Nat → Int32) × (Nat → Nat → Int32)) t => va_P D vwCl (xW cy a u.1 u.2 q (a 20) (a 12) ++ tl) t.heap ∧ va_K D vwCl (vT cy) t ∧ va_D (va_A (xW cy a i r q (a 20) (a 12) ++ tl) sz) (xW cy a u.1 u.2 q (a 20) (a 12) ++ tl)) (va_A (xW cy a i r q (a 20) (a 12) ++ tl) sz)) 0 0 (va_A (xW cy a i r q (a 20) (a 12) ++ tl) sz) := by
  refine Met.ofQ (cc := cX7_add) (maxL := 5) (ret := (some .int)) (by decide) rfl ?_
  intro p e s m args below meth c s₁ B hml hv Q hQ
  obtain ⟨rfl, hsz, hP, hK, hD0⟩ := hv
  have hx := B.exec
  have hb := B.bytes
  have hr := B.returns
  have hlocks := B.notSynchronized
  have hT : ∀ w ∈ gT, w.before _ s = true := fun w h => atoms_spec (ws := (Cond.code yX7_add cX7_add 5 (some .int) :: gT)) B.pre w (List.mem_cons_of_mem _ h)
  have hown : s.vm.findClass RX7 = some m.cls := findClass_of_methodNamed B.named
  subst hsz
  have hD := hD0.self (sz := s.heap.size)
  generalize hAe : va_A (xW cy a i r q (a 20) (a 12) ++ tl) s.heap.size = A at hD hQ
  have hA : ∀ q : Nat, s.heap.size ≤ q → A q := fun q h => by rw [← hAe]; exact Or.inr h
  have hS : va_S A s.heap s.heap [] := va_S.rf
  have hl := lv_entry ([.ref (a 58), .int p0, .int p1, .int p2]) (n := 5) (Nat.le_of_ble_eq_true rfl)
  rw [lg_entry_eq]
  generalize (lg_sl ([.ref (a 58), .int p0, .int p1, .int p2]) ++ List.replicate (5 - (lg_sl ([.ref (a 58), .int p0, .int p1, .int p2])).length) Slot.unset).toArray = ls at hl ⊢
  have hl : lv_has ls 5 [(0, .ref (a 58)), (1, .int p0), (2, .int p1), (3, .int p2)] := hl
  have hEi : mEi [15, 16] i i := Ei_rf
  have hEr : mEr [59, 60] r r := Er_rf
  refine lv_aload_n hx hb dX7_add_0 rfl (lv_at hl 0 rfl) ?_
  refine va_get (D := D) (ci := 7) (v := .int (i 15)) (C := RX7) (T := TX7) (N := 4) hx hb hT iX7 hown hK hP 58 rfl rfl 0 (by decide) (hT _ t_309) (fun _ h9 => h9) rfl dX7_add_1 ?_
  have hg_1 : 0 ≤ (i 15).toInt ∧ (i 15).toInt ≤ 30 := hRi 15
  refine lv_bipush (v := 30) hx hb dX7_add_4 (by decide) ?_
  refine lv_icmp_ge (tgt := 18) hx hb dX7_add_6 (by decide) (fun c_2 => ?_) (fun c_2 => ?_)
  · have c_2 : 30 ≤ (i 15).toInt := b_le c_2
    refine lv_iconst (v := (-1)) hx hb dX7_add_18 (by decide) ?_
    subst hQ
    exact W.iret (v := (-1)) hx hb hr (fun t ht hW => ⟨⟨_, (i, r), rfl, ⟨hRi, hRr, hEi, hEr, trivial⟩, by rw [ht]; exact hP, va_K.moved hW.alike hK, hD⟩, hS.F ht⟩) hS.2.2 dX7_add_19
  · have c_2 : (i 15).toInt < 30 := b_nle c_2
    refine lv_aload_n hx hb dX7_add_9 rfl (lv_at hl 0 rfl) ?_
    refine va_get (D := D) (ci := 7) (v := .int (i 16)) (C := RX7) (T := TX7) (N := 4) hx hb hT iX7 hown hK hP 58 rfl rfl 1 (by decide) (hT _ t_310) (fun _ h9 => h9) rfl dX7_add_10 ?_
    have hg_3 : 0 ≤ (i 16).toInt ∧ (i 16).toInt ≤ 30 := hRi 16
    refine lv_bipush (v := 30) hx hb dX7_add_13 (by decide) ?_
    refine lv_icmp_lt (tgt := 20) hx hb dX7_add_15 (by decide) (fun c_4 => ?_) (fun c_4 => ?_)
    · have c_4 : (i 16).toInt < 30 := b_lt c_4
      refine lv_aload_n hx hb dX7_add_20 rfl (lv_at hl 0 rfl) ?_
      refine lv_iload_n hx hb dX7_add_21 rfl (lv_at hl 2 rfl) ?_
      refine lv_iload_n hx hb dX7_add_22 rfl (lv_at hl 1 rfl) ?_
      refine vp_callSi (W.runV (As := [.int p1, .int p0]) (rest := []) ⟨hx, hb, hml, hown, hT⟩ (c_X7_gap l D cy a i r q tl p1 p0 hRi hRr (by first | omega | decide) (by first | omega | decide)) (cwV 2 hT (gV t_300 t_302 t_303 t_304 t_301) rfl rfl rfl (by decide +kernel) ⟨Nat.le_of_ble_eq_true rfl, Nat.le_of_ble_eq_true rfl⟩) (rP_v hP hK (va_recv hK hP (ci := 7) (q0 := 58) rfl rfl)) rfl rfl hl.1 rfl (lv_room (Nat.le_of_ble_eq_true rfl)) dX7_add_23 ⟨Nat.le_of_ble_eq_true rfl, Nat.le_of_ble_eq_true rfl⟩) (fun r_5 hr_5 => ?_)
      refine lv_istore (lv' := [(4, .int r_5), (0, .ref (a 58)), (1, .int p0), (2, .int p1), (3, .int p2)]) hx hb dX7_add_26 hl (by decide) rfl (fun ls hl => ?_)
      refine lv_iload hx hb dX7_add_28 (lv_at hl 0 rfl) ?_
      refine lv_ldc (v := (-1000000)) hx hb hown (hT _ t_305) dX7_add_30 ?_
      refine lv_icmp_eq (tgt := 68) hx hb dX7_add_32 (by decide) (fun c_6 => ?_) (fun c_6 => ?_)
      · have c_6 : r_5.toInt = (-1000000) := b_eq c_6
        refine lv_aload_n hx hb dX7_add_68 rfl (lv_at hl 1 rfl) ?_
        refine lv_iload_n hx hb dX7_add_69 rfl (lv_at hl 2 rfl) ?_
        refine lv_iload_n hx hb dX7_add_70 rfl (lv_at hl 3 rfl) ?_
        refine lv_iload_n hx hb dX7_add_71 rfl (lv_at hl 4 rfl) ?_
        have hF_7 := rF hD hS hA
        refine va_callv (va_runV (As := [.int p0, .int p1, .int p2]) (rest := []) ⟨hx, hb, hml, hown, hT⟩ (c_X7_stretch l D cy a i r q tl p0 p1 p2 _ hRi hRr (by first | omega | decide) (by first | omega | decide)) (cwV 3 hT (gV t_311 t_312 t_313 t_314 t_301) rfl rfl rfl (by decide +kernel) ⟨Nat.le_of_ble_eq_true rfl, Nat.le_of_ble_eq_true rfl⟩) (rQ_v hP hK hD (va_recv hK hP (ci := 7) (q0 := 58) rfl rfl)) rfl rfl hl.1 rfl (lv_room (Nat.le_of_ble_eq_true rfl)) dX7_add_72 ⟨Nat.le_of_ble_eq_true rfl, Nat.le_of_ble_eq_true rfl⟩) hS (fun q _ h => hF_7 q h) hF_7 (fun u_9 t H1 locs ht hvm hr_8 hB hz1 hk1 hS => ?_)
        obtain ⟨r9, rfl⟩ : ∃ z, z = u_9 := ⟨_, rfl⟩
        obtain ⟨hP, hK1, hD1⟩ := hB
        rw [ht] at hP
        have hD := hD1.weaken (fun k q _ h => hF_7 q.1 h)
        obtain ⟨hRr, hE2, hr_8⟩ := hr_8
        have hRr : yRr r9 := hRr
        have hE2 : mEr [60] r r9 := hE2
        have hP : va_P D vwCl (xW cy a i r9 q (a 20) (a 12) ++ tl) H1 := hP
        have hD : va_D A (xW cy a i r9 q (a 20) (a 12) ++ tl) := hD
        have hEr : mEr [59, 60] _ r9 := Er_tr hEr hE2 (by decide)
        refine lv_aload_n hx hb dX7_add_75 rfl (lv_at hl 1 rfl) ?_
        refine lv_dup hx hb dX7_add_76 rfl ?_
        refine va_get (D := D) (ci := 7) (v := .int (i 15)) (C := RX7) (T := TX7) (N := 4) hx hb hT iX7 hown hK hP 58 rfl rfl 0 (by decide) (hT _ t_309) (fun _ h9 => h9) rfl dX7_add_77 ?_
        refine lv_iconst (v := 1) hx hb dX7_add_80 (by decide) ?_
        refine lv_iadd hx hb dX7_add_81 ?_
        refine lv_topi (fun v_10 ev_10 => ?_)
        have hv_10 : v_10.toInt = (i 15).toInt + 1 := by rw [ev_10]; have := b_rg (i 15); exact i_add (a := (i 15).toInt) (b := 1) rfl rfl (by omega) (by omega)
        refine va_put (D := D) (ci := 7) (v := .int v_10) (ty := .int) (C := RX7) (T := TX7) (N := 4) hx hb hT iX7 tyX7 tyX7_ok nmX7 hown hK hP hD hS 58 rfl rfl 0 (by decide) (hT _ t_309) (fun _ h9 => h9) rfl (by decide +kernel) rfl rfl (Nat.le_of_ble_eq_true rfl) dX7_add_82 (fun H locs hP hD hS => ?_)
        rw [zP15] at hP hD
        have hRi := Yi_upd hRi 15 v_10 ⟨by show (0 : Int) ≤ v_10.toInt; omega, by show v_10.toInt ≤ (30 : Int); omega⟩
        have hEi := Ei_upd hEi 15 v_10 (by decide)
        refine lv_aload_n hx hb dX7_add_85 rfl (lv_at hl 1 rfl) ?_
        refine va_get (D := D) (ci := 7) (v := .int v_10) (C := RX7) (T := TX7) (N := 4) hx hb hT iX7 hown hK hP 58 rfl rfl 0 (by decide) (hT _ t_309) (fun _ h9 => h9) rfl dX7_add_86 ?_
        subst hQ
        exact W.iret (v := v_10) hx hb hr (fun t ht hW => ⟨⟨_, (upd i 15 v_10, r9), rfl, ⟨hRi, hRr, hEi, hEr, trivial⟩, by rw [ht]; exact hP, va_K.moved hW.alike hK, hD⟩, hS.F ht⟩) hS.2.2 dX7_add_89
      · have c_6 : r_5.toInt ≠ (-1000000) := b_ne c_6
        refine lv_iload hx hb dX7_add_35 (lv_at hl 0 rfl) ?_
        refine lv_iload_n hx hb dX7_add_37 rfl (lv_at hl 4 rfl) ?_
        refine lv_iadd hx hb dX7_add_38 ?_
        refine lv_topi (fun v_11 ev_11 => ?_)
        refine lv_if_le (tgt := 68) hx hb dX7_add_39 (by decide) (fun c_12 => ?_) (fun c_12 => ?_)
        · have c_12 : v_11.toInt ≤ 0 := b_le c_12
          refine lv_aload_n hx hb dX7_add_68 rfl (lv_at hl 1 rfl) ?_
          refine lv_iload_n hx hb dX7_add_69 rfl (lv_at hl 2 rfl) ?_
          refine lv_iload_n hx hb dX7_add_70 rfl (lv_at hl 3 rfl) ?_
          refine lv_iload_n hx hb dX7_add_71 rfl (lv_at hl 4 rfl) ?_
          have hF_13 := rF hD hS hA
          refine va_callv (va_runV (As := [.int p0, .int p1, .int p2]) (rest := []) ⟨hx, hb, hml, hown, hT⟩ (c_X7_stretch l D cy a i r q tl p0 p1 p2 _ hRi hRr (by first | omega | decide) (by first | omega | decide)) (cwV 3 hT (gV t_311 t_312 t_313 t_314 t_301) rfl rfl rfl (by decide +kernel) ⟨Nat.le_of_ble_eq_true rfl, Nat.le_of_ble_eq_true rfl⟩) (rQ_v hP hK hD (va_recv hK hP (ci := 7) (q0 := 58) rfl rfl)) rfl rfl hl.1 rfl (lv_room (Nat.le_of_ble_eq_true rfl)) dX7_add_72 ⟨Nat.le_of_ble_eq_true rfl, Nat.le_of_ble_eq_true rfl⟩) hS (fun q _ h => hF_13 q h) hF_13 (fun u_15 t H1 locs ht hvm hr_14 hB hz1 hk1 hS => ?_)
          obtain ⟨r15, rfl⟩ : ∃ z, z = u_15 := ⟨_, rfl⟩
          obtain ⟨hP, hK1, hD1⟩ := hB
          rw [ht] at hP
          have hD := hD1.weaken (fun k q _ h => hF_13 q.1 h)
          obtain ⟨hRr, hE2, hr_14⟩ := hr_14
          have hRr : yRr r15 := hRr
          have hE2 : mEr [60] r r15 := hE2
          have hP : va_P D vwCl (xW cy a i r15 q (a 20) (a 12) ++ tl) H1 := hP
          have hD : va_D A (xW cy a i r15 q (a 20) (a 12) ++ tl) := hD
          have hEr : mEr [59, 60] _ r15 := Er_tr hEr hE2 (by decide)
          refine lv_aload_n hx hb dX7_add_75 rfl (lv_at hl 1 rfl) ?_
          refine lv_dup hx hb dX7_add_76 rfl ?_
          refine va_get (D := D) (ci := 7) (v := .int (i 15)) (C := RX7) (T := TX7) (N := 4) hx hb hT iX7 hown hK hP 58 rfl rfl 0 (by decide) (hT _ t_309) (fun _ h9 => h9) rfl dX7_add_77 ?_
          refine lv_iconst (v := 1) hx hb dX7_add_80 (by decide) ?_
          refine lv_iadd hx hb dX7_add_81 ?_
          refine lv_topi (fun v_16 ev_16 => ?_)
          have hv_16 : v_16.toInt = (i 15).toInt + 1 := by rw [ev_16]; have := b_rg (i 15); exact i_add (a := (i 15).toInt) (b := 1) rfl rfl (by omega) (by omega)
          refine va_put (D := D) (ci := 7) (v := .int v_16) (ty := .int) (C := RX7) (T := TX7) (N := 4) hx hb hT iX7 tyX7 tyX7_ok nmX7 hown hK hP hD hS 58 rfl rfl 0 (by decide) (hT _ t_309) (fun _ h9 => h9) rfl (by decide +kernel) rfl rfl (Nat.le_of_ble_eq_true rfl) dX7_add_82 (fun H locs hP hD hS => ?_)
          rw [zP15] at hP hD
          have hRi := Yi_upd hRi 15 v_16 ⟨by show (0 : Int) ≤ v_16.toInt; omega, by show v_16.toInt ≤ (30 : Int); omega⟩
          have hEi := Ei_upd hEi 15 v_16 (by decide)
          refine lv_aload_n hx hb dX7_add_85 rfl (lv_at hl 1 rfl) ?_
          refine va_get (D := D) (ci := 7) (v := .int v_16) (C := RX7) (T := TX7) (N := 4) hx hb hT iX7 hown hK hP 58 rfl rfl 0 (by decide) (hT _ t_309) (fun _ h9 => h9) rfl dX7_add_86 ?_
          subst hQ
          exact W.iret (v := v_16) hx hb hr (fun t ht hW => ⟨⟨_, (upd i 15 v_16, r15), rfl, ⟨hRi, hRr, hEi, hEr, trivial⟩, by rw [ht]; exact hP, va_K.moved hW.alike hK, hD⟩, hS.F ht⟩) hS.2.2 dX7_add_89
        · have c_12 : 0 < v_11.toInt := b_nle c_12
          refine lv_aload_n hx hb dX7_add_42 rfl (lv_at hl 1 rfl) ?_
          refine va_get (D := D) (ci := 7) (v := .ref (a 59)) (C := RX7) (T := TX7) (N := 4) hx hb hT iX7 hown hK hP 58 rfl rfl 2 (by decide) (hT _ t_315) (fun _ h9 => h9) rfl dX7_add_43 ?_
          refine lv_aload_n hx hb dX7_add_46 rfl (lv_at hl 1 rfl) ?_
          refine va_get (D := D) (ci := 7) (v := .int (i 16)) (C := RX7) (T := TX7) (N := 4) hx hb hT iX7 hown hK hP 58 rfl rfl 1 (by decide) (hT _ t_310) (fun _ h9 => h9) rfl dX7_add_47 ?_
          refine lv_aload_n hx hb dX7_add_50 rfl (lv_at hl 1 rfl) ?_
          refine va_get (D := D) (ci := 7) (v := .int (i 15)) (C := RX7) (T := TX7) (N := 4) hx hb hT iX7 hown hK hP 58 rfl rfl 0 (by decide) (hT _ t_309) (fun _ h9 => h9) rfl dX7_add_51 ?_
          refine va_iast hx hb hK hP hD hS 59 0 rfl rfl (vp_inI (by omega) (by omega)) dX7_add_54 (fun H locs hP hD hS => ?_)
          rw [zS59] at hP hD
          have hRr : yRr (va_up r 59 (upd (r 59) ((i 16).toNatClampNeg) (i 15))) := Yr_upd hRr 59 ((i 16).toNatClampNeg) (i 15) ⟨by show (0 : Int) ≤ (i 15).toInt; omega, by show (i 15).toInt ≤ (29 : Int); omega⟩
          have hEr : mEr [59, 60] _ (va_up r 59 (upd (r 59) ((i 16).toNatClampNeg) (i 15))) := Er_up hEr 59 _ (by decide)
          refine lv_aload_n hx hb dX7_add_55 rfl (lv_at hl 1 rfl) ?_
          refine lv_dup hx hb dX7_add_56 rfl ?_
          refine va_get (D := D) (ci := 7) (v := .int (i 16)) (C := RX7) (T := TX7) (N := 4) hx hb hT iX7 hown hK hP 58 rfl rfl 1 (by decide) (hT _ t_310) (fun _ h9 => h9) rfl dX7_add_57 ?_
          refine lv_iconst (v := 1) hx hb dX7_add_60 (by decide) ?_
          refine lv_iadd hx hb dX7_add_61 ?_
          refine lv_topi (fun v_17 ev_17 => ?_)
          have hv_17 : v_17.toInt = (i 16).toInt + 1 := by rw [ev_17]; have := b_rg (i 16); exact i_add (a := (i 16).toInt) (b := 1) rfl rfl (by omega) (by omega)
          refine va_put (D := D) (ci := 7) (v := .int v_17) (ty := .int) (C := RX7) (T := TX7) (N := 4) hx hb hT iX7 tyX7 tyX7_ok nmX7 hown hK hP hD hS 58 rfl rfl 1 (by decide) (hT _ t_310) (fun _ h9 => h9) rfl (by decide +kernel) rfl rfl (Nat.le_of_ble_eq_true rfl) dX7_add_62 (fun H locs hP hD hS => ?_)
          rw [zP16] at hP hD
          have hRi := Yi_upd hRi 16 v_17 ⟨by show (0 : Int) ≤ v_17.toInt; omega, by show v_17.toInt ≤ (30 : Int); omega⟩
          have hEi := Ei_upd hEi 16 v_17 (by decide)
          refine lv_goto (tgt := 75) hx hb dX7_add_65 (by decide) ?_
          refine lv_aload_n hx hb dX7_add_75 rfl (lv_at hl 1 rfl) ?_
          refine lv_dup hx hb dX7_add_76 rfl ?_
          refine va_get (D := D) (ci := 7) (v := .int (i 15)) (C := RX7) (T := TX7) (N := 4) hx hb hT iX7 hown hK hP 58 rfl rfl 0 (by decide) (hT _ t_309) (fun _ h9 => h9) rfl dX7_add_77 ?_
          refine lv_iconst (v := 1) hx hb dX7_add_80 (by decide) ?_
          refine lv_iadd hx hb dX7_add_81 ?_
          refine lv_topi (fun v_18 ev_18 => ?_)
          have hv_18 : v_18.toInt = (i 15).toInt + 1 := by rw [ev_18]; have := b_rg (i 15); exact i_add (a := (i 15).toInt) (b := 1) rfl rfl (by omega) (by omega)
          refine va_put (D := D) (ci := 7) (v := .int v_18) (ty := .int) (C := RX7) (T := TX7) (N := 4) hx hb hT iX7 tyX7 tyX7_ok nmX7 hown hK hP hD hS 58 rfl rfl 0 (by decide) (hT _ t_309) (fun _ h9 => h9) rfl (by decide +kernel) rfl rfl (Nat.le_of_ble_eq_true rfl) dX7_add_82 (fun H locs hP hD hS => ?_)
          rw [zP15] at hP hD
          have hRi := Yi_upd hRi 15 v_18 ⟨by show (0 : Int) ≤ v_18.toInt; omega, by show v_18.toInt ≤ (30 : Int); omega⟩
          have hEi := Ei_upd hEi 15 v_18 (by decide)
          refine lv_aload_n hx hb dX7_add_85 rfl (lv_at hl 1 rfl) ?_
          refine va_get (D := D) (ci := 7) (v := .int v_18) (C := RX7) (T := TX7) (N := 4) hx hb hT iX7 hown hK hP 58 rfl rfl 0 (by decide) (hT _ t_309) (fun _ h9 => h9) rfl dX7_add_86 ?_
          subst hQ
          exact W.iret (v := v_18) hx hb hr (fun t ht hW => ⟨⟨_, (upd (upd i 16 v_17) 15 v_18, va_up r 59 (upd (r 59) ((i 16).toNatClampNeg) (i 15))), rfl, ⟨hRi, hRr, hEi, hEr, trivial⟩, by rw [ht]; exact hP, va_K.moved hW.alike hK, hD⟩, hS.F ht⟩) hS.2.2 dX7_add_89
    · have c_4 : 30 ≤ (i 16).toInt := b_nlt c_4
      refine lv_iconst (v := (-1)) hx hb dX7_add_18 (by decide) ?_
      subst hQ
      exact W.iret (v := (-1)) hx hb hr (fun t ht hW => ⟨⟨_, (i, r), rfl, ⟨hRi, hRr, hEi, hEr, trivial⟩, by rw [ht]; exact hP, va_K.moved hW.alike hK, hD⟩, hS.F ht⟩) hS.2.2 dX7_add_19
set_option maxHeartbeats 4000000 in
set_option maxRecDepth 100000 in
theorem c_X11_fact (l : Launch) (D : va_G) (cy : Nat → ClassId) (a : Nat → Nat) (i : Nat → Int32) (r : Nat → Nat → Int32) (q : Nat → Option Nat) (tl : va_W) (p0 p1 p2 : Int32) (sz : Nat) (hRi : yRi i) (hRr : yRr r) : Met l yX11_fact (Cond.code yX11_fact cX11_fact 4 (some .int) :: gT) { frames := 4, cells := 0, slots := 0, locals := 96 } (va_Pc [.ref (a 0), .int p0, .int p1, .int p2] (rQ D cy (xW cy a i r q (a 20) (a 12) ++ tl) sz)) (va_Qi (fun (z : Int32) (u : (Nat → Int32) × (Nat → Nat → Int32)) => yRi u.1 ∧ yRr u.2 ∧ mEi [15, 16] i u.1 ∧ mEr [59, 60] r u.2 ∧ True) (fun (u : (Nat → Int32) × (Nat → Nat → Int32)) t => va_P D vwCl (xW cy a u.1 u.2 q (a 20) (a 12) ++ tl) t.heap ∧ va_K D vwCl (vT cy) t ∧ va_D (va_A (xW cy a i r q (a 20) (a 12) ++ tl) sz) (xW cy a u.1 u.2 q (a 20) (a 12) ++ tl)) (va_A (xW cy a i r q (a 20) (a 12) ++ tl) sz)) 0 0 (va_A (xW cy a i r q (a 20) (a 12) ++ tl) sz) := by
  refine Met.ofQ (cc := cX11_fact) (maxL := 4) (ret := (some .int)) (by decide) rfl ?_
  intro p e s m args below meth c s₁ B hml hv Q hQ
  obtain ⟨rfl, hsz, hP, hK, hD0⟩ := hv
  have hx := B.exec
  have hb := B.bytes
  have hr := B.returns
  have hlocks := B.notSynchronized
  have hT : ∀ w ∈ gT, w.before _ s = true := fun w h => atoms_spec (ws := (Cond.code yX11_fact cX11_fact 4 (some .int) :: gT)) B.pre w (List.mem_cons_of_mem _ h)
  have hown : s.vm.findClass RX11 = some m.cls := findClass_of_methodNamed B.named
  subst hsz
  have hD := hD0.self (sz := s.heap.size)
  generalize hAe : va_A (xW cy a i r q (a 20) (a 12) ++ tl) s.heap.size = A at hD hQ
  have hA : ∀ q : Nat, s.heap.size ≤ q → A q := fun q h => by rw [← hAe]; exact Or.inr h
  have hS : va_S A s.heap s.heap [] := va_S.rf
  have hl := lv_entry ([.ref (a 0), .int p0, .int p1, .int p2]) (n := 4) (Nat.le_of_ble_eq_true rfl)
  rw [lg_entry_eq]
  generalize (lg_sl ([.ref (a 0), .int p0, .int p1, .int p2]) ++ List.replicate (4 - (lg_sl ([.ref (a 0), .int p0, .int p1, .int p2])).length) Slot.unset).toArray = ls at hl ⊢
  have hl : lv_has ls 4 [(0, .ref (a 0)), (1, .int p0), (2, .int p1), (3, .int p2)] := hl
  have hEi : mEi [15, 16] i i := Ei_rf
  have hEr : mEr [59, 60] r r := Er_rf
  refine lv_iload_n hx hb dX11_fact_0 rfl (lv_at hl 1 rfl) ?_
  refine lv_iconst (v := 0) hx hb dX11_fact_1 (by decide) ?_
  refine lv_bipush (v := 10) hx hb dX11_fact_2 (by decide) ?_
  refine vp_callSi (W.runS (As := [.int p0, .int 0, .int 10]) (rest := []) ⟨hx, hb, hml, hown, hT⟩ (c_X11_within l p0 0 10) (va_cwS 3 hT (gS t_1 t_3 t_4 t_2) rfl rfl rfl (by decide +kernel) ⟨Nat.le_of_ble_eq_true rfl, Nat.le_of_ble_eq_true rfl⟩) preT rfl rfl hl.1 rfl (lv_room (Nat.le_of_ble_eq_true rfl)) dX11_fact_4 ⟨Nat.le_of_ble_eq_true rfl, Nat.le_of_ble_eq_true rfl⟩) (fun r_1 hr_1 => ?_)
  have hr_1 : BR r_1 (0 ≤ p0.toInt ∧ p0.toInt ≤ 10) 1 0 := hr_1
  rcases hr_1 with ⟨rfl, h_2⟩ | ⟨rfl, h_2⟩
  · skip
    refine lv_if_eq (tgt := 38) hx hb dX11_fact_7 (by decide) (fun c_3 => absurd c_3 (by decide)) (fun c_3 => ?_)
    refine lv_iload_n hx hb dX11_fact_10 rfl (lv_at hl 2 rfl) ?_
    refine lv_iconst (v := 0) hx hb dX11_fact_11 (by decide) ?_
    refine lv_bipush (v := 10) hx hb dX11_fact_12 (by decide) ?_
    refine vp_callSi (W.runS (As := [.int p1, .int 0, .int 10]) (rest := []) ⟨hx, hb, hml, hown, hT⟩ (c_X11_within l p1 0 10) (va_cwS 3 hT (gS t_1 t_3 t_4 t_2) rfl rfl rfl (by decide +kernel) ⟨Nat.le_of_ble_eq_true rfl, Nat.le_of_ble_eq_true rfl⟩) preT rfl rfl hl.1 rfl (lv_room (Nat.le_of_ble_eq_true rfl)) dX11_fact_14 ⟨Nat.le_of_ble_eq_true rfl, Nat.le_of_ble_eq_true rfl⟩) (fun r_4 hr_4 => ?_)
    have hr_4 : BR r_4 (0 ≤ p1.toInt ∧ p1.toInt ≤ 10) 1 0 := hr_4
    rcases hr_4 with ⟨rfl, h_5⟩ | ⟨rfl, h_5⟩
    · skip
      refine lv_if_eq (tgt := 38) hx hb dX11_fact_17 (by decide) (fun c_6 => absurd c_6 (by decide)) (fun c_6 => ?_)
      refine lv_iload_n hx hb dX11_fact_20 rfl (lv_at hl 1 rfl) ?_
      refine lv_iload_n hx hb dX11_fact_21 rfl (lv_at hl 2 rfl) ?_
      refine lv_icmp_eq (tgt := 38) hx hb dX11_fact_22 (by decide) (fun c_7 => ?_) (fun c_7 => ?_)
      · have c_7 : p0.toInt = p1.toInt := b_eq c_7
        refine lv_iconst (v := (-1)) hx hb dX11_fact_38 (by decide) ?_
        subst hQ
        exact W.iret (v := (-1)) hx hb hr (fun t ht hW => ⟨⟨_, (i, r), rfl, ⟨hRi, hRr, hEi, hEr, trivial⟩, by rw [ht]; exact hP, va_K.moved hW.alike hK, hD⟩, hS.F ht⟩) hS.2.2 dX11_fact_39
      · have c_7 : p0.toInt ≠ p1.toInt := b_ne c_7
        refine lv_iload_n hx hb dX11_fact_25 rfl (lv_at hl 3 rfl) ?_
        refine lv_sipush (v := (-999)) hx hb dX11_fact_26 (by decide) ?_
        refine lv_sipush (v := 999) hx hb dX11_fact_29 (by decide) ?_
        refine vp_callSi (W.runS (As := [.int p2, .int (-999), .int 999]) (rest := []) ⟨hx, hb, hml, hown, hT⟩ (c_X11_within l p2 (-999) 999) (va_cwS 3 hT (gS t_1 t_3 t_4 t_2) rfl rfl rfl (by decide +kernel) ⟨Nat.le_of_ble_eq_true rfl, Nat.le_of_ble_eq_true rfl⟩) preT rfl rfl hl.1 rfl (lv_room (Nat.le_of_ble_eq_true rfl)) dX11_fact_32 ⟨Nat.le_of_ble_eq_true rfl, Nat.le_of_ble_eq_true rfl⟩) (fun r_8 hr_8 => ?_)
        have hr_8 : BR r_8 ((-999) ≤ p2.toInt ∧ p2.toInt ≤ 999) 1 0 := hr_8
        rcases hr_8 with ⟨rfl, h_9⟩ | ⟨rfl, h_9⟩
        · skip
          refine lv_if_ne (tgt := 40) hx hb dX11_fact_35 (by decide) (fun c_10 => ?_) (fun c_10 => absurd c_10 (by decide))
          refine lv_aload_n hx hb dX11_fact_40 rfl (lv_at hl 0 rfl) ?_
          refine va_get (D := D) (ci := 11) (v := .ref (a 58)) (C := RX11) (T := TX11) (N := 14) hx hb hT iX11 hown hK hP 0 rfl rfl 13 (by decide) (hT _ t_316) (fun _ h9 => h9) rfl dX11_fact_41 ?_
          refine lv_iload_n hx hb dX11_fact_44 rfl (lv_at hl 1 rfl) ?_
          refine lv_iload_n hx hb dX11_fact_45 rfl (lv_at hl 2 rfl) ?_
          refine lv_iload_n hx hb dX11_fact_46 rfl (lv_at hl 3 rfl) ?_
          have hF_11 := rF hD hS hA
          refine va_calli (va_runV (As := [.int p0, .int p1, .int p2]) (rest := []) ⟨hx, hb, hml, hown, hT⟩ (c_X7_add l D cy a i r q tl p0 p1 p2 _ hRi hRr (by first | omega | decide) (by first | omega | decide)) (cwV 3 hT (gV t_317 t_318 t_319 t_320 t_301) rfl rfl rfl (by decide +kernel) ⟨Nat.le_of_ble_eq_true rfl, Nat.le_of_ble_eq_true rfl⟩) (rQ_v hP hK hD (va_recv hK hP (ci := 7) (q0 := 58) rfl rfl)) rfl rfl hl.1 rfl (lv_room (Nat.le_of_ble_eq_true rfl)) dX11_fact_47 ⟨Nat.le_of_ble_eq_true rfl, Nat.le_of_ble_eq_true rfl⟩) hS (fun q _ h => hF_11 q h) hF_11 (fun r_12 u_13 t H1 locs ht hvm hr_12 hB hz1 hk1 hS => ?_)
          obtain ⟨i13, r13⟩ := u_13
          obtain ⟨hP, hK1, hD1⟩ := hB
          rw [ht] at hP
          have hD := hD1.weaken (fun k q _ h => hF_11 q.1 h)
          obtain ⟨hRi, hRr, hE1, hE2, hr_12⟩ := hr_12
          have hRi : yRi i13 := hRi
          have hE1 : mEi [15, 16] i i13 := hE1
          have hRr : yRr r13 := hRr
          have hE2 : mEr [59, 60] r r13 := hE2
          have hP : va_P D vwCl (xW cy a i13 r13 q (a 20) (a 12) ++ tl) H1 := hP
          have hD : va_D A (xW cy a i13 r13 q (a 20) (a 12) ++ tl) := hD
          have hEi : mEi [15, 16] _ i13 := Ei_tr hEi hE1 (by decide)
          have hEr : mEr [59, 60] _ r13 := Er_tr hEr hE2 (by decide)
          subst hQ
          exact W.iret (v := r_12) hx hb hr (fun t ht hW => ⟨⟨_, (i13, r13), rfl, ⟨hRi, hRr, hEi, hEr, trivial⟩, by rw [ht]; exact hP, va_K.moved hW.alike hK, hD⟩, hS.F ht⟩) hS.2.2 dX11_fact_50
        · skip
          refine lv_if_ne (tgt := 40) hx hb dX11_fact_35 (by decide) (fun c_14 => absurd (by decide) c_14) (fun c_14 => ?_)
          refine lv_iconst (v := (-1)) hx hb dX11_fact_38 (by decide) ?_
          subst hQ
          exact W.iret (v := (-1)) hx hb hr (fun t ht hW => ⟨⟨_, (i, r), rfl, ⟨hRi, hRr, hEi, hEr, trivial⟩, by rw [ht]; exact hP, va_K.moved hW.alike hK, hD⟩, hS.F ht⟩) hS.2.2 dX11_fact_39
    · skip
      refine lv_if_eq (tgt := 38) hx hb dX11_fact_17 (by decide) (fun c_15 => ?_) (fun c_15 => absurd (by decide) c_15)
      refine lv_iconst (v := (-1)) hx hb dX11_fact_38 (by decide) ?_
      subst hQ
      exact W.iret (v := (-1)) hx hb hr (fun t ht hW => ⟨⟨_, (i, r), rfl, ⟨hRi, hRr, hEi, hEr, trivial⟩, by rw [ht]; exact hP, va_K.moved hW.alike hK, hD⟩, hS.F ht⟩) hS.2.2 dX11_fact_39
  · skip
    refine lv_if_eq (tgt := 38) hx hb dX11_fact_7 (by decide) (fun c_16 => ?_) (fun c_16 => absurd (by decide) c_16)
    refine lv_iconst (v := (-1)) hx hb dX11_fact_38 (by decide) ?_
    subst hQ
    exact W.iret (v := (-1)) hx hb hr (fun t ht hW => ⟨⟨_, (i, r), rfl, ⟨hRi, hRr, hEi, hEr, trivial⟩, by rw [ht]; exact hP, va_K.moved hW.alike hK, hD⟩, hS.F ht⟩) hS.2.2 dX11_fact_39
set_option maxHeartbeats 4000000 in
set_option maxRecDepth 100000 in
theorem c_X11_dated (l : Launch) (D : va_G) (cy : Nat → ClassId) (a : Nat → Nat) (i : Nat → Int32) (r : Nat → Nat → Int32) (q : Nat → Option Nat) (tl : va_W) (p0 p1 : Int32) (hRi : yRi i) (hRr : yRr r) : Met l yX11_dated (Cond.code yX11_dated cX11_dated 4 (some .int) :: gT) { frames := 2, cells := 0, slots := 0, locals := 46 } (va_Pc [.ref (a 0), .int p0, .int p1] (rP D cy (xW cy a i r q (a 20) (a 12) ++ tl))) (vp_Si (fun z => True)) 0 0 (fun _ => False) := by
  refine Met.ofQ (cc := cX11_dated) (maxL := 4) (ret := (some .int)) (by decide) rfl ?_
  intro p e s m args below meth c s₁ B hml hv Q hQ
  obtain ⟨rfl, hP, hK⟩ := hv
  have hx := B.exec
  have hb := B.bytes
  have hr := B.returns
  have hlocks := B.notSynchronized
  have hT : ∀ w ∈ gT, w.before _ s = true := fun w h => atoms_spec (ws := (Cond.code yX11_dated cX11_dated 4 (some .int) :: gT)) B.pre w (List.mem_cons_of_mem _ h)
  have hown : s.vm.findClass RX11 = some m.cls := findClass_of_methodNamed B.named
  have hl := lv_entry ([.ref (a 0), .int p0, .int p1]) (n := 4) (Nat.le_of_ble_eq_true rfl)
  rw [lg_entry_eq]
  generalize (lg_sl ([.ref (a 0), .int p0, .int p1]) ++ List.replicate (4 - (lg_sl ([.ref (a 0), .int p0, .int p1])).length) Slot.unset).toArray = ls at hl ⊢
  have hl : lv_has ls 4 [(0, .ref (a 0)), (1, .int p0), (2, .int p1)] := hl
  have hEi : mEi [] i i := Ei_rf
  have hEr : mEr [] r r := Er_rf
  refine lv_iload_n hx hb dX11_dated_0 rfl (lv_at hl 1 rfl) ?_
  refine lv_iconst (v := 0) hx hb dX11_dated_1 (by decide) ?_
  refine lv_bipush (v := 9) hx hb dX11_dated_2 (by decide) ?_
  refine vp_callSi (W.runS (As := [.int p0, .int 0, .int 9]) (rest := []) ⟨hx, hb, hml, hown, hT⟩ (c_X11_within l p0 0 9) (va_cwS 3 hT (gS t_1 t_3 t_4 t_2) rfl rfl rfl (by decide +kernel) ⟨Nat.le_of_ble_eq_true rfl, Nat.le_of_ble_eq_true rfl⟩) preT rfl rfl hl.1 rfl (lv_room (Nat.le_of_ble_eq_true rfl)) dX11_dated_4 ⟨Nat.le_of_ble_eq_true rfl, Nat.le_of_ble_eq_true rfl⟩) (fun r_1 hr_1 => ?_)
  have hr_1 : BR r_1 (0 ≤ p0.toInt ∧ p0.toInt ≤ 9) 1 0 := hr_1
  rcases hr_1 with ⟨rfl, h_2⟩ | ⟨rfl, h_2⟩
  · skip
    refine lv_if_eq (tgt := 19) hx hb dX11_dated_7 (by decide) (fun c_3 => absurd c_3 (by decide)) (fun c_3 => ?_)
    refine lv_iload_n hx hb dX11_dated_10 rfl (lv_at hl 2 rfl) ?_
    refine lv_iconst (v := 0) hx hb dX11_dated_11 (by decide) ?_
    refine lv_iconst (v := 1) hx hb dX11_dated_12 (by decide) ?_
    refine vp_callSi (W.runS (As := [.int p1, .int 0, .int 1]) (rest := []) ⟨hx, hb, hml, hown, hT⟩ (c_X11_within l p1 0 1) (va_cwS 3 hT (gS t_1 t_3 t_4 t_2) rfl rfl rfl (by decide +kernel) ⟨Nat.le_of_ble_eq_true rfl, Nat.le_of_ble_eq_true rfl⟩) preT rfl rfl hl.1 rfl (lv_room (Nat.le_of_ble_eq_true rfl)) dX11_dated_13 ⟨Nat.le_of_ble_eq_true rfl, Nat.le_of_ble_eq_true rfl⟩) (fun r_4 hr_4 => ?_)
    have hr_4 : BR r_4 (0 ≤ p1.toInt ∧ p1.toInt ≤ 1) 1 0 := hr_4
    rcases hr_4 with ⟨rfl, h_5⟩ | ⟨rfl, h_5⟩
    · skip
      refine lv_if_ne (tgt := 23) hx hb dX11_dated_16 (by decide) (fun c_6 => ?_) (fun c_6 => absurd c_6 (by decide))
      refine lv_iload_n hx hb dX11_dated_23 rfl (lv_at hl 2 rfl) ?_
      refine lv_if_ne (tgt := 40) hx hb dX11_dated_24 (by decide) (fun c_7 => ?_) (fun c_7 => ?_)
      · have c_7 : p1.toInt ≠ 0 := b_ne c_7
        refine lv_aload_n hx hb dX11_dated_40 rfl (lv_at hl 0 rfl) ?_
        refine va_get (D := D) (ci := 11) (v := .ref (a 58)) (C := RX11) (T := TX11) (N := 14) hx hb hT iX11 hown hK hP 0 rfl rfl 13 (by decide) (hT _ t_316) (fun _ h9 => h9) rfl dX11_dated_41 ?_
        refine lv_iload_n hx hb dX11_dated_44 rfl (lv_at hl 1 rfl) ?_
        refine lv_bipush (v := 10) hx hb dX11_dated_45 (by decide) ?_
        refine vp_callSi (W.runV (As := [.int p0, .int 10]) (rest := []) ⟨hx, hb, hml, hown, hT⟩ (c_X7_gap l D cy a i r q tl p0 10 hRi hRr (by first | omega | decide) (by first | omega | decide)) (cwV 2 hT (gV t_300 t_321 t_303 t_304 t_301) rfl rfl rfl (by decide +kernel) ⟨Nat.le_of_ble_eq_true rfl, Nat.le_of_ble_eq_true rfl⟩) (rP_v hP hK (va_recv hK hP (ci := 7) (q0 := 58) rfl rfl)) rfl rfl hl.1 rfl (lv_room (Nat.le_of_ble_eq_true rfl)) dX11_dated_47 ⟨Nat.le_of_ble_eq_true rfl, Nat.le_of_ble_eq_true rfl⟩) (fun r_8 hr_8 => ?_)
        refine lv_istore_n (lv' := [(3, .int r_8), (0, .ref (a 0)), (1, .int p0), (2, .int p1)]) hx hb dX11_dated_50 rfl hl (by decide) rfl (fun ls hl => ?_)
        refine lv_iload_n hx hb dX11_dated_51 rfl (lv_at hl 0 rfl) ?_
        refine lv_ldcw (v := (-1000000)) hx hb hown (hT _ t_322) dX11_dated_52 ?_
        refine lv_icmp_ne (tgt := 62) hx hb dX11_dated_55 (by decide) (fun c_9 => ?_) (fun c_9 => ?_)
        · have c_9 : r_8.toInt ≠ (-1000000) := b_ne c_9
          refine lv_iload_n hx hb dX11_dated_62 rfl (lv_at hl 3 rfl) ?_
          refine lv_if_ne (tgt := 70) hx hb dX11_dated_63 (by decide) (fun c_10 => ?_) (fun c_10 => ?_)
          · have c_10 : p1.toInt ≠ 0 := b_ne c_10
            refine lv_iload_n hx hb dX11_dated_70 rfl (lv_at hl 0 rfl) ?_
            refine lv_ineg hx hb dX11_dated_71 ?_
            refine lv_topi (fun v_11 ev_11 => ?_)
            subst hQ
            exact W.iret (v := v_11) hx hb hr (fun t ht hW => ⟨_, rfl, trivial, ht⟩) (fun q hq => absurd hq List.not_mem_nil) dX11_dated_72
          · have c_10 : p1.toInt = 0 := b_nne c_10
            refine lv_iload_n hx hb dX11_dated_66 rfl (lv_at hl 0 rfl) ?_
            refine lv_goto (tgt := 72) hx hb dX11_dated_67 (by decide) ?_
            subst hQ
            exact W.iret (v := r_8) hx hb hr (fun t ht hW => ⟨_, rfl, trivial, ht⟩) (fun q hq => absurd hq List.not_mem_nil) dX11_dated_72
        · have c_9 : r_8.toInt = (-1000000) := b_nne c_9
          refine lv_ldcw (v := (-100000)) hx hb hown (hT _ t_323) dX11_dated_58 ?_
          subst hQ
          exact W.iret (v := (-100000)) hx hb hr (fun t ht hW => ⟨_, rfl, trivial, ht⟩) (fun q hq => absurd hq List.not_mem_nil) dX11_dated_61
      · have c_7 : p1.toInt = 0 := b_nne c_7
        refine lv_aload_n hx hb dX11_dated_27 rfl (lv_at hl 0 rfl) ?_
        refine va_get (D := D) (ci := 11) (v := .ref (a 58)) (C := RX11) (T := TX11) (N := 14) hx hb hT iX11 hown hK hP 0 rfl rfl 13 (by decide) (hT _ t_316) (fun _ h9 => h9) rfl dX11_dated_28 ?_
        refine lv_bipush (v := 10) hx hb dX11_dated_31 (by decide) ?_
        refine lv_iload_n hx hb dX11_dated_33 rfl (lv_at hl 1 rfl) ?_
        refine vp_callSi (W.runV (As := [.int 10, .int p0]) (rest := []) ⟨hx, hb, hml, hown, hT⟩ (c_X7_gap l D cy a i r q tl 10 p0 hRi hRr (by first | omega | decide) (by first | omega | decide)) (cwV 2 hT (gV t_300 t_321 t_303 t_304 t_301) rfl rfl rfl (by decide +kernel) ⟨Nat.le_of_ble_eq_true rfl, Nat.le_of_ble_eq_true rfl⟩) (rP_v hP hK (va_recv hK hP (ci := 7) (q0 := 58) rfl rfl)) rfl rfl hl.1 rfl (lv_room (Nat.le_of_ble_eq_true rfl)) dX11_dated_34 ⟨Nat.le_of_ble_eq_true rfl, Nat.le_of_ble_eq_true rfl⟩) (fun r_12 hr_12 => ?_)
        refine lv_goto (tgt := 50) hx hb dX11_dated_37 (by decide) ?_
        refine lv_istore_n (lv' := [(3, .int r_12), (0, .ref (a 0)), (1, .int p0), (2, .int p1)]) hx hb dX11_dated_50 rfl hl (by decide) rfl (fun ls hl => ?_)
        refine lv_iload_n hx hb dX11_dated_51 rfl (lv_at hl 0 rfl) ?_
        refine lv_ldcw (v := (-1000000)) hx hb hown (hT _ t_322) dX11_dated_52 ?_
        refine lv_icmp_ne (tgt := 62) hx hb dX11_dated_55 (by decide) (fun c_13 => ?_) (fun c_13 => ?_)
        · have c_13 : r_12.toInt ≠ (-1000000) := b_ne c_13
          refine lv_iload_n hx hb dX11_dated_62 rfl (lv_at hl 3 rfl) ?_
          refine lv_if_ne (tgt := 70) hx hb dX11_dated_63 (by decide) (fun c_14 => by have c_14 : p1.toInt ≠ 0 := b_ne c_14; omega) (fun c_14 => ?_)
          have c_14 : p1.toInt = 0 := b_nne c_14
          refine lv_iload_n hx hb dX11_dated_66 rfl (lv_at hl 0 rfl) ?_
          refine lv_goto (tgt := 72) hx hb dX11_dated_67 (by decide) ?_
          subst hQ
          exact W.iret (v := r_12) hx hb hr (fun t ht hW => ⟨_, rfl, trivial, ht⟩) (fun q hq => absurd hq List.not_mem_nil) dX11_dated_72
        · have c_13 : r_12.toInt = (-1000000) := b_nne c_13
          refine lv_ldcw (v := (-100000)) hx hb hown (hT _ t_323) dX11_dated_58 ?_
          subst hQ
          exact W.iret (v := (-100000)) hx hb hr (fun t ht hW => ⟨_, rfl, trivial, ht⟩) (fun q hq => absurd hq List.not_mem_nil) dX11_dated_61
    · skip
      refine lv_if_ne (tgt := 23) hx hb dX11_dated_16 (by decide) (fun c_15 => absurd (by decide) c_15) (fun c_15 => ?_)
      refine lv_ldcw (v := (-100000)) hx hb hown (hT _ t_323) dX11_dated_19 ?_
      subst hQ
      exact W.iret (v := (-100000)) hx hb hr (fun t ht hW => ⟨_, rfl, trivial, ht⟩) (fun q hq => absurd hq List.not_mem_nil) dX11_dated_22
  · skip
    refine lv_if_eq (tgt := 19) hx hb dX11_dated_7 (by decide) (fun c_16 => ?_) (fun c_16 => absurd (by decide) c_16)
    refine lv_ldcw (v := (-100000)) hx hb hown (hT _ t_323) dX11_dated_19 ?_
    subst hQ
    exact W.iret (v := (-100000)) hx hb hr (fun t ht hW => ⟨_, rfl, trivial, ht⟩) (fun q hq => absurd hq List.not_mem_nil) dX11_dated_22
set_option maxHeartbeats 4000000 in
set_option maxRecDepth 100000 in
theorem c_X11_wrong (l : Launch) (D : va_G) (cy : Nat → ClassId) (a : Nat → Nat) (i : Nat → Int32) (r : Nat → Nat → Int32) (q : Nat → Option Nat) (tl : va_W) (p0 : Int32) (hRi : yRi i) (hRr : yRr r) : Met l yX11_wrong (Cond.code yX11_wrong cX11_wrong 2 (some .int) :: gT) { frames := 2, cells := 0, slots := 0, locals := 46 } (va_Pc [.ref (a 0), .int p0] (rP D cy (xW cy a i r q (a 20) (a 12) ++ tl))) (vp_Si (fun z => True)) 0 0 (fun _ => False) := by
  refine Met.ofQ (cc := cX11_wrong) (maxL := 2) (ret := (some .int)) (by decide) rfl ?_
  intro p e s m args below meth c s₁ B hml hv Q hQ
  obtain ⟨rfl, hP, hK⟩ := hv
  have hx := B.exec
  have hb := B.bytes
  have hr := B.returns
  have hlocks := B.notSynchronized
  have hT : ∀ w ∈ gT, w.before _ s = true := fun w h => atoms_spec (ws := (Cond.code yX11_wrong cX11_wrong 2 (some .int) :: gT)) B.pre w (List.mem_cons_of_mem _ h)
  have hown : s.vm.findClass RX11 = some m.cls := findClass_of_methodNamed B.named
  have hl := lv_entry ([.ref (a 0), .int p0]) (n := 2) (Nat.le_of_ble_eq_true rfl)
  rw [lg_entry_eq]
  generalize (lg_sl ([.ref (a 0), .int p0]) ++ List.replicate (2 - (lg_sl ([.ref (a 0), .int p0])).length) Slot.unset).toArray = ls at hl ⊢
  have hl : lv_has ls 2 [(0, .ref (a 0)), (1, .int p0)] := hl
  have hEi : mEi [] i i := Ei_rf
  have hEr : mEr [] r r := Er_rf
  refine lv_iload_n hx hb dX11_wrong_0 rfl (lv_at hl 1 rfl) ?_
  refine lv_iconst (v := (-1)) hx hb dX11_wrong_1 (by decide) ?_
  refine lv_icmp_ne (tgt := 13) hx hb dX11_wrong_2 (by decide) (fun c_1 => ?_) (fun c_1 => ?_)
  · have c_1 : p0.toInt ≠ (-1) := b_ne c_1
    refine lv_iload_n hx hb dX11_wrong_13 rfl (lv_at hl 1 rfl) ?_
    refine lv_iconst (v := 0) hx hb dX11_wrong_14 (by decide) ?_
    refine lv_aload_n hx hb dX11_wrong_15 rfl (lv_at hl 0 rfl) ?_
    refine va_get (D := D) (ci := 11) (v := .ref (a 58)) (C := RX11) (T := TX11) (N := 14) hx hb hT iX11 hown hK hP 0 rfl rfl 13 (by decide) (hT _ t_316) (fun _ h9 => h9) rfl dX11_wrong_16 ?_
    refine va_get (D := D) (ci := 7) (v := .int (i 16)) (C := RX7) (T := TX7) (N := 4) hx hb hT iX7 hown hK hP 58 rfl rfl 1 (by decide) (hT _ t_324) (fun _ h9 => h9) rfl dX11_wrong_19 ?_
    have hg_2 : 0 ≤ (i 16).toInt ∧ (i 16).toInt ≤ 30 := hRi 16
    refine lv_iconst (v := 1) hx hb dX11_wrong_22 (by decide) ?_
    refine lv_isub hx hb dX11_wrong_23 ?_
    refine lv_topi (fun v_3 ev_3 => ?_)
    have hv_3 : v_3.toInt = (i 16).toInt - 1 := by rw [ev_3]; have := b_rg (i 16); exact i_sub (a := (i 16).toInt) (b := 1) rfl rfl (by omega) (by omega)
    refine vp_callSi (W.runS (As := [.int p0, .int 0, .int v_3]) (rest := []) ⟨hx, hb, hml, hown, hT⟩ (c_X11_within l p0 0 v_3) (va_cwS 3 hT (gS t_1 t_3 t_4 t_2) rfl rfl rfl (by decide +kernel) ⟨Nat.le_of_ble_eq_true rfl, Nat.le_of_ble_eq_true rfl⟩) preT rfl rfl hl.1 rfl (lv_room (Nat.le_of_ble_eq_true rfl)) dX11_wrong_24 ⟨Nat.le_of_ble_eq_true rfl, Nat.le_of_ble_eq_true rfl⟩) (fun r_4 hr_4 => ?_)
    have hr_4 : BR r_4 (0 ≤ p0.toInt ∧ p0.toInt ≤ v_3.toInt) 1 0 := hr_4
    rcases hr_4 with ⟨rfl, h_5⟩ | ⟨rfl, h_5⟩
    · skip
      refine lv_if_eq (tgt := 42) hx hb dX11_wrong_27 (by decide) (fun c_6 => absurd c_6 (by decide)) (fun c_6 => ?_)
      refine lv_aload_n hx hb dX11_wrong_30 rfl (lv_at hl 0 rfl) ?_
      refine va_get (D := D) (ci := 11) (v := .ref (a 58)) (C := RX11) (T := TX11) (N := 14) hx hb hT iX11 hown hK hP 0 rfl rfl 13 (by decide) (hT _ t_316) (fun _ h9 => h9) rfl dX11_wrong_31 ?_
      refine va_get (D := D) (ci := 7) (v := .ref (a 59)) (C := RX7) (T := TX7) (N := 4) hx hb hT iX7 hown hK hP 58 rfl rfl 2 (by decide) (hT _ t_325) (fun _ h9 => h9) rfl dX11_wrong_34 ?_
      refine lv_iload_n hx hb dX11_wrong_37 rfl (lv_at hl 1 rfl) ?_
      refine va_iald hx hb hK hP 59 0 rfl rfl (vp_inI (by omega) (by omega)) dX11_wrong_38 ?_
      refine lv_topi (fun v_7 ev_7 => ?_)
      have hgv_7 : 0 ≤ v_7.toInt ∧ v_7.toInt ≤ 29 := by rw [ev_7]; exact hRr 59 _
      refine lv_goto (tgt := 43) hx hb dX11_wrong_39 (by decide) ?_
      subst hQ
      exact W.iret (v := v_7) hx hb hr (fun t ht hW => ⟨_, rfl, trivial, ht⟩) (fun q hq => absurd hq List.not_mem_nil) dX11_wrong_43
    · skip
      refine lv_if_eq (tgt := 42) hx hb dX11_wrong_27 (by decide) (fun c_8 => ?_) (fun c_8 => absurd (by decide) c_8)
      refine lv_iconst (v := (-1)) hx hb dX11_wrong_42 (by decide) ?_
      subst hQ
      exact W.iret (v := (-1)) hx hb hr (fun t ht hW => ⟨_, rfl, trivial, ht⟩) (fun q hq => absurd hq List.not_mem_nil) dX11_wrong_43
  · have c_1 : p0.toInt = (-1) := b_nne c_1
    refine lv_aload_n hx hb dX11_wrong_5 rfl (lv_at hl 0 rfl) ?_
    refine va_get (D := D) (ci := 11) (v := .ref (a 58)) (C := RX11) (T := TX11) (N := 14) hx hb hT iX11 hown hK hP 0 rfl rfl 13 (by decide) (hT _ t_316) (fun _ h9 => h9) rfl dX11_wrong_6 ?_
    refine va_get (D := D) (ci := 7) (v := .int (i 16)) (C := RX7) (T := TX7) (N := 4) hx hb hT iX7 hown hK hP 58 rfl rfl 1 (by decide) (hT _ t_324) (fun _ h9 => h9) rfl dX11_wrong_9 ?_
    have hg_9 : 0 ≤ (i 16).toInt ∧ (i 16).toInt ≤ 30 := hRi 16
    subst hQ
    exact W.iret (v := i 16) hx hb hr (fun t ht hW => ⟨_, rfl, trivial, ht⟩) (fun q hq => absurd hq List.not_mem_nil) dX11_wrong_12
set_option maxHeartbeats 4000000 in
set_option maxRecDepth 100000 in
theorem c_X11_commonDivisor (l : Launch) (p0 p1 : Int32) : Met l yX11_commonDivisor (Cond.code yX11_commonDivisor cX11_commonDivisor 6 (some .int) :: gT) { frames := 1, cells := 0, slots := 0, locals := 24 } (va_Pc [.int p0, .int p1] (fun _ => True)) (vp_Si (fun z => True)) 0 0 (fun _ => False) := by
  refine Met.ofQ (cc := cX11_commonDivisor) (maxL := 6) (ret := (some .int)) (by decide) rfl ?_
  intro p e s m args below meth c s₁ B hml hv Q hQ
  obtain ⟨rfl, -⟩ := hv
  have hx := B.exec
  have hb := B.bytes
  have hr := B.returns
  have hlocks := B.notSynchronized
  have hT : ∀ w ∈ gT, w.before _ s = true := fun w h => atoms_spec (ws := (Cond.code yX11_commonDivisor cX11_commonDivisor 6 (some .int) :: gT)) B.pre w (List.mem_cons_of_mem _ h)
  have hown : s.vm.findClass RX11 = some m.cls := findClass_of_methodNamed B.named
  have hl := lv_entry ([.int p0, .int p1]) (n := 6) (Nat.le_of_ble_eq_true rfl)
  rw [lg_entry_eq]
  generalize (lg_sl ([.int p0, .int p1]) ++ List.replicate (6 - (lg_sl ([.int p0, .int p1])).length) Slot.unset).toArray = ls at hl ⊢
  have hl : lv_has ls 6 [(0, .int p0), (1, .int p1)] := hl
  refine lv_iload_n hx hb dX11_commonDivisor_0 rfl (lv_at hl 0 rfl) ?_
  refine lv_istore_n (lv' := [(2, .int p0), (0, .int p0), (1, .int p1)]) hx hb dX11_commonDivisor_1 rfl hl (by decide) rfl (fun ls hl => ?_)
  refine lv_iload_n hx hb dX11_commonDivisor_2 rfl (lv_at hl 2 rfl) ?_
  refine lv_istore_n (lv' := [(3, .int p1), (2, .int p0), (0, .int p0), (1, .int p1)]) hx hb dX11_commonDivisor_3 rfl hl (by decide) rfl (fun ls hl => ?_)
  refine lv_iconst (v := 0) hx hb dX11_commonDivisor_4 (by decide) ?_
  refine lv_istore (lv' := [(4, .int 0), (3, .int p1), (2, .int p0), (0, .int p0), (1, .int p1)]) hx hb dX11_commonDivisor_5 hl (by decide) rfl (fun ls hl => ?_)
  have loop_1 : ∀ (n : Nat) (x1_4 : Int32) (x1_3 : Int32) (x1_2 : Int32) (ls : Array Slot), (64 - x1_4.toInt).toNat < n → (0 ≤ x1_4.toInt ∧ x1_4.toInt ≤ 64) → lv_has ls 6 [(4, .int x1_4), (3, .int x1_3), (2, .int x1_2), (0, .int p0), (1, .int p1)] → W p l e ({ frames := 1, cells := 0, slots := 0, locals := 24 } : Room) s m ([.int p0, .int p1] : List Value).toArray below meth c s.heap [] 0 0 Q (F0 m 7 ls []) := by
    intro n
    induction n with
    | zero =>
      intro x1_4 x1_3 x1_2 ls hm1 hf1_0 hl
      exact absurd hm1 (by omega)
    | succ n ih1 =>
      intro x1_4 x1_3 x1_2 ls hm1 hf1_0 hl
      refine lv_iload hx hb dX11_commonDivisor_7 (lv_at hl 0 rfl) ?_
      refine lv_bipush (v := 64) hx hb dX11_commonDivisor_9 (by decide) ?_
      refine lv_icmp_ge (tgt := 34) hx hb dX11_commonDivisor_11 (by decide) (fun c_2 => ?_) (fun c_2 => ?_)
      · have c_2 : 64 ≤ x1_4.toInt := b_le c_2
        refine lv_iload_n hx hb dX11_commonDivisor_34 rfl (lv_at hl 2 rfl) ?_
        subst hQ
        exact W.iret (v := x1_2) hx hb hr (fun t ht hW => ⟨_, rfl, trivial, ht⟩) (fun q hq => absurd hq List.not_mem_nil) dX11_commonDivisor_35
      · have c_2 : x1_4.toInt < 64 := b_nle c_2
        refine lv_iload_n hx hb dX11_commonDivisor_14 rfl (lv_at hl 1 rfl) ?_
        refine lv_if_eq (tgt := 34) hx hb dX11_commonDivisor_15 (by decide) (fun c_3 => ?_) (fun c_3 => ?_)
        · have c_3 : x1_3.toInt = 0 := b_eq c_3
          refine lv_iload_n hx hb dX11_commonDivisor_34 rfl (lv_at hl 2 rfl) ?_
          subst hQ
          exact W.iret (v := x1_2) hx hb hr (fun t ht hW => ⟨_, rfl, trivial, ht⟩) (fun q hq => absurd hq List.not_mem_nil) dX11_commonDivisor_35
        · have c_3 : x1_3.toInt ≠ 0 := b_ne c_3
          refine lv_iload_n hx hb dX11_commonDivisor_18 rfl (lv_at hl 2 rfl) ?_
          refine lv_iload_n hx hb dX11_commonDivisor_19 rfl (lv_at hl 1 rfl) ?_
          refine lv_irem hx hb dX11_commonDivisor_20 (nz (by omega)) ?_
          refine lv_topi (fun v_4 ev_4 => ?_)
          refine lv_istore (lv' := [(5, .int v_4), (4, .int x1_4), (3, .int x1_3), (2, .int x1_2), (0, .int p0), (1, .int p1)]) hx hb dX11_commonDivisor_21 hl (by decide) rfl (fun ls hl => ?_)
          refine lv_iload_n hx hb dX11_commonDivisor_23 rfl (lv_at hl 2 rfl) ?_
          refine lv_istore_n (lv' := [(2, .int x1_3), (5, .int v_4), (4, .int x1_4), (3, .int x1_3), (0, .int p0), (1, .int p1)]) hx hb dX11_commonDivisor_24 rfl hl (by decide) rfl (fun ls hl => ?_)
          refine lv_iload hx hb dX11_commonDivisor_25 (lv_at hl 1 rfl) ?_
          refine lv_istore_n (lv' := [(3, .int v_4), (2, .int x1_3), (5, .int v_4), (4, .int x1_4), (0, .int p0), (1, .int p1)]) hx hb dX11_commonDivisor_27 rfl hl (by decide) rfl (fun ls hl => ?_)
          obtain ⟨x_5, ex_5⟩ : ∃ y : Int32, y = x1_4 + 1 := ⟨_, rfl⟩
          refine lv_iinc (v := x_5) (lv' := [(4, .int x_5), (3, .int v_4), (2, .int x1_3), (5, .int v_4), (0, .int p0), (1, .int p1)]) hx hb dX11_commonDivisor_28 hl (k := 3) rfl (by rw [ex_5]; rfl) (by decide) rfl (fun ls hl => ?_)
          have hx_5 : x_5.toInt = x1_4.toInt + 1 := by rw [ex_5]; have := b_rg x1_4; exact i_add (a := x1_4.toInt) (b := 1) rfl rfl (by omega) (by omega)
          refine lv_goto (tgt := 7) hx hb dX11_commonDivisor_31 (by decide) ?_
          exact ih1 x_5 v_4 x1_3 _ (by first | omega | (simp only [Int.toNat]; omega)) (by first | omega | decide)    (lv_sub hl [0, 1, 2, 4, 5] rfl)
  exact loop_1 _ 0 p1 p0 _ (Nat.lt_succ_self _) (by first | omega | decide)    hl
set_option maxHeartbeats 4000000 in
set_option maxRecDepth 100000 in
theorem c_X11_spread (l : Launch) (D : va_G) (cy : Nat → ClassId) (a : Nat → Nat) (i : Nat → Int32) (r : Nat → Nat → Int32) (q : Nat → Option Nat) (tl : va_W) (p0 p1 : Int32) (hRi : yRi i) (hRr : yRr r) : Met l yX11_spread (Cond.code yX11_spread cX11_spread 6 (some .int) :: gT) { frames := 2, cells := 0, slots := 0, locals := 49 } (va_Pc [.ref (a 0), .int p0, .int p1] (rP D cy (xW cy a i r q (a 20) (a 12) ++ tl))) (vp_Si (fun z => True)) 0 0 (fun _ => False) := by
  refine Met.ofQ (cc := cX11_spread) (maxL := 6) (ret := (some .int)) (by decide) rfl ?_
  intro p e s m args below meth c s₁ B hml hv Q hQ
  obtain ⟨rfl, hP, hK⟩ := hv
  have hx := B.exec
  have hb := B.bytes
  have hr := B.returns
  have hlocks := B.notSynchronized
  have hT : ∀ w ∈ gT, w.before _ s = true := fun w h => atoms_spec (ws := (Cond.code yX11_spread cX11_spread 6 (some .int) :: gT)) B.pre w (List.mem_cons_of_mem _ h)
  have hown : s.vm.findClass RX11 = some m.cls := findClass_of_methodNamed B.named
  have hl := lv_entry ([.ref (a 0), .int p0, .int p1]) (n := 6) (Nat.le_of_ble_eq_true rfl)
  rw [lg_entry_eq]
  generalize (lg_sl ([.ref (a 0), .int p0, .int p1]) ++ List.replicate (6 - (lg_sl ([.ref (a 0), .int p0, .int p1])).length) Slot.unset).toArray = ls at hl ⊢
  have hl : lv_has ls 6 [(0, .ref (a 0)), (1, .int p0), (2, .int p1)] := hl
  have hEi : mEi [] i i := Ei_rf
  have hEr : mEr [] r r := Er_rf
  refine lv_iload_n hx hb dX11_spread_0 rfl (lv_at hl 1 rfl) ?_
  refine lv_iconst (v := 0) hx hb dX11_spread_1 (by decide) ?_
  refine lv_iconst (v := 5) hx hb dX11_spread_2 (by decide) ?_
  refine vp_callSi (W.runS (As := [.int p0, .int 0, .int 5]) (rest := []) ⟨hx, hb, hml, hown, hT⟩ (c_X11_within l p0 0 5) (va_cwS 3 hT (gS t_1 t_3 t_4 t_2) rfl rfl rfl (by decide +kernel) ⟨Nat.le_of_ble_eq_true rfl, Nat.le_of_ble_eq_true rfl⟩) preT rfl rfl hl.1 rfl (lv_room (Nat.le_of_ble_eq_true rfl)) dX11_spread_3 ⟨Nat.le_of_ble_eq_true rfl, Nat.le_of_ble_eq_true rfl⟩) (fun r_1 hr_1 => ?_)
  have hr_1 : BR r_1 (0 ≤ p0.toInt ∧ p0.toInt ≤ 5) 1 0 := hr_1
  rcases hr_1 with ⟨rfl, h_2⟩ | ⟨rfl, h_2⟩
  · skip
    refine lv_if_eq (tgt := 30) hx hb dX11_spread_6 (by decide) (fun c_3 => absurd c_3 (by decide)) (fun c_3 => ?_)
    refine lv_iload_n hx hb dX11_spread_9 rfl (lv_at hl 2 rfl) ?_
    refine lv_iconst (v := 0) hx hb dX11_spread_10 (by decide) ?_
    refine lv_iconst (v := 3) hx hb dX11_spread_11 (by decide) ?_
    refine vp_callSi (W.runS (As := [.int p1, .int 0, .int 3]) (rest := []) ⟨hx, hb, hml, hown, hT⟩ (c_X11_within l p1 0 3) (va_cwS 3 hT (gS t_1 t_3 t_4 t_2) rfl rfl rfl (by decide +kernel) ⟨Nat.le_of_ble_eq_true rfl, Nat.le_of_ble_eq_true rfl⟩) preT rfl rfl hl.1 rfl (lv_room (Nat.le_of_ble_eq_true rfl)) dX11_spread_12 ⟨Nat.le_of_ble_eq_true rfl, Nat.le_of_ble_eq_true rfl⟩) (fun r_4 hr_4 => ?_)
    have hr_4 : BR r_4 (0 ≤ p1.toInt ∧ p1.toInt ≤ 3) 1 0 := hr_4
    rcases hr_4 with ⟨rfl, h_5⟩ | ⟨rfl, h_5⟩
    · skip
      refine lv_if_eq (tgt := 30) hx hb dX11_spread_15 (by decide) (fun c_6 => absurd c_6 (by decide)) (fun c_6 => ?_)
      refine lv_aload_n hx hb dX11_spread_18 rfl (lv_at hl 0 rfl) ?_
      refine va_get (D := D) (ci := 11) (v := .ref (a 54)) (C := RX11) (T := TX11) (N := 14) hx hb hT iX11 hown hK hP 0 rfl rfl 12 (by decide) (hT _ t_292) (fun _ h9 => h9) rfl dX11_spread_19 ?_
      refine va_get (D := D) (ci := 2) (v := .ref (a 55)) (C := RX2) (T := TX2) (N := 4) hx hb hT iX2 hown hK hP 54 rfl rfl 1 (by decide) (hT _ t_326) (fun _ h9 => h9) rfl dX11_spread_22 ?_
      refine lv_iload_n hx hb dX11_spread_25 rfl (lv_at hl 1 rfl) ?_
      refine va_iald hx hb hK hP 55 0 rfl rfl (vp_inI (by omega) (by omega)) dX11_spread_26 ?_
      refine lv_topi (fun v_7 ev_7 => ?_)
      refine lv_if_ne (tgt := 34) hx hb dX11_spread_27 (by decide) (fun c_8 => ?_) (fun c_8 => ?_)
      · have c_8 : v_7.toInt ≠ 0 := b_ne c_8
        refine lv_iload_n hx hb dX11_spread_34 rfl (lv_at hl 2 rfl) ?_
        refine lv_iconst (v := 2) hx hb dX11_spread_35 (by decide) ?_
        refine lv_icmp_ge (tgt := 51) hx hb dX11_spread_36 (by decide) (fun c_9 => ?_) (fun c_9 => ?_)
        · have c_9 : 2 ≤ p1.toInt := b_le c_9
          refine lv_aload_n hx hb dX11_spread_51 rfl (lv_at hl 0 rfl) ?_
          refine va_get (D := D) (ci := 11) (v := .ref (a 54)) (C := RX11) (T := TX11) (N := 14) hx hb hT iX11 hown hK hP 0 rfl rfl 12 (by decide) (hT _ t_292) (fun _ h9 => h9) rfl dX11_spread_52 ?_
          refine va_get (D := D) (ci := 2) (v := .ref (a 57)) (C := RX2) (T := TX2) (N := 4) hx hb hT iX2 hown hK hP 54 rfl rfl 3 (by decide) (hT _ t_327) (fun _ h9 => h9) rfl dX11_spread_55 ?_
          refine lv_iload_n hx hb dX11_spread_58 rfl (lv_at hl 1 rfl) ?_
          refine va_iald hx hb hK hP 57 0 rfl rfl (vp_inI (by omega) (by omega)) dX11_spread_59 ?_
          refine lv_topi (fun v_10 ev_10 => ?_)
          refine lv_istore_n (lv' := [(3, .int v_10), (0, .ref (a 0)), (1, .int p0), (2, .int p1)]) hx hb dX11_spread_60 rfl hl (by decide) rfl (fun ls hl => ?_)
          refine lv_aload_n hx hb dX11_spread_61 rfl (lv_at hl 1 rfl) ?_
          refine va_get (D := D) (ci := 11) (v := .ref (a 54)) (C := RX11) (T := TX11) (N := 14) hx hb hT iX11 hown hK hP 0 rfl rfl 12 (by decide) (hT _ t_292) (fun _ h9 => h9) rfl dX11_spread_62 ?_
          refine va_get (D := D) (ci := 2) (v := .ref (a 55)) (C := RX2) (T := TX2) (N := 4) hx hb hT iX2 hown hK hP 54 rfl rfl 1 (by decide) (hT _ t_326) (fun _ h9 => h9) rfl dX11_spread_65 ?_
          refine lv_iload_n hx hb dX11_spread_68 rfl (lv_at hl 2 rfl) ?_
          refine va_iald hx hb hK hP 55 0 rfl rfl (vp_inI (by omega) (by omega)) dX11_spread_69 ?_
          refine lv_topi (fun v_11 ev_11 => ?_)
          refine lv_istore (lv' := [(4, .int v_11), (3, .int v_10), (0, .ref (a 0)), (1, .int p0), (2, .int p1)]) hx hb dX11_spread_70 hl (by decide) rfl (fun ls hl => ?_)
          refine lv_iload_n hx hb dX11_spread_72 rfl (lv_at hl 1 rfl) ?_
          refine va_mabs hx hb (by rw [hml]; exact hl.1.symm) hown (hT _ t_328) (hT _ t_288) (hT _ t_289) (hT _ t_290) (Nat.le_of_ble_eq_true rfl) (Nat.le_of_ble_eq_true rfl) (Nat.le_of_ble_eq_true rfl) (Nat.le_of_ble_eq_true rfl) dX11_spread_73 ?_
          refine lv_topi (fun v_12 ev_12 => ?_)
          refine lv_iload hx hb dX11_spread_76 (lv_at hl 0 rfl) ?_
          refine vp_callSi (W.runS (As := [.int v_12, .int v_11]) (rest := []) ⟨hx, hb, hml, hown, hT⟩ (c_X11_commonDivisor l v_12 v_11) (va_cwS 2 hT (gS t_329 t_330 t_331 t_2) rfl rfl rfl (by decide +kernel) ⟨Nat.le_of_ble_eq_true rfl, Nat.le_of_ble_eq_true rfl⟩) preT rfl rfl hl.1 rfl (lv_room (Nat.le_of_ble_eq_true rfl)) dX11_spread_78 ⟨Nat.le_of_ble_eq_true rfl, Nat.le_of_ble_eq_true rfl⟩) (fun r_13 hr_13 => ?_)
          refine lv_istore (lv' := [(5, .int r_13), (4, .int v_11), (3, .int v_10), (0, .ref (a 0)), (1, .int p0), (2, .int p1)]) hx hb dX11_spread_81 hl (by decide) rfl (fun ls hl => ?_)
          refine lv_iload hx hb dX11_spread_83 (lv_at hl 0 rfl) ?_
          refine lv_if_ne (tgt := 92) hx hb dX11_spread_85 (by decide) (fun c_14 => ?_) (fun c_14 => ?_)
          · have c_14 : r_13.toInt ≠ 0 := b_ne c_14
            refine lv_iload_n hx hb dX11_spread_92 rfl (lv_at hl 5 rfl) ?_
            refine lv_iconst (v := 2) hx hb dX11_spread_93 (by decide) ?_
            refine lv_irem hx hb dX11_spread_94 (by decide) ?_
            refine lv_topi (fun v_15 ev_15 => ?_)
            have hmv_15 : v_15.toInt = p1.toInt % 2 := by rw [ev_15, rem_toInt]; exact Int.tmod_eq_emod_of_nonneg (by omega)
            refine lv_if_ne (tgt := 102) hx hb dX11_spread_95 (by decide) (fun c_16 => ?_) (fun c_16 => ?_)
            · have c_16 : v_15.toInt ≠ 0 := b_ne c_16
              refine lv_iload hx hb dX11_spread_102 (lv_at hl 1 rfl) ?_
              refine lv_iload hx hb dX11_spread_104 (lv_at hl 0 rfl) ?_
              refine lv_idiv hx hb dX11_spread_106 (nz (by omega)) ?_
              refine lv_topi (fun v_17 ev_17 => ?_)
              subst hQ
              exact W.iret (v := v_17) hx hb hr (fun t ht hW => ⟨_, rfl, trivial, ht⟩) (fun q hq => absurd hq List.not_mem_nil) dX11_spread_107
            · have c_16 : v_15.toInt = 0 := b_nne c_16
              refine lv_iload_n hx hb dX11_spread_98 rfl (lv_at hl 2 rfl) ?_
              refine lv_goto (tgt := 104) hx hb dX11_spread_99 (by decide) ?_
              refine lv_iload hx hb dX11_spread_104 (lv_at hl 0 rfl) ?_
              refine lv_idiv hx hb dX11_spread_106 (nz (by omega)) ?_
              refine lv_topi (fun v_18 ev_18 => ?_)
              subst hQ
              exact W.iret (v := v_18) hx hb hr (fun t ht hW => ⟨_, rfl, trivial, ht⟩) (fun q hq => absurd hq List.not_mem_nil) dX11_spread_107
          · have c_14 : r_13.toInt = 0 := b_nne c_14
            refine lv_ldcw (v := (-1000000)) hx hb hown (hT _ t_322) dX11_spread_88 ?_
            subst hQ
            exact W.iret (v := (-1000000)) hx hb hr (fun t ht hW => ⟨_, rfl, trivial, ht⟩) (fun q hq => absurd hq List.not_mem_nil) dX11_spread_91
        · have c_9 : p1.toInt < 2 := b_nle c_9
          refine lv_aload_n hx hb dX11_spread_39 rfl (lv_at hl 0 rfl) ?_
          refine va_get (D := D) (ci := 11) (v := .ref (a 54)) (C := RX11) (T := TX11) (N := 14) hx hb hT iX11 hown hK hP 0 rfl rfl 12 (by decide) (hT _ t_292) (fun _ h9 => h9) rfl dX11_spread_40 ?_
          refine va_get (D := D) (ci := 2) (v := .ref (a 56)) (C := RX2) (T := TX2) (N := 4) hx hb hT iX2 hown hK hP 54 rfl rfl 2 (by decide) (hT _ t_332) (fun _ h9 => h9) rfl dX11_spread_43 ?_
          refine lv_iload_n hx hb dX11_spread_46 rfl (lv_at hl 1 rfl) ?_
          refine va_iald hx hb hK hP 56 0 rfl rfl (vp_inI (by omega) (by omega)) dX11_spread_47 ?_
          refine lv_topi (fun v_19 ev_19 => ?_)
          refine lv_goto (tgt := 60) hx hb dX11_spread_48 (by decide) ?_
          refine lv_istore_n (lv' := [(3, .int v_19), (0, .ref (a 0)), (1, .int p0), (2, .int p1)]) hx hb dX11_spread_60 rfl hl (by decide) rfl (fun ls hl => ?_)
          refine lv_aload_n hx hb dX11_spread_61 rfl (lv_at hl 1 rfl) ?_
          refine va_get (D := D) (ci := 11) (v := .ref (a 54)) (C := RX11) (T := TX11) (N := 14) hx hb hT iX11 hown hK hP 0 rfl rfl 12 (by decide) (hT _ t_292) (fun _ h9 => h9) rfl dX11_spread_62 ?_
          refine va_get (D := D) (ci := 2) (v := .ref (a 55)) (C := RX2) (T := TX2) (N := 4) hx hb hT iX2 hown hK hP 54 rfl rfl 1 (by decide) (hT _ t_326) (fun _ h9 => h9) rfl dX11_spread_65 ?_
          refine lv_iload_n hx hb dX11_spread_68 rfl (lv_at hl 2 rfl) ?_
          refine va_iald hx hb hK hP 55 0 rfl rfl (vp_inI (by omega) (by omega)) dX11_spread_69 ?_
          refine lv_topi (fun v_20 ev_20 => ?_)
          refine lv_istore (lv' := [(4, .int v_20), (3, .int v_19), (0, .ref (a 0)), (1, .int p0), (2, .int p1)]) hx hb dX11_spread_70 hl (by decide) rfl (fun ls hl => ?_)
          refine lv_iload_n hx hb dX11_spread_72 rfl (lv_at hl 1 rfl) ?_
          refine va_mabs hx hb (by rw [hml]; exact hl.1.symm) hown (hT _ t_328) (hT _ t_288) (hT _ t_289) (hT _ t_290) (Nat.le_of_ble_eq_true rfl) (Nat.le_of_ble_eq_true rfl) (Nat.le_of_ble_eq_true rfl) (Nat.le_of_ble_eq_true rfl) dX11_spread_73 ?_
          refine lv_topi (fun v_21 ev_21 => ?_)
          refine lv_iload hx hb dX11_spread_76 (lv_at hl 0 rfl) ?_
          refine vp_callSi (W.runS (As := [.int v_21, .int v_20]) (rest := []) ⟨hx, hb, hml, hown, hT⟩ (c_X11_commonDivisor l v_21 v_20) (va_cwS 2 hT (gS t_329 t_330 t_331 t_2) rfl rfl rfl (by decide +kernel) ⟨Nat.le_of_ble_eq_true rfl, Nat.le_of_ble_eq_true rfl⟩) preT rfl rfl hl.1 rfl (lv_room (Nat.le_of_ble_eq_true rfl)) dX11_spread_78 ⟨Nat.le_of_ble_eq_true rfl, Nat.le_of_ble_eq_true rfl⟩) (fun r_22 hr_22 => ?_)
          refine lv_istore (lv' := [(5, .int r_22), (4, .int v_20), (3, .int v_19), (0, .ref (a 0)), (1, .int p0), (2, .int p1)]) hx hb dX11_spread_81 hl (by decide) rfl (fun ls hl => ?_)
          refine lv_iload hx hb dX11_spread_83 (lv_at hl 0 rfl) ?_
          refine lv_if_ne (tgt := 92) hx hb dX11_spread_85 (by decide) (fun c_23 => ?_) (fun c_23 => ?_)
          · have c_23 : r_22.toInt ≠ 0 := b_ne c_23
            refine lv_iload_n hx hb dX11_spread_92 rfl (lv_at hl 5 rfl) ?_
            refine lv_iconst (v := 2) hx hb dX11_spread_93 (by decide) ?_
            refine lv_irem hx hb dX11_spread_94 (by decide) ?_
            refine lv_topi (fun v_24 ev_24 => ?_)
            have hmv_24 : v_24.toInt = p1.toInt % 2 := by rw [ev_24, rem_toInt]; exact Int.tmod_eq_emod_of_nonneg (by omega)
            refine lv_if_ne (tgt := 102) hx hb dX11_spread_95 (by decide) (fun c_25 => ?_) (fun c_25 => ?_)
            · have c_25 : v_24.toInt ≠ 0 := b_ne c_25
              refine lv_iload hx hb dX11_spread_102 (lv_at hl 1 rfl) ?_
              refine lv_iload hx hb dX11_spread_104 (lv_at hl 0 rfl) ?_
              refine lv_idiv hx hb dX11_spread_106 (nz (by omega)) ?_
              refine lv_topi (fun v_26 ev_26 => ?_)
              subst hQ
              exact W.iret (v := v_26) hx hb hr (fun t ht hW => ⟨_, rfl, trivial, ht⟩) (fun q hq => absurd hq List.not_mem_nil) dX11_spread_107
            · have c_25 : v_24.toInt = 0 := b_nne c_25
              refine lv_iload_n hx hb dX11_spread_98 rfl (lv_at hl 2 rfl) ?_
              refine lv_goto (tgt := 104) hx hb dX11_spread_99 (by decide) ?_
              refine lv_iload hx hb dX11_spread_104 (lv_at hl 0 rfl) ?_
              refine lv_idiv hx hb dX11_spread_106 (nz (by omega)) ?_
              refine lv_topi (fun v_27 ev_27 => ?_)
              subst hQ
              exact W.iret (v := v_27) hx hb hr (fun t ht hW => ⟨_, rfl, trivial, ht⟩) (fun q hq => absurd hq List.not_mem_nil) dX11_spread_107
          · have c_23 : r_22.toInt = 0 := b_nne c_23
            refine lv_ldcw (v := (-1000000)) hx hb hown (hT _ t_322) dX11_spread_88 ?_
            subst hQ
            exact W.iret (v := (-1000000)) hx hb hr (fun t ht hW => ⟨_, rfl, trivial, ht⟩) (fun q hq => absurd hq List.not_mem_nil) dX11_spread_91
      · have c_8 : v_7.toInt = 0 := b_nne c_8
        refine lv_ldcw (v := (-1000000)) hx hb hown (hT _ t_322) dX11_spread_30 ?_
        subst hQ
        exact W.iret (v := (-1000000)) hx hb hr (fun t ht hW => ⟨_, rfl, trivial, ht⟩) (fun q hq => absurd hq List.not_mem_nil) dX11_spread_33
    · skip
      refine lv_if_eq (tgt := 30) hx hb dX11_spread_15 (by decide) (fun c_28 => ?_) (fun c_28 => absurd (by decide) c_28)
      refine lv_ldcw (v := (-1000000)) hx hb hown (hT _ t_322) dX11_spread_30 ?_
      subst hQ
      exact W.iret (v := (-1000000)) hx hb hr (fun t ht hW => ⟨_, rfl, trivial, ht⟩) (fun q hq => absurd hq List.not_mem_nil) dX11_spread_33
  · skip
    refine lv_if_eq (tgt := 30) hx hb dX11_spread_6 (by decide) (fun c_29 => ?_) (fun c_29 => absurd (by decide) c_29)
    refine lv_ldcw (v := (-1000000)) hx hb hown (hT _ t_322) dX11_spread_30 ?_
    subst hQ
    exact W.iret (v := (-1000000)) hx hb hr (fun t ht hW => ⟨_, rfl, trivial, ht⟩) (fun q hq => absurd hq List.not_mem_nil) dX11_spread_33
set_option maxHeartbeats 4000000 in
set_option maxRecDepth 100000 in
theorem c_X9_add (l : Launch) (D : va_G) (cy : Nat → ClassId) (a : Nat → Nat) (i : Nat → Int32) (r : Nat → Nat → Int32) (q : Nat → Option Nat) (tl : va_W) (p0 : Int32) (sz : Nat) (hRi : yRi i) (hRr : yRr r) : Met l yX9_add (Cond.code yX9_add cX9_add 3 none :: gT) { frames := 1, cells := 0, slots := 0, locals := 24 } (va_Pc [.ref (a 8), .int p0] (rQ D cy (xW cy a i r q (a 20) (a 12) ++ tl) sz)) (va_Qv (fun u : (Nat → Int32) × (Nat → Nat → Int32) => yRi u.1 ∧ yRr u.2 ∧ mEi [2] i u.1 ∧ mEr [9] r u.2 ∧ True) (fun (u : (Nat → Int32) × (Nat → Nat → Int32)) t => va_P D vwCl (xW cy a u.1 u.2 q (a 20) (a 12) ++ tl) t.heap ∧ va_K D vwCl (vT cy) t ∧ va_D (va_A (xW cy a i r q (a 20) (a 12) ++ tl) sz) (xW cy a u.1 u.2 q (a 20) (a 12) ++ tl)) (va_A (xW cy a i r q (a 20) (a 12) ++ tl) sz)) 0 0 (va_A (xW cy a i r q (a 20) (a 12) ++ tl) sz) := by
  refine Met.ofQ (cc := cX9_add) (maxL := 3) (ret := none) (by decide) rfl ?_
  intro p e s m args below meth c s₁ B hml hv Q hQ
  obtain ⟨rfl, hsz, hP, hK, hD0⟩ := hv
  have hx := B.exec
  have hb := B.bytes
  have hr := B.returns
  have hlocks := B.notSynchronized
  have hT : ∀ w ∈ gT, w.before _ s = true := fun w h => atoms_spec (ws := (Cond.code yX9_add cX9_add 3 none :: gT)) B.pre w (List.mem_cons_of_mem _ h)
  have hown : s.vm.findClass RX9 = some m.cls := findClass_of_methodNamed B.named
  subst hsz
  have hD := hD0.self (sz := s.heap.size)
  generalize hAe : va_A (xW cy a i r q (a 20) (a 12) ++ tl) s.heap.size = A at hD hQ
  have hA : ∀ q : Nat, s.heap.size ≤ q → A q := fun q h => by rw [← hAe]; exact Or.inr h
  have hS : va_S A s.heap s.heap [] := va_S.rf
  have hl := lv_entry ([.ref (a 8), .int p0]) (n := 3) (Nat.le_of_ble_eq_true rfl)
  rw [lg_entry_eq]
  generalize (lg_sl ([.ref (a 8), .int p0]) ++ List.replicate (3 - (lg_sl ([.ref (a 8), .int p0])).length) Slot.unset).toArray = ls at hl ⊢
  have hl : lv_has ls 3 [(0, .ref (a 8)), (1, .int p0)] := hl
  have hEi : mEi [2] i i := Ei_rf
  have hEr : mEr [9] r r := Er_rf
  refine lv_bipush (v := 24) hx hb dX9_add_0 (by decide) ?_
  refine lv_istore_n (lv' := [(2, .int 24), (0, .ref (a 8)), (1, .int p0)]) hx hb dX9_add_2 rfl hl (by decide) rfl (fun ls hl => ?_)
  have loop_1 : ∀ (n : Nat) (x1_2 : Int32) (i1 : Nat → Int32) (r1 : Nat → Nat → Int32) (H : Heap) (locs : List Loc) (ls : Array Slot), (x1_2.toInt + 8).toNat < n → (-8 ≤ x1_2.toInt ∧ x1_2.toInt ≤ 24) → yRi i1 → mEi [2] i i1 → yRr r1 → mEr [9] r r1 → va_P D vwCl (xW cy a i1 r1 q (a 20) (a 12) ++ tl) H → va_D A (xW cy a i1 r1 q (a 20) (a 12) ++ tl) → va_S A s.heap H locs → lv_has ls 3 [(2, .int x1_2), (0, .ref (a 8)), (1, .int p0)] → W p l e ({ frames := 1, cells := 0, slots := 0, locals := 24 } : Room) s m ([.ref (a 8), .int p0] : List Value).toArray below meth c H locs 0 0 Q (F0 m 3 ls []) := by
    intro n
    induction n with
    | zero =>
      intro x1_2 i1 r1 H locs ls hm1 hf1_0 hRi hEi hRr hEr hP hD hS hl
      exact absurd hm1 (by omega)
    | succ n ih1 =>
      intro x1_2 i1 r1 H locs ls hm1 hf1_0 hRi hEi hRr hEr hP hD hS hl
      refine lv_iload_n hx hb dX9_add_3 rfl (lv_at hl 0 rfl) ?_
      refine lv_if_lt (tgt := 46) hx hb dX9_add_4 (by decide) (fun c_2 => ?_) (fun c_2 => ?_)
      · have c_2 : x1_2.toInt < 0 := b_lt c_2
        subst hQ
        exact W.vret hx hb hr (fun t ht hW => ⟨⟨(i1, r1), rfl, ⟨hRi, hRr, hEi, hEr, trivial⟩, by rw [ht]; exact hP, va_K.moved hW.alike hK, hD⟩, hS.F ht⟩) hS.2.2 dX9_add_46
      · have c_2 : 0 ≤ x1_2.toInt := b_nlt c_2
        refine lv_aload_n hx hb dX9_add_7 rfl (lv_at hl 1 rfl) ?_
        refine va_get (D := D) (ci := 9) (v := .int (i1 2)) (C := RX9) (T := TX9) (N := 2) hx hb hT iX9 hown hK hP 8 rfl rfl 1 (by decide) (hT _ t_333) (fun _ h9 => h9) rfl dX9_add_8 ?_
        have hg_3 : 0 ≤ (i1 2).toInt ∧ (i1 2).toInt ≤ 220 := hRi 2
        refine lv_sipush (v := 220) hx hb dX9_add_11 (by decide) ?_
        refine lv_icmp_ge (tgt := 46) hx hb dX9_add_14 (by decide) (fun c_4 => ?_) (fun c_4 => ?_)
        · have c_4 : 220 ≤ (i1 2).toInt := b_le c_4
          subst hQ
          exact W.vret hx hb hr (fun t ht hW => ⟨⟨(i1, r1), rfl, ⟨hRi, hRr, hEi, hEr, trivial⟩, by rw [ht]; exact hP, va_K.moved hW.alike hK, hD⟩, hS.F ht⟩) hS.2.2 dX9_add_46
        · have c_4 : (i1 2).toInt < 220 := b_nle c_4
          refine lv_aload_n hx hb dX9_add_17 rfl (lv_at hl 1 rfl) ?_
          refine va_get (D := D) (ci := 9) (v := .ref (a 9)) (C := RX9) (T := TX9) (N := 2) hx hb hT iX9 hown hK hP 8 rfl rfl 0 (by decide) (hT _ t_334) (fun _ h9 => h9) rfl dX9_add_18 ?_
          refine lv_aload_n hx hb dX9_add_21 rfl (lv_at hl 1 rfl) ?_
          refine va_get (D := D) (ci := 9) (v := .int (i1 2)) (C := RX9) (T := TX9) (N := 2) hx hb hT iX9 hown hK hP 8 rfl rfl 1 (by decide) (hT _ t_333) (fun _ h9 => h9) rfl dX9_add_22 ?_
          refine lv_iload_n hx hb dX9_add_25 rfl (lv_at hl 2 rfl) ?_
          refine lv_iload_n hx hb dX9_add_26 rfl (lv_at hl 0 rfl) ?_
          refine lv_ishr hx hb dX9_add_27 ?_
          refine lv_topi (fun v_5 ev_5 => ?_)
          obtain ⟨v_6, ev_6⟩ : ∃ y : Int32, v_5.toInt8.toInt32 = y := ⟨_, rfl⟩
          refine lv_i2b (v := v_6) hx hb dX9_add_28 ev_6 ?_
          refine va_bast hx hb hK hP hD hS 9 1 rfl rfl (vp_inI (by omega) (by omega)) dX9_add_29 (fun H locs hP hD hS => ?_)
          rw [zS9] at hP hD
          have hRr : yRr (va_up r1 9 (upd (r1 9) ((i1 2).toNatClampNeg) (vp_nar .byte v_6))) := Yr_upd hRr 9 ((i1 2).toNatClampNeg) (vp_nar .byte v_6) (b_rg _)
          have hEr : mEr [9] _ (va_up r1 9 (upd (r1 9) ((i1 2).toNatClampNeg) (vp_nar .byte v_6))) := Er_up hEr 9 _ (by decide)
          refine lv_aload_n hx hb dX9_add_30 rfl (lv_at hl 1 rfl) ?_
          refine lv_dup hx hb dX9_add_31 rfl ?_
          refine va_get (D := D) (ci := 9) (v := .int (i1 2)) (C := RX9) (T := TX9) (N := 2) hx hb hT iX9 hown hK hP 8 rfl rfl 1 (by decide) (hT _ t_333) (fun _ h9 => h9) rfl dX9_add_32 ?_
          refine lv_iconst (v := 1) hx hb dX9_add_35 (by decide) ?_
          refine lv_iadd hx hb dX9_add_36 ?_
          refine lv_topi (fun v_7 ev_7 => ?_)
          have hv_7 : v_7.toInt = (i1 2).toInt + 1 := by rw [ev_7]; have := b_rg (i1 2); exact i_add (a := (i1 2).toInt) (b := 1) rfl rfl (by omega) (by omega)
          refine va_put (D := D) (ci := 9) (v := .int v_7) (ty := .int) (C := RX9) (T := TX9) (N := 2) hx hb hT iX9 tyX9 tyX9_ok nmX9 hown hK hP hD hS 8 rfl rfl 1 (by decide) (hT _ t_333) (fun _ h9 => h9) rfl (by decide +kernel) rfl rfl (Nat.le_of_ble_eq_true rfl) dX9_add_37 (fun H locs hP hD hS => ?_)
          rw [zP2] at hP hD
          have hRi := Yi_upd hRi 2 v_7 ⟨by show (0 : Int) ≤ v_7.toInt; omega, by show v_7.toInt ≤ (220 : Int); omega⟩
          have hEi := Ei_upd hEi 2 v_7 (by decide)
          obtain ⟨x_8, ex_8⟩ : ∃ y : Int32, y = x1_2 + (-8) := ⟨_, rfl⟩
          refine lv_iinc (v := x_8) (lv' := [(2, .int x_8), (0, .ref (a 8)), (1, .int p0)]) hx hb dX9_add_40 hl (k := 0) rfl (by rw [ex_8]; rfl) (by decide) rfl (fun ls hl => ?_)
          have hx_8 : x_8.toInt = x1_2.toInt + (-8) := by rw [ex_8]; have := b_rg x1_2; exact i_add (a := x1_2.toInt) (b := (-8)) rfl rfl (by omega) (by omega)
          refine lv_goto (tgt := 3) hx hb dX9_add_43 (by decide) ?_
          exact ih1 x_8 (upd i1 2 v_7) (va_up r1 9 (upd (r1 9) ((i1 2).toNatClampNeg) (vp_nar .byte v_6))) _ _ _ (by first | omega | (simp only [Int.toNat]; omega)) (by first | omega | decide) hRi hEi hRr hEr  hP hD hS (lv_sub hl [0, 1, 2] rfl)
  exact loop_1 _ 24 i r _ _ _ (Nat.lt_succ_self _) (by first | omega | decide) hRi hEi hRr hEr  hP hD hS hl
set_option maxHeartbeats 4000000 in
set_option maxRecDepth 100000 in
theorem c_X11_feed (l : Launch) (D : va_G) (cy : Nat → ClassId) (a : Nat → Nat) (i : Nat → Int32) (r : Nat → Nat → Int32) (q : Nat → Option Nat) (tl : va_W) (p0 p1 p2 p3 p4 : Int32) (sz : Nat) (hRi : yRi i) (hRr : yRr r) : Met l yX11_feed (Cond.code yX11_feed cX11_feed 6 (some .int) :: gT) { frames := 2, cells := 0, slots := 0, locals := 46 } (va_Pc [.ref (a 0), .int p0, .int p1, .int p2, .int p3, .int p4] (rQ D cy (xW cy a i r q (a 20) (a 12) ++ tl) sz)) (va_Qi (fun (z : Int32) (u : (Nat → Int32) × (Nat → Nat → Int32)) => yRi u.1 ∧ yRr u.2 ∧ mEi [2] i u.1 ∧ mEr [9] r u.2 ∧ True) (fun (u : (Nat → Int32) × (Nat → Nat → Int32)) t => va_P D vwCl (xW cy a u.1 u.2 q (a 20) (a 12) ++ tl) t.heap ∧ va_K D vwCl (vT cy) t ∧ va_D (va_A (xW cy a i r q (a 20) (a 12) ++ tl) sz) (xW cy a u.1 u.2 q (a 20) (a 12) ++ tl)) (va_A (xW cy a i r q (a 20) (a 12) ++ tl) sz)) 0 0 (va_A (xW cy a i r q (a 20) (a 12) ++ tl) sz) := by
  refine Met.ofQ (cc := cX11_feed) (maxL := 6) (ret := (some .int)) (by decide) rfl ?_
  intro p e s m args below meth c s₁ B hml hv Q hQ
  obtain ⟨rfl, hsz, hP, hK, hD0⟩ := hv
  have hx := B.exec
  have hb := B.bytes
  have hr := B.returns
  have hlocks := B.notSynchronized
  have hT : ∀ w ∈ gT, w.before _ s = true := fun w h => atoms_spec (ws := (Cond.code yX11_feed cX11_feed 6 (some .int) :: gT)) B.pre w (List.mem_cons_of_mem _ h)
  have hown : s.vm.findClass RX11 = some m.cls := findClass_of_methodNamed B.named
  subst hsz
  have hD := hD0.self (sz := s.heap.size)
  generalize hAe : va_A (xW cy a i r q (a 20) (a 12) ++ tl) s.heap.size = A at hD hQ
  have hA : ∀ q : Nat, s.heap.size ≤ q → A q := fun q h => by rw [← hAe]; exact Or.inr h
  have hS : va_S A s.heap s.heap [] := va_S.rf
  have hl := lv_entry ([.ref (a 0), .int p0, .int p1, .int p2, .int p3, .int p4]) (n := 6) (Nat.le_of_ble_eq_true rfl)
  rw [lg_entry_eq]
  generalize (lg_sl ([.ref (a 0), .int p0, .int p1, .int p2, .int p3, .int p4]) ++ List.replicate (6 - (lg_sl ([.ref (a 0), .int p0, .int p1, .int p2, .int p3, .int p4])).length) Slot.unset).toArray = ls at hl ⊢
  have hl : lv_has ls 6 [(0, .ref (a 0)), (1, .int p0), (2, .int p1), (3, .int p2), (4, .int p3), (5, .int p4)] := hl
  have hEi : mEi [2] i i := Ei_rf
  have hEr : mEr [9] r r := Er_rf
  refine lv_aload_n hx hb dX11_feed_0 rfl (lv_at hl 0 rfl) ?_
  refine va_get (D := D) (ci := 11) (v := .ref (a 8)) (C := RX11) (T := TX11) (N := 14) hx hb hT iX11 hown hK hP 0 rfl rfl 4 (by decide) (hT _ t_335) (fun _ h9 => h9) rfl dX11_feed_1 ?_
  refine va_get (D := D) (ci := 9) (v := .int (i 2)) (C := RX9) (T := TX9) (N := 2) hx hb hT iX9 hown hK hP 8 rfl rfl 1 (by decide) (hT _ t_336) (fun _ h9 => h9) rfl dX11_feed_4 ?_
  have hg_1 : 0 ≤ (i 2).toInt ∧ (i 2).toInt ≤ 220 := hRi 2
  refine lv_sipush (v := 200) hx hb dX11_feed_7 (by decide) ?_
  refine lv_icmp_le (tgt := 15) hx hb dX11_feed_10 (by decide) (fun c_2 => ?_) (fun c_2 => ?_)
  · have c_2 : (i 2).toInt ≤ 200 := b_le c_2
    refine lv_aload_n hx hb dX11_feed_15 rfl (lv_at hl 0 rfl) ?_
    refine va_get (D := D) (ci := 11) (v := .ref (a 8)) (C := RX11) (T := TX11) (N := 14) hx hb hT iX11 hown hK hP 0 rfl rfl 4 (by decide) (hT _ t_335) (fun _ h9 => h9) rfl dX11_feed_16 ?_
    refine lv_iload_n hx hb dX11_feed_19 rfl (lv_at hl 1 rfl) ?_
    have hF_3 := rF hD hS hA
    refine va_callv (va_runV (As := [.int p0]) (rest := []) ⟨hx, hb, hml, hown, hT⟩ (c_X9_add l D cy a i r q tl p0 _ hRi hRr) (cwV 1 hT (gV t_337 t_339 t_340 t_341 t_338) rfl rfl rfl (by decide +kernel) ⟨Nat.le_of_ble_eq_true rfl, Nat.le_of_ble_eq_true rfl⟩) (rQ_v hP hK hD (va_recv hK hP (ci := 9) (q0 := 8) rfl rfl)) rfl rfl hl.1 rfl (lv_room (Nat.le_of_ble_eq_true rfl)) dX11_feed_20 ⟨Nat.le_of_ble_eq_true rfl, Nat.le_of_ble_eq_true rfl⟩) hS (fun q _ h => hF_3 q h) hF_3 (fun u_5 t H1 locs ht hvm hr_4 hB hz1 hk1 hS => ?_)
    obtain ⟨i5, r5⟩ := u_5
    obtain ⟨hP, hK1, hD1⟩ := hB
    rw [ht] at hP
    have hD := hD1.weaken (fun k q _ h => hF_3 q.1 h)
    obtain ⟨hRi, hRr, hE1, hE2, hr_4⟩ := hr_4
    have hRi : yRi i5 := hRi
    have hE1 : mEi [2] i i5 := hE1
    have hRr : yRr r5 := hRr
    have hE2 : mEr [9] r r5 := hE2
    have hP : va_P D vwCl (xW cy a i5 r5 q (a 20) (a 12) ++ tl) H1 := hP
    have hD : va_D A (xW cy a i5 r5 q (a 20) (a 12) ++ tl) := hD
    have hEi : mEi [2] _ i5 := Ei_tr hEi hE1 (by decide)
    have hEr : mEr [9] _ r5 := Er_tr hEr hE2 (by decide)
    refine lv_aload_n hx hb dX11_feed_23 rfl (lv_at hl 0 rfl) ?_
    refine va_get (D := D) (ci := 11) (v := .ref (a 8)) (C := RX11) (T := TX11) (N := 14) hx hb hT iX11 hown hK hP 0 rfl rfl 4 (by decide) (hT _ t_335) (fun _ h9 => h9) rfl dX11_feed_24 ?_
    refine lv_iload_n hx hb dX11_feed_27 rfl (lv_at hl 2 rfl) ?_
    have hF_6 := rF hD hS hA
    refine va_callv (va_runV (As := [.int p1]) (rest := []) ⟨hx, hb, hml, hown, hT⟩ (c_X9_add l D cy a i5 r5 q tl p1 _ hRi hRr) (cwV 1 hT (gV t_337 t_339 t_340 t_341 t_338) rfl rfl rfl (by decide +kernel) ⟨Nat.le_of_ble_eq_true rfl, Nat.le_of_ble_eq_true rfl⟩) (rQ_v hP hK hD (va_recv hK hP (ci := 9) (q0 := 8) rfl rfl)) rfl rfl hl.1 rfl (lv_room (Nat.le_of_ble_eq_true rfl)) dX11_feed_28 ⟨Nat.le_of_ble_eq_true rfl, Nat.le_of_ble_eq_true rfl⟩) hS (fun q _ h => hF_6 q h) hF_6 (fun u_8 t H1 locs ht hvm hr_7 hB hz1 hk1 hS => ?_)
    obtain ⟨i8, r8⟩ := u_8
    obtain ⟨hP, hK1, hD1⟩ := hB
    rw [ht] at hP
    have hD := hD1.weaken (fun k q _ h => hF_6 q.1 h)
    obtain ⟨hRi, hRr, hE1, hE2, hr_7⟩ := hr_7
    have hRi : yRi i8 := hRi
    have hE1 : mEi [2] i5 i8 := hE1
    have hRr : yRr r8 := hRr
    have hE2 : mEr [9] r5 r8 := hE2
    have hP : va_P D vwCl (xW cy a i8 r8 q (a 20) (a 12) ++ tl) H1 := hP
    have hD : va_D A (xW cy a i8 r8 q (a 20) (a 12) ++ tl) := hD
    have hEi : mEi [2] _ i8 := Ei_tr hEi hE1 (by decide)
    have hEr : mEr [9] _ r8 := Er_tr hEr hE2 (by decide)
    refine lv_aload_n hx hb dX11_feed_31 rfl (lv_at hl 0 rfl) ?_
    refine va_get (D := D) (ci := 11) (v := .ref (a 8)) (C := RX11) (T := TX11) (N := 14) hx hb hT iX11 hown hK hP 0 rfl rfl 4 (by decide) (hT _ t_335) (fun _ h9 => h9) rfl dX11_feed_32 ?_
    refine lv_iload_n hx hb dX11_feed_35 rfl (lv_at hl 3 rfl) ?_
    have hF_9 := rF hD hS hA
    refine va_callv (va_runV (As := [.int p2]) (rest := []) ⟨hx, hb, hml, hown, hT⟩ (c_X9_add l D cy a i8 r8 q tl p2 _ hRi hRr) (cwV 1 hT (gV t_337 t_339 t_340 t_341 t_338) rfl rfl rfl (by decide +kernel) ⟨Nat.le_of_ble_eq_true rfl, Nat.le_of_ble_eq_true rfl⟩) (rQ_v hP hK hD (va_recv hK hP (ci := 9) (q0 := 8) rfl rfl)) rfl rfl hl.1 rfl (lv_room (Nat.le_of_ble_eq_true rfl)) dX11_feed_36 ⟨Nat.le_of_ble_eq_true rfl, Nat.le_of_ble_eq_true rfl⟩) hS (fun q _ h => hF_9 q h) hF_9 (fun u_11 t H1 locs ht hvm hr_10 hB hz1 hk1 hS => ?_)
    obtain ⟨i11, r11⟩ := u_11
    obtain ⟨hP, hK1, hD1⟩ := hB
    rw [ht] at hP
    have hD := hD1.weaken (fun k q _ h => hF_9 q.1 h)
    obtain ⟨hRi, hRr, hE1, hE2, hr_10⟩ := hr_10
    have hRi : yRi i11 := hRi
    have hE1 : mEi [2] i8 i11 := hE1
    have hRr : yRr r11 := hRr
    have hE2 : mEr [9] r8 r11 := hE2
    have hP : va_P D vwCl (xW cy a i11 r11 q (a 20) (a 12) ++ tl) H1 := hP
    have hD : va_D A (xW cy a i11 r11 q (a 20) (a 12) ++ tl) := hD
    have hEi : mEi [2] _ i11 := Ei_tr hEi hE1 (by decide)
    have hEr : mEr [9] _ r11 := Er_tr hEr hE2 (by decide)
    refine lv_aload_n hx hb dX11_feed_39 rfl (lv_at hl 0 rfl) ?_
    refine va_get (D := D) (ci := 11) (v := .ref (a 8)) (C := RX11) (T := TX11) (N := 14) hx hb hT iX11 hown hK hP 0 rfl rfl 4 (by decide) (hT _ t_335) (fun _ h9 => h9) rfl dX11_feed_40 ?_
    refine lv_iload hx hb dX11_feed_43 (lv_at hl 4 rfl) ?_
    have hF_12 := rF hD hS hA
    refine va_callv (va_runV (As := [.int p3]) (rest := []) ⟨hx, hb, hml, hown, hT⟩ (c_X9_add l D cy a i11 r11 q tl p3 _ hRi hRr) (cwV 1 hT (gV t_337 t_339 t_340 t_341 t_338) rfl rfl rfl (by decide +kernel) ⟨Nat.le_of_ble_eq_true rfl, Nat.le_of_ble_eq_true rfl⟩) (rQ_v hP hK hD (va_recv hK hP (ci := 9) (q0 := 8) rfl rfl)) rfl rfl hl.1 rfl (lv_room (Nat.le_of_ble_eq_true rfl)) dX11_feed_45 ⟨Nat.le_of_ble_eq_true rfl, Nat.le_of_ble_eq_true rfl⟩) hS (fun q _ h => hF_12 q h) hF_12 (fun u_14 t H1 locs ht hvm hr_13 hB hz1 hk1 hS => ?_)
    obtain ⟨i14, r14⟩ := u_14
    obtain ⟨hP, hK1, hD1⟩ := hB
    rw [ht] at hP
    have hD := hD1.weaken (fun k q _ h => hF_12 q.1 h)
    obtain ⟨hRi, hRr, hE1, hE2, hr_13⟩ := hr_13
    have hRi : yRi i14 := hRi
    have hE1 : mEi [2] i11 i14 := hE1
    have hRr : yRr r14 := hRr
    have hE2 : mEr [9] r11 r14 := hE2
    have hP : va_P D vwCl (xW cy a i14 r14 q (a 20) (a 12) ++ tl) H1 := hP
    have hD : va_D A (xW cy a i14 r14 q (a 20) (a 12) ++ tl) := hD
    have hEi : mEi [2] _ i14 := Ei_tr hEi hE1 (by decide)
    have hEr : mEr [9] _ r14 := Er_tr hEr hE2 (by decide)
    refine lv_aload_n hx hb dX11_feed_48 rfl (lv_at hl 0 rfl) ?_
    refine va_get (D := D) (ci := 11) (v := .ref (a 8)) (C := RX11) (T := TX11) (N := 14) hx hb hT iX11 hown hK hP 0 rfl rfl 4 (by decide) (hT _ t_335) (fun _ h9 => h9) rfl dX11_feed_49 ?_
    refine lv_iload hx hb dX11_feed_52 (lv_at hl 5 rfl) ?_
    have hF_15 := rF hD hS hA
    refine va_callv (va_runV (As := [.int p4]) (rest := []) ⟨hx, hb, hml, hown, hT⟩ (c_X9_add l D cy a i14 r14 q tl p4 _ hRi hRr) (cwV 1 hT (gV t_337 t_339 t_340 t_341 t_338) rfl rfl rfl (by decide +kernel) ⟨Nat.le_of_ble_eq_true rfl, Nat.le_of_ble_eq_true rfl⟩) (rQ_v hP hK hD (va_recv hK hP (ci := 9) (q0 := 8) rfl rfl)) rfl rfl hl.1 rfl (lv_room (Nat.le_of_ble_eq_true rfl)) dX11_feed_54 ⟨Nat.le_of_ble_eq_true rfl, Nat.le_of_ble_eq_true rfl⟩) hS (fun q _ h => hF_15 q h) hF_15 (fun u_17 t H1 locs ht hvm hr_16 hB hz1 hk1 hS => ?_)
    obtain ⟨i17, r17⟩ := u_17
    obtain ⟨hP, hK1, hD1⟩ := hB
    rw [ht] at hP
    have hD := hD1.weaken (fun k q _ h => hF_15 q.1 h)
    obtain ⟨hRi, hRr, hE1, hE2, hr_16⟩ := hr_16
    have hRi : yRi i17 := hRi
    have hE1 : mEi [2] i14 i17 := hE1
    have hRr : yRr r17 := hRr
    have hE2 : mEr [9] r14 r17 := hE2
    have hP : va_P D vwCl (xW cy a i17 r17 q (a 20) (a 12) ++ tl) H1 := hP
    have hD : va_D A (xW cy a i17 r17 q (a 20) (a 12) ++ tl) := hD
    have hEi : mEi [2] _ i17 := Ei_tr hEi hE1 (by decide)
    have hEr : mEr [9] _ r17 := Er_tr hEr hE2 (by decide)
    refine lv_aload_n hx hb dX11_feed_57 rfl (lv_at hl 0 rfl) ?_
    refine va_get (D := D) (ci := 11) (v := .ref (a 8)) (C := RX11) (T := TX11) (N := 14) hx hb hT iX11 hown hK hP 0 rfl rfl 4 (by decide) (hT _ t_335) (fun _ h9 => h9) rfl dX11_feed_58 ?_
    refine va_get (D := D) (ci := 9) (v := .int (i17 2)) (C := RX9) (T := TX9) (N := 2) hx hb hT iX9 hown hK hP 8 rfl rfl 1 (by decide) (hT _ t_336) (fun _ h9 => h9) rfl dX11_feed_61 ?_
    have hg_18 : 0 ≤ (i17 2).toInt ∧ (i17 2).toInt ≤ 220 := hRi 2
    subst hQ
    exact W.iret (v := i17 2) hx hb hr (fun t ht hW => ⟨⟨_, (i17, r17), rfl, ⟨hRi, hRr, hEi, hEr, trivial⟩, by rw [ht]; exact hP, va_K.moved hW.alike hK, hD⟩, hS.F ht⟩) hS.2.2 dX11_feed_64
  · have c_2 : 200 < (i 2).toInt := b_nle c_2
    refine lv_iconst (v := (-1)) hx hb dX11_feed_13 (by decide) ?_
    subst hQ
    exact W.iret (v := (-1)) hx hb hr (fun t ht hW => ⟨⟨_, (i, r), rfl, ⟨hRi, hRr, hEi, hEr, trivial⟩, by rw [ht]; exact hP, va_K.moved hW.alike hK, hD⟩, hS.F ht⟩) hS.2.2 dX11_feed_14
set_option maxHeartbeats 4000000 in
set_option maxRecDepth 100000 in
theorem c_X9_numberAt (l : Launch) (D : va_G) (cy : Nat → ClassId) (a : Nat → Nat) (i : Nat → Int32) (r : Nat → Nat → Int32) (q : Nat → Option Nat) (tl : va_W) (p0 : Int32) (hRi : yRi i) (hRr : yRr r) (q0 : 0 ≤ p0.toInt ∧ p0.toInt ≤ 3) : Met l yX9_numberAt (Cond.code yX9_numberAt cX9_numberAt 4 (some .int) :: gT) { frames := 1, cells := 0, slots := 0, locals := 24 } (va_Pc [.ref (a 8), .int p0] (rP D cy (xW cy a i r q (a 20) (a 12) ++ tl))) (vp_Si (fun z => True)) 0 0 (fun _ => False) := by
  refine Met.ofQ (cc := cX9_numberAt) (maxL := 4) (ret := (some .int)) (by decide) rfl ?_
  intro p e s m args below meth c s₁ B hml hv Q hQ
  obtain ⟨rfl, hP, hK⟩ := hv
  have hx := B.exec
  have hb := B.bytes
  have hr := B.returns
  have hlocks := B.notSynchronized
  have hT : ∀ w ∈ gT, w.before _ s = true := fun w h => atoms_spec (ws := (Cond.code yX9_numberAt cX9_numberAt 4 (some .int) :: gT)) B.pre w (List.mem_cons_of_mem _ h)
  have hown : s.vm.findClass RX9 = some m.cls := findClass_of_methodNamed B.named
  have hl := lv_entry ([.ref (a 8), .int p0]) (n := 4) (Nat.le_of_ble_eq_true rfl)
  rw [lg_entry_eq]
  generalize (lg_sl ([.ref (a 8), .int p0]) ++ List.replicate (4 - (lg_sl ([.ref (a 8), .int p0])).length) Slot.unset).toArray = ls at hl ⊢
  have hl : lv_has ls 4 [(0, .ref (a 8)), (1, .int p0)] := hl
  have hEi : mEi [] i i := Ei_rf
  have hEr : mEr [] r r := Er_rf
  refine lv_iconst (v := 0) hx hb dX9_numberAt_0 (by decide) ?_
  refine lv_istore_n (lv' := [(2, .int 0), (0, .ref (a 8)), (1, .int p0)]) hx hb dX9_numberAt_1 rfl hl (by decide) rfl (fun ls hl => ?_)
  refine lv_iconst (v := 4) hx hb dX9_numberAt_2 (by decide) ?_
  refine lv_iload_n hx hb dX9_numberAt_3 rfl (lv_at hl 2 rfl) ?_
  refine lv_imul hx hb dX9_numberAt_4 ?_
  refine lv_topi (fun v_1 ev_1 => ?_)
  have hv_1 : v_1.toInt = 4 * p0.toInt := by rw [ev_1]; have := b_rg p0; exact i_mul (a := 4) (b := p0.toInt) rfl rfl (by omega) (by omega)
  refine lv_istore_n (lv' := [(3, .int v_1), (2, .int 0), (0, .ref (a 8)), (1, .int p0)]) hx hb dX9_numberAt_5 rfl hl (by decide) rfl (fun ls hl => ?_)
  have loop_2 : ∀ (n : Nat) (x2_3 : Int32) (x2_2 : Int32) (ls : Array Slot), (220 - x2_3.toInt).toNat < n → (0 ≤ x2_3.toInt ∧ x2_3.toInt ≤ 220) → lv_has ls 4 [(3, .int x2_3), (2, .int x2_2), (0, .ref (a 8)), (1, .int p0)] → W p l e ({ frames := 1, cells := 0, slots := 0, locals := 24 } : Room) s m ([.ref (a 8), .int p0] : List Value).toArray below meth c s.heap [] 0 0 Q (F0 m 6 ls []) := by
    intro n
    induction n with
    | zero =>
      intro x2_3 x2_2 ls hm2 hf2_0 hl
      exact absurd hm2 (by omega)
    | succ n ih2 =>
      intro x2_3 x2_2 ls hm2 hf2_0 hl
      refine lv_iload_n hx hb dX9_numberAt_6 rfl (lv_at hl 0 rfl) ?_
      refine lv_if_lt (tgt := 48) hx hb dX9_numberAt_7 (by decide) (fun c_3 => by have c_3 : x2_3.toInt < 0 := b_lt c_3; omega) (fun c_3 => ?_)
      have c_3 : 0 ≤ x2_3.toInt := b_nlt c_3
      refine lv_iload_n hx hb dX9_numberAt_10 rfl (lv_at hl 0 rfl) ?_
      refine lv_iconst (v := 4) hx hb dX9_numberAt_11 (by decide) ?_
      refine lv_iload_n hx hb dX9_numberAt_12 rfl (lv_at hl 3 rfl) ?_
      refine lv_imul hx hb dX9_numberAt_13 ?_
      refine lv_topi (fun v_4 ev_4 => ?_)
      have hv_4 : v_4.toInt = 4 * p0.toInt := by rw [ev_4]; have := b_rg p0; exact i_mul (a := 4) (b := p0.toInt) rfl rfl (by omega) (by omega)
      refine lv_iconst (v := 4) hx hb dX9_numberAt_14 (by decide) ?_
      refine lv_iadd hx hb dX9_numberAt_15 ?_
      refine lv_topi (fun v_5 ev_5 => ?_)
      have hv_5 : v_5.toInt = v_4.toInt + 4 := by rw [ev_5]; have := b_rg v_4; exact i_add (a := v_4.toInt) (b := 4) rfl rfl (by omega) (by omega)
      refine lv_icmp_ge (tgt := 48) hx hb dX9_numberAt_16 (by decide) (fun c_6 => ?_) (fun c_6 => ?_)
      · have c_6 : v_5.toInt ≤ x2_3.toInt := b_le c_6
        refine lv_iload_n hx hb dX9_numberAt_48 rfl (lv_at hl 1 rfl) ?_
        subst hQ
        exact W.iret (v := x2_2) hx hb hr (fun t ht hW => ⟨_, rfl, trivial, ht⟩) (fun q hq => absurd hq List.not_mem_nil) dX9_numberAt_49
      · have c_6 : x2_3.toInt < v_5.toInt := b_nle c_6
        refine lv_iload_n hx hb dX9_numberAt_19 rfl (lv_at hl 0 rfl) ?_
        refine lv_sipush (v := 220) hx hb dX9_numberAt_20 (by decide) ?_
        refine lv_icmp_ge (tgt := 48) hx hb dX9_numberAt_23 (by decide) (fun c_7 => by have c_7 : 220 ≤ x2_3.toInt := b_le c_7; omega) (fun c_7 => ?_)
        have c_7 : x2_3.toInt < 220 := b_nle c_7
        refine lv_iload_n hx hb dX9_numberAt_26 rfl (lv_at hl 1 rfl) ?_
        refine lv_bipush (v := 8) hx hb dX9_numberAt_27 (by decide) ?_
        refine lv_ishl hx hb dX9_numberAt_29 ?_
        refine lv_topi (fun v_8 ev_8 => ?_)
        refine lv_aload_n hx hb dX9_numberAt_30 rfl (lv_at hl 2 rfl) ?_
        refine va_get (D := D) (ci := 9) (v := .ref (a 9)) (C := RX9) (T := TX9) (N := 2) hx hb hT iX9 hown hK hP 8 rfl rfl 0 (by decide) (hT _ t_334) (fun _ h9 => h9) rfl dX9_numberAt_31 ?_
        refine lv_iload_n hx hb dX9_numberAt_34 rfl (lv_at hl 0 rfl) ?_
        refine va_bald hx hb hK hP 9 1 rfl rfl (vp_inI (by omega) (by omega)) dX9_numberAt_35 ?_
        refine lv_topi (fun v_9 ev_9 => ?_)
        refine lv_sipush (v := 255) hx hb dX9_numberAt_36 (by decide) ?_
        refine lv_iand hx hb dX9_numberAt_39 ?_
        refine lv_topi (fun v_10 ev_10 => ?_)
        have hmv_10 : 0 ≤ v_10.toInt ∧ v_10.toInt ≤ 255 := by rw [ev_10]; exact b_andm v_9 8 (by decide) (by decide)
        refine lv_ior hx hb dX9_numberAt_40 ?_
        refine lv_topi (fun v_11 ev_11 => ?_)
        refine lv_istore_n (lv' := [(2, .int v_11), (3, .int x2_3), (0, .ref (a 8)), (1, .int p0)]) hx hb dX9_numberAt_41 rfl hl (by decide) rfl (fun ls hl => ?_)
        obtain ⟨x_12, ex_12⟩ : ∃ y : Int32, y = x2_3 + 1 := ⟨_, rfl⟩
        refine lv_iinc (v := x_12) (lv' := [(3, .int x_12), (2, .int v_11), (0, .ref (a 8)), (1, .int p0)]) hx hb dX9_numberAt_42 hl (k := 1) rfl (by rw [ex_12]; rfl) (by decide) rfl (fun ls hl => ?_)
        have hx_12 : x_12.toInt = x2_3.toInt + 1 := by rw [ex_12]; have := b_rg x2_3; exact i_add (a := x2_3.toInt) (b := 1) rfl rfl (by omega) (by omega)
        refine lv_goto (tgt := 6) hx hb dX9_numberAt_45 (by decide) ?_
        exact ih2 x_12 v_11 _ (by first | omega | (simp only [Int.toNat]; omega)) (by first | omega | decide)    (lv_sub hl [0, 1, 2, 3] rfl)
  exact loop_2 _ v_1 0 _ (Nat.lt_succ_self _) (by first | omega | decide)    hl
set_option maxHeartbeats 4000000 in
set_option maxRecDepth 100000 in
theorem c_X1_isClaimed (l : Launch) (D : va_G) (cy : Nat → ClassId) (a : Nat → Nat) (i : Nat → Int32) (r : Nat → Nat → Int32) (q : Nat → Option Nat) (tl : va_W) (p0 p1 : Int32) (hRi : yRi i) (hRr : yRr r) : Met l yX1_isClaimed (Cond.code yX1_isClaimed cX1_isClaimed 4 (some .boolean) :: gT) { frames := 1, cells := 0, slots := 0, locals := 24 } (va_Pc [.ref (a 29), .int p0, .int p1] (rP D cy (xW cy a i r q (a 20) (a 12) ++ tl))) (vp_Si (fun z => z = 0 ∨ z = 1)) 0 0 (fun _ => False) := by
  refine Met.ofQ (cc := cX1_isClaimed) (maxL := 4) (ret := (some .boolean)) (by decide) rfl ?_
  intro p e s m args below meth c s₁ B hml hv Q hQ
  obtain ⟨rfl, hP, hK⟩ := hv
  have hx := B.exec
  have hb := B.bytes
  have hr := B.returns
  have hlocks := B.notSynchronized
  have hT : ∀ w ∈ gT, w.before _ s = true := fun w h => atoms_spec (ws := (Cond.code yX1_isClaimed cX1_isClaimed 4 (some .boolean) :: gT)) B.pre w (List.mem_cons_of_mem _ h)
  have hown : s.vm.findClass RX1 = some m.cls := findClass_of_methodNamed B.named
  have hl := lv_entry ([.ref (a 29), .int p0, .int p1]) (n := 4) (Nat.le_of_ble_eq_true rfl)
  rw [lg_entry_eq]
  generalize (lg_sl ([.ref (a 29), .int p0, .int p1]) ++ List.replicate (4 - (lg_sl ([.ref (a 29), .int p0, .int p1])).length) Slot.unset).toArray = ls at hl ⊢
  have hl : lv_has ls 4 [(0, .ref (a 29)), (1, .int p0), (2, .int p1)] := hl
  have hEi : mEi [] i i := Ei_rf
  have hEr : mEr [] r r := Er_rf
  refine lv_iconst (v := 0) hx hb dX1_isClaimed_0 (by decide) ?_
  refine lv_istore_n (lv' := [(3, .int 0), (0, .ref (a 29)), (1, .int p0), (2, .int p1)]) hx hb dX1_isClaimed_1 rfl hl (by decide) rfl (fun ls hl => ?_)
  have loop_1 : ∀ (n : Nat) (x1_3 : Int32) (ls : Array Slot), (30 - x1_3.toInt).toNat < n → (0 ≤ x1_3.toInt ∧ x1_3.toInt ≤ 30) → lv_has ls 4 [(3, .int x1_3), (0, .ref (a 29)), (1, .int p0), (2, .int p1)] → W p l e ({ frames := 1, cells := 0, slots := 0, locals := 24 } : Room) s m ([.ref (a 29), .int p0, .int p1] : List Value).toArray below meth c s.heap [] 0 0 Q (F0 m 2 ls []) := by
    intro n
    induction n with
    | zero =>
      intro x1_3 ls hm1 hf1_0 hl
      exact absurd hm1 (by omega)
    | succ n ih1 =>
      intro x1_3 ls hm1 hf1_0 hl
      refine lv_iload_n hx hb dX1_isClaimed_2 rfl (lv_at hl 0 rfl) ?_
      refine lv_aload_n hx hb dX1_isClaimed_3 rfl (lv_at hl 1 rfl) ?_
      refine va_get (D := D) (ci := 1) (v := .int (i 10)) (C := RX1) (T := TX1) (N := 12) hx hb hT iX1 hown hK hP 29 rfl rfl 0 (by decide) (hT _ t_342) (fun _ h9 => h9) rfl dX1_isClaimed_4 ?_
      have hg_2 : 0 ≤ (i 10).toInt ∧ (i 10).toInt ≤ 30 := hRi 10
      refine lv_icmp_ge (tgt := 38) hx hb dX1_isClaimed_7 (by decide) (fun c_3 => ?_) (fun c_3 => ?_)
      · have c_3 : (i 10).toInt ≤ x1_3.toInt := b_le c_3
        refine lv_iconst (v := 0) hx hb dX1_isClaimed_38 (by decide) ?_
        subst hQ
        exact W.zret hx hb hr rfl (fun t ht hW => ⟨_, rfl, Or.inl rfl, ht⟩) (fun q hq => absurd hq List.not_mem_nil) dX1_isClaimed_39
      · have c_3 : x1_3.toInt < (i 10).toInt := b_nle c_3
        refine lv_aload_n hx hb dX1_isClaimed_10 rfl (lv_at hl 1 rfl) ?_
        refine va_get (D := D) (ci := 1) (v := .ref (a 30)) (C := RX1) (T := TX1) (N := 12) hx hb hT iX1 hown hK hP 29 rfl rfl 1 (by decide) (hT _ t_343) (fun _ h9 => h9) rfl dX1_isClaimed_11 ?_
        refine lv_iload_n hx hb dX1_isClaimed_14 rfl (lv_at hl 0 rfl) ?_
        refine va_iald hx hb hK hP 30 0 rfl rfl (vp_inI (by omega) (by omega)) dX1_isClaimed_15 ?_
        refine lv_topi (fun v_4 ev_4 => ?_)
        have hgv_4 : 0 ≤ v_4.toInt ∧ v_4.toInt ≤ 5 := by rw [ev_4]; exact hRr 30 _
        refine lv_iload_n hx hb dX1_isClaimed_16 rfl (lv_at hl 2 rfl) ?_
        refine lv_icmp_ne (tgt := 32) hx hb dX1_isClaimed_17 (by decide) (fun c_5 => ?_) (fun c_5 => ?_)
        · have c_5 : v_4.toInt ≠ p0.toInt := b_ne c_5
          obtain ⟨x_6, ex_6⟩ : ∃ y : Int32, y = x1_3 + 1 := ⟨_, rfl⟩
          refine lv_iinc (v := x_6) (lv' := [(3, .int x_6), (0, .ref (a 29)), (1, .int p0), (2, .int p1)]) hx hb dX1_isClaimed_32 hl (k := 0) rfl (by rw [ex_6]; rfl) (by decide) rfl (fun ls hl => ?_)
          have hx_6 : x_6.toInt = x1_3.toInt + 1 := by rw [ex_6]; have := b_rg x1_3; exact i_add (a := x1_3.toInt) (b := 1) rfl rfl (by omega) (by omega)
          refine lv_goto (tgt := 2) hx hb dX1_isClaimed_35 (by decide) ?_
          exact ih1 x_6 _ (by first | omega | (simp only [Int.toNat]; omega)) (by first | omega | decide)    (lv_sub hl [0, 1, 2, 3] rfl)
        · have c_5 : v_4.toInt = p0.toInt := b_nne c_5
          refine lv_aload_n hx hb dX1_isClaimed_20 rfl (lv_at hl 1 rfl) ?_
          refine va_get (D := D) (ci := 1) (v := .ref (a 31)) (C := RX1) (T := TX1) (N := 12) hx hb hT iX1 hown hK hP 29 rfl rfl 2 (by decide) (hT _ t_344) (fun _ h9 => h9) rfl dX1_isClaimed_21 ?_
          refine lv_iload_n hx hb dX1_isClaimed_24 rfl (lv_at hl 0 rfl) ?_
          refine va_iald hx hb hK hP 31 0 rfl rfl (vp_inI (by omega) (by omega)) dX1_isClaimed_25 ?_
          refine lv_topi (fun v_7 ev_7 => ?_)
          have hgv_7 : 0 ≤ v_7.toInt ∧ v_7.toInt ≤ 19 := by rw [ev_7]; exact hRr 31 _
          refine lv_iload_n hx hb dX1_isClaimed_26 rfl (lv_at hl 3 rfl) ?_
          refine lv_icmp_ne (tgt := 32) hx hb dX1_isClaimed_27 (by decide) (fun c_8 => ?_) (fun c_8 => ?_)
          · have c_8 : v_7.toInt ≠ p1.toInt := b_ne c_8
            obtain ⟨x_9, ex_9⟩ : ∃ y : Int32, y = x1_3 + 1 := ⟨_, rfl⟩
            refine lv_iinc (v := x_9) (lv' := [(3, .int x_9), (0, .ref (a 29)), (1, .int p0), (2, .int p1)]) hx hb dX1_isClaimed_32 hl (k := 0) rfl (by rw [ex_9]; rfl) (by decide) rfl (fun ls hl => ?_)
            have hx_9 : x_9.toInt = x1_3.toInt + 1 := by rw [ex_9]; have := b_rg x1_3; exact i_add (a := x1_3.toInt) (b := 1) rfl rfl (by omega) (by omega)
            refine lv_goto (tgt := 2) hx hb dX1_isClaimed_35 (by decide) ?_
            exact ih1 x_9 _ (by first | omega | (simp only [Int.toNat]; omega)) (by first | omega | decide)    (lv_sub hl [0, 1, 2, 3] rfl)
          · have c_8 : v_7.toInt = p1.toInt := b_nne c_8
            refine lv_iconst (v := 1) hx hb dX1_isClaimed_30 (by decide) ?_
            subst hQ
            exact W.zret hx hb hr rfl (fun t ht hW => ⟨_, rfl, Or.inr rfl, ht⟩) (fun q hq => absurd hq List.not_mem_nil) dX1_isClaimed_31
  exact loop_1 _ 0 _ (Nat.lt_succ_self _) (by first | omega | decide)    hl
set_option maxHeartbeats 4000000 in
set_option maxRecDepth 100000 in
theorem c_X1_isAnsweredBy (l : Launch) (D : va_G) (cy : Nat → ClassId) (a : Nat → Nat) (i : Nat → Int32) (r : Nat → Nat → Int32) (q : Nat → Option Nat) (tl : va_W) (p0 p1 : Int32) (hRi : yRi i) (hRr : yRr r) (q0 : 0 ≤ p0.toInt ∧ p0.toInt ≤ 29) : Met l yX1_isAnsweredBy (Cond.code yX1_isAnsweredBy cX1_isAnsweredBy 3 (some .boolean) :: gT) { frames := 1, cells := 0, slots := 0, locals := 24 } (va_Pc [.ref (a 29), .int p0, .int p1] (rP D cy (xW cy a i r q (a 20) (a 12) ++ tl))) (vp_Si (fun z => z = 0 ∨ z = 1)) 0 0 (fun _ => False) := by
  refine Met.ofQ (cc := cX1_isAnsweredBy) (maxL := 3) (ret := (some .boolean)) (by decide) rfl ?_
  intro p e s m args below meth c s₁ B hml hv Q hQ
  obtain ⟨rfl, hP, hK⟩ := hv
  have hx := B.exec
  have hb := B.bytes
  have hr := B.returns
  have hlocks := B.notSynchronized
  have hT : ∀ w ∈ gT, w.before _ s = true := fun w h => atoms_spec (ws := (Cond.code yX1_isAnsweredBy cX1_isAnsweredBy 3 (some .boolean) :: gT)) B.pre w (List.mem_cons_of_mem _ h)
  have hown : s.vm.findClass RX1 = some m.cls := findClass_of_methodNamed B.named
  have hl := lv_entry ([.ref (a 29), .int p0, .int p1]) (n := 3) (Nat.le_of_ble_eq_true rfl)
  rw [lg_entry_eq]
  generalize (lg_sl ([.ref (a 29), .int p0, .int p1]) ++ List.replicate (3 - (lg_sl ([.ref (a 29), .int p0, .int p1])).length) Slot.unset).toArray = ls at hl ⊢
  have hl : lv_has ls 3 [(0, .ref (a 29)), (1, .int p0), (2, .int p1)] := hl
  have hEi : mEi [] i i := Ei_rf
  have hEr : mEr [] r r := Er_rf
  refine lv_aload_n hx hb dX1_isAnsweredBy_0 rfl (lv_at hl 0 rfl) ?_
  refine va_get (D := D) (ci := 1) (v := .ref (a 36)) (C := RX1) (T := TX1) (N := 12) hx hb hT iX1 hown hK hP 29 rfl rfl 7 (by decide) (hT _ t_345) (fun _ h9 => h9) rfl dX1_isAnsweredBy_1 ?_
  refine lv_iload_n hx hb dX1_isAnsweredBy_4 rfl (lv_at hl 1 rfl) ?_
  refine va_iald hx hb hK hP 36 0 rfl rfl (vp_inI (by omega) (by omega)) dX1_isAnsweredBy_5 ?_
  refine lv_topi (fun v_1 ev_1 => ?_)
  have hgv_1 : -1 ≤ v_1.toInt ∧ v_1.toInt ≤ 9999 := by rw [ev_1]; exact hRr 36 _
  refine lv_iconst (v := (-1)) hx hb dX1_isAnsweredBy_6 (by decide) ?_
  refine lv_icmp_eq (tgt := 24) hx hb dX1_isAnsweredBy_7 (by decide) (fun c_2 => ?_) (fun c_2 => ?_)
  · have c_2 : v_1.toInt = (-1) := b_eq c_2
    refine lv_iconst (v := 0) hx hb dX1_isAnsweredBy_24 (by decide) ?_
    subst hQ
    exact W.zret hx hb hr rfl (fun t ht hW => ⟨_, rfl, Or.inl rfl, ht⟩) (fun q hq => absurd hq List.not_mem_nil) dX1_isAnsweredBy_25
  · have c_2 : v_1.toInt ≠ (-1) := b_ne c_2
    refine lv_aload_n hx hb dX1_isAnsweredBy_10 rfl (lv_at hl 0 rfl) ?_
    refine va_get (D := D) (ci := 1) (v := .ref (a 36)) (C := RX1) (T := TX1) (N := 12) hx hb hT iX1 hown hK hP 29 rfl rfl 7 (by decide) (hT _ t_345) (fun _ h9 => h9) rfl dX1_isAnsweredBy_11 ?_
    refine lv_iload_n hx hb dX1_isAnsweredBy_14 rfl (lv_at hl 1 rfl) ?_
    refine va_iald hx hb hK hP 36 0 rfl rfl (vp_inI (by omega) (by omega)) dX1_isAnsweredBy_15 ?_
    refine lv_topi (fun v_3 ev_3 => ?_)
    have hgv_3 : -1 ≤ v_3.toInt ∧ v_3.toInt ≤ 9999 := by rw [ev_3]; exact hRr 36 _
    refine lv_iload_n hx hb dX1_isAnsweredBy_16 rfl (lv_at hl 2 rfl) ?_
    refine lv_icmp_gt (tgt := 24) hx hb dX1_isAnsweredBy_17 (by decide) (fun c_4 => ?_) (fun c_4 => ?_)
    · have c_4 : p1.toInt < v_3.toInt := b_lt c_4
      refine lv_iconst (v := 0) hx hb dX1_isAnsweredBy_24 (by decide) ?_
      subst hQ
      exact W.zret hx hb hr rfl (fun t ht hW => ⟨_, rfl, Or.inl rfl, ht⟩) (fun q hq => absurd hq List.not_mem_nil) dX1_isAnsweredBy_25
    · have c_4 : v_3.toInt ≤ p1.toInt := b_nlt c_4
      refine lv_iconst (v := 1) hx hb dX1_isAnsweredBy_20 (by decide) ?_
      refine lv_goto (tgt := 25) hx hb dX1_isAnsweredBy_21 (by decide) ?_
      subst hQ
      exact W.zret hx hb hr rfl (fun t ht hW => ⟨_, rfl, Or.inr rfl, ht⟩) (fun q hq => absurd hq List.not_mem_nil) dX1_isAnsweredBy_25
set_option maxHeartbeats 4000000 in
set_option maxRecDepth 100000 in
theorem c_X1_hasBothOffers (l : Launch) (D : va_G) (cy : Nat → ClassId) (a : Nat → Nat) (i : Nat → Int32) (r : Nat → Nat → Int32) (q : Nat → Option Nat) (tl : va_W) (p0 : Int32) (hRi : yRi i) (hRr : yRr r) (q0 : 0 ≤ p0.toInt ∧ p0.toInt ≤ 5) : Met l yX1_hasBothOffers (Cond.code yX1_hasBothOffers cX1_hasBothOffers 2 (some .boolean) :: gT) { frames := 1, cells := 0, slots := 0, locals := 24 } (va_Pc [.ref (a 29), .int p0] (rP D cy (xW cy a i r q (a 20) (a 12) ++ tl))) (vp_Si (fun z => z = 0 ∨ z = 1)) 0 0 (fun _ => False) := by
  refine Met.ofQ (cc := cX1_hasBothOffers) (maxL := 2) (ret := (some .boolean)) (by decide) rfl ?_
  intro p e s m args below meth c s₁ B hml hv Q hQ
  obtain ⟨rfl, hP, hK⟩ := hv
  have hx := B.exec
  have hb := B.bytes
  have hr := B.returns
  have hlocks := B.notSynchronized
  have hT : ∀ w ∈ gT, w.before _ s = true := fun w h => atoms_spec (ws := (Cond.code yX1_hasBothOffers cX1_hasBothOffers 2 (some .boolean) :: gT)) B.pre w (List.mem_cons_of_mem _ h)
  have hown : s.vm.findClass RX1 = some m.cls := findClass_of_methodNamed B.named
  have hl := lv_entry ([.ref (a 29), .int p0]) (n := 2) (Nat.le_of_ble_eq_true rfl)
  rw [lg_entry_eq]
  generalize (lg_sl ([.ref (a 29), .int p0]) ++ List.replicate (2 - (lg_sl ([.ref (a 29), .int p0])).length) Slot.unset).toArray = ls at hl ⊢
  have hl : lv_has ls 2 [(0, .ref (a 29)), (1, .int p0)] := hl
  have hEi : mEi [] i i := Ei_rf
  have hEr : mEr [] r r := Er_rf
  refine lv_aload_n hx hb dX1_hasBothOffers_0 rfl (lv_at hl 0 rfl) ?_
  refine va_get (D := D) (ci := 1) (v := .ref (a 38)) (C := RX1) (T := TX1) (N := 12) hx hb hT iX1 hown hK hP 29 rfl rfl 9 (by decide) (hT _ t_346) (fun _ h9 => h9) rfl dX1_hasBothOffers_1 ?_
  refine lv_iload_n hx hb dX1_hasBothOffers_4 rfl (lv_at hl 1 rfl) ?_
  refine va_iald hx hb hK hP 38 0 rfl rfl (vp_inI (by omega) (by omega)) dX1_hasBothOffers_5 ?_
  refine lv_topi (fun v_1 ev_1 => ?_)
  have hgv_1 : -1 ≤ v_1.toInt ∧ v_1.toInt ≤ 999999 := by rw [ev_1]; exact hRr 38 _
  refine lv_iconst (v := (-1)) hx hb dX1_hasBothOffers_6 (by decide) ?_
  refine lv_icmp_eq (tgt := 24) hx hb dX1_hasBothOffers_7 (by decide) (fun c_2 => ?_) (fun c_2 => ?_)
  · have c_2 : v_1.toInt = (-1) := b_eq c_2
    refine lv_iconst (v := 0) hx hb dX1_hasBothOffers_24 (by decide) ?_
    subst hQ
    exact W.zret hx hb hr rfl (fun t ht hW => ⟨_, rfl, Or.inl rfl, ht⟩) (fun q hq => absurd hq List.not_mem_nil) dX1_hasBothOffers_25
  · have c_2 : v_1.toInt ≠ (-1) := b_ne c_2
    refine lv_aload_n hx hb dX1_hasBothOffers_10 rfl (lv_at hl 0 rfl) ?_
    refine va_get (D := D) (ci := 1) (v := .ref (a 39)) (C := RX1) (T := TX1) (N := 12) hx hb hT iX1 hown hK hP 29 rfl rfl 10 (by decide) (hT _ t_347) (fun _ h9 => h9) rfl dX1_hasBothOffers_11 ?_
    refine lv_iload_n hx hb dX1_hasBothOffers_14 rfl (lv_at hl 1 rfl) ?_
    refine va_iald hx hb hK hP 39 0 rfl rfl (vp_inI (by omega) (by omega)) dX1_hasBothOffers_15 ?_
    refine lv_topi (fun v_3 ev_3 => ?_)
    have hgv_3 : -1 ≤ v_3.toInt ∧ v_3.toInt ≤ 999999 := by rw [ev_3]; exact hRr 39 _
    refine lv_iconst (v := (-1)) hx hb dX1_hasBothOffers_16 (by decide) ?_
    refine lv_icmp_eq (tgt := 24) hx hb dX1_hasBothOffers_17 (by decide) (fun c_4 => ?_) (fun c_4 => ?_)
    · have c_4 : v_3.toInt = (-1) := b_eq c_4
      refine lv_iconst (v := 0) hx hb dX1_hasBothOffers_24 (by decide) ?_
      subst hQ
      exact W.zret hx hb hr rfl (fun t ht hW => ⟨_, rfl, Or.inl rfl, ht⟩) (fun q hq => absurd hq List.not_mem_nil) dX1_hasBothOffers_25
    · have c_4 : v_3.toInt ≠ (-1) := b_ne c_4
      refine lv_iconst (v := 1) hx hb dX1_hasBothOffers_20 (by decide) ?_
      refine lv_goto (tgt := 25) hx hb dX1_hasBothOffers_21 (by decide) ?_
      subst hQ
      exact W.zret hx hb hr rfl (fun t ht hW => ⟨_, rfl, Or.inr rfl, ht⟩) (fun q hq => absurd hq List.not_mem_nil) dX1_hasBothOffers_25
set_option maxHeartbeats 4000000 in
set_option maxRecDepth 100000 in
theorem c_X1_dropOffers (l : Launch) (D : va_G) (cy : Nat → ClassId) (a : Nat → Nat) (i : Nat → Int32) (r : Nat → Nat → Int32) (q : Nat → Option Nat) (tl : va_W) (p0 : Int32) (sz : Nat) (hRi : yRi i) (hRr : yRr r) (q0 : 0 ≤ p0.toInt ∧ p0.toInt ≤ 5) : Met l yX1_dropOffers (Cond.code yX1_dropOffers cX1_dropOffers 2 none :: gT) { frames := 1, cells := 0, slots := 0, locals := 24 } (va_Pc [.ref (a 29), .int p0] (rQ D cy (xW cy a i r q (a 20) (a 12) ++ tl) sz)) (va_Qv (fun u : Nat → Nat → Int32 => yRr u ∧ mEr [38, 39] r u ∧ True) (fun (u : Nat → Nat → Int32) t => va_P D vwCl (xW cy a i u q (a 20) (a 12) ++ tl) t.heap ∧ va_K D vwCl (vT cy) t ∧ va_D (va_A (xW cy a i r q (a 20) (a 12) ++ tl) sz) (xW cy a i u q (a 20) (a 12) ++ tl)) (va_A (xW cy a i r q (a 20) (a 12) ++ tl) sz)) 0 0 (va_A (xW cy a i r q (a 20) (a 12) ++ tl) sz) := by
  refine Met.ofQ (cc := cX1_dropOffers) (maxL := 2) (ret := none) (by decide) rfl ?_
  intro p e s m args below meth c s₁ B hml hv Q hQ
  obtain ⟨rfl, hsz, hP, hK, hD0⟩ := hv
  have hx := B.exec
  have hb := B.bytes
  have hr := B.returns
  have hlocks := B.notSynchronized
  have hT : ∀ w ∈ gT, w.before _ s = true := fun w h => atoms_spec (ws := (Cond.code yX1_dropOffers cX1_dropOffers 2 none :: gT)) B.pre w (List.mem_cons_of_mem _ h)
  have hown : s.vm.findClass RX1 = some m.cls := findClass_of_methodNamed B.named
  subst hsz
  have hD := hD0.self (sz := s.heap.size)
  generalize hAe : va_A (xW cy a i r q (a 20) (a 12) ++ tl) s.heap.size = A at hD hQ
  have hA : ∀ q : Nat, s.heap.size ≤ q → A q := fun q h => by rw [← hAe]; exact Or.inr h
  have hS : va_S A s.heap s.heap [] := va_S.rf
  have hl := lv_entry ([.ref (a 29), .int p0]) (n := 2) (Nat.le_of_ble_eq_true rfl)
  rw [lg_entry_eq]
  generalize (lg_sl ([.ref (a 29), .int p0]) ++ List.replicate (2 - (lg_sl ([.ref (a 29), .int p0])).length) Slot.unset).toArray = ls at hl ⊢
  have hl : lv_has ls 2 [(0, .ref (a 29)), (1, .int p0)] := hl
  have hEi : mEi [] i i := Ei_rf
  have hEr : mEr [38, 39] r r := Er_rf
  refine lv_aload_n hx hb dX1_dropOffers_0 rfl (lv_at hl 0 rfl) ?_
  refine va_get (D := D) (ci := 1) (v := .ref (a 38)) (C := RX1) (T := TX1) (N := 12) hx hb hT iX1 hown hK hP 29 rfl rfl 9 (by decide) (hT _ t_346) (fun _ h9 => h9) rfl dX1_dropOffers_1 ?_
  refine lv_iload_n hx hb dX1_dropOffers_4 rfl (lv_at hl 1 rfl) ?_
  refine lv_iconst (v := (-1)) hx hb dX1_dropOffers_5 (by decide) ?_
  refine va_iast hx hb hK hP hD hS 38 0 rfl rfl (vp_inI (by omega) (by omega)) dX1_dropOffers_6 (fun H locs hP hD hS => ?_)
  rw [zS38] at hP hD
  have hRr : yRr (va_up r 38 (upd (r 38) p0.toNatClampNeg (-1))) := Yr_upd hRr 38 (p0.toNatClampNeg) (-1) ⟨by decide, by decide⟩
  have hEr : mEr [38, 39] _ (va_up r 38 (upd (r 38) p0.toNatClampNeg (-1))) := Er_up hEr 38 _ (by decide)
  refine lv_aload_n hx hb dX1_dropOffers_7 rfl (lv_at hl 0 rfl) ?_
  refine va_get (D := D) (ci := 1) (v := .ref (a 39)) (C := RX1) (T := TX1) (N := 12) hx hb hT iX1 hown hK hP 29 rfl rfl 10 (by decide) (hT _ t_347) (fun _ h9 => h9) rfl dX1_dropOffers_8 ?_
  refine lv_iload_n hx hb dX1_dropOffers_11 rfl (lv_at hl 1 rfl) ?_
  refine lv_iconst (v := (-1)) hx hb dX1_dropOffers_12 (by decide) ?_
  refine va_iast hx hb hK hP hD hS 39 0 rfl rfl (vp_inI (by omega) (by omega)) dX1_dropOffers_13 (fun H locs hP hD hS => ?_)
  rw [zS39] at hP hD
  have hRr : yRr (va_up (va_up r 38 (upd (r 38) p0.toNatClampNeg (-1))) 39 (upd (r 39) p0.toNatClampNeg (-1))) := Yr_upd hRr 39 (p0.toNatClampNeg) (-1) ⟨by decide, by decide⟩
  have hEr : mEr [38, 39] _ (va_up (va_up r 38 (upd (r 38) p0.toNatClampNeg (-1))) 39 (upd (r 39) p0.toNatClampNeg (-1))) := Er_up hEr 39 _ (by decide)
  subst hQ
  exact W.vret hx hb hr (fun t ht hW => ⟨⟨(va_up (va_up r 38 (upd (r 38) p0.toNatClampNeg (-1))) 39 (upd (r 39) p0.toNatClampNeg (-1))), rfl, ⟨hRr, hEr, trivial⟩, by rw [ht]; exact hP, va_K.moved hW.alike hK, hD⟩, hS.F ht⟩) hS.2.2 dX1_dropOffers_14
set_option maxHeartbeats 4000000 in
set_option maxRecDepth 100000 in
theorem c_X1_add (l : Launch) (D : va_G) (cy : Nat → ClassId) (a : Nat → Nat) (i : Nat → Int32) (r : Nat → Nat → Int32) (q : Nat → Option Nat) (tl : va_W) (p0 p1 p2 p3 p4 : Int32) (sz : Nat) (hRi : yRi i) (hRr : yRr r) (q0 : 0 ≤ p0.toInt ∧ p0.toInt ≤ 5) (q1 : 0 ≤ p1.toInt ∧ p1.toInt ≤ 19) (q2 : 0 ≤ p2.toInt ∧ p2.toInt ≤ 9) (q3 : 0 ≤ p3.toInt ∧ p3.toInt ≤ 7) (q4 : 0 ≤ p4.toInt ∧ p4.toInt ≤ 9999) : Met l yX1_add (Cond.code yX1_add cX1_add 6 (some .int) :: gT) { frames := 1, cells := 0, slots := 0, locals := 24 } (va_Pc [.ref (a 29), .int p0, .int p1, .int p2, .int p3, .int p4] (rQ D cy (xW cy a i r q (a 20) (a 12) ++ tl) sz)) (va_Qi (fun (z : Int32) (u : (Nat → Int32) × (Nat → Nat → Int32)) => yRi u.1 ∧ yRr u.2 ∧ mEi [10] i u.1 ∧ mEr [30, 31, 32, 33, 34, 35, 36, 37] r u.2 ∧ True) (fun (u : (Nat → Int32) × (Nat → Nat → Int32)) t => va_P D vwCl (xW cy a u.1 u.2 q (a 20) (a 12) ++ tl) t.heap ∧ va_K D vwCl (vT cy) t ∧ va_D (va_A (xW cy a i r q (a 20) (a 12) ++ tl) sz) (xW cy a u.1 u.2 q (a 20) (a 12) ++ tl)) (va_A (xW cy a i r q (a 20) (a 12) ++ tl) sz)) 0 0 (va_A (xW cy a i r q (a 20) (a 12) ++ tl) sz) := by
  refine Met.ofQ (cc := cX1_add) (maxL := 6) (ret := (some .int)) (by decide) rfl ?_
  intro p e s m args below meth c s₁ B hml hv Q hQ
  obtain ⟨rfl, hsz, hP, hK, hD0⟩ := hv
  have hx := B.exec
  have hb := B.bytes
  have hr := B.returns
  have hlocks := B.notSynchronized
  have hT : ∀ w ∈ gT, w.before _ s = true := fun w h => atoms_spec (ws := (Cond.code yX1_add cX1_add 6 (some .int) :: gT)) B.pre w (List.mem_cons_of_mem _ h)
  have hown : s.vm.findClass RX1 = some m.cls := findClass_of_methodNamed B.named
  subst hsz
  have hD := hD0.self (sz := s.heap.size)
  generalize hAe : va_A (xW cy a i r q (a 20) (a 12) ++ tl) s.heap.size = A at hD hQ
  have hA : ∀ q : Nat, s.heap.size ≤ q → A q := fun q h => by rw [← hAe]; exact Or.inr h
  have hS : va_S A s.heap s.heap [] := va_S.rf
  have hl := lv_entry ([.ref (a 29), .int p0, .int p1, .int p2, .int p3, .int p4]) (n := 6) (Nat.le_of_ble_eq_true rfl)
  rw [lg_entry_eq]
  generalize (lg_sl ([.ref (a 29), .int p0, .int p1, .int p2, .int p3, .int p4]) ++ List.replicate (6 - (lg_sl ([.ref (a 29), .int p0, .int p1, .int p2, .int p3, .int p4])).length) Slot.unset).toArray = ls at hl ⊢
  have hl : lv_has ls 6 [(0, .ref (a 29)), (1, .int p0), (2, .int p1), (3, .int p2), (4, .int p3), (5, .int p4)] := hl
  have hEi : mEi [10] i i := Ei_rf
  have hEr : mEr [30, 31, 32, 33, 34, 35, 36, 37] r r := Er_rf
  refine lv_aload_n hx hb dX1_add_0 rfl (lv_at hl 0 rfl) ?_
  refine va_get (D := D) (ci := 1) (v := .int (i 10)) (C := RX1) (T := TX1) (N := 12) hx hb hT iX1 hown hK hP 29 rfl rfl 0 (by decide) (hT _ t_342) (fun _ h9 => h9) rfl dX1_add_1 ?_
  have hg_1 : 0 ≤ (i 10).toInt ∧ (i 10).toInt ≤ 30 := hRi 10
  refine lv_bipush (v := 30) hx hb dX1_add_4 (by decide) ?_
  refine lv_icmp_lt (tgt := 11) hx hb dX1_add_6 (by decide) (fun c_2 => ?_) (fun c_2 => ?_)
  · have c_2 : (i 10).toInt < 30 := b_lt c_2
    refine lv_aload_n hx hb dX1_add_11 rfl (lv_at hl 0 rfl) ?_
    refine va_get (D := D) (ci := 1) (v := .ref (a 30)) (C := RX1) (T := TX1) (N := 12) hx hb hT iX1 hown hK hP 29 rfl rfl 1 (by decide) (hT _ t_343) (fun _ h9 => h9) rfl dX1_add_12 ?_
    refine lv_aload_n hx hb dX1_add_15 rfl (lv_at hl 0 rfl) ?_
    refine va_get (D := D) (ci := 1) (v := .int (i 10)) (C := RX1) (T := TX1) (N := 12) hx hb hT iX1 hown hK hP 29 rfl rfl 0 (by decide) (hT _ t_342) (fun _ h9 => h9) rfl dX1_add_16 ?_
    refine lv_iload_n hx hb dX1_add_19 rfl (lv_at hl 1 rfl) ?_
    refine va_iast hx hb hK hP hD hS 30 0 rfl rfl (vp_inI (by omega) (by omega)) dX1_add_20 (fun H locs hP hD hS => ?_)
    rw [zS30] at hP hD
    have hRr : yRr (va_up r 30 (upd (r 30) ((i 10).toNatClampNeg) p0)) := Yr_upd hRr 30 ((i 10).toNatClampNeg) p0 ⟨by show (0 : Int) ≤ p0.toInt; omega, by show p0.toInt ≤ (5 : Int); omega⟩
    have hEr : mEr [30, 31, 32, 33, 34, 35, 36, 37] _ (va_up r 30 (upd (r 30) ((i 10).toNatClampNeg) p0)) := Er_up hEr 30 _ (by decide)
    refine lv_aload_n hx hb dX1_add_21 rfl (lv_at hl 0 rfl) ?_
    refine va_get (D := D) (ci := 1) (v := .ref (a 31)) (C := RX1) (T := TX1) (N := 12) hx hb hT iX1 hown hK hP 29 rfl rfl 2 (by decide) (hT _ t_344) (fun _ h9 => h9) rfl dX1_add_22 ?_
    refine lv_aload_n hx hb dX1_add_25 rfl (lv_at hl 0 rfl) ?_
    refine va_get (D := D) (ci := 1) (v := .int (i 10)) (C := RX1) (T := TX1) (N := 12) hx hb hT iX1 hown hK hP 29 rfl rfl 0 (by decide) (hT _ t_342) (fun _ h9 => h9) rfl dX1_add_26 ?_
    refine lv_iload_n hx hb dX1_add_29 rfl (lv_at hl 2 rfl) ?_
    refine va_iast hx hb hK hP hD hS 31 0 rfl rfl (vp_inI (by omega) (by omega)) dX1_add_30 (fun H locs hP hD hS => ?_)
    rw [zS31] at hP hD
    have hRr : yRr (va_up (va_up r 30 (upd (r 30) ((i 10).toNatClampNeg) p0)) 31 (upd (r 31) ((i 10).toNatClampNeg) p1)) := Yr_upd hRr 31 ((i 10).toNatClampNeg) p1 ⟨by show (0 : Int) ≤ p1.toInt; omega, by show p1.toInt ≤ (19 : Int); omega⟩
    have hEr : mEr [30, 31, 32, 33, 34, 35, 36, 37] _ (va_up (va_up r 30 (upd (r 30) ((i 10).toNatClampNeg) p0)) 31 (upd (r 31) ((i 10).toNatClampNeg) p1)) := Er_up hEr 31 _ (by decide)
    refine lv_aload_n hx hb dX1_add_31 rfl (lv_at hl 0 rfl) ?_
    refine va_get (D := D) (ci := 1) (v := .ref (a 32)) (C := RX1) (T := TX1) (N := 12) hx hb hT iX1 hown hK hP 29 rfl rfl 3 (by decide) (hT _ t_348) (fun _ h9 => h9) rfl dX1_add_32 ?_
    refine lv_aload_n hx hb dX1_add_35 rfl (lv_at hl 0 rfl) ?_
    refine va_get (D := D) (ci := 1) (v := .int (i 10)) (C := RX1) (T := TX1) (N := 12) hx hb hT iX1 hown hK hP 29 rfl rfl 0 (by decide) (hT _ t_342) (fun _ h9 => h9) rfl dX1_add_36 ?_
    refine lv_iload_n hx hb dX1_add_39 rfl (lv_at hl 3 rfl) ?_
    refine va_iast hx hb hK hP hD hS 32 0 rfl rfl (vp_inI (by omega) (by omega)) dX1_add_40 (fun H locs hP hD hS => ?_)
    rw [zS32] at hP hD
    have hRr : yRr (va_up (va_up (va_up r 30 (upd (r 30) ((i 10).toNatClampNeg) p0)) 31 (upd (r 31) ((i 10).toNatClampNeg) p1)) 32 (upd (r 32) ((i 10).toNatClampNeg) p2)) := Yr_upd hRr 32 ((i 10).toNatClampNeg) p2 ⟨by show (0 : Int) ≤ p2.toInt; omega, by show p2.toInt ≤ (9 : Int); omega⟩
    have hEr : mEr [30, 31, 32, 33, 34, 35, 36, 37] _ (va_up (va_up (va_up r 30 (upd (r 30) ((i 10).toNatClampNeg) p0)) 31 (upd (r 31) ((i 10).toNatClampNeg) p1)) 32 (upd (r 32) ((i 10).toNatClampNeg) p2)) := Er_up hEr 32 _ (by decide)
    refine lv_aload_n hx hb dX1_add_41 rfl (lv_at hl 0 rfl) ?_
    refine va_get (D := D) (ci := 1) (v := .ref (a 33)) (C := RX1) (T := TX1) (N := 12) hx hb hT iX1 hown hK hP 29 rfl rfl 4 (by decide) (hT _ t_349) (fun _ h9 => h9) rfl dX1_add_42 ?_
    refine lv_aload_n hx hb dX1_add_45 rfl (lv_at hl 0 rfl) ?_
    refine va_get (D := D) (ci := 1) (v := .int (i 10)) (C := RX1) (T := TX1) (N := 12) hx hb hT iX1 hown hK hP 29 rfl rfl 0 (by decide) (hT _ t_342) (fun _ h9 => h9) rfl dX1_add_46 ?_
    refine lv_iload hx hb dX1_add_49 (lv_at hl 4 rfl) ?_
    refine va_iast hx hb hK hP hD hS 33 0 rfl rfl (vp_inI (by omega) (by omega)) dX1_add_51 (fun H locs hP hD hS => ?_)
    rw [zS33] at hP hD
    have hRr : yRr (va_up (va_up (va_up (va_up r 30 (upd (r 30) ((i 10).toNatClampNeg) p0)) 31 (upd (r 31) ((i 10).toNatClampNeg) p1)) 32 (upd (r 32) ((i 10).toNatClampNeg) p2)) 33 (upd (r 33) ((i 10).toNatClampNeg) p3)) := Yr_upd hRr 33 ((i 10).toNatClampNeg) p3 ⟨by show (0 : Int) ≤ p3.toInt; omega, by show p3.toInt ≤ (7 : Int); omega⟩
    have hEr : mEr [30, 31, 32, 33, 34, 35, 36, 37] _ (va_up (va_up (va_up (va_up r 30 (upd (r 30) ((i 10).toNatClampNeg) p0)) 31 (upd (r 31) ((i 10).toNatClampNeg) p1)) 32 (upd (r 32) ((i 10).toNatClampNeg) p2)) 33 (upd (r 33) ((i 10).toNatClampNeg) p3)) := Er_up hEr 33 _ (by decide)
    refine lv_aload_n hx hb dX1_add_52 rfl (lv_at hl 0 rfl) ?_
    refine va_get (D := D) (ci := 1) (v := .ref (a 34)) (C := RX1) (T := TX1) (N := 12) hx hb hT iX1 hown hK hP 29 rfl rfl 5 (by decide) (hT _ t_350) (fun _ h9 => h9) rfl dX1_add_53 ?_
    refine lv_aload_n hx hb dX1_add_56 rfl (lv_at hl 0 rfl) ?_
    refine va_get (D := D) (ci := 1) (v := .int (i 10)) (C := RX1) (T := TX1) (N := 12) hx hb hT iX1 hown hK hP 29 rfl rfl 0 (by decide) (hT _ t_342) (fun _ h9 => h9) rfl dX1_add_57 ?_
    refine lv_iload hx hb dX1_add_60 (lv_at hl 5 rfl) ?_
    refine va_iast hx hb hK hP hD hS 34 0 rfl rfl (vp_inI (by omega) (by omega)) dX1_add_62 (fun H locs hP hD hS => ?_)
    rw [zS34] at hP hD
    have hRr : yRr (va_up (va_up (va_up (va_up (va_up r 30 (upd (r 30) ((i 10).toNatClampNeg) p0)) 31 (upd (r 31) ((i 10).toNatClampNeg) p1)) 32 (upd (r 32) ((i 10).toNatClampNeg) p2)) 33 (upd (r 33) ((i 10).toNatClampNeg) p3)) 34 (upd (r 34) ((i 10).toNatClampNeg) p4)) := Yr_upd hRr 34 ((i 10).toNatClampNeg) p4 ⟨by show (0 : Int) ≤ p4.toInt; omega, by show p4.toInt ≤ (9999 : Int); omega⟩
    have hEr : mEr [30, 31, 32, 33, 34, 35, 36, 37] _ (va_up (va_up (va_up (va_up (va_up r 30 (upd (r 30) ((i 10).toNatClampNeg) p0)) 31 (upd (r 31) ((i 10).toNatClampNeg) p1)) 32 (upd (r 32) ((i 10).toNatClampNeg) p2)) 33 (upd (r 33) ((i 10).toNatClampNeg) p3)) 34 (upd (r 34) ((i 10).toNatClampNeg) p4)) := Er_up hEr 34 _ (by decide)
    refine lv_aload_n hx hb dX1_add_63 rfl (lv_at hl 0 rfl) ?_
    refine va_get (D := D) (ci := 1) (v := .ref (a 35)) (C := RX1) (T := TX1) (N := 12) hx hb hT iX1 hown hK hP 29 rfl rfl 6 (by decide) (hT _ t_351) (fun _ h9 => h9) rfl dX1_add_64 ?_
    refine lv_aload_n hx hb dX1_add_67 rfl (lv_at hl 0 rfl) ?_
    refine va_get (D := D) (ci := 1) (v := .int (i 10)) (C := RX1) (T := TX1) (N := 12) hx hb hT iX1 hown hK hP 29 rfl rfl 0 (by decide) (hT _ t_342) (fun _ h9 => h9) rfl dX1_add_68 ?_
    refine lv_iconst (v := 0) hx hb dX1_add_71 (by decide) ?_
    refine va_iast hx hb hK hP hD hS 35 0 rfl rfl (vp_inI (by omega) (by omega)) dX1_add_72 (fun H locs hP hD hS => ?_)
    rw [zS35] at hP hD
    have hRr : yRr (va_up (va_up (va_up (va_up (va_up (va_up r 30 (upd (r 30) ((i 10).toNatClampNeg) p0)) 31 (upd (r 31) ((i 10).toNatClampNeg) p1)) 32 (upd (r 32) ((i 10).toNatClampNeg) p2)) 33 (upd (r 33) ((i 10).toNatClampNeg) p3)) 34 (upd (r 34) ((i 10).toNatClampNeg) p4)) 35 (upd (r 35) ((i 10).toNatClampNeg) 0)) := Yr_upd hRr 35 ((i 10).toNatClampNeg) 0 ⟨by decide, by decide⟩
    have hEr : mEr [30, 31, 32, 33, 34, 35, 36, 37] _ (va_up (va_up (va_up (va_up (va_up (va_up r 30 (upd (r 30) ((i 10).toNatClampNeg) p0)) 31 (upd (r 31) ((i 10).toNatClampNeg) p1)) 32 (upd (r 32) ((i 10).toNatClampNeg) p2)) 33 (upd (r 33) ((i 10).toNatClampNeg) p3)) 34 (upd (r 34) ((i 10).toNatClampNeg) p4)) 35 (upd (r 35) ((i 10).toNatClampNeg) 0)) := Er_up hEr 35 _ (by decide)
    refine lv_aload_n hx hb dX1_add_73 rfl (lv_at hl 0 rfl) ?_
    refine va_get (D := D) (ci := 1) (v := .ref (a 36)) (C := RX1) (T := TX1) (N := 12) hx hb hT iX1 hown hK hP 29 rfl rfl 7 (by decide) (hT _ t_345) (fun _ h9 => h9) rfl dX1_add_74 ?_
    refine lv_aload_n hx hb dX1_add_77 rfl (lv_at hl 0 rfl) ?_
    refine va_get (D := D) (ci := 1) (v := .int (i 10)) (C := RX1) (T := TX1) (N := 12) hx hb hT iX1 hown hK hP 29 rfl rfl 0 (by decide) (hT _ t_342) (fun _ h9 => h9) rfl dX1_add_78 ?_
    refine lv_iconst (v := (-1)) hx hb dX1_add_81 (by decide) ?_
    refine va_iast hx hb hK hP hD hS 36 0 rfl rfl (vp_inI (by omega) (by omega)) dX1_add_82 (fun H locs hP hD hS => ?_)
    rw [zS36] at hP hD
    have hRr : yRr (va_up (va_up (va_up (va_up (va_up (va_up (va_up r 30 (upd (r 30) ((i 10).toNatClampNeg) p0)) 31 (upd (r 31) ((i 10).toNatClampNeg) p1)) 32 (upd (r 32) ((i 10).toNatClampNeg) p2)) 33 (upd (r 33) ((i 10).toNatClampNeg) p3)) 34 (upd (r 34) ((i 10).toNatClampNeg) p4)) 35 (upd (r 35) ((i 10).toNatClampNeg) 0)) 36 (upd (r 36) ((i 10).toNatClampNeg) (-1))) := Yr_upd hRr 36 ((i 10).toNatClampNeg) (-1) ⟨by decide, by decide⟩
    have hEr : mEr [30, 31, 32, 33, 34, 35, 36, 37] _ (va_up (va_up (va_up (va_up (va_up (va_up (va_up r 30 (upd (r 30) ((i 10).toNatClampNeg) p0)) 31 (upd (r 31) ((i 10).toNatClampNeg) p1)) 32 (upd (r 32) ((i 10).toNatClampNeg) p2)) 33 (upd (r 33) ((i 10).toNatClampNeg) p3)) 34 (upd (r 34) ((i 10).toNatClampNeg) p4)) 35 (upd (r 35) ((i 10).toNatClampNeg) 0)) 36 (upd (r 36) ((i 10).toNatClampNeg) (-1))) := Er_up hEr 36 _ (by decide)
    refine lv_aload_n hx hb dX1_add_83 rfl (lv_at hl 0 rfl) ?_
    refine va_get (D := D) (ci := 1) (v := .ref (a 37)) (C := RX1) (T := TX1) (N := 12) hx hb hT iX1 hown hK hP 29 rfl rfl 8 (by decide) (hT _ t_352) (fun _ h9 => h9) rfl dX1_add_84 ?_
    refine lv_aload_n hx hb dX1_add_87 rfl (lv_at hl 0 rfl) ?_
    refine va_get (D := D) (ci := 1) (v := .int (i 10)) (C := RX1) (T := TX1) (N := 12) hx hb hT iX1 hown hK hP 29 rfl rfl 0 (by decide) (hT _ t_342) (fun _ h9 => h9) rfl dX1_add_88 ?_
    refine lv_iconst (v := 0) hx hb dX1_add_91 (by decide) ?_
    refine va_zast hx hb hK hP hD hS 37 2 rfl rfl (vp_inI (by omega) (by omega)) dX1_add_92 (fun H locs hP hD hS => ?_)
    rw [zS37] at hP hD
    have hRr : yRr (va_up (va_up (va_up (va_up (va_up (va_up (va_up (va_up r 30 (upd (r 30) ((i 10).toNatClampNeg) p0)) 31 (upd (r 31) ((i 10).toNatClampNeg) p1)) 32 (upd (r 32) ((i 10).toNatClampNeg) p2)) 33 (upd (r 33) ((i 10).toNatClampNeg) p3)) 34 (upd (r 34) ((i 10).toNatClampNeg) p4)) 35 (upd (r 35) ((i 10).toNatClampNeg) 0)) 36 (upd (r 36) ((i 10).toNatClampNeg) (-1))) 37 (upd (r 37) ((i 10).toNatClampNeg) (vp_nar .boolean 0))) := Yr_upd hRr 37 ((i 10).toNatClampNeg) (vp_nar .boolean 0) (b_rg _)
    have hEr : mEr [30, 31, 32, 33, 34, 35, 36, 37] _ (va_up (va_up (va_up (va_up (va_up (va_up (va_up (va_up r 30 (upd (r 30) ((i 10).toNatClampNeg) p0)) 31 (upd (r 31) ((i 10).toNatClampNeg) p1)) 32 (upd (r 32) ((i 10).toNatClampNeg) p2)) 33 (upd (r 33) ((i 10).toNatClampNeg) p3)) 34 (upd (r 34) ((i 10).toNatClampNeg) p4)) 35 (upd (r 35) ((i 10).toNatClampNeg) 0)) 36 (upd (r 36) ((i 10).toNatClampNeg) (-1))) 37 (upd (r 37) ((i 10).toNatClampNeg) (vp_nar .boolean 0))) := Er_up hEr 37 _ (by decide)
    refine lv_aload_n hx hb dX1_add_93 rfl (lv_at hl 0 rfl) ?_
    refine lv_dup hx hb dX1_add_94 rfl ?_
    refine va_get (D := D) (ci := 1) (v := .int (i 10)) (C := RX1) (T := TX1) (N := 12) hx hb hT iX1 hown hK hP 29 rfl rfl 0 (by decide) (hT _ t_342) (fun _ h9 => h9) rfl dX1_add_95 ?_
    refine lv_iconst (v := 1) hx hb dX1_add_98 (by decide) ?_
    refine lv_iadd hx hb dX1_add_99 ?_
    refine lv_topi (fun v_3 ev_3 => ?_)
    have hv_3 : v_3.toInt = (i 10).toInt + 1 := by rw [ev_3]; have := b_rg (i 10); exact i_add (a := (i 10).toInt) (b := 1) rfl rfl (by omega) (by omega)
    refine va_put (D := D) (ci := 1) (v := .int v_3) (ty := .int) (C := RX1) (T := TX1) (N := 12) hx hb hT iX1 tyX1 tyX1_ok nmX1 hown hK hP hD hS 29 rfl rfl 0 (by decide) (hT _ t_342) (fun _ h9 => h9) rfl (by decide +kernel) rfl rfl (Nat.le_of_ble_eq_true rfl) dX1_add_100 (fun H locs hP hD hS => ?_)
    rw [zP10] at hP hD
    have hRi := Yi_upd hRi 10 v_3 ⟨by show (0 : Int) ≤ v_3.toInt; omega, by show v_3.toInt ≤ (30 : Int); omega⟩
    have hEi := Ei_upd hEi 10 v_3 (by decide)
    refine lv_aload_n hx hb dX1_add_103 rfl (lv_at hl 0 rfl) ?_
    refine va_get (D := D) (ci := 1) (v := .int v_3) (C := RX1) (T := TX1) (N := 12) hx hb hT iX1 hown hK hP 29 rfl rfl 0 (by decide) (hT _ t_342) (fun _ h9 => h9) rfl dX1_add_104 ?_
    refine lv_iconst (v := 1) hx hb dX1_add_107 (by decide) ?_
    refine lv_isub hx hb dX1_add_108 ?_
    refine lv_topi (fun v_4 ev_4 => ?_)
    have hv_4 : v_4.toInt = v_3.toInt - 1 := by rw [ev_4]; have := b_rg v_3; exact i_sub (a := v_3.toInt) (b := 1) rfl rfl (by omega) (by omega)
    subst hQ
    exact W.iret (v := v_4) hx hb hr (fun t ht hW => ⟨⟨_, (upd i 10 v_3, va_up (va_up (va_up (va_up (va_up (va_up (va_up (va_up r 30 (upd (r 30) ((i 10).toNatClampNeg) p0)) 31 (upd (r 31) ((i 10).toNatClampNeg) p1)) 32 (upd (r 32) ((i 10).toNatClampNeg) p2)) 33 (upd (r 33) ((i 10).toNatClampNeg) p3)) 34 (upd (r 34) ((i 10).toNatClampNeg) p4)) 35 (upd (r 35) ((i 10).toNatClampNeg) 0)) 36 (upd (r 36) ((i 10).toNatClampNeg) (-1))) 37 (upd (r 37) ((i 10).toNatClampNeg) (vp_nar .boolean 0))), rfl, ⟨hRi, hRr, hEi, hEr, trivial⟩, by rw [ht]; exact hP, va_K.moved hW.alike hK, hD⟩, hS.F ht⟩) hS.2.2 dX1_add_109
  · have c_2 : 30 ≤ (i 10).toInt := b_nlt c_2
    refine lv_iconst (v := (-1)) hx hb dX1_add_9 (by decide) ?_
    subst hQ
    exact W.iret (v := (-1)) hx hb hr (fun t ht hW => ⟨⟨_, (i, r), rfl, ⟨hRi, hRr, hEi, hEr, trivial⟩, by rw [ht]; exact hP, va_K.moved hW.alike hK, hD⟩, hS.F ht⟩) hS.2.2 dX1_add_10
set_option maxHeartbeats 4000000 in
set_option maxRecDepth 100000 in
theorem c_X8_worth (l : Launch) (D : va_G) (cy : Nat → ClassId) (a : Nat → Nat) (i : Nat → Int32) (r : Nat → Nat → Int32) (q : Nat → Option Nat) (tl : va_W) (p0 p1 p2 : Int32) (hRi : yRi i) (hRr : yRr r) (q0 : 0 ≤ p0.toInt ∧ p0.toInt ≤ 7) (q1 : 0 ≤ p1.toInt ∧ p1.toInt ≤ 3) : Met l yX8_worth (Cond.code yX8_worth cX8_worth 5 (some .int) :: gT) { frames := 1, cells := 0, slots := 0, locals := 24 } (va_Pc [.ref (a 1), .int p0, .int p1, .int p2] (rP D cy (xW cy a i r q (a 20) (a 12) ++ tl))) (vp_Si (fun z => True)) 0 0 (fun _ => False) := by
  refine Met.ofQ (cc := cX8_worth) (maxL := 5) (ret := (some .int)) (by decide) rfl ?_
  intro p e s m args below meth c s₁ B hml hv Q hQ
  obtain ⟨rfl, hP, hK⟩ := hv
  have hx := B.exec
  have hb := B.bytes
  have hr := B.returns
  have hlocks := B.notSynchronized
  have hT : ∀ w ∈ gT, w.before _ s = true := fun w h => atoms_spec (ws := (Cond.code yX8_worth cX8_worth 5 (some .int) :: gT)) B.pre w (List.mem_cons_of_mem _ h)
  have hown : s.vm.findClass RX8 = some m.cls := findClass_of_methodNamed B.named
  have hl := lv_entry ([.ref (a 1), .int p0, .int p1, .int p2]) (n := 5) (Nat.le_of_ble_eq_true rfl)
  rw [lg_entry_eq]
  generalize (lg_sl ([.ref (a 1), .int p0, .int p1, .int p2]) ++ List.replicate (5 - (lg_sl ([.ref (a 1), .int p0, .int p1, .int p2])).length) Slot.unset).toArray = ls at hl ⊢
  have hl : lv_has ls 5 [(0, .ref (a 1)), (1, .int p0), (2, .int p1), (3, .int p2)] := hl
  have hEi : mEi [] i i := Ei_rf
  have hEr : mEr [] r r := Er_rf
  refine lv_aload_n hx hb dX8_worth_0 rfl (lv_at hl 0 rfl) ?_
  refine va_get (D := D) (ci := 8) (v := .ref (a 2)) (C := RX8) (T := TX8) (N := 2) hx hb hT iX8 hown hK hP 1 rfl rfl 0 (by decide) (hT _ t_361) (fun _ h9 => h9) rfl dX8_worth_1 ?_
  refine lv_iload_n hx hb dX8_worth_4 rfl (lv_at hl 1 rfl) ?_
  refine va_iald hx hb hK hP 2 0 rfl rfl (vp_inI (by omega) (by omega)) dX8_worth_5 ?_
  refine lv_topi (fun v_1 ev_1 => ?_)
  refine lv_istore (lv' := [(4, .int v_1), (0, .ref (a 1)), (1, .int p0), (2, .int p1), (3, .int p2)]) hx hb dX8_worth_6 hl (by decide) rfl (fun ls hl => ?_)
  refine lv_iload hx hb dX8_worth_8 (lv_at hl 0 rfl) ?_
  refine lv_if_le (tgt := 19) hx hb dX8_worth_10 (by decide) (fun c_2 => ?_) (fun c_2 => ?_)
  · have c_2 : v_1.toInt ≤ 0 := b_le c_2
    refine lv_iconst (v := 0) hx hb dX8_worth_19 (by decide) ?_
    subst hQ
    exact W.iret (v := 0) hx hb hr (fun t ht hW => ⟨_, rfl, trivial, ht⟩) (fun q hq => absurd hq List.not_mem_nil) dX8_worth_20
  · have c_2 : 0 < v_1.toInt := b_nle c_2
    refine lv_iload_n hx hb dX8_worth_13 rfl (lv_at hl 4 rfl) ?_
    refine lv_iload hx hb dX8_worth_14 (lv_at hl 0 rfl) ?_
    refine lv_icmp_lt (tgt := 21) hx hb dX8_worth_16 (by decide) (fun c_3 => ?_) (fun c_3 => ?_)
    · have c_3 : p2.toInt < v_1.toInt := b_lt c_3
      refine lv_aload_n hx hb dX8_worth_21 rfl (lv_at hl 1 rfl) ?_
      refine va_get (D := D) (ci := 8) (v := .ref (a 3)) (C := RX8) (T := TX8) (N := 2) hx hb hT iX8 hown hK hP 1 rfl rfl 1 (by decide) (hT _ t_362) (fun _ h9 => h9) rfl dX8_worth_22 ?_
      refine lv_iload_n hx hb dX8_worth_25 rfl (lv_at hl 2 rfl) ?_
      refine lv_iconst (v := 4) hx hb dX8_worth_26 (by decide) ?_
      refine lv_imul hx hb dX8_worth_27 ?_
      refine lv_topi (fun v_4 ev_4 => ?_)
      have hv_4 : v_4.toInt = p0.toInt * 4 := by rw [ev_4]; have := b_rg p0; exact i_mul (a := p0.toInt) (b := 4) rfl rfl (by omega) (by omega)
      refine lv_iload_n hx hb dX8_worth_28 rfl (lv_at hl 3 rfl) ?_
      refine lv_iadd hx hb dX8_worth_29 ?_
      refine lv_topi (fun v_5 ev_5 => ?_)
      have hv_5 : v_5.toInt = v_4.toInt + p1.toInt := by rw [ev_5]; have := b_rg v_4; have := b_rg p1; exact i_add (a := v_4.toInt) (b := p1.toInt) rfl rfl (by omega) (by omega)
      refine va_iald hx hb hK hP 3 0 rfl rfl (vp_inI (by omega) (by omega)) dX8_worth_30 ?_
      refine lv_topi (fun v_6 ev_6 => ?_)
      have hgv_6 : 0 ≤ v_6.toInt ∧ v_6.toInt ≤ 99999 := by rw [ev_6]; exact hRr 3 _
      refine lv_iload hx hb dX8_worth_31 (lv_at hl 0 rfl) ?_
      refine lv_iload_n hx hb dX8_worth_33 rfl (lv_at hl 4 rfl) ?_
      refine lv_isub hx hb dX8_worth_34 ?_
      refine lv_topi (fun v_7 ev_7 => ?_)
      refine lv_imul hx hb dX8_worth_35 ?_
      refine lv_topi (fun v_8 ev_8 => ?_)
      refine lv_iload hx hb dX8_worth_36 (lv_at hl 0 rfl) ?_
      refine lv_idiv hx hb dX8_worth_38 (nz (by omega)) ?_
      refine lv_topi (fun v_9 ev_9 => ?_)
      subst hQ
      exact W.iret (v := v_9) hx hb hr (fun t ht hW => ⟨_, rfl, trivial, ht⟩) (fun q hq => absurd hq List.not_mem_nil) dX8_worth_39
    · have c_3 : v_1.toInt ≤ p2.toInt := b_nlt c_3
      refine lv_iconst (v := 0) hx hb dX8_worth_19 (by decide) ?_
      subst hQ
      exact W.iret (v := 0) hx hb hr (fun t ht hW => ⟨_, rfl, trivial, ht⟩) (fun q hq => absurd hq List.not_mem_nil) dX8_worth_20
set_option maxHeartbeats 4000000 in
set_option maxRecDepth 100000 in
theorem c_X5_combine (l : Launch) (p0 p1 p2 : Int32) : Met l yX5_combine (Cond.code yX5_combine cX5_combine 3 (some .int) :: gT) { frames := 1, cells := 0, slots := 0, locals := 24 } (va_Pc [.int p0, .int p1, .int p2] (fun _ => True)) (vp_Si (fun z => True)) 0 0 (fun _ => False) := by
  refine Met.ofQ (cc := cX5_combine) (maxL := 3) (ret := (some .int)) (by decide) rfl ?_
  intro p e s m args below meth c s₁ B hml hv Q hQ
  obtain ⟨rfl, -⟩ := hv
  have hx := B.exec
  have hb := B.bytes
  have hr := B.returns
  have hlocks := B.notSynchronized
  have hT : ∀ w ∈ gT, w.before _ s = true := fun w h => atoms_spec (ws := (Cond.code yX5_combine cX5_combine 3 (some .int) :: gT)) B.pre w (List.mem_cons_of_mem _ h)
  have hown : s.vm.findClass RX5 = some m.cls := findClass_of_methodNamed B.named
  have hl := lv_entry ([.int p0, .int p1, .int p2]) (n := 3) (Nat.le_of_ble_eq_true rfl)
  rw [lg_entry_eq]
  generalize (lg_sl ([.int p0, .int p1, .int p2]) ++ List.replicate (3 - (lg_sl ([.int p0, .int p1, .int p2])).length) Slot.unset).toArray = ls at hl ⊢
  have hl : lv_has ls 3 [(0, .int p0), (1, .int p1), (2, .int p2)] := hl
  refine lv_iload_n hx hb dX5_combine_0 rfl (lv_at hl 0 rfl) ?_
  by_cases h_1_0 : p0 = 37
  · refine lv_lookup (off := 91) (tgt := 92) hx hb dX5_combine_1 rfl (by rw [h_1_0]; rfl) (by decide) ?_
    refine lv_iload_n hx hb dX5_combine_92 rfl (lv_at hl 2 rfl) ?_
    refine lv_if_ne (tgt := 100) hx hb dX5_combine_93 (by decide) (fun c_2 => ?_) (fun c_2 => ?_)
    · have c_2 : p2.toInt ≠ 0 := b_ne c_2
      refine lv_iload_n hx hb dX5_combine_100 rfl (lv_at hl 1 rfl) ?_
      refine lv_iload_n hx hb dX5_combine_101 rfl (lv_at hl 2 rfl) ?_
      refine lv_irem hx hb dX5_combine_102 (nz (by omega)) ?_
      refine lv_topi (fun v_3 ev_3 => ?_)
      subst hQ
      exact W.iret (v := v_3) hx hb hr (fun t ht hW => ⟨_, rfl, trivial, ht⟩) (fun q hq => absurd hq List.not_mem_nil) dX5_combine_103
    · have c_2 : p2.toInt = 0 := b_nne c_2
      refine lv_iconst (v := 0) hx hb dX5_combine_96 (by decide) ?_
      refine lv_goto (tgt := 103) hx hb dX5_combine_97 (by decide) ?_
      subst hQ
      exact W.iret (v := 0) hx hb hr (fun t ht hW => ⟨_, rfl, trivial, ht⟩) (fun q hq => absurd hq List.not_mem_nil) dX5_combine_103
  by_cases h_1_1 : p0 = 42
  · refine lv_lookup (off := 75) (tgt := 76) hx hb dX5_combine_1 rfl (by rw [h_1_1]; rfl) (by decide) ?_
    refine lv_iload_n hx hb dX5_combine_76 rfl (lv_at hl 1 rfl) ?_
    refine lv_iload_n hx hb dX5_combine_77 rfl (lv_at hl 2 rfl) ?_
    refine lv_imul hx hb dX5_combine_78 ?_
    refine lv_topi (fun v_4 ev_4 => ?_)
    subst hQ
    exact W.iret (v := v_4) hx hb hr (fun t ht hW => ⟨_, rfl, trivial, ht⟩) (fun q hq => absurd hq List.not_mem_nil) dX5_combine_79
  by_cases h_1_2 : p0 = 43
  · refine lv_lookup (off := 67) (tgt := 68) hx hb dX5_combine_1 rfl (by rw [h_1_2]; rfl) (by decide) ?_
    refine lv_iload_n hx hb dX5_combine_68 rfl (lv_at hl 1 rfl) ?_
    refine lv_iload_n hx hb dX5_combine_69 rfl (lv_at hl 2 rfl) ?_
    refine lv_iadd hx hb dX5_combine_70 ?_
    refine lv_topi (fun v_5 ev_5 => ?_)
    subst hQ
    exact W.iret (v := v_5) hx hb hr (fun t ht hW => ⟨_, rfl, trivial, ht⟩) (fun q hq => absurd hq List.not_mem_nil) dX5_combine_71
  by_cases h_1_3 : p0 = 45
  · refine lv_lookup (off := 71) (tgt := 72) hx hb dX5_combine_1 rfl (by rw [h_1_3]; rfl) (by decide) ?_
    refine lv_iload_n hx hb dX5_combine_72 rfl (lv_at hl 1 rfl) ?_
    refine lv_iload_n hx hb dX5_combine_73 rfl (lv_at hl 2 rfl) ?_
    refine lv_isub hx hb dX5_combine_74 ?_
    refine lv_topi (fun v_6 ev_6 => ?_)
    subst hQ
    exact W.iret (v := v_6) hx hb hr (fun t ht hW => ⟨_, rfl, trivial, ht⟩) (fun q hq => absurd hq List.not_mem_nil) dX5_combine_75
  by_cases h_1_4 : p0 = 47
  · refine lv_lookup (off := 79) (tgt := 80) hx hb dX5_combine_1 rfl (by rw [h_1_4]; rfl) (by decide) ?_
    refine lv_iload_n hx hb dX5_combine_80 rfl (lv_at hl 2 rfl) ?_
    refine lv_if_ne (tgt := 88) hx hb dX5_combine_81 (by decide) (fun c_7 => ?_) (fun c_7 => ?_)
    · have c_7 : p2.toInt ≠ 0 := b_ne c_7
      refine lv_iload_n hx hb dX5_combine_88 rfl (lv_at hl 1 rfl) ?_
      refine lv_iload_n hx hb dX5_combine_89 rfl (lv_at hl 2 rfl) ?_
      refine lv_idiv hx hb dX5_combine_90 (nz (by omega)) ?_
      refine lv_topi (fun v_8 ev_8 => ?_)
      subst hQ
      exact W.iret (v := v_8) hx hb hr (fun t ht hW => ⟨_, rfl, trivial, ht⟩) (fun q hq => absurd hq List.not_mem_nil) dX5_combine_91
    · have c_7 : p2.toInt = 0 := b_nne c_7
      refine lv_iconst (v := 0) hx hb dX5_combine_84 (by decide) ?_
      refine lv_goto (tgt := 91) hx hb dX5_combine_85 (by decide) ?_
      subst hQ
      exact W.iret (v := 0) hx hb hr (fun t ht hW => ⟨_, rfl, trivial, ht⟩) (fun q hq => absurd hq List.not_mem_nil) dX5_combine_91
  by_cases h_1_5 : p0 = 60
  · refine lv_lookup (off := 103) (tgt := 104) hx hb dX5_combine_1 rfl (by rw [h_1_5]; rfl) (by decide) ?_
    refine lv_iload_n hx hb dX5_combine_104 rfl (lv_at hl 1 rfl) ?_
    refine lv_iload_n hx hb dX5_combine_105 rfl (lv_at hl 2 rfl) ?_
    refine lv_icmp_ge (tgt := 113) hx hb dX5_combine_106 (by decide) (fun c_9 => ?_) (fun c_9 => ?_)
    · have c_9 : p2.toInt ≤ p1.toInt := b_le c_9
      refine lv_iconst (v := 0) hx hb dX5_combine_113 (by decide) ?_
      subst hQ
      exact W.iret (v := 0) hx hb hr (fun t ht hW => ⟨_, rfl, trivial, ht⟩) (fun q hq => absurd hq List.not_mem_nil) dX5_combine_114
    · have c_9 : p1.toInt < p2.toInt := b_nle c_9
      refine lv_iconst (v := 1) hx hb dX5_combine_109 (by decide) ?_
      refine lv_goto (tgt := 114) hx hb dX5_combine_110 (by decide) ?_
      subst hQ
      exact W.iret (v := 1) hx hb hr (fun t ht hW => ⟨_, rfl, trivial, ht⟩) (fun q hq => absurd hq List.not_mem_nil) dX5_combine_114
  by_cases h_1_6 : p0 = 62
  · refine lv_lookup (off := 114) (tgt := 115) hx hb dX5_combine_1 rfl (by rw [h_1_6]; rfl) (by decide) ?_
    refine lv_iload_n hx hb dX5_combine_115 rfl (lv_at hl 1 rfl) ?_
    refine lv_iload_n hx hb dX5_combine_116 rfl (lv_at hl 2 rfl) ?_
    refine lv_icmp_le (tgt := 124) hx hb dX5_combine_117 (by decide) (fun c_10 => ?_) (fun c_10 => ?_)
    · have c_10 : p1.toInt ≤ p2.toInt := b_le c_10
      refine lv_iconst (v := 0) hx hb dX5_combine_124 (by decide) ?_
      subst hQ
      exact W.iret (v := 0) hx hb hr (fun t ht hW => ⟨_, rfl, trivial, ht⟩) (fun q hq => absurd hq List.not_mem_nil) dX5_combine_125
    · have c_10 : p2.toInt < p1.toInt := b_nle c_10
      refine lv_iconst (v := 1) hx hb dX5_combine_120 (by decide) ?_
      refine lv_goto (tgt := 125) hx hb dX5_combine_121 (by decide) ?_
      subst hQ
      exact W.iret (v := 1) hx hb hr (fun t ht hW => ⟨_, rfl, trivial, ht⟩) (fun q hq => absurd hq List.not_mem_nil) dX5_combine_125
  refine lv_lookup (off := 125) (tgt := 126) hx hb dX5_combine_1 rfl ((lv_osw h_1_0 rfl).trans ((lv_osw h_1_1 rfl).trans ((lv_osw h_1_2 rfl).trans ((lv_osw h_1_3 rfl).trans ((lv_osw h_1_4 rfl).trans ((lv_osw h_1_5 rfl).trans ((lv_osw h_1_6 rfl).trans (rfl)))))))) (by decide) ?_
  refine lv_iload_n hx hb dX5_combine_126 rfl (lv_at hl 1 rfl) ?_
  refine lv_iload_n hx hb dX5_combine_127 rfl (lv_at hl 2 rfl) ?_
  refine lv_icmp_ne (tgt := 135) hx hb dX5_combine_128 (by decide) (fun c_11 => ?_) (fun c_11 => ?_)
  · have c_11 : p1.toInt ≠ p2.toInt := b_ne c_11
    refine lv_iconst (v := 0) hx hb dX5_combine_135 (by decide) ?_
    subst hQ
    exact W.iret (v := 0) hx hb hr (fun t ht hW => ⟨_, rfl, trivial, ht⟩) (fun q hq => absurd hq List.not_mem_nil) dX5_combine_136
  · have c_11 : p1.toInt = p2.toInt := b_nne c_11
    refine lv_iconst (v := 1) hx hb dX5_combine_131 (by decide) ?_
    refine lv_goto (tgt := 136) hx hb dX5_combine_132 (by decide) ?_
    subst hQ
    exact W.iret (v := 1) hx hb hr (fun t ht hW => ⟨_, rfl, trivial, ht⟩) (fun q hq => absurd hq List.not_mem_nil) dX5_combine_136
set_option maxHeartbeats 4000000 in
set_option maxRecDepth 100000 in
theorem c_X5_run (l : Launch) (D : va_G) (cy : Nat → ClassId) (a : Nat → Nat) (i : Nat → Int32) (r : Nat → Nat → Int32) (q : Nat → Option Nat) (tl : va_W) (p0 p1 : Int32) (sz : Nat) (hRi : yRi i) (hRr : yRr r) (q0 : 0 ≤ p0.toInt ∧ p0.toInt ≤ 200) (q1 : 0 ≤ p1.toInt ∧ p1.toInt ≤ 200) : Met l yX5_run (Cond.code yX5_run cX5_run 10 (some .int) :: gT) { frames := 2, cells := 0, slots := 0, locals := 46 } (va_Pc [.ref (a 20), .int p0, .int p1, .ref (a 28)] (rM D cy (xW cy a i r q (a 20) (a 12) ++ tl) sz)) (va_Qi (fun (z : Int32) (u : Nat → Nat → Int32) => yRr u ∧ mEr [27] r u ∧ True) (fun (u : Nat → Nat → Int32) t => va_P D vwCl (xW cy a i u q (a 20) (a 12) ++ tl) t.heap ∧ va_K D vwCl (vT cy) t ∧ va_D (va_A (xW cy a i r q (a 20) (a 12) ++ tl) sz) (xW cy a i u q (a 20) (a 12) ++ tl)) (va_A (xW cy a i r q (a 20) (a 12) ++ tl) sz)) 0 0 (va_A (xW cy a i r q (a 20) (a 12) ++ tl) sz) := by
  refine Met.ofQ (cc := cX5_run) (maxL := 10) (ret := (some .int)) (by decide) rfl ?_
  intro p e s m args below meth c s₁ B hml hv Q hQ
  obtain ⟨rfl, hnw, hsz, hP, hK, hD0⟩ := hv
  have hx := B.exec
  have hb := B.bytes
  have hr := B.returns
  have hlocks := B.notSynchronized
  have hT : ∀ w ∈ gT, w.before _ s = true := fun w h => atoms_spec (ws := (Cond.code yX5_run cX5_run 10 (some .int) :: gT)) B.pre w (List.mem_cons_of_mem _ h)
  have hown : s.vm.findClass RX5 = some m.cls := findClass_of_methodNamed B.named
  subst hsz
  have hD := hD0.self (sz := s.heap.size)
  generalize hAe : va_A (xW cy a i r q (a 20) (a 12) ++ tl) s.heap.size = A at hD hQ
  have hA : ∀ q : Nat, s.heap.size ≤ q → A q := fun q h => by rw [← hAe]; exact Or.inr h
  have hS : va_S A s.heap s.heap [] := va_S.rf
  have hl := lv_entry ([.ref (a 20), .int p0, .int p1, .ref (a 28)]) (n := 10) (Nat.le_of_ble_eq_true rfl)
  rw [lg_entry_eq]
  generalize (lg_sl ([.ref (a 20), .int p0, .int p1, .ref (a 28)]) ++ List.replicate (10 - (lg_sl ([.ref (a 20), .int p0, .int p1, .ref (a 28)])).length) Slot.unset).toArray = ls at hl ⊢
  have hl : lv_has ls 10 [(0, .ref (a 20)), (1, .int p0), (2, .int p1), (3, .ref (a 28))] := hl
  have hEi : mEi [] i i := Ei_rf
  have hEr : mEr [27] r r := Er_rf
  refine lv_iconst (v := 0) hx hb dX5_run_0 (by decide) ?_
  refine lv_istore (lv' := [(4, .int 0), (0, .ref (a 20)), (1, .int p0), (2, .int p1), (3, .ref (a 28))]) hx hb dX5_run_1 hl (by decide) rfl (fun ls hl => ?_)
  refine lv_iload_n hx hb dX5_run_3 rfl (lv_at hl 2 rfl) ?_
  refine lv_istore (lv' := [(5, .int p0), (4, .int 0), (0, .ref (a 20)), (1, .int p0), (2, .int p1), (3, .ref (a 28))]) hx hb dX5_run_4 hl (by decide) rfl (fun ls hl => ?_)
  refine lv_iconst (v := 0) hx hb dX5_run_6 (by decide) ?_
  refine lv_istore (lv' := [(6, .int 0), (5, .int p0), (4, .int 0), (0, .ref (a 20)), (1, .int p0), (2, .int p1), (3, .ref (a 28))]) hx hb dX5_run_7 hl (by decide) rfl (fun ls hl => ?_)
  have loop_1 : ∀ (n : Nat) (x1_6 : Int32) (x1_5 : Int32) (x1_4 : Int32) (r1 : Nat → Nat → Int32) (H : Heap) (locs : List Loc) (ls : Array Slot), (200 - x1_6.toInt).toNat < n → (0 ≤ x1_6.toInt ∧ x1_6.toInt ≤ 200) → (0 ≤ x1_4.toInt ∧ x1_4.toInt ≤ 200) → yRr r1 → mEr [27] r r1 → va_P D vwCl (xW cy a i r1 q (a 20) (a 12) ++ tl) H → va_D A (xW cy a i r1 q (a 20) (a 12) ++ tl) → va_S A s.heap H locs → lv_has ls 10 [(6, .int x1_6), (5, .int x1_5), (4, .int x1_4), (0, .ref (a 20)), (1, .int p0), (2, .int p1), (3, .ref (a 28))] → W p l e ({ frames := 2, cells := 0, slots := 0, locals := 46 } : Room) s m ([.ref (a 20), .int p0, .int p1, .ref (a 28)] : List Value).toArray below meth c H locs 0 0 Q (F0 m 9 ls []) := by
    intro n
    induction n with
    | zero =>
      intro x1_6 x1_5 x1_4 r1 H locs ls hm1 hf1_0 hf1_1 hRr hEr hP hD hS hl
      exact absurd hm1 (by omega)
    | succ n ih1 =>
      intro x1_6 x1_5 x1_4 r1 H locs ls hm1 hf1_0 hf1_1 hRr hEr hP hD hS hl
      refine lv_iload hx hb dX5_run_9 (lv_at hl 0 rfl) ?_
      refine lv_sipush (v := 200) hx hb dX5_run_11 (by decide) ?_
      refine lv_icmp_ge (tgt := 308) hx hb dX5_run_14 (by decide) (fun c_2 => ?_) (fun c_2 => ?_)
      · have c_2 : 200 ≤ x1_6.toInt := b_le c_2
        refine lv_iload hx hb dX5_run_308 (lv_at hl 2 rfl) ?_
        refine lv_if_le (tgt := 325) hx hb dX5_run_310 (by decide) (fun c_3 => ?_) (fun c_3 => ?_)
        · have c_3 : x1_4.toInt ≤ 0 := b_le c_3
          refine lv_iconst (v := 0) hx hb dX5_run_325 (by decide) ?_
          subst hQ
          exact W.iret (v := 0) hx hb hr (fun t ht hW => ⟨⟨_, r1, rfl, ⟨hRr, hEr, trivial⟩, by rw [ht]; exact hP, va_K.moved hW.alike hK, hD⟩, hS.F ht⟩) hS.2.2 dX5_run_326
        · have c_3 : 0 < x1_4.toInt := b_nle c_3
          refine lv_aload_n hx hb dX5_run_313 rfl (lv_at hl 3 rfl) ?_
          refine va_get (D := D) (ci := 5) (v := .ref (a 27)) (C := RX5) (T := TX5) (N := 9) hx hb hT iX5 hown hK hP 20 rfl rfl 8 (by decide) (hT _ t_363) (fun _ h9 => h9) rfl dX5_run_314 ?_
          refine lv_iload hx hb dX5_run_317 (lv_at hl 2 rfl) ?_
          refine lv_iconst (v := 1) hx hb dX5_run_319 (by decide) ?_
          refine lv_isub hx hb dX5_run_320 ?_
          refine lv_topi (fun v_4 ev_4 => ?_)
          have hv_4 : v_4.toInt = x1_4.toInt - 1 := by rw [ev_4]; have := b_rg x1_4; exact i_sub (a := x1_4.toInt) (b := 1) rfl rfl (by omega) (by omega)
          refine va_iald hx hb hK hP 27 0 rfl rfl (vp_inI (by omega) (by omega)) dX5_run_321 ?_
          refine lv_topi (fun v_5 ev_5 => ?_)
          refine lv_goto (tgt := 326) hx hb dX5_run_322 (by decide) ?_
          subst hQ
          exact W.iret (v := v_5) hx hb hr (fun t ht hW => ⟨⟨_, r1, rfl, ⟨hRr, hEr, trivial⟩, by rw [ht]; exact hP, va_K.moved hW.alike hK, hD⟩, hS.F ht⟩) hS.2.2 dX5_run_326
      · have c_2 : x1_6.toInt < 200 := b_nle c_2
        refine lv_iload hx hb dX5_run_17 (lv_at hl 1 rfl) ?_
        refine lv_iconst (v := 0) hx hb dX5_run_19 (by decide) ?_
        refine lv_iload_n hx hb dX5_run_20 rfl (lv_at hl 5 rfl) ?_
        refine lv_iconst (v := 1) hx hb dX5_run_21 (by decide) ?_
        refine lv_isub hx hb dX5_run_22 ?_
        refine lv_topi (fun v_6 ev_6 => ?_)
        have hv_6 : v_6.toInt = p1.toInt - 1 := by rw [ev_6]; have := b_rg p1; exact i_sub (a := p1.toInt) (b := 1) rfl rfl (by omega) (by omega)
        refine vp_callSi (va_Run.run (va_runSN (As := [.int x1_5, .int 0, .int v_6]) (rest := []) ⟨hx, hb, hml, hown, hT⟩ (c_X11_within l x1_5 0 v_6) ⟨va_cnB 3 hT (gI t_1) rfl rfl rfl hnw (hT _ t_2) (by decide +kernel) ⟨Nat.le_of_ble_eq_true rfl, Nat.le_of_ble_eq_true rfl⟩, (hT _ t_4), trivial⟩ preT rfl rfl hl.1 rfl (lv_room (Nat.le_of_ble_eq_true rfl)) dX5_run_23 ⟨Nat.le_of_ble_eq_true rfl, Nat.le_of_ble_eq_true rfl⟩)) (fun r_7 hr_7 => ?_)
        have hr_7 : BR r_7 (0 ≤ x1_5.toInt ∧ x1_5.toInt ≤ v_6.toInt) 1 0 := hr_7
        rcases hr_7 with ⟨rfl, h_8⟩ | ⟨rfl, h_8⟩
        · skip
          refine lv_if_eq (tgt := 308) hx hb dX5_run_26 (by decide) (fun c_9 => absurd c_9 (by decide)) (fun c_9 => ?_)
          refine lv_iload_n hx hb dX5_run_29 rfl (lv_at hl 5 rfl) ?_
          refine lv_sipush (v := 200) hx hb dX5_run_30 (by decide) ?_
          refine lv_icmp_gt (tgt := 308) hx hb dX5_run_33 (by decide) (fun c_10 => by have c_10 : 200 < p1.toInt := b_lt c_10; omega) (fun c_10 => ?_)
          have c_10 : p1.toInt ≤ 200 := b_nlt c_10
          refine lv_aload_n hx hb dX5_run_36 rfl (lv_at hl 3 rfl) ?_
          refine va_get (D := D) (ci := 5) (v := .ref (a 25)) (C := RX5) (T := TX5) (N := 9) hx hb hT iX5 hown hK hP 20 rfl rfl 6 (by decide) (hT _ t_364) (fun _ h9 => h9) rfl dX5_run_37 ?_
          refine lv_iload hx hb dX5_run_40 (lv_at hl 1 rfl) ?_
          refine va_iald hx hb hK hP 25 0 rfl rfl (vp_inI (by omega) (by omega)) dX5_run_42 ?_
          refine lv_topi (fun v_11 ev_11 => ?_)
          refine lv_istore (lv' := [(7, .int v_11), (6, .int x1_6), (5, .int x1_5), (4, .int x1_4), (0, .ref (a 20)), (1, .int p0), (2, .int p1), (3, .ref (a 28))]) hx hb dX5_run_43 hl (by decide) rfl (fun ls hl => ?_)
          refine lv_aload_n hx hb dX5_run_45 rfl (lv_at hl 4 rfl) ?_
          refine va_get (D := D) (ci := 5) (v := .ref (a 26)) (C := RX5) (T := TX5) (N := 9) hx hb hT iX5 hown hK hP 20 rfl rfl 7 (by decide) (hT _ t_365) (fun _ h9 => h9) rfl dX5_run_46 ?_
          refine lv_iload hx hb dX5_run_49 (lv_at hl 2 rfl) ?_
          refine va_iald hx hb hK hP 26 0 rfl rfl (vp_inI (by omega) (by omega)) dX5_run_51 ?_
          refine lv_topi (fun v_12 ev_12 => ?_)
          refine lv_istore (lv' := [(8, .int v_12), (7, .int v_11), (6, .int x1_6), (5, .int x1_5), (4, .int x1_4), (0, .ref (a 20)), (1, .int p0), (2, .int p1), (3, .ref (a 28))]) hx hb dX5_run_52 hl (by decide) rfl (fun ls hl => ?_)
          obtain ⟨x_13, ex_13⟩ : ∃ y : Int32, y = x1_5 + 1 := ⟨_, rfl⟩
          refine lv_iinc (v := x_13) (lv' := [(5, .int x_13), (8, .int v_12), (7, .int v_11), (6, .int x1_6), (4, .int x1_4), (0, .ref (a 20)), (1, .int p0), (2, .int p1), (3, .ref (a 28))]) hx hb dX5_run_54 hl (k := 3) rfl (by rw [ex_13]; rfl) (by decide) rfl (fun ls hl => ?_)
          refine lv_iload hx hb dX5_run_57 (lv_at hl 2 rfl) ?_
          refine lv_bipush (v := 48) hx hb dX5_run_59 (by decide) ?_
          refine lv_icmp_eq (tgt := 71) hx hb dX5_run_61 (by decide) (fun c_14 => ?_) (fun c_14 => ?_)
          · have c_14 : v_11.toInt = 48 := b_eq c_14
            refine lv_iload hx hb dX5_run_71 (lv_at hl 4 rfl) ?_
            refine lv_sipush (v := 200) hx hb dX5_run_73 (by decide) ?_
            refine lv_icmp_ge (tgt := 97) hx hb dX5_run_76 (by decide) (fun c_15 => ?_) (fun c_15 => ?_)
            · have c_15 : 200 ≤ x1_4.toInt := b_le c_15
              refine lv_iconst (v := 0) hx hb dX5_run_97 (by decide) ?_
              subst hQ
              exact W.iret (v := 0) hx hb hr (fun t ht hW => ⟨⟨_, r1, rfl, ⟨hRr, hEr, trivial⟩, by rw [ht]; exact hP, va_K.moved hW.alike hK, hD⟩, hS.F ht⟩) hS.2.2 dX5_run_98
            · have c_15 : x1_4.toInt < 200 := b_nle c_15
              refine lv_iload hx hb dX5_run_79 (lv_at hl 2 rfl) ?_
              refine lv_bipush (v := 107) hx hb dX5_run_81 (by decide) ?_
              refine lv_icmp_ne (tgt := 99) hx hb dX5_run_83 (by decide) (fun c_16 => ?_) (fun c_16 => by have c_16 : v_11.toInt = 107 := b_nne c_16; omega)
              have c_16 : v_11.toInt ≠ 107 := b_ne c_16
              refine lv_aload_n hx hb dX5_run_99 rfl (lv_at hl 5 rfl) ?_
              refine va_get (D := D) (ci := 5) (v := .ref (a 27)) (C := RX5) (T := TX5) (N := 9) hx hb hT iX5 hown hK hP 20 rfl rfl 8 (by decide) (hT _ t_363) (fun _ h9 => h9) rfl dX5_run_100 ?_
              refine lv_iload hx hb dX5_run_103 (lv_at hl 4 rfl) ?_
              refine lv_iload hx hb dX5_run_105 (lv_at hl 2 rfl) ?_
              refine lv_bipush (v := 48) hx hb dX5_run_107 (by decide) ?_
              refine lv_icmp_ne (tgt := 117) hx hb dX5_run_109 (by decide) (fun c_17 => by have c_17 : v_11.toInt ≠ 48 := b_ne c_17; omega) (fun c_17 => ?_)
              have c_17 : v_11.toInt = 48 := b_nne c_17
              refine lv_iload hx hb dX5_run_112 (lv_at hl 1 rfl) ?_
              refine lv_goto (tgt := 121) hx hb dX5_run_114 (by decide) ?_
              refine va_iast hx hb hK hP hD hS 27 0 rfl rfl (vp_inI (by omega) (by omega)) dX5_run_121 (fun H locs hP hD hS => ?_)
              rw [zS27] at hP hD
              have hRr : yRr (va_up r1 27 (upd (r1 27) x1_4.toNatClampNeg v_12)) := Yr_upd hRr 27 (x1_4.toNatClampNeg) v_12 (b_rg _)
              have hEr : mEr [27] _ (va_up r1 27 (upd (r1 27) x1_4.toNatClampNeg v_12)) := Er_up hEr 27 _ (by decide)
              obtain ⟨x_18, ex_18⟩ : ∃ y : Int32, y = x1_4 + 1 := ⟨_, rfl⟩
              refine lv_iinc (v := x_18) (lv' := [(4, .int x_18), (5, .int x_13), (8, .int v_12), (7, .int v_11), (6, .int x1_6), (0, .ref (a 20)), (1, .int p0), (2, .int p1), (3, .ref (a 28))]) hx hb dX5_run_122 hl (k := 4) rfl (by rw [ex_18]; rfl) (by decide) rfl (fun ls hl => ?_)
              have hx_18 : x_18.toInt = x1_4.toInt + 1 := by rw [ex_18]; have := b_rg x1_4; exact i_add (a := x1_4.toInt) (b := 1) rfl rfl (by omega) (by omega)
              refine lv_goto (tgt := 302) hx hb dX5_run_125 (by decide) ?_
              obtain ⟨x_19, ex_19⟩ : ∃ y : Int32, y = x1_6 + 1 := ⟨_, rfl⟩
              refine lv_iinc (v := x_19) (lv' := [(6, .int x_19), (4, .int x_18), (5, .int x_13), (8, .int v_12), (7, .int v_11), (0, .ref (a 20)), (1, .int p0), (2, .int p1), (3, .ref (a 28))]) hx hb dX5_run_302 hl (k := 4) rfl (by rw [ex_19]; rfl) (by decide) rfl (fun ls hl => ?_)
              have hx_19 : x_19.toInt = x1_6.toInt + 1 := by rw [ex_19]; have := b_rg x1_6; exact i_add (a := x1_6.toInt) (b := 1) rfl rfl (by omega) (by omega)
              refine lv_goto (tgt := 9) hx hb dX5_run_305 (by decide) ?_
              exact ih1 x_19 x_13 x_18 (va_up r1 27 (upd (r1 27) x1_4.toNatClampNeg v_12)) _ _ _ (by first | omega | (simp only [Int.toNat]; omega)) (by first | omega | decide) (by first | omega | decide) hRr hEr  hP hD hS (lv_sub hl [0, 2, 1, 5, 6, 7, 8] rfl)
          · have c_14 : v_11.toInt ≠ 48 := b_ne c_14
            refine lv_iload hx hb dX5_run_64 (lv_at hl 2 rfl) ?_
            refine lv_bipush (v := 107) hx hb dX5_run_66 (by decide) ?_
            refine lv_icmp_ne (tgt := 128) hx hb dX5_run_68 (by decide) (fun c_20 => ?_) (fun c_20 => ?_)
            · have c_20 : v_11.toInt ≠ 107 := b_ne c_20
              refine lv_iload hx hb dX5_run_128 (lv_at hl 2 rfl) ?_
              refine lv_bipush (v := 33) hx hb dX5_run_130 (by decide) ?_
              refine lv_icmp_eq (tgt := 149) hx hb dX5_run_132 (by decide) (fun c_21 => ?_) (fun c_21 => ?_)
              · have c_21 : v_11.toInt = 33 := b_eq c_21
                refine lv_iload hx hb dX5_run_149 (lv_at hl 4 rfl) ?_
                refine lv_iconst (v := 1) hx hb dX5_run_151 (by decide) ?_
                refine lv_icmp_ge (tgt := 157) hx hb dX5_run_152 (by decide) (fun c_22 => ?_) (fun c_22 => ?_)
                · have c_22 : 1 ≤ x1_4.toInt := b_le c_22
                  refine lv_aload_n hx hb dX5_run_157 rfl (lv_at hl 5 rfl) ?_
                  refine va_get (D := D) (ci := 5) (v := .ref (a 27)) (C := RX5) (T := TX5) (N := 9) hx hb hT iX5 hown hK hP 20 rfl rfl 8 (by decide) (hT _ t_363) (fun _ h9 => h9) rfl dX5_run_158 ?_
                  refine lv_iload hx hb dX5_run_161 (lv_at hl 4 rfl) ?_
                  refine lv_iconst (v := 1) hx hb dX5_run_163 (by decide) ?_
                  refine lv_isub hx hb dX5_run_164 ?_
                  refine lv_topi (fun v_23 ev_23 => ?_)
                  have hv_23 : v_23.toInt = x1_4.toInt - 1 := by rw [ev_23]; have := b_rg x1_4; exact i_sub (a := x1_4.toInt) (b := 1) rfl rfl (by omega) (by omega)
                  refine va_iald hx hb hK hP 27 0 rfl rfl (vp_inI (by omega) (by omega)) dX5_run_165 ?_
                  refine lv_topi (fun v_24 ev_24 => ?_)
                  refine lv_if_eq (tgt := 173) hx hb dX5_run_166 (by decide) (fun c_25 => ?_) (fun c_25 => ?_)
                  · have c_25 : v_24.toInt = 0 := b_eq c_25
                    refine lv_iconst (v := 0) hx hb dX5_run_173 (by decide) ?_
                    refine lv_istore (lv' := [(9, .int 0), (5, .int x_13), (8, .int v_12), (7, .int v_11), (6, .int x1_6), (4, .int x1_4), (0, .ref (a 20)), (1, .int p0), (2, .int p1), (3, .ref (a 28))]) hx hb dX5_run_174 hl (by decide) rfl (fun ls hl => ?_)
                    refine lv_iload hx hb dX5_run_176 (lv_at hl 3 rfl) ?_
                    refine lv_bipush (v := 33) hx hb dX5_run_178 (by decide) ?_
                    refine lv_icmp_ne (tgt := 205) hx hb dX5_run_180 (by decide) (fun c_26 => by have c_26 : v_11.toInt ≠ 33 := b_ne c_26; omega) (fun c_26 => ?_)
                    have c_26 : v_11.toInt = 33 := b_nne c_26
                    refine lv_aload_n hx hb dX5_run_183 rfl (lv_at hl 6 rfl) ?_
                    refine va_get (D := D) (ci := 5) (v := .ref (a 27)) (C := RX5) (T := TX5) (N := 9) hx hb hT iX5 hown hK hP 20 rfl rfl 8 (by decide) (hT _ t_363) (fun _ h9 => h9) rfl dX5_run_184 ?_
                    refine lv_iload hx hb dX5_run_187 (lv_at hl 5 rfl) ?_
                    refine lv_iconst (v := 1) hx hb dX5_run_189 (by decide) ?_
                    refine lv_isub hx hb dX5_run_190 ?_
                    refine lv_topi (fun v_27 ev_27 => ?_)
                    have hv_27 : v_27.toInt = x1_4.toInt - 1 := by rw [ev_27]; have := b_rg x1_4; exact i_sub (a := x1_4.toInt) (b := 1) rfl rfl (by omega) (by omega)
                    refine lv_iload hx hb dX5_run_191 (lv_at hl 0 rfl) ?_
                    refine lv_if_eq (tgt := 200) hx hb dX5_run_193 (by decide) (fun c_28 => ?_) (fun c_28 => absurd (by decide) c_28)
                    refine lv_iconst (v := 1) hx hb dX5_run_200 (by decide) ?_
                    refine va_iast hx hb hK hP hD hS 27 0 rfl rfl (vp_inI (by omega) (by omega)) dX5_run_201 (fun H locs hP hD hS => ?_)
                    rw [zS27] at hP hD
                    have hRr : yRr (va_up r1 27 (upd (r1 27) v_27.toNatClampNeg 1)) := Yr_upd hRr 27 (v_27.toNatClampNeg) 1 (b_rg _)
                    have hEr : mEr [27] _ (va_up r1 27 (upd (r1 27) v_27.toNatClampNeg 1)) := Er_up hEr 27 _ (by decide)
                    refine lv_goto (tgt := 232) hx hb dX5_run_202 (by decide) ?_
                    refine lv_goto (tgt := 302) hx hb dX5_run_232 (by decide) ?_
                    obtain ⟨x_29, ex_29⟩ : ∃ y : Int32, y = x1_6 + 1 := ⟨_, rfl⟩
                    refine lv_iinc (v := x_29) (lv' := [(6, .int x_29), (9, .int 0), (5, .int x_13), (8, .int v_12), (7, .int v_11), (4, .int x1_4), (0, .ref (a 20)), (1, .int p0), (2, .int p1), (3, .ref (a 28))]) hx hb dX5_run_302 hl (k := 4) rfl (by rw [ex_29]; rfl) (by decide) rfl (fun ls hl => ?_)
                    have hx_29 : x_29.toInt = x1_6.toInt + 1 := by rw [ex_29]; have := b_rg x1_6; exact i_add (a := x1_6.toInt) (b := 1) rfl rfl (by omega) (by omega)
                    refine lv_goto (tgt := 9) hx hb dX5_run_305 (by decide) ?_
                    exact ih1 x_29 x_13 x1_4 (va_up r1 27 (upd (r1 27) v_27.toNatClampNeg 1)) _ _ _ (by first | omega | (simp only [Int.toNat]; omega)) (by first | omega | decide) (by first | omega | decide) hRr hEr  hP hD hS (lv_sub hl [0, 2, 5, 6, 7, 8, 9] rfl)
                  · have c_25 : v_24.toInt ≠ 0 := b_ne c_25
                    refine lv_iconst (v := 1) hx hb dX5_run_169 (by decide) ?_
                    refine lv_goto (tgt := 174) hx hb dX5_run_170 (by decide) ?_
                    refine lv_istore (lv' := [(9, .int 1), (5, .int x_13), (8, .int v_12), (7, .int v_11), (6, .int x1_6), (4, .int x1_4), (0, .ref (a 20)), (1, .int p0), (2, .int p1), (3, .ref (a 28))]) hx hb dX5_run_174 hl (by decide) rfl (fun ls hl => ?_)
                    refine lv_iload hx hb dX5_run_176 (lv_at hl 3 rfl) ?_
                    refine lv_bipush (v := 33) hx hb dX5_run_178 (by decide) ?_
                    refine lv_icmp_ne (tgt := 205) hx hb dX5_run_180 (by decide) (fun c_30 => by have c_30 : v_11.toInt ≠ 33 := b_ne c_30; omega) (fun c_30 => ?_)
                    have c_30 : v_11.toInt = 33 := b_nne c_30
                    refine lv_aload_n hx hb dX5_run_183 rfl (lv_at hl 6 rfl) ?_
                    refine va_get (D := D) (ci := 5) (v := .ref (a 27)) (C := RX5) (T := TX5) (N := 9) hx hb hT iX5 hown hK hP 20 rfl rfl 8 (by decide) (hT _ t_363) (fun _ h9 => h9) rfl dX5_run_184 ?_
                    refine lv_iload hx hb dX5_run_187 (lv_at hl 5 rfl) ?_
                    refine lv_iconst (v := 1) hx hb dX5_run_189 (by decide) ?_
                    refine lv_isub hx hb dX5_run_190 ?_
                    refine lv_topi (fun v_31 ev_31 => ?_)
                    have hv_31 : v_31.toInt = x1_4.toInt - 1 := by rw [ev_31]; have := b_rg x1_4; exact i_sub (a := x1_4.toInt) (b := 1) rfl rfl (by omega) (by omega)
                    refine lv_iload hx hb dX5_run_191 (lv_at hl 0 rfl) ?_
                    refine lv_if_eq (tgt := 200) hx hb dX5_run_193 (by decide) (fun c_32 => absurd c_32 (by decide)) (fun c_32 => ?_)
                    refine lv_iconst (v := 0) hx hb dX5_run_196 (by decide) ?_
                    refine lv_goto (tgt := 201) hx hb dX5_run_197 (by decide) ?_
                    refine va_iast hx hb hK hP hD hS 27 0 rfl rfl (vp_inI (by omega) (by omega)) dX5_run_201 (fun H locs hP hD hS => ?_)
                    rw [zS27] at hP hD
                    have hRr : yRr (va_up r1 27 (upd (r1 27) v_31.toNatClampNeg 0)) := Yr_upd hRr 27 (v_31.toNatClampNeg) 0 (b_rg _)
                    have hEr : mEr [27] _ (va_up r1 27 (upd (r1 27) v_31.toNatClampNeg 0)) := Er_up hEr 27 _ (by decide)
                    refine lv_goto (tgt := 232) hx hb dX5_run_202 (by decide) ?_
                    refine lv_goto (tgt := 302) hx hb dX5_run_232 (by decide) ?_
                    obtain ⟨x_33, ex_33⟩ : ∃ y : Int32, y = x1_6 + 1 := ⟨_, rfl⟩
                    refine lv_iinc (v := x_33) (lv' := [(6, .int x_33), (9, .int 1), (5, .int x_13), (8, .int v_12), (7, .int v_11), (4, .int x1_4), (0, .ref (a 20)), (1, .int p0), (2, .int p1), (3, .ref (a 28))]) hx hb dX5_run_302 hl (k := 4) rfl (by rw [ex_33]; rfl) (by decide) rfl (fun ls hl => ?_)
                    have hx_33 : x_33.toInt = x1_6.toInt + 1 := by rw [ex_33]; have := b_rg x1_6; exact i_add (a := x1_6.toInt) (b := 1) rfl rfl (by omega) (by omega)
                    refine lv_goto (tgt := 9) hx hb dX5_run_305 (by decide) ?_
                    exact ih1 x_33 x_13 x1_4 (va_up r1 27 (upd (r1 27) v_31.toNatClampNeg 0)) _ _ _ (by first | omega | (simp only [Int.toNat]; omega)) (by first | omega | decide) (by first | omega | decide) hRr hEr  hP hD hS (lv_sub hl [0, 2, 5, 6, 7, 8, 9] rfl)
                · have c_22 : x1_4.toInt < 1 := b_nle c_22
                  refine lv_iconst (v := 0) hx hb dX5_run_155 (by decide) ?_
                  subst hQ
                  exact W.iret (v := 0) hx hb hr (fun t ht hW => ⟨⟨_, r1, rfl, ⟨hRr, hEr, trivial⟩, by rw [ht]; exact hP, va_K.moved hW.alike hK, hD⟩, hS.F ht⟩) hS.2.2 dX5_run_156
              · have c_21 : v_11.toInt ≠ 33 := b_ne c_21
                refine lv_iload hx hb dX5_run_135 (lv_at hl 2 rfl) ?_
                refine lv_bipush (v := 124) hx hb dX5_run_137 (by decide) ?_
                refine lv_icmp_eq (tgt := 149) hx hb dX5_run_139 (by decide) (fun c_34 => ?_) (fun c_34 => ?_)
                · have c_34 : v_11.toInt = 124 := b_eq c_34
                  refine lv_iload hx hb dX5_run_149 (lv_at hl 4 rfl) ?_
                  refine lv_iconst (v := 1) hx hb dX5_run_151 (by decide) ?_
                  refine lv_icmp_ge (tgt := 157) hx hb dX5_run_152 (by decide) (fun c_35 => ?_) (fun c_35 => ?_)
                  · have c_35 : 1 ≤ x1_4.toInt := b_le c_35
                    refine lv_aload_n hx hb dX5_run_157 rfl (lv_at hl 5 rfl) ?_
                    refine va_get (D := D) (ci := 5) (v := .ref (a 27)) (C := RX5) (T := TX5) (N := 9) hx hb hT iX5 hown hK hP 20 rfl rfl 8 (by decide) (hT _ t_363) (fun _ h9 => h9) rfl dX5_run_158 ?_
                    refine lv_iload hx hb dX5_run_161 (lv_at hl 4 rfl) ?_
                    refine lv_iconst (v := 1) hx hb dX5_run_163 (by decide) ?_
                    refine lv_isub hx hb dX5_run_164 ?_
                    refine lv_topi (fun v_36 ev_36 => ?_)
                    have hv_36 : v_36.toInt = x1_4.toInt - 1 := by rw [ev_36]; have := b_rg x1_4; exact i_sub (a := x1_4.toInt) (b := 1) rfl rfl (by omega) (by omega)
                    refine va_iald hx hb hK hP 27 0 rfl rfl (vp_inI (by omega) (by omega)) dX5_run_165 ?_
                    refine lv_topi (fun v_37 ev_37 => ?_)
                    refine lv_if_eq (tgt := 173) hx hb dX5_run_166 (by decide) (fun c_38 => ?_) (fun c_38 => ?_)
                    · have c_38 : v_37.toInt = 0 := b_eq c_38
                      refine lv_iconst (v := 0) hx hb dX5_run_173 (by decide) ?_
                      refine lv_istore (lv' := [(9, .int 0), (5, .int x_13), (8, .int v_12), (7, .int v_11), (6, .int x1_6), (4, .int x1_4), (0, .ref (a 20)), (1, .int p0), (2, .int p1), (3, .ref (a 28))]) hx hb dX5_run_174 hl (by decide) rfl (fun ls hl => ?_)
                      refine lv_iload hx hb dX5_run_176 (lv_at hl 3 rfl) ?_
                      refine lv_bipush (v := 33) hx hb dX5_run_178 (by decide) ?_
                      refine lv_icmp_ne (tgt := 205) hx hb dX5_run_180 (by decide) (fun c_39 => ?_) (fun c_39 => by have c_39 : v_11.toInt = 33 := b_nne c_39; omega)
                      have c_39 : v_11.toInt ≠ 33 := b_ne c_39
                      refine lv_iload hx hb dX5_run_205 (lv_at hl 0 rfl) ?_
                      refine lv_iload hx hb dX5_run_207 (lv_at hl 3 rfl) ?_
                      refine lv_bipush (v := 124) hx hb dX5_run_209 (by decide) ?_
                      refine lv_icmp_ne (tgt := 218) hx hb dX5_run_211 (by decide) (fun c_40 => by have c_40 : v_11.toInt ≠ 124 := b_ne c_40; omega) (fun c_40 => ?_)
                      have c_40 : v_11.toInt = 124 := b_nne c_40
                      refine lv_iconst (v := 1) hx hb dX5_run_214 (by decide) ?_
                      refine lv_goto (tgt := 219) hx hb dX5_run_215 (by decide) ?_
                      refine lv_icmp_ne (tgt := 229) hx hb dX5_run_219 (by decide) (fun c_41 => ?_) (fun c_41 => absurd c_41 (by decide))
                      obtain ⟨x_42, ex_42⟩ : ∃ y : Int32, y = x1_4 + (-1) := ⟨_, rfl⟩
                      refine lv_iinc (v := x_42) (lv' := [(4, .int x_42), (9, .int 0), (5, .int x_13), (8, .int v_12), (7, .int v_11), (6, .int x1_6), (0, .ref (a 20)), (1, .int p0), (2, .int p1), (3, .ref (a 28))]) hx hb dX5_run_229 hl (k := 5) rfl (by rw [ex_42]; rfl) (by decide) rfl (fun ls hl => ?_)
                      have hx_42 : x_42.toInt = x1_4.toInt + (-1) := by rw [ex_42]; have := b_rg x1_4; exact i_add (a := x1_4.toInt) (b := (-1)) rfl rfl (by omega) (by omega)
                      refine lv_goto (tgt := 302) hx hb dX5_run_232 (by decide) ?_
                      obtain ⟨x_43, ex_43⟩ : ∃ y : Int32, y = x1_6 + 1 := ⟨_, rfl⟩
                      refine lv_iinc (v := x_43) (lv' := [(6, .int x_43), (4, .int x_42), (9, .int 0), (5, .int x_13), (8, .int v_12), (7, .int v_11), (0, .ref (a 20)), (1, .int p0), (2, .int p1), (3, .ref (a 28))]) hx hb dX5_run_302 hl (k := 5) rfl (by rw [ex_43]; rfl) (by decide) rfl (fun ls hl => ?_)
                      have hx_43 : x_43.toInt = x1_6.toInt + 1 := by rw [ex_43]; have := b_rg x1_6; exact i_add (a := x1_6.toInt) (b := 1) rfl rfl (by omega) (by omega)
                      refine lv_goto (tgt := 9) hx hb dX5_run_305 (by decide) ?_
                      exact ih1 x_43 x_13 x_42 r1 _ _ _ (by first | omega | (simp only [Int.toNat]; omega)) (by first | omega | decide) (by first | omega | decide) hRr hEr  hP hD hS (lv_sub hl [0, 3, 1, 6, 7, 8, 9] rfl)
                    · have c_38 : v_37.toInt ≠ 0 := b_ne c_38
                      refine lv_iconst (v := 1) hx hb dX5_run_169 (by decide) ?_
                      refine lv_goto (tgt := 174) hx hb dX5_run_170 (by decide) ?_
                      refine lv_istore (lv' := [(9, .int 1), (5, .int x_13), (8, .int v_12), (7, .int v_11), (6, .int x1_6), (4, .int x1_4), (0, .ref (a 20)), (1, .int p0), (2, .int p1), (3, .ref (a 28))]) hx hb dX5_run_174 hl (by decide) rfl (fun ls hl => ?_)
                      refine lv_iload hx hb dX5_run_176 (lv_at hl 3 rfl) ?_
                      refine lv_bipush (v := 33) hx hb dX5_run_178 (by decide) ?_
                      refine lv_icmp_ne (tgt := 205) hx hb dX5_run_180 (by decide) (fun c_44 => ?_) (fun c_44 => by have c_44 : v_11.toInt = 33 := b_nne c_44; omega)
                      have c_44 : v_11.toInt ≠ 33 := b_ne c_44
                      refine lv_iload hx hb dX5_run_205 (lv_at hl 0 rfl) ?_
                      refine lv_iload hx hb dX5_run_207 (lv_at hl 3 rfl) ?_
                      refine lv_bipush (v := 124) hx hb dX5_run_209 (by decide) ?_
                      refine lv_icmp_ne (tgt := 218) hx hb dX5_run_211 (by decide) (fun c_45 => by have c_45 : v_11.toInt ≠ 124 := b_ne c_45; omega) (fun c_45 => ?_)
                      have c_45 : v_11.toInt = 124 := b_nne c_45
                      refine lv_iconst (v := 1) hx hb dX5_run_214 (by decide) ?_
                      refine lv_goto (tgt := 219) hx hb dX5_run_215 (by decide) ?_
                      refine lv_icmp_ne (tgt := 229) hx hb dX5_run_219 (by decide) (fun c_46 => absurd (by decide) c_46) (fun c_46 => ?_)
                      refine lv_iload hx hb dX5_run_222 (lv_at hl 2 rfl) ?_
                      refine lv_istore (lv' := [(5, .int v_12), (9, .int 1), (8, .int v_12), (7, .int v_11), (6, .int x1_6), (4, .int x1_4), (0, .ref (a 20)), (1, .int p0), (2, .int p1), (3, .ref (a 28))]) hx hb dX5_run_224 hl (by decide) rfl (fun ls hl => ?_)
                      refine lv_goto (tgt := 232) hx hb dX5_run_226 (by decide) ?_
                      refine lv_goto (tgt := 302) hx hb dX5_run_232 (by decide) ?_
                      obtain ⟨x_47, ex_47⟩ : ∃ y : Int32, y = x1_6 + 1 := ⟨_, rfl⟩
                      refine lv_iinc (v := x_47) (lv' := [(6, .int x_47), (5, .int v_12), (9, .int 1), (8, .int v_12), (7, .int v_11), (4, .int x1_4), (0, .ref (a 20)), (1, .int p0), (2, .int p1), (3, .ref (a 28))]) hx hb dX5_run_302 hl (k := 4) rfl (by rw [ex_47]; rfl) (by decide) rfl (fun ls hl => ?_)
                      have hx_47 : x_47.toInt = x1_6.toInt + 1 := by rw [ex_47]; have := b_rg x1_6; exact i_add (a := x1_6.toInt) (b := 1) rfl rfl (by omega) (by omega)
                      refine lv_goto (tgt := 9) hx hb dX5_run_305 (by decide) ?_
                      exact ih1 x_47 v_12 x1_4 r1 _ _ _ (by first | omega | (simp only [Int.toNat]; omega)) (by first | omega | decide) (by first | omega | decide) hRr hEr  hP hD hS (lv_sub hl [0, 1, 5, 6, 7, 8, 9] rfl)
                  · have c_35 : x1_4.toInt < 1 := b_nle c_35
                    refine lv_iconst (v := 0) hx hb dX5_run_155 (by decide) ?_
                    subst hQ
                    exact W.iret (v := 0) hx hb hr (fun t ht hW => ⟨⟨_, r1, rfl, ⟨hRr, hEr, trivial⟩, by rw [ht]; exact hP, va_K.moved hW.alike hK, hD⟩, hS.F ht⟩) hS.2.2 dX5_run_156
                · have c_34 : v_11.toInt ≠ 124 := b_ne c_34
                  refine lv_iload hx hb dX5_run_142 (lv_at hl 2 rfl) ?_
                  refine lv_bipush (v := 38) hx hb dX5_run_144 (by decide) ?_
                  refine lv_icmp_ne (tgt := 235) hx hb dX5_run_146 (by decide) (fun c_48 => ?_) (fun c_48 => ?_)
                  · have c_48 : v_11.toInt ≠ 38 := b_ne c_48
                    refine lv_iload hx hb dX5_run_235 (lv_at hl 4 rfl) ?_
                    refine lv_iconst (v := 2) hx hb dX5_run_237 (by decide) ?_
                    refine lv_icmp_lt (tgt := 267) hx hb dX5_run_238 (by decide) (fun c_49 => ?_) (fun c_49 => ?_)
                    · have c_49 : x1_4.toInt < 2 := b_lt c_49
                      refine lv_iconst (v := 0) hx hb dX5_run_267 (by decide) ?_
                      subst hQ
                      exact W.iret (v := 0) hx hb hr (fun t ht hW => ⟨⟨_, r1, rfl, ⟨hRr, hEr, trivial⟩, by rw [ht]; exact hP, va_K.moved hW.alike hK, hD⟩, hS.F ht⟩) hS.2.2 dX5_run_268
                    · have c_49 : 2 ≤ x1_4.toInt := b_nlt c_49
                      refine lv_iload hx hb dX5_run_241 (lv_at hl 2 rfl) ?_
                      refine lv_bipush (v := 47) hx hb dX5_run_243 (by decide) ?_
                      refine lv_icmp_eq (tgt := 255) hx hb dX5_run_245 (by decide) (fun c_50 => ?_) (fun c_50 => ?_)
                      · have c_50 : v_11.toInt = 47 := b_eq c_50
                        refine lv_aload_n hx hb dX5_run_255 rfl (lv_at hl 5 rfl) ?_
                        refine va_get (D := D) (ci := 5) (v := .ref (a 27)) (C := RX5) (T := TX5) (N := 9) hx hb hT iX5 hown hK hP 20 rfl rfl 8 (by decide) (hT _ t_363) (fun _ h9 => h9) rfl dX5_run_256 ?_
                        refine lv_iload hx hb dX5_run_259 (lv_at hl 4 rfl) ?_
                        refine lv_iconst (v := 1) hx hb dX5_run_261 (by decide) ?_
                        refine lv_isub hx hb dX5_run_262 ?_
                        refine lv_topi (fun v_51 ev_51 => ?_)
                        have hv_51 : v_51.toInt = x1_4.toInt - 1 := by rw [ev_51]; have := b_rg x1_4; exact i_sub (a := x1_4.toInt) (b := 1) rfl rfl (by omega) (by omega)
                        refine va_iald hx hb hK hP 27 0 rfl rfl (vp_inI (by omega) (by omega)) dX5_run_263 ?_
                        refine lv_topi (fun v_52 ev_52 => ?_)
                        refine lv_if_ne (tgt := 269) hx hb dX5_run_264 (by decide) (fun c_53 => ?_) (fun c_53 => ?_)
                        · have c_53 : v_52.toInt ≠ 0 := b_ne c_53
                          obtain ⟨x_54, ex_54⟩ : ∃ y : Int32, y = x1_4 + (-1) := ⟨_, rfl⟩
                          refine lv_iinc (v := x_54) (lv' := [(4, .int x_54), (5, .int x_13), (8, .int v_12), (7, .int v_11), (6, .int x1_6), (0, .ref (a 20)), (1, .int p0), (2, .int p1), (3, .ref (a 28))]) hx hb dX5_run_269 hl (k := 4) rfl (by rw [ex_54]; rfl) (by decide) rfl (fun ls hl => ?_)
                          have hx_54 : x_54.toInt = x1_4.toInt + (-1) := by rw [ex_54]; have := b_rg x1_4; exact i_add (a := x1_4.toInt) (b := (-1)) rfl rfl (by omega) (by omega)
                          refine lv_aload_n hx hb dX5_run_272 rfl (lv_at hl 5 rfl) ?_
                          refine va_get (D := D) (ci := 5) (v := .ref (a 27)) (C := RX5) (T := TX5) (N := 9) hx hb hT iX5 hown hK hP 20 rfl rfl 8 (by decide) (hT _ t_363) (fun _ h9 => h9) rfl dX5_run_273 ?_
                          refine lv_iload hx hb dX5_run_276 (lv_at hl 0 rfl) ?_
                          refine lv_iconst (v := 1) hx hb dX5_run_278 (by decide) ?_
                          refine lv_isub hx hb dX5_run_279 ?_
                          refine lv_topi (fun v_55 ev_55 => ?_)
                          have hv_55 : v_55.toInt = x_54.toInt - 1 := by rw [ev_55]; have := b_rg x_54; exact i_sub (a := x_54.toInt) (b := 1) rfl rfl (by omega) (by omega)
                          refine lv_iload hx hb dX5_run_280 (lv_at hl 3 rfl) ?_
                          refine lv_aload_n hx hb dX5_run_282 rfl (lv_at hl 5 rfl) ?_
                          refine va_get (D := D) (ci := 5) (v := .ref (a 27)) (C := RX5) (T := TX5) (N := 9) hx hb hT iX5 hown hK hP 20 rfl rfl 8 (by decide) (hT _ t_363) (fun _ h9 => h9) rfl dX5_run_283 ?_
                          refine lv_iload hx hb dX5_run_286 (lv_at hl 0 rfl) ?_
                          refine lv_iconst (v := 1) hx hb dX5_run_288 (by decide) ?_
                          refine lv_isub hx hb dX5_run_289 ?_
                          refine lv_topi (fun v_56 ev_56 => ?_)
                          have hv_56 : v_56.toInt = x_54.toInt - 1 := by rw [ev_56]; have := b_rg x_54; exact i_sub (a := x_54.toInt) (b := 1) rfl rfl (by omega) (by omega)
                          refine va_iald hx hb hK hP 27 0 rfl rfl (vp_inI (by omega) (by omega)) dX5_run_290 ?_
                          refine lv_topi (fun v_57 ev_57 => ?_)
                          refine lv_aload_n hx hb dX5_run_291 rfl (lv_at hl 5 rfl) ?_
                          refine va_get (D := D) (ci := 5) (v := .ref (a 27)) (C := RX5) (T := TX5) (N := 9) hx hb hT iX5 hown hK hP 20 rfl rfl 8 (by decide) (hT _ t_363) (fun _ h9 => h9) rfl dX5_run_292 ?_
                          refine lv_iload hx hb dX5_run_295 (lv_at hl 0 rfl) ?_
                          refine va_iald hx hb hK hP 27 0 rfl rfl (vp_inI (by omega) (by omega)) dX5_run_297 ?_
                          refine lv_topi (fun v_58 ev_58 => ?_)
                          refine vp_callSi (W.runS (As := [.int v_11, .int v_57, .int v_58]) (rest := [.int v_55, .ref (a 27)]) ⟨hx, hb, hml, hown, hT⟩ (c_X5_combine l v_11 v_57 v_58) (va_cwS 3 hT (gS t_366 t_368 t_369 t_367) rfl rfl rfl (by decide +kernel) ⟨Nat.le_of_ble_eq_true rfl, Nat.le_of_ble_eq_true rfl⟩) preT rfl rfl hl.1 rfl (lv_room (Nat.le_of_ble_eq_true rfl)) dX5_run_298 ⟨Nat.le_of_ble_eq_true rfl, Nat.le_of_ble_eq_true rfl⟩) (fun r_59 hr_59 => ?_)
                          refine va_iast hx hb hK hP hD hS 27 0 rfl rfl (vp_inI (by omega) (by omega)) dX5_run_301 (fun H locs hP hD hS => ?_)
                          rw [zS27] at hP hD
                          have hRr : yRr (va_up r1 27 (upd (r1 27) v_55.toNatClampNeg r_59)) := Yr_upd hRr 27 (v_55.toNatClampNeg) r_59 (b_rg _)
                          have hEr : mEr [27] _ (va_up r1 27 (upd (r1 27) v_55.toNatClampNeg r_59)) := Er_up hEr 27 _ (by decide)
                          obtain ⟨x_60, ex_60⟩ : ∃ y : Int32, y = x1_6 + 1 := ⟨_, rfl⟩
                          refine lv_iinc (v := x_60) (lv' := [(6, .int x_60), (4, .int x_54), (5, .int x_13), (8, .int v_12), (7, .int v_11), (0, .ref (a 20)), (1, .int p0), (2, .int p1), (3, .ref (a 28))]) hx hb dX5_run_302 hl (k := 4) rfl (by rw [ex_60]; rfl) (by decide) rfl (fun ls hl => ?_)
                          have hx_60 : x_60.toInt = x1_6.toInt + 1 := by rw [ex_60]; have := b_rg x1_6; exact i_add (a := x1_6.toInt) (b := 1) rfl rfl (by omega) (by omega)
                          refine lv_goto (tgt := 9) hx hb dX5_run_305 (by decide) ?_
                          exact ih1 x_60 x_13 x_54 (va_up r1 27 (upd (r1 27) v_55.toNatClampNeg r_59)) _ _ _ (by first | omega | (simp only [Int.toNat]; omega)) (by first | omega | decide) (by first | omega | decide) hRr hEr  hP hD hS (lv_sub hl [0, 2, 1, 5, 6, 7, 8] rfl)
                        · have c_53 : v_52.toInt = 0 := b_nne c_53
                          refine lv_iconst (v := 0) hx hb dX5_run_267 (by decide) ?_
                          subst hQ
                          exact W.iret (v := 0) hx hb hr (fun t ht hW => ⟨⟨_, r1, rfl, ⟨hRr, hEr, trivial⟩, by rw [ht]; exact hP, va_K.moved hW.alike hK, hD⟩, hS.F ht⟩) hS.2.2 dX5_run_268
                      · have c_50 : v_11.toInt ≠ 47 := b_ne c_50
                        refine lv_iload hx hb dX5_run_248 (lv_at hl 2 rfl) ?_
                        refine lv_bipush (v := 37) hx hb dX5_run_250 (by decide) ?_
                        refine lv_icmp_ne (tgt := 269) hx hb dX5_run_252 (by decide) (fun c_61 => ?_) (fun c_61 => ?_)
                        · have c_61 : v_11.toInt ≠ 37 := b_ne c_61
                          obtain ⟨x_62, ex_62⟩ : ∃ y : Int32, y = x1_4 + (-1) := ⟨_, rfl⟩
                          refine lv_iinc (v := x_62) (lv' := [(4, .int x_62), (5, .int x_13), (8, .int v_12), (7, .int v_11), (6, .int x1_6), (0, .ref (a 20)), (1, .int p0), (2, .int p1), (3, .ref (a 28))]) hx hb dX5_run_269 hl (k := 4) rfl (by rw [ex_62]; rfl) (by decide) rfl (fun ls hl => ?_)
                          have hx_62 : x_62.toInt = x1_4.toInt + (-1) := by rw [ex_62]; have := b_rg x1_4; exact i_add (a := x1_4.toInt) (b := (-1)) rfl rfl (by omega) (by omega)
                          refine lv_aload_n hx hb dX5_run_272 rfl (lv_at hl 5 rfl) ?_
                          refine va_get (D := D) (ci := 5) (v := .ref (a 27)) (C := RX5) (T := TX5) (N := 9) hx hb hT iX5 hown hK hP 20 rfl rfl 8 (by decide) (hT _ t_363) (fun _ h9 => h9) rfl dX5_run_273 ?_
                          refine lv_iload hx hb dX5_run_276 (lv_at hl 0 rfl) ?_
                          refine lv_iconst (v := 1) hx hb dX5_run_278 (by decide) ?_
                          refine lv_isub hx hb dX5_run_279 ?_
                          refine lv_topi (fun v_63 ev_63 => ?_)
                          have hv_63 : v_63.toInt = x_62.toInt - 1 := by rw [ev_63]; have := b_rg x_62; exact i_sub (a := x_62.toInt) (b := 1) rfl rfl (by omega) (by omega)
                          refine lv_iload hx hb dX5_run_280 (lv_at hl 3 rfl) ?_
                          refine lv_aload_n hx hb dX5_run_282 rfl (lv_at hl 5 rfl) ?_
                          refine va_get (D := D) (ci := 5) (v := .ref (a 27)) (C := RX5) (T := TX5) (N := 9) hx hb hT iX5 hown hK hP 20 rfl rfl 8 (by decide) (hT _ t_363) (fun _ h9 => h9) rfl dX5_run_283 ?_
                          refine lv_iload hx hb dX5_run_286 (lv_at hl 0 rfl) ?_
                          refine lv_iconst (v := 1) hx hb dX5_run_288 (by decide) ?_
                          refine lv_isub hx hb dX5_run_289 ?_
                          refine lv_topi (fun v_64 ev_64 => ?_)
                          have hv_64 : v_64.toInt = x_62.toInt - 1 := by rw [ev_64]; have := b_rg x_62; exact i_sub (a := x_62.toInt) (b := 1) rfl rfl (by omega) (by omega)
                          refine va_iald hx hb hK hP 27 0 rfl rfl (vp_inI (by omega) (by omega)) dX5_run_290 ?_
                          refine lv_topi (fun v_65 ev_65 => ?_)
                          refine lv_aload_n hx hb dX5_run_291 rfl (lv_at hl 5 rfl) ?_
                          refine va_get (D := D) (ci := 5) (v := .ref (a 27)) (C := RX5) (T := TX5) (N := 9) hx hb hT iX5 hown hK hP 20 rfl rfl 8 (by decide) (hT _ t_363) (fun _ h9 => h9) rfl dX5_run_292 ?_
                          refine lv_iload hx hb dX5_run_295 (lv_at hl 0 rfl) ?_
                          refine va_iald hx hb hK hP 27 0 rfl rfl (vp_inI (by omega) (by omega)) dX5_run_297 ?_
                          refine lv_topi (fun v_66 ev_66 => ?_)
                          refine vp_callSi (W.runS (As := [.int v_11, .int v_65, .int v_66]) (rest := [.int v_63, .ref (a 27)]) ⟨hx, hb, hml, hown, hT⟩ (c_X5_combine l v_11 v_65 v_66) (va_cwS 3 hT (gS t_366 t_368 t_369 t_367) rfl rfl rfl (by decide +kernel) ⟨Nat.le_of_ble_eq_true rfl, Nat.le_of_ble_eq_true rfl⟩) preT rfl rfl hl.1 rfl (lv_room (Nat.le_of_ble_eq_true rfl)) dX5_run_298 ⟨Nat.le_of_ble_eq_true rfl, Nat.le_of_ble_eq_true rfl⟩) (fun r_67 hr_67 => ?_)
                          refine va_iast hx hb hK hP hD hS 27 0 rfl rfl (vp_inI (by omega) (by omega)) dX5_run_301 (fun H locs hP hD hS => ?_)
                          rw [zS27] at hP hD
                          have hRr : yRr (va_up r1 27 (upd (r1 27) v_63.toNatClampNeg r_67)) := Yr_upd hRr 27 (v_63.toNatClampNeg) r_67 (b_rg _)
                          have hEr : mEr [27] _ (va_up r1 27 (upd (r1 27) v_63.toNatClampNeg r_67)) := Er_up hEr 27 _ (by decide)
                          obtain ⟨x_68, ex_68⟩ : ∃ y : Int32, y = x1_6 + 1 := ⟨_, rfl⟩
                          refine lv_iinc (v := x_68) (lv' := [(6, .int x_68), (4, .int x_62), (5, .int x_13), (8, .int v_12), (7, .int v_11), (0, .ref (a 20)), (1, .int p0), (2, .int p1), (3, .ref (a 28))]) hx hb dX5_run_302 hl (k := 4) rfl (by rw [ex_68]; rfl) (by decide) rfl (fun ls hl => ?_)
                          have hx_68 : x_68.toInt = x1_6.toInt + 1 := by rw [ex_68]; have := b_rg x1_6; exact i_add (a := x1_6.toInt) (b := 1) rfl rfl (by omega) (by omega)
                          refine lv_goto (tgt := 9) hx hb dX5_run_305 (by decide) ?_
                          exact ih1 x_68 x_13 x_62 (va_up r1 27 (upd (r1 27) v_63.toNatClampNeg r_67)) _ _ _ (by first | omega | (simp only [Int.toNat]; omega)) (by first | omega | decide) (by first | omega | decide) hRr hEr  hP hD hS (lv_sub hl [0, 2, 1, 5, 6, 7, 8] rfl)
                        · have c_61 : v_11.toInt = 37 := b_nne c_61
                          refine lv_aload_n hx hb dX5_run_255 rfl (lv_at hl 5 rfl) ?_
                          refine va_get (D := D) (ci := 5) (v := .ref (a 27)) (C := RX5) (T := TX5) (N := 9) hx hb hT iX5 hown hK hP 20 rfl rfl 8 (by decide) (hT _ t_363) (fun _ h9 => h9) rfl dX5_run_256 ?_
                          refine lv_iload hx hb dX5_run_259 (lv_at hl 4 rfl) ?_
                          refine lv_iconst (v := 1) hx hb dX5_run_261 (by decide) ?_
                          refine lv_isub hx hb dX5_run_262 ?_
                          refine lv_topi (fun v_69 ev_69 => ?_)
                          have hv_69 : v_69.toInt = x1_4.toInt - 1 := by rw [ev_69]; have := b_rg x1_4; exact i_sub (a := x1_4.toInt) (b := 1) rfl rfl (by omega) (by omega)
                          refine va_iald hx hb hK hP 27 0 rfl rfl (vp_inI (by omega) (by omega)) dX5_run_263 ?_
                          refine lv_topi (fun v_70 ev_70 => ?_)
                          refine lv_if_ne (tgt := 269) hx hb dX5_run_264 (by decide) (fun c_71 => ?_) (fun c_71 => ?_)
                          · have c_71 : v_70.toInt ≠ 0 := b_ne c_71
                            obtain ⟨x_72, ex_72⟩ : ∃ y : Int32, y = x1_4 + (-1) := ⟨_, rfl⟩
                            refine lv_iinc (v := x_72) (lv' := [(4, .int x_72), (5, .int x_13), (8, .int v_12), (7, .int v_11), (6, .int x1_6), (0, .ref (a 20)), (1, .int p0), (2, .int p1), (3, .ref (a 28))]) hx hb dX5_run_269 hl (k := 4) rfl (by rw [ex_72]; rfl) (by decide) rfl (fun ls hl => ?_)
                            have hx_72 : x_72.toInt = x1_4.toInt + (-1) := by rw [ex_72]; have := b_rg x1_4; exact i_add (a := x1_4.toInt) (b := (-1)) rfl rfl (by omega) (by omega)
                            refine lv_aload_n hx hb dX5_run_272 rfl (lv_at hl 5 rfl) ?_
                            refine va_get (D := D) (ci := 5) (v := .ref (a 27)) (C := RX5) (T := TX5) (N := 9) hx hb hT iX5 hown hK hP 20 rfl rfl 8 (by decide) (hT _ t_363) (fun _ h9 => h9) rfl dX5_run_273 ?_
                            refine lv_iload hx hb dX5_run_276 (lv_at hl 0 rfl) ?_
                            refine lv_iconst (v := 1) hx hb dX5_run_278 (by decide) ?_
                            refine lv_isub hx hb dX5_run_279 ?_
                            refine lv_topi (fun v_73 ev_73 => ?_)
                            have hv_73 : v_73.toInt = x_72.toInt - 1 := by rw [ev_73]; have := b_rg x_72; exact i_sub (a := x_72.toInt) (b := 1) rfl rfl (by omega) (by omega)
                            refine lv_iload hx hb dX5_run_280 (lv_at hl 3 rfl) ?_
                            refine lv_aload_n hx hb dX5_run_282 rfl (lv_at hl 5 rfl) ?_
                            refine va_get (D := D) (ci := 5) (v := .ref (a 27)) (C := RX5) (T := TX5) (N := 9) hx hb hT iX5 hown hK hP 20 rfl rfl 8 (by decide) (hT _ t_363) (fun _ h9 => h9) rfl dX5_run_283 ?_
                            refine lv_iload hx hb dX5_run_286 (lv_at hl 0 rfl) ?_
                            refine lv_iconst (v := 1) hx hb dX5_run_288 (by decide) ?_
                            refine lv_isub hx hb dX5_run_289 ?_
                            refine lv_topi (fun v_74 ev_74 => ?_)
                            have hv_74 : v_74.toInt = x_72.toInt - 1 := by rw [ev_74]; have := b_rg x_72; exact i_sub (a := x_72.toInt) (b := 1) rfl rfl (by omega) (by omega)
                            refine va_iald hx hb hK hP 27 0 rfl rfl (vp_inI (by omega) (by omega)) dX5_run_290 ?_
                            refine lv_topi (fun v_75 ev_75 => ?_)
                            refine lv_aload_n hx hb dX5_run_291 rfl (lv_at hl 5 rfl) ?_
                            refine va_get (D := D) (ci := 5) (v := .ref (a 27)) (C := RX5) (T := TX5) (N := 9) hx hb hT iX5 hown hK hP 20 rfl rfl 8 (by decide) (hT _ t_363) (fun _ h9 => h9) rfl dX5_run_292 ?_
                            refine lv_iload hx hb dX5_run_295 (lv_at hl 0 rfl) ?_
                            refine va_iald hx hb hK hP 27 0 rfl rfl (vp_inI (by omega) (by omega)) dX5_run_297 ?_
                            refine lv_topi (fun v_76 ev_76 => ?_)
                            refine vp_callSi (W.runS (As := [.int v_11, .int v_75, .int v_76]) (rest := [.int v_73, .ref (a 27)]) ⟨hx, hb, hml, hown, hT⟩ (c_X5_combine l v_11 v_75 v_76) (va_cwS 3 hT (gS t_366 t_368 t_369 t_367) rfl rfl rfl (by decide +kernel) ⟨Nat.le_of_ble_eq_true rfl, Nat.le_of_ble_eq_true rfl⟩) preT rfl rfl hl.1 rfl (lv_room (Nat.le_of_ble_eq_true rfl)) dX5_run_298 ⟨Nat.le_of_ble_eq_true rfl, Nat.le_of_ble_eq_true rfl⟩) (fun r_77 hr_77 => ?_)
                            refine va_iast hx hb hK hP hD hS 27 0 rfl rfl (vp_inI (by omega) (by omega)) dX5_run_301 (fun H locs hP hD hS => ?_)
                            rw [zS27] at hP hD
                            have hRr : yRr (va_up r1 27 (upd (r1 27) v_73.toNatClampNeg r_77)) := Yr_upd hRr 27 (v_73.toNatClampNeg) r_77 (b_rg _)
                            have hEr : mEr [27] _ (va_up r1 27 (upd (r1 27) v_73.toNatClampNeg r_77)) := Er_up hEr 27 _ (by decide)
                            obtain ⟨x_78, ex_78⟩ : ∃ y : Int32, y = x1_6 + 1 := ⟨_, rfl⟩
                            refine lv_iinc (v := x_78) (lv' := [(6, .int x_78), (4, .int x_72), (5, .int x_13), (8, .int v_12), (7, .int v_11), (0, .ref (a 20)), (1, .int p0), (2, .int p1), (3, .ref (a 28))]) hx hb dX5_run_302 hl (k := 4) rfl (by rw [ex_78]; rfl) (by decide) rfl (fun ls hl => ?_)
                            have hx_78 : x_78.toInt = x1_6.toInt + 1 := by rw [ex_78]; have := b_rg x1_6; exact i_add (a := x1_6.toInt) (b := 1) rfl rfl (by omega) (by omega)
                            refine lv_goto (tgt := 9) hx hb dX5_run_305 (by decide) ?_
                            exact ih1 x_78 x_13 x_72 (va_up r1 27 (upd (r1 27) v_73.toNatClampNeg r_77)) _ _ _ (by first | omega | (simp only [Int.toNat]; omega)) (by first | omega | decide) (by first | omega | decide) hRr hEr  hP hD hS (lv_sub hl [0, 2, 1, 5, 6, 7, 8] rfl)
                          · have c_71 : v_70.toInt = 0 := b_nne c_71
                            refine lv_iconst (v := 0) hx hb dX5_run_267 (by decide) ?_
                            subst hQ
                            exact W.iret (v := 0) hx hb hr (fun t ht hW => ⟨⟨_, r1, rfl, ⟨hRr, hEr, trivial⟩, by rw [ht]; exact hP, va_K.moved hW.alike hK, hD⟩, hS.F ht⟩) hS.2.2 dX5_run_268
                  · have c_48 : v_11.toInt = 38 := b_nne c_48
                    refine lv_iload hx hb dX5_run_149 (lv_at hl 4 rfl) ?_
                    refine lv_iconst (v := 1) hx hb dX5_run_151 (by decide) ?_
                    refine lv_icmp_ge (tgt := 157) hx hb dX5_run_152 (by decide) (fun c_79 => ?_) (fun c_79 => ?_)
                    · have c_79 : 1 ≤ x1_4.toInt := b_le c_79
                      refine lv_aload_n hx hb dX5_run_157 rfl (lv_at hl 5 rfl) ?_
                      refine va_get (D := D) (ci := 5) (v := .ref (a 27)) (C := RX5) (T := TX5) (N := 9) hx hb hT iX5 hown hK hP 20 rfl rfl 8 (by decide) (hT _ t_363) (fun _ h9 => h9) rfl dX5_run_158 ?_
                      refine lv_iload hx hb dX5_run_161 (lv_at hl 4 rfl) ?_
                      refine lv_iconst (v := 1) hx hb dX5_run_163 (by decide) ?_
                      refine lv_isub hx hb dX5_run_164 ?_
                      refine lv_topi (fun v_80 ev_80 => ?_)
                      have hv_80 : v_80.toInt = x1_4.toInt - 1 := by rw [ev_80]; have := b_rg x1_4; exact i_sub (a := x1_4.toInt) (b := 1) rfl rfl (by omega) (by omega)
                      refine va_iald hx hb hK hP 27 0 rfl rfl (vp_inI (by omega) (by omega)) dX5_run_165 ?_
                      refine lv_topi (fun v_81 ev_81 => ?_)
                      refine lv_if_eq (tgt := 173) hx hb dX5_run_166 (by decide) (fun c_82 => ?_) (fun c_82 => ?_)
                      · have c_82 : v_81.toInt = 0 := b_eq c_82
                        refine lv_iconst (v := 0) hx hb dX5_run_173 (by decide) ?_
                        refine lv_istore (lv' := [(9, .int 0), (5, .int x_13), (8, .int v_12), (7, .int v_11), (6, .int x1_6), (4, .int x1_4), (0, .ref (a 20)), (1, .int p0), (2, .int p1), (3, .ref (a 28))]) hx hb dX5_run_174 hl (by decide) rfl (fun ls hl => ?_)
                        refine lv_iload hx hb dX5_run_176 (lv_at hl 3 rfl) ?_
                        refine lv_bipush (v := 33) hx hb dX5_run_178 (by decide) ?_
                        refine lv_icmp_ne (tgt := 205) hx hb dX5_run_180 (by decide) (fun c_83 => ?_) (fun c_83 => by have c_83 : v_11.toInt = 33 := b_nne c_83; omega)
                        have c_83 : v_11.toInt ≠ 33 := b_ne c_83
                        refine lv_iload hx hb dX5_run_205 (lv_at hl 0 rfl) ?_
                        refine lv_iload hx hb dX5_run_207 (lv_at hl 3 rfl) ?_
                        refine lv_bipush (v := 124) hx hb dX5_run_209 (by decide) ?_
                        refine lv_icmp_ne (tgt := 218) hx hb dX5_run_211 (by decide) (fun c_84 => ?_) (fun c_84 => by have c_84 : v_11.toInt = 124 := b_nne c_84; omega)
                        have c_84 : v_11.toInt ≠ 124 := b_ne c_84
                        refine lv_iconst (v := 0) hx hb dX5_run_218 (by decide) ?_
                        refine lv_icmp_ne (tgt := 229) hx hb dX5_run_219 (by decide) (fun c_85 => absurd (by decide) c_85) (fun c_85 => ?_)
                        refine lv_iload hx hb dX5_run_222 (lv_at hl 2 rfl) ?_
                        refine lv_istore (lv' := [(5, .int v_12), (9, .int 0), (8, .int v_12), (7, .int v_11), (6, .int x1_6), (4, .int x1_4), (0, .ref (a 20)), (1, .int p0), (2, .int p1), (3, .ref (a 28))]) hx hb dX5_run_224 hl (by decide) rfl (fun ls hl => ?_)
                        refine lv_goto (tgt := 232) hx hb dX5_run_226 (by decide) ?_
                        refine lv_goto (tgt := 302) hx hb dX5_run_232 (by decide) ?_
                        obtain ⟨x_86, ex_86⟩ : ∃ y : Int32, y = x1_6 + 1 := ⟨_, rfl⟩
                        refine lv_iinc (v := x_86) (lv' := [(6, .int x_86), (5, .int v_12), (9, .int 0), (8, .int v_12), (7, .int v_11), (4, .int x1_4), (0, .ref (a 20)), (1, .int p0), (2, .int p1), (3, .ref (a 28))]) hx hb dX5_run_302 hl (k := 4) rfl (by rw [ex_86]; rfl) (by decide) rfl (fun ls hl => ?_)
                        have hx_86 : x_86.toInt = x1_6.toInt + 1 := by rw [ex_86]; have := b_rg x1_6; exact i_add (a := x1_6.toInt) (b := 1) rfl rfl (by omega) (by omega)
                        refine lv_goto (tgt := 9) hx hb dX5_run_305 (by decide) ?_
                        exact ih1 x_86 v_12 x1_4 r1 _ _ _ (by first | omega | (simp only [Int.toNat]; omega)) (by first | omega | decide) (by first | omega | decide) hRr hEr  hP hD hS (lv_sub hl [0, 1, 5, 6, 7, 8, 9] rfl)
                      · have c_82 : v_81.toInt ≠ 0 := b_ne c_82
                        refine lv_iconst (v := 1) hx hb dX5_run_169 (by decide) ?_
                        refine lv_goto (tgt := 174) hx hb dX5_run_170 (by decide) ?_
                        refine lv_istore (lv' := [(9, .int 1), (5, .int x_13), (8, .int v_12), (7, .int v_11), (6, .int x1_6), (4, .int x1_4), (0, .ref (a 20)), (1, .int p0), (2, .int p1), (3, .ref (a 28))]) hx hb dX5_run_174 hl (by decide) rfl (fun ls hl => ?_)
                        refine lv_iload hx hb dX5_run_176 (lv_at hl 3 rfl) ?_
                        refine lv_bipush (v := 33) hx hb dX5_run_178 (by decide) ?_
                        refine lv_icmp_ne (tgt := 205) hx hb dX5_run_180 (by decide) (fun c_87 => ?_) (fun c_87 => by have c_87 : v_11.toInt = 33 := b_nne c_87; omega)
                        have c_87 : v_11.toInt ≠ 33 := b_ne c_87
                        refine lv_iload hx hb dX5_run_205 (lv_at hl 0 rfl) ?_
                        refine lv_iload hx hb dX5_run_207 (lv_at hl 3 rfl) ?_
                        refine lv_bipush (v := 124) hx hb dX5_run_209 (by decide) ?_
                        refine lv_icmp_ne (tgt := 218) hx hb dX5_run_211 (by decide) (fun c_88 => ?_) (fun c_88 => by have c_88 : v_11.toInt = 124 := b_nne c_88; omega)
                        have c_88 : v_11.toInt ≠ 124 := b_ne c_88
                        refine lv_iconst (v := 0) hx hb dX5_run_218 (by decide) ?_
                        refine lv_icmp_ne (tgt := 229) hx hb dX5_run_219 (by decide) (fun c_89 => ?_) (fun c_89 => absurd c_89 (by decide))
                        obtain ⟨x_90, ex_90⟩ : ∃ y : Int32, y = x1_4 + (-1) := ⟨_, rfl⟩
                        refine lv_iinc (v := x_90) (lv' := [(4, .int x_90), (9, .int 1), (5, .int x_13), (8, .int v_12), (7, .int v_11), (6, .int x1_6), (0, .ref (a 20)), (1, .int p0), (2, .int p1), (3, .ref (a 28))]) hx hb dX5_run_229 hl (k := 5) rfl (by rw [ex_90]; rfl) (by decide) rfl (fun ls hl => ?_)
                        have hx_90 : x_90.toInt = x1_4.toInt + (-1) := by rw [ex_90]; have := b_rg x1_4; exact i_add (a := x1_4.toInt) (b := (-1)) rfl rfl (by omega) (by omega)
                        refine lv_goto (tgt := 302) hx hb dX5_run_232 (by decide) ?_
                        obtain ⟨x_91, ex_91⟩ : ∃ y : Int32, y = x1_6 + 1 := ⟨_, rfl⟩
                        refine lv_iinc (v := x_91) (lv' := [(6, .int x_91), (4, .int x_90), (9, .int 1), (5, .int x_13), (8, .int v_12), (7, .int v_11), (0, .ref (a 20)), (1, .int p0), (2, .int p1), (3, .ref (a 28))]) hx hb dX5_run_302 hl (k := 5) rfl (by rw [ex_91]; rfl) (by decide) rfl (fun ls hl => ?_)
                        have hx_91 : x_91.toInt = x1_6.toInt + 1 := by rw [ex_91]; have := b_rg x1_6; exact i_add (a := x1_6.toInt) (b := 1) rfl rfl (by omega) (by omega)
                        refine lv_goto (tgt := 9) hx hb dX5_run_305 (by decide) ?_
                        exact ih1 x_91 x_13 x_90 r1 _ _ _ (by first | omega | (simp only [Int.toNat]; omega)) (by first | omega | decide) (by first | omega | decide) hRr hEr  hP hD hS (lv_sub hl [0, 3, 1, 6, 7, 8, 9] rfl)
                    · have c_79 : x1_4.toInt < 1 := b_nle c_79
                      refine lv_iconst (v := 0) hx hb dX5_run_155 (by decide) ?_
                      subst hQ
                      exact W.iret (v := 0) hx hb hr (fun t ht hW => ⟨⟨_, r1, rfl, ⟨hRr, hEr, trivial⟩, by rw [ht]; exact hP, va_K.moved hW.alike hK, hD⟩, hS.F ht⟩) hS.2.2 dX5_run_156
            · have c_20 : v_11.toInt = 107 := b_nne c_20
              refine lv_iload hx hb dX5_run_71 (lv_at hl 4 rfl) ?_
              refine lv_sipush (v := 200) hx hb dX5_run_73 (by decide) ?_
              refine lv_icmp_ge (tgt := 97) hx hb dX5_run_76 (by decide) (fun c_92 => ?_) (fun c_92 => ?_)
              · have c_92 : 200 ≤ x1_4.toInt := b_le c_92
                refine lv_iconst (v := 0) hx hb dX5_run_97 (by decide) ?_
                subst hQ
                exact W.iret (v := 0) hx hb hr (fun t ht hW => ⟨⟨_, r1, rfl, ⟨hRr, hEr, trivial⟩, by rw [ht]; exact hP, va_K.moved hW.alike hK, hD⟩, hS.F ht⟩) hS.2.2 dX5_run_98
              · have c_92 : x1_4.toInt < 200 := b_nle c_92
                refine lv_iload hx hb dX5_run_79 (lv_at hl 2 rfl) ?_
                refine lv_bipush (v := 107) hx hb dX5_run_81 (by decide) ?_
                refine lv_icmp_ne (tgt := 99) hx hb dX5_run_83 (by decide) (fun c_93 => by have c_93 : v_11.toInt ≠ 107 := b_ne c_93; omega) (fun c_93 => ?_)
                have c_93 : v_11.toInt = 107 := b_nne c_93
                refine lv_iload hx hb dX5_run_86 (lv_at hl 1 rfl) ?_
                refine lv_iconst (v := 0) hx hb dX5_run_88 (by decide) ?_
                refine lv_bipush (v := 9) hx hb dX5_run_89 (by decide) ?_
                refine vp_callSi (va_Run.run (va_runSN (As := [.int v_12, .int 0, .int 9]) (rest := []) ⟨hx, hb, hml, hown, hT⟩ (c_X11_within l v_12 0 9) ⟨va_cnB 3 hT (gI t_1) rfl rfl rfl hnw (hT _ t_2) (by decide +kernel) ⟨Nat.le_of_ble_eq_true rfl, Nat.le_of_ble_eq_true rfl⟩, (hT _ t_4), trivial⟩ preT rfl rfl hl.1 rfl (lv_room (Nat.le_of_ble_eq_true rfl)) dX5_run_91 ⟨Nat.le_of_ble_eq_true rfl, Nat.le_of_ble_eq_true rfl⟩)) (fun r_94 hr_94 => ?_)
                have hr_94 : BR r_94 (0 ≤ v_12.toInt ∧ v_12.toInt ≤ 9) 1 0 := hr_94
                rcases hr_94 with ⟨rfl, h_95⟩ | ⟨rfl, h_95⟩
                · skip
                  refine lv_if_ne (tgt := 99) hx hb dX5_run_94 (by decide) (fun c_96 => ?_) (fun c_96 => absurd c_96 (by decide))
                  refine lv_aload_n hx hb dX5_run_99 rfl (lv_at hl 5 rfl) ?_
                  refine va_get (D := D) (ci := 5) (v := .ref (a 27)) (C := RX5) (T := TX5) (N := 9) hx hb hT iX5 hown hK hP 20 rfl rfl 8 (by decide) (hT _ t_363) (fun _ h9 => h9) rfl dX5_run_100 ?_
                  refine lv_iload hx hb dX5_run_103 (lv_at hl 4 rfl) ?_
                  refine lv_iload hx hb dX5_run_105 (lv_at hl 2 rfl) ?_
                  refine lv_bipush (v := 48) hx hb dX5_run_107 (by decide) ?_
                  refine lv_icmp_ne (tgt := 117) hx hb dX5_run_109 (by decide) (fun c_97 => ?_) (fun c_97 => by have c_97 : v_11.toInt = 48 := b_nne c_97; omega)
                  have c_97 : v_11.toInt ≠ 48 := b_ne c_97
                  refine lv_aload_n hx hb dX5_run_117 rfl (lv_at hl 8 rfl) ?_
                  refine lv_iload hx hb dX5_run_118 (lv_at hl 1 rfl) ?_
                  refine va_iald hx hb hK hP 28 0 rfl rfl (vp_inI (by omega) (by omega)) dX5_run_120 ?_
                  refine lv_topi (fun v_98 ev_98 => ?_)
                  refine va_iast hx hb hK hP hD hS 27 0 rfl rfl (vp_inI (by omega) (by omega)) dX5_run_121 (fun H locs hP hD hS => ?_)
                  rw [zS27] at hP hD
                  have hRr : yRr (va_up r1 27 (upd (r1 27) x1_4.toNatClampNeg v_98)) := Yr_upd hRr 27 (x1_4.toNatClampNeg) v_98 (b_rg _)
                  have hEr : mEr [27] _ (va_up r1 27 (upd (r1 27) x1_4.toNatClampNeg v_98)) := Er_up hEr 27 _ (by decide)
                  obtain ⟨x_99, ex_99⟩ : ∃ y : Int32, y = x1_4 + 1 := ⟨_, rfl⟩
                  refine lv_iinc (v := x_99) (lv' := [(4, .int x_99), (5, .int x_13), (8, .int v_12), (7, .int v_11), (6, .int x1_6), (0, .ref (a 20)), (1, .int p0), (2, .int p1), (3, .ref (a 28))]) hx hb dX5_run_122 hl (k := 4) rfl (by rw [ex_99]; rfl) (by decide) rfl (fun ls hl => ?_)
                  have hx_99 : x_99.toInt = x1_4.toInt + 1 := by rw [ex_99]; have := b_rg x1_4; exact i_add (a := x1_4.toInt) (b := 1) rfl rfl (by omega) (by omega)
                  refine lv_goto (tgt := 302) hx hb dX5_run_125 (by decide) ?_
                  obtain ⟨x_100, ex_100⟩ : ∃ y : Int32, y = x1_6 + 1 := ⟨_, rfl⟩
                  refine lv_iinc (v := x_100) (lv' := [(6, .int x_100), (4, .int x_99), (5, .int x_13), (8, .int v_12), (7, .int v_11), (0, .ref (a 20)), (1, .int p0), (2, .int p1), (3, .ref (a 28))]) hx hb dX5_run_302 hl (k := 4) rfl (by rw [ex_100]; rfl) (by decide) rfl (fun ls hl => ?_)
                  have hx_100 : x_100.toInt = x1_6.toInt + 1 := by rw [ex_100]; have := b_rg x1_6; exact i_add (a := x1_6.toInt) (b := 1) rfl rfl (by omega) (by omega)
                  refine lv_goto (tgt := 9) hx hb dX5_run_305 (by decide) ?_
                  exact ih1 x_100 x_13 x_99 (va_up r1 27 (upd (r1 27) x1_4.toNatClampNeg v_98)) _ _ _ (by first | omega | (simp only [Int.toNat]; omega)) (by first | omega | decide) (by first | omega | decide) hRr hEr  hP hD hS (lv_sub hl [0, 2, 1, 5, 6, 7, 8] rfl)
                · skip
                  refine lv_if_ne (tgt := 99) hx hb dX5_run_94 (by decide) (fun c_101 => absurd (by decide) c_101) (fun c_101 => ?_)
                  refine lv_iconst (v := 0) hx hb dX5_run_97 (by decide) ?_
                  subst hQ
                  exact W.iret (v := 0) hx hb hr (fun t ht hW => ⟨⟨_, r1, rfl, ⟨hRr, hEr, trivial⟩, by rw [ht]; exact hP, va_K.moved hW.alike hK, hD⟩, hS.F ht⟩) hS.2.2 dX5_run_98
        · skip
          refine lv_if_eq (tgt := 308) hx hb dX5_run_26 (by decide) (fun c_102 => ?_) (fun c_102 => absurd (by decide) c_102)
          refine lv_iload hx hb dX5_run_308 (lv_at hl 2 rfl) ?_
          refine lv_if_le (tgt := 325) hx hb dX5_run_310 (by decide) (fun c_103 => ?_) (fun c_103 => ?_)
          · have c_103 : x1_4.toInt ≤ 0 := b_le c_103
            refine lv_iconst (v := 0) hx hb dX5_run_325 (by decide) ?_
            subst hQ
            exact W.iret (v := 0) hx hb hr (fun t ht hW => ⟨⟨_, r1, rfl, ⟨hRr, hEr, trivial⟩, by rw [ht]; exact hP, va_K.moved hW.alike hK, hD⟩, hS.F ht⟩) hS.2.2 dX5_run_326
          · have c_103 : 0 < x1_4.toInt := b_nle c_103
            refine lv_aload_n hx hb dX5_run_313 rfl (lv_at hl 3 rfl) ?_
            refine va_get (D := D) (ci := 5) (v := .ref (a 27)) (C := RX5) (T := TX5) (N := 9) hx hb hT iX5 hown hK hP 20 rfl rfl 8 (by decide) (hT _ t_363) (fun _ h9 => h9) rfl dX5_run_314 ?_
            refine lv_iload hx hb dX5_run_317 (lv_at hl 2 rfl) ?_
            refine lv_iconst (v := 1) hx hb dX5_run_319 (by decide) ?_
            refine lv_isub hx hb dX5_run_320 ?_
            refine lv_topi (fun v_104 ev_104 => ?_)
            have hv_104 : v_104.toInt = x1_4.toInt - 1 := by rw [ev_104]; have := b_rg x1_4; exact i_sub (a := x1_4.toInt) (b := 1) rfl rfl (by omega) (by omega)
            refine va_iald hx hb hK hP 27 0 rfl rfl (vp_inI (by omega) (by omega)) dX5_run_321 ?_
            refine lv_topi (fun v_105 ev_105 => ?_)
            refine lv_goto (tgt := 326) hx hb dX5_run_322 (by decide) ?_
            subst hQ
            exact W.iret (v := v_105) hx hb hr (fun t ht hW => ⟨⟨_, r1, rfl, ⟨hRr, hEr, trivial⟩, by rw [ht]; exact hP, va_K.moved hW.alike hK, hD⟩, hS.F ht⟩) hS.2.2 dX5_run_326
  exact loop_1 _ 0 p0 0 r _ _ _ (Nat.lt_succ_self _) (by first | omega | decide) (by first | omega | decide) hRr hEr  hP hD hS hl
set_option maxHeartbeats 4000000 in
set_option maxRecDepth 100000 in
theorem c_X5_amount (l : Launch) (D : va_G) (cy : Nat → ClassId) (a : Nat → Nat) (i : Nat → Int32) (r : Nat → Nat → Int32) (q : Nat → Option Nat) (tl : va_W) (p0 p1 p2 : Int32) (sz : Nat) (hRi : yRi i) (hRr : yRr r) : Met l yX5_amount (Cond.code yX5_amount cX5_amount 6 (some .int) :: gT) { frames := 3, cells := 0, slots := 0, locals := 75 } (va_Pc [.ref (a 20), .int p0, .ref (a 28), .int p1, .int p2] (rM D cy (xW cy a i r q (a 20) (a 12) ++ tl) sz)) (va_Qi (fun (z : Int32) (u : Nat → Nat → Int32) => yRr u ∧ mEr [27] r u ∧ True) (fun (u : Nat → Nat → Int32) t => va_P D vwCl (xW cy a i u q (a 20) (a 12) ++ tl) t.heap ∧ va_K D vwCl (vT cy) t ∧ va_D (va_A (xW cy a i r q (a 20) (a 12) ++ tl) sz) (xW cy a i u q (a 20) (a 12) ++ tl)) (va_A (xW cy a i r q (a 20) (a 12) ++ tl) sz)) 0 0 (va_A (xW cy a i r q (a 20) (a 12) ++ tl) sz) := by
  refine Met.ofQ (cc := cX5_amount) (maxL := 6) (ret := (some .int)) (by decide) rfl ?_
  intro p e s m args below meth c s₁ B hml hv Q hQ
  obtain ⟨rfl, hnw, hsz, hP, hK, hD0⟩ := hv
  have hx := B.exec
  have hb := B.bytes
  have hr := B.returns
  have hlocks := B.notSynchronized
  have hT : ∀ w ∈ gT, w.before _ s = true := fun w h => atoms_spec (ws := (Cond.code yX5_amount cX5_amount 6 (some .int) :: gT)) B.pre w (List.mem_cons_of_mem _ h)
  have hown : s.vm.findClass RX5 = some m.cls := findClass_of_methodNamed B.named
  subst hsz
  have hD := hD0.self (sz := s.heap.size)
  generalize hAe : va_A (xW cy a i r q (a 20) (a 12) ++ tl) s.heap.size = A at hD hQ
  have hA : ∀ q : Nat, s.heap.size ≤ q → A q := fun q h => by rw [← hAe]; exact Or.inr h
  have hS : va_S A s.heap s.heap [] := va_S.rf
  have hl := lv_entry ([.ref (a 20), .int p0, .ref (a 28), .int p1, .int p2]) (n := 6) (Nat.le_of_ble_eq_true rfl)
  rw [lg_entry_eq]
  generalize (lg_sl ([.ref (a 20), .int p0, .ref (a 28), .int p1, .int p2]) ++ List.replicate (6 - (lg_sl ([.ref (a 20), .int p0, .ref (a 28), .int p1, .int p2])).length) Slot.unset).toArray = ls at hl ⊢
  have hl : lv_has ls 6 [(0, .ref (a 20)), (1, .int p0), (2, .ref (a 28)), (3, .int p1), (4, .int p2)] := hl
  have hEi : mEi [] i i := Ei_rf
  have hEr : mEr [27] r r := Er_rf
  refine lv_iconst (v := 0) hx hb dX5_amount_0 (by decide) ?_
  refine lv_istore (lv' := [(5, .int 0), (0, .ref (a 20)), (1, .int p0), (2, .ref (a 28)), (3, .int p1), (4, .int p2)]) hx hb dX5_amount_1 hl (by decide) rfl (fun ls hl => ?_)
  have loop_1 : ∀ (n : Nat) (x1_5 : Int32) (r1 : Nat → Nat → Int32) (H : Heap) (locs : List Loc) (ls : Array Slot), (14 - x1_5.toInt).toNat < n → (0 ≤ x1_5.toInt ∧ x1_5.toInt ≤ 14) → yRr r1 → mEr [27] r r1 → va_P D vwCl (xW cy a i r1 q (a 20) (a 12) ++ tl) H → va_D A (xW cy a i r1 q (a 20) (a 12) ++ tl) → va_S A s.heap H locs → lv_has ls 6 [(5, .int x1_5), (0, .ref (a 20)), (1, .int p0), (2, .ref (a 28)), (3, .int p1), (4, .int p2)] → W p l e ({ frames := 3, cells := 0, slots := 0, locals := 75 } : Room) s m ([.ref (a 20), .int p0, .ref (a 28), .int p1, .int p2] : List Value).toArray below meth c H locs 0 0 Q (F0 m 3 ls []) := by
    intro n
    induction n with
    | zero =>
      intro x1_5 r1 H locs ls hm1 hf1_0 hRr hEr hP hD hS hl
      exact absurd hm1 (by omega)
    | succ n ih1 =>
      intro x1_5 r1 H locs ls hm1 hf1_0 hRr hEr hP hD hS hl
      refine lv_iload hx hb dX5_amount_3 (lv_at hl 0 rfl) ?_
      refine lv_aload_n hx hb dX5_amount_5 rfl (lv_at hl 1 rfl) ?_
      refine va_get (D := D) (ci := 5) (v := .int (i 8)) (C := RX5) (T := TX5) (N := 9) hx hb hT iX5 hown hK hP 20 rfl rfl 0 (by decide) (hT _ t_370) (fun _ h9 => h9) rfl dX5_amount_6 ?_
      have hg_2 : 0 ≤ (i 8).toInt ∧ (i 8).toInt ≤ 14 := hRi 8
      refine lv_icmp_ge (tgt := 80) hx hb dX5_amount_9 (by decide) (fun c_3 => ?_) (fun c_3 => ?_)
      · have c_3 : (i 8).toInt ≤ x1_5.toInt := b_le c_3
        refine lv_iload_n hx hb dX5_amount_80 rfl (lv_at hl 4 rfl) ?_
        subst hQ
        exact W.iret (v := p1) hx hb hr (fun t ht hW => ⟨⟨_, r1, rfl, ⟨hRr, hEr, trivial⟩, by rw [ht]; exact hP, va_K.moved hW.alike hK, hD⟩, hS.F ht⟩) hS.2.2 dX5_amount_81
      · have c_3 : x1_5.toInt < (i 8).toInt := b_nle c_3
        refine lv_aload_n hx hb dX5_amount_12 rfl (lv_at hl 1 rfl) ?_
        refine va_get (D := D) (ci := 5) (v := .ref (a 21)) (C := RX5) (T := TX5) (N := 9) hx hb hT iX5 hown hK hP 20 rfl rfl 2 (by decide) (hT _ t_371) (fun _ h9 => h9) rfl dX5_amount_13 ?_
        refine lv_iload hx hb dX5_amount_16 (lv_at hl 0 rfl) ?_
        refine va_iald hx hb hK hP 21 0 rfl rfl (vp_inI (by omega) (by omega)) dX5_amount_18 ?_
        refine lv_topi (fun v_4 ev_4 => ?_)
        refine lv_iload_n hx hb dX5_amount_19 rfl (lv_at hl 2 rfl) ?_
        refine lv_icmp_ne (tgt := 74) hx hb dX5_amount_20 (by decide) (fun c_5 => ?_) (fun c_5 => ?_)
        · have c_5 : v_4.toInt ≠ p0.toInt := b_ne c_5
          obtain ⟨x_6, ex_6⟩ : ∃ y : Int32, y = x1_5 + 1 := ⟨_, rfl⟩
          refine lv_iinc (v := x_6) (lv' := [(5, .int x_6), (0, .ref (a 20)), (1, .int p0), (2, .ref (a 28)), (3, .int p1), (4, .int p2)]) hx hb dX5_amount_74 hl (k := 0) rfl (by rw [ex_6]; rfl) (by decide) rfl (fun ls hl => ?_)
          have hx_6 : x_6.toInt = x1_5.toInt + 1 := by rw [ex_6]; have := b_rg x1_5; exact i_add (a := x1_5.toInt) (b := 1) rfl rfl (by omega) (by omega)
          refine lv_goto (tgt := 3) hx hb dX5_amount_77 (by decide) ?_
          exact ih1 x_6 r1 _ _ _ (by first | omega | (simp only [Int.toNat]; omega)) (by first | omega | decide) hRr hEr  hP hD hS (lv_sub hl [0, 1, 2, 3, 4, 5] rfl)
        · have c_5 : v_4.toInt = p0.toInt := b_nne c_5
          refine lv_aload_n hx hb dX5_amount_23 rfl (lv_at hl 1 rfl) ?_
          refine lv_aload_n hx hb dX5_amount_24 rfl (lv_at hl 1 rfl) ?_
          refine va_get (D := D) (ci := 5) (v := .ref (a 23)) (C := RX5) (T := TX5) (N := 9) hx hb hT iX5 hown hK hP 20 rfl rfl 4 (by decide) (hT _ t_372) (fun _ h9 => h9) rfl dX5_amount_25 ?_
          refine lv_iload hx hb dX5_amount_28 (lv_at hl 0 rfl) ?_
          refine va_iald hx hb hK hP 23 0 rfl rfl (vp_inI (by omega) (by omega)) dX5_amount_30 ?_
          refine lv_topi (fun v_7 ev_7 => ?_)
          have hgv_7 : 0 ≤ v_7.toInt ∧ v_7.toInt ≤ 200 := by rw [ev_7]; exact hRr 23 _
          refine lv_aload_n hx hb dX5_amount_31 rfl (lv_at hl 1 rfl) ?_
          refine va_get (D := D) (ci := 5) (v := .ref (a 24)) (C := RX5) (T := TX5) (N := 9) hx hb hT iX5 hown hK hP 20 rfl rfl 5 (by decide) (hT _ t_373) (fun _ h9 => h9) rfl dX5_amount_32 ?_
          refine lv_iload hx hb dX5_amount_35 (lv_at hl 0 rfl) ?_
          refine va_iald hx hb hK hP 24 0 rfl rfl (vp_inI (by omega) (by omega)) dX5_amount_37 ?_
          refine lv_topi (fun v_8 ev_8 => ?_)
          have hgv_8 : 0 ≤ v_8.toInt ∧ v_8.toInt ≤ 200 := by rw [ev_8]; exact hRr 24 _
          refine lv_aload_n hx hb dX5_amount_38 rfl (lv_at hl 3 rfl) ?_
          have hF_9 := rF hD hS hA
          refine va_calli (va_runV (As := [.int v_7, .int v_8, .ref (a 28)]) (rest := []) ⟨hx, hb, hml, hown, hT⟩ (c_X5_run l D cy a i r1 q tl v_7 v_8 _ hRi hRr (by first | omega | decide) (by first | omega | decide)) (cwV 3 hT (gV t_374 t_375 t_376 t_377 t_367) rfl rfl rfl (by decide +kernel) ⟨Nat.le_of_ble_eq_true rfl, Nat.le_of_ble_eq_true rfl⟩) (rM_v hnw hP hK hD (va_recv hK hP (ci := 5) (q0 := 20) rfl rfl)) rfl rfl hl.1 rfl (lv_room (Nat.le_of_ble_eq_true rfl)) dX5_amount_39 ⟨Nat.le_of_ble_eq_true rfl, Nat.le_of_ble_eq_true rfl⟩) hS (fun q _ h => hF_9 q h) hF_9 (fun r_10 u_11 t H1 locs ht hvm hr_10 hB hz1 hk1 hS => ?_)
          obtain ⟨r11, rfl⟩ : ∃ z, z = u_11 := ⟨_, rfl⟩
          obtain ⟨hP, hK1, hD1⟩ := hB
          rw [ht] at hP
          have hD := hD1.weaken (fun k q _ h => hF_9 q.1 h)
          obtain ⟨hRr, hE2, hr_10⟩ := hr_10
          have hRr : yRr r11 := hRr
          have hE2 : mEr [27] r1 r11 := hE2
          have hP : va_P D vwCl (xW cy a i r11 q (a 20) (a 12) ++ tl) H1 := hP
          have hD : va_D A (xW cy a i r11 q (a 20) (a 12) ++ tl) := hD
          have hEr : mEr [27] _ r11 := Er_tr hEr hE2 (by decide)
          refine lv_if_eq (tgt := 74) hx hb dX5_amount_42 (by decide) (fun c_12 => ?_) (fun c_12 => ?_)
          · have c_12 : r_10.toInt = 0 := b_eq c_12
            obtain ⟨x_13, ex_13⟩ : ∃ y : Int32, y = x1_5 + 1 := ⟨_, rfl⟩
            refine lv_iinc (v := x_13) (lv' := [(5, .int x_13), (0, .ref (a 20)), (1, .int p0), (2, .ref (a 28)), (3, .int p1), (4, .int p2)]) hx hb dX5_amount_74 hl (k := 0) rfl (by rw [ex_13]; rfl) (by decide) rfl (fun ls hl => ?_)
            have hx_13 : x_13.toInt = x1_5.toInt + 1 := by rw [ex_13]; have := b_rg x1_5; exact i_add (a := x1_5.toInt) (b := 1) rfl rfl (by omega) (by omega)
            refine lv_goto (tgt := 3) hx hb dX5_amount_77 (by decide) ?_
            exact ih1 x_13 r11 _ _ _ (by first | omega | (simp only [Int.toNat]; omega)) (by first | omega | decide) hRr hEr  hP hD hS (lv_sub hl [0, 1, 2, 3, 4, 5] rfl)
          · have c_12 : r_10.toInt ≠ 0 := b_ne c_12
            refine lv_iconst (v := 0) hx hb dX5_amount_45 (by decide) ?_
            refine lv_iload hx hb dX5_amount_46 (lv_at hl 5 rfl) ?_
            refine lv_aload_n hx hb dX5_amount_48 rfl (lv_at hl 1 rfl) ?_
            refine lv_aload_n hx hb dX5_amount_49 rfl (lv_at hl 1 rfl) ?_
            refine va_get (D := D) (ci := 5) (v := .ref (a 22)) (C := RX5) (T := TX5) (N := 9) hx hb hT iX5 hown hK hP 20 rfl rfl 3 (by decide) (hT _ t_378) (fun _ h9 => h9) rfl dX5_amount_50 ?_
            refine lv_iload hx hb dX5_amount_53 (lv_at hl 0 rfl) ?_
            refine va_iald hx hb hK hP 22 0 rfl rfl (vp_inI (by omega) (by omega)) dX5_amount_55 ?_
            refine lv_topi (fun v_14 ev_14 => ?_)
            have hgv_14 : 0 ≤ v_14.toInt ∧ v_14.toInt ≤ 200 := by rw [ev_14]; exact hRr 22 _
            refine lv_aload_n hx hb dX5_amount_56 rfl (lv_at hl 1 rfl) ?_
            refine va_get (D := D) (ci := 5) (v := .ref (a 23)) (C := RX5) (T := TX5) (N := 9) hx hb hT iX5 hown hK hP 20 rfl rfl 4 (by decide) (hT _ t_372) (fun _ h9 => h9) rfl dX5_amount_57 ?_
            refine lv_iload hx hb dX5_amount_60 (lv_at hl 0 rfl) ?_
            refine va_iald hx hb hK hP 23 0 rfl rfl (vp_inI (by omega) (by omega)) dX5_amount_62 ?_
            refine lv_topi (fun v_15 ev_15 => ?_)
            have hgv_15 : 0 ≤ v_15.toInt ∧ v_15.toInt ≤ 200 := by rw [ev_15]; exact hRr 23 _
            refine lv_aload_n hx hb dX5_amount_63 rfl (lv_at hl 3 rfl) ?_
            have hF_16 := rF hD hS hA
            refine va_calli (va_runV (As := [.int v_14, .int v_15, .ref (a 28)]) (rest := [.int p2, .int 0]) ⟨hx, hb, hml, hown, hT⟩ (c_X5_run l D cy a i r11 q tl v_14 v_15 _ hRi hRr (by first | omega | decide) (by first | omega | decide)) (cwV 3 hT (gV t_374 t_375 t_376 t_377 t_367) rfl rfl rfl (by decide +kernel) ⟨Nat.le_of_ble_eq_true rfl, Nat.le_of_ble_eq_true rfl⟩) (rM_v hnw hP hK hD (va_recv hK hP (ci := 5) (q0 := 20) rfl rfl)) rfl rfl hl.1 rfl (lv_room (Nat.le_of_ble_eq_true rfl)) dX5_amount_64 ⟨Nat.le_of_ble_eq_true rfl, Nat.le_of_ble_eq_true rfl⟩) hS (fun q _ h => hF_16 q h) hF_16 (fun r_17 u_18 t H1 locs ht hvm hr_17 hB hz1 hk1 hS => ?_)
            obtain ⟨r18, rfl⟩ : ∃ z, z = u_18 := ⟨_, rfl⟩
            obtain ⟨hP, hK1, hD1⟩ := hB
            rw [ht] at hP
            have hD := hD1.weaken (fun k q _ h => hF_16 q.1 h)
            obtain ⟨hRr, hE2, hr_17⟩ := hr_17
            have hRr : yRr r18 := hRr
            have hE2 : mEr [27] r11 r18 := hE2
            have hP : va_P D vwCl (xW cy a i r18 q (a 20) (a 12) ++ tl) H1 := hP
            have hD : va_D A (xW cy a i r18 q (a 20) (a 12) ++ tl) := hD
            have hEr : mEr [27] _ r18 := Er_tr hEr hE2 (by decide)
            refine va_mmin hx hb (by rw [hml]; exact hl.1.symm) hown (hT _ t_379) (hT _ t_380) (hT _ t_289) (hT _ t_381) (Nat.le_of_ble_eq_true rfl) (Nat.le_of_ble_eq_true rfl) (Nat.le_of_ble_eq_true rfl) (Nat.le_of_ble_eq_true rfl) dX5_amount_67 ?_
            refine lv_topi (fun v_19 ev_19 => ?_)
            refine va_mmax hx hb (by rw [hml]; exact hl.1.symm) hown (hT _ t_382) (hT _ t_307) (hT _ t_289) (hT _ t_308) (Nat.le_of_ble_eq_true rfl) (Nat.le_of_ble_eq_true rfl) (Nat.le_of_ble_eq_true rfl) (Nat.le_of_ble_eq_true rfl) dX5_amount_70 ?_
            refine lv_topi (fun v_20 ev_20 => ?_)
            subst hQ
            exact W.iret (v := v_20) hx hb hr (fun t ht hW => ⟨⟨_, r18, rfl, ⟨hRr, hEr, trivial⟩, by rw [ht]; exact hP, va_K.moved hW.alike hK, hD⟩, hS.F ht⟩) hS.2.2 dX5_amount_73
  exact loop_1 _ 0 r _ _ _ (Nat.lt_succ_self _) (by first | omega | decide) hRr hEr  hP hD hS hl
set_option maxHeartbeats 4000000 in
set_option maxRecDepth 100000 in
theorem c_X5_someHolds (l : Launch) (D : va_G) (cy : Nat → ClassId) (a : Nat → Nat) (i : Nat → Int32) (r : Nat → Nat → Int32) (q : Nat → Option Nat) (tl : va_W) (p0 : Int32) (sz : Nat) (hRi : yRi i) (hRr : yRr r) : Met l yX5_someHolds (Cond.code yX5_someHolds cX5_someHolds 4 (some .boolean) :: gT) { frames := 3, cells := 0, slots := 0, locals := 75 } (va_Pc [.ref (a 20), .int p0, .ref (a 28)] (rM D cy (xW cy a i r q (a 20) (a 12) ++ tl) sz)) (va_Qi (fun (z : Int32) (u : Nat → Nat → Int32) => yRr u ∧ mEr [27] r u ∧ (z = 0 ∨ z = 1)) (fun (u : Nat → Nat → Int32) t => va_P D vwCl (xW cy a i u q (a 20) (a 12) ++ tl) t.heap ∧ va_K D vwCl (vT cy) t ∧ va_D (va_A (xW cy a i r q (a 20) (a 12) ++ tl) sz) (xW cy a i u q (a 20) (a 12) ++ tl)) (va_A (xW cy a i r q (a 20) (a 12) ++ tl) sz)) 0 0 (va_A (xW cy a i r q (a 20) (a 12) ++ tl) sz) := by
  refine Met.ofQ (cc := cX5_someHolds) (maxL := 4) (ret := (some .boolean)) (by decide) rfl ?_
  intro p e s m args below meth c s₁ B hml hv Q hQ
  obtain ⟨rfl, hnw, hsz, hP, hK, hD0⟩ := hv
  have hx := B.exec
  have hb := B.bytes
  have hr := B.returns
  have hlocks := B.notSynchronized
  have hT : ∀ w ∈ gT, w.before _ s = true := fun w h => atoms_spec (ws := (Cond.code yX5_someHolds cX5_someHolds 4 (some .boolean) :: gT)) B.pre w (List.mem_cons_of_mem _ h)
  have hown : s.vm.findClass RX5 = some m.cls := findClass_of_methodNamed B.named
  subst hsz
  have hD := hD0.self (sz := s.heap.size)
  generalize hAe : va_A (xW cy a i r q (a 20) (a 12) ++ tl) s.heap.size = A at hD hQ
  have hA : ∀ q : Nat, s.heap.size ≤ q → A q := fun q h => by rw [← hAe]; exact Or.inr h
  have hS : va_S A s.heap s.heap [] := va_S.rf
  have hl := lv_entry ([.ref (a 20), .int p0, .ref (a 28)]) (n := 4) (Nat.le_of_ble_eq_true rfl)
  rw [lg_entry_eq]
  generalize (lg_sl ([.ref (a 20), .int p0, .ref (a 28)]) ++ List.replicate (4 - (lg_sl ([.ref (a 20), .int p0, .ref (a 28)])).length) Slot.unset).toArray = ls at hl ⊢
  have hl : lv_has ls 4 [(0, .ref (a 20)), (1, .int p0), (2, .ref (a 28))] := hl
  have hEi : mEi [] i i := Ei_rf
  have hEr : mEr [27] r r := Er_rf
  refine lv_iconst (v := 0) hx hb dX5_someHolds_0 (by decide) ?_
  refine lv_istore_n (lv' := [(3, .int 0), (0, .ref (a 20)), (1, .int p0), (2, .ref (a 28))]) hx hb dX5_someHolds_1 rfl hl (by decide) rfl (fun ls hl => ?_)
  have loop_1 : ∀ (n : Nat) (x1_3 : Int32) (r1 : Nat → Nat → Int32) (H : Heap) (locs : List Loc) (ls : Array Slot), (14 - x1_3.toInt).toNat < n → (0 ≤ x1_3.toInt ∧ x1_3.toInt ≤ 14) → yRr r1 → mEr [27] r r1 → va_P D vwCl (xW cy a i r1 q (a 20) (a 12) ++ tl) H → va_D A (xW cy a i r1 q (a 20) (a 12) ++ tl) → va_S A s.heap H locs → lv_has ls 4 [(3, .int x1_3), (0, .ref (a 20)), (1, .int p0), (2, .ref (a 28))] → W p l e ({ frames := 3, cells := 0, slots := 0, locals := 75 } : Room) s m ([.ref (a 20), .int p0, .ref (a 28)] : List Value).toArray below meth c H locs 0 0 Q (F0 m 2 ls []) := by
    intro n
    induction n with
    | zero =>
      intro x1_3 r1 H locs ls hm1 hf1_0 hRr hEr hP hD hS hl
      exact absurd hm1 (by omega)
    | succ n ih1 =>
      intro x1_3 r1 H locs ls hm1 hf1_0 hRr hEr hP hD hS hl
      refine lv_iload_n hx hb dX5_someHolds_2 rfl (lv_at hl 0 rfl) ?_
      refine lv_aload_n hx hb dX5_someHolds_3 rfl (lv_at hl 1 rfl) ?_
      refine va_get (D := D) (ci := 5) (v := .int (i 8)) (C := RX5) (T := TX5) (N := 9) hx hb hT iX5 hown hK hP 20 rfl rfl 0 (by decide) (hT _ t_370) (fun _ h9 => h9) rfl dX5_someHolds_4 ?_
      have hg_2 : 0 ≤ (i 8).toInt ∧ (i 8).toInt ≤ 14 := hRi 8
      refine lv_icmp_ge (tgt := 48) hx hb dX5_someHolds_7 (by decide) (fun c_3 => ?_) (fun c_3 => ?_)
      · have c_3 : (i 8).toInt ≤ x1_3.toInt := b_le c_3
        refine lv_iconst (v := 0) hx hb dX5_someHolds_48 (by decide) ?_
        subst hQ
        exact W.zret hx hb hr rfl (fun t ht hW => ⟨⟨_, r1, rfl, ⟨hRr, hEr, Or.inl rfl⟩, by rw [ht]; exact hP, va_K.moved hW.alike hK, hD⟩, hS.F ht⟩) hS.2.2 dX5_someHolds_49
      · have c_3 : x1_3.toInt < (i 8).toInt := b_nle c_3
        refine lv_aload_n hx hb dX5_someHolds_10 rfl (lv_at hl 1 rfl) ?_
        refine va_get (D := D) (ci := 5) (v := .ref (a 21)) (C := RX5) (T := TX5) (N := 9) hx hb hT iX5 hown hK hP 20 rfl rfl 2 (by decide) (hT _ t_371) (fun _ h9 => h9) rfl dX5_someHolds_11 ?_
        refine lv_iload_n hx hb dX5_someHolds_14 rfl (lv_at hl 0 rfl) ?_
        refine va_iald hx hb hK hP 21 0 rfl rfl (vp_inI (by omega) (by omega)) dX5_someHolds_15 ?_
        refine lv_topi (fun v_4 ev_4 => ?_)
        refine lv_iload_n hx hb dX5_someHolds_16 rfl (lv_at hl 2 rfl) ?_
        refine lv_icmp_ne (tgt := 42) hx hb dX5_someHolds_17 (by decide) (fun c_5 => ?_) (fun c_5 => ?_)
        · have c_5 : v_4.toInt ≠ p0.toInt := b_ne c_5
          obtain ⟨x_6, ex_6⟩ : ∃ y : Int32, y = x1_3 + 1 := ⟨_, rfl⟩
          refine lv_iinc (v := x_6) (lv' := [(3, .int x_6), (0, .ref (a 20)), (1, .int p0), (2, .ref (a 28))]) hx hb dX5_someHolds_42 hl (k := 0) rfl (by rw [ex_6]; rfl) (by decide) rfl (fun ls hl => ?_)
          have hx_6 : x_6.toInt = x1_3.toInt + 1 := by rw [ex_6]; have := b_rg x1_3; exact i_add (a := x1_3.toInt) (b := 1) rfl rfl (by omega) (by omega)
          refine lv_goto (tgt := 2) hx hb dX5_someHolds_45 (by decide) ?_
          exact ih1 x_6 r1 _ _ _ (by first | omega | (simp only [Int.toNat]; omega)) (by first | omega | decide) hRr hEr  hP hD hS (lv_sub hl [0, 1, 2, 3] rfl)
        · have c_5 : v_4.toInt = p0.toInt := b_nne c_5
          refine lv_aload_n hx hb dX5_someHolds_20 rfl (lv_at hl 1 rfl) ?_
          refine lv_aload_n hx hb dX5_someHolds_21 rfl (lv_at hl 1 rfl) ?_
          refine va_get (D := D) (ci := 5) (v := .ref (a 23)) (C := RX5) (T := TX5) (N := 9) hx hb hT iX5 hown hK hP 20 rfl rfl 4 (by decide) (hT _ t_372) (fun _ h9 => h9) rfl dX5_someHolds_22 ?_
          refine lv_iload_n hx hb dX5_someHolds_25 rfl (lv_at hl 0 rfl) ?_
          refine va_iald hx hb hK hP 23 0 rfl rfl (vp_inI (by omega) (by omega)) dX5_someHolds_26 ?_
          refine lv_topi (fun v_7 ev_7 => ?_)
          have hgv_7 : 0 ≤ v_7.toInt ∧ v_7.toInt ≤ 200 := by rw [ev_7]; exact hRr 23 _
          refine lv_aload_n hx hb dX5_someHolds_27 rfl (lv_at hl 1 rfl) ?_
          refine va_get (D := D) (ci := 5) (v := .ref (a 24)) (C := RX5) (T := TX5) (N := 9) hx hb hT iX5 hown hK hP 20 rfl rfl 5 (by decide) (hT _ t_373) (fun _ h9 => h9) rfl dX5_someHolds_28 ?_
          refine lv_iload_n hx hb dX5_someHolds_31 rfl (lv_at hl 0 rfl) ?_
          refine va_iald hx hb hK hP 24 0 rfl rfl (vp_inI (by omega) (by omega)) dX5_someHolds_32 ?_
          refine lv_topi (fun v_8 ev_8 => ?_)
          have hgv_8 : 0 ≤ v_8.toInt ∧ v_8.toInt ≤ 200 := by rw [ev_8]; exact hRr 24 _
          refine lv_aload_n hx hb dX5_someHolds_33 rfl (lv_at hl 3 rfl) ?_
          have hF_9 := rF hD hS hA
          refine va_calli (va_runV (As := [.int v_7, .int v_8, .ref (a 28)]) (rest := []) ⟨hx, hb, hml, hown, hT⟩ (c_X5_run l D cy a i r1 q tl v_7 v_8 _ hRi hRr (by first | omega | decide) (by first | omega | decide)) (cwV 3 hT (gV t_374 t_375 t_376 t_377 t_367) rfl rfl rfl (by decide +kernel) ⟨Nat.le_of_ble_eq_true rfl, Nat.le_of_ble_eq_true rfl⟩) (rM_v hnw hP hK hD (va_recv hK hP (ci := 5) (q0 := 20) rfl rfl)) rfl rfl hl.1 rfl (lv_room (Nat.le_of_ble_eq_true rfl)) dX5_someHolds_34 ⟨Nat.le_of_ble_eq_true rfl, Nat.le_of_ble_eq_true rfl⟩) hS (fun q _ h => hF_9 q h) hF_9 (fun r_10 u_11 t H1 locs ht hvm hr_10 hB hz1 hk1 hS => ?_)
          obtain ⟨r11, rfl⟩ : ∃ z, z = u_11 := ⟨_, rfl⟩
          obtain ⟨hP, hK1, hD1⟩ := hB
          rw [ht] at hP
          have hD := hD1.weaken (fun k q _ h => hF_9 q.1 h)
          obtain ⟨hRr, hE2, hr_10⟩ := hr_10
          have hRr : yRr r11 := hRr
          have hE2 : mEr [27] r1 r11 := hE2
          have hP : va_P D vwCl (xW cy a i r11 q (a 20) (a 12) ++ tl) H1 := hP
          have hD : va_D A (xW cy a i r11 q (a 20) (a 12) ++ tl) := hD
          have hEr : mEr [27] _ r11 := Er_tr hEr hE2 (by decide)
          refine lv_if_eq (tgt := 42) hx hb dX5_someHolds_37 (by decide) (fun c_12 => ?_) (fun c_12 => ?_)
          · have c_12 : r_10.toInt = 0 := b_eq c_12
            obtain ⟨x_13, ex_13⟩ : ∃ y : Int32, y = x1_3 + 1 := ⟨_, rfl⟩
            refine lv_iinc (v := x_13) (lv' := [(3, .int x_13), (0, .ref (a 20)), (1, .int p0), (2, .ref (a 28))]) hx hb dX5_someHolds_42 hl (k := 0) rfl (by rw [ex_13]; rfl) (by decide) rfl (fun ls hl => ?_)
            have hx_13 : x_13.toInt = x1_3.toInt + 1 := by rw [ex_13]; have := b_rg x1_3; exact i_add (a := x1_3.toInt) (b := 1) rfl rfl (by omega) (by omega)
            refine lv_goto (tgt := 2) hx hb dX5_someHolds_45 (by decide) ?_
            exact ih1 x_13 r11 _ _ _ (by first | omega | (simp only [Int.toNat]; omega)) (by first | omega | decide) hRr hEr  hP hD hS (lv_sub hl [0, 1, 2, 3] rfl)
          · have c_12 : r_10.toInt ≠ 0 := b_ne c_12
            refine lv_iconst (v := 1) hx hb dX5_someHolds_40 (by decide) ?_
            subst hQ
            exact W.zret hx hb hr rfl (fun t ht hW => ⟨⟨_, r11, rfl, ⟨hRr, hEr, Or.inr rfl⟩, by rw [ht]; exact hP, va_K.moved hW.alike hK, hD⟩, hS.F ht⟩) hS.2.2 dX5_someHolds_41
  exact loop_1 _ 0 r _ _ _ (Nat.lt_succ_self _) (by first | omega | decide) hRr hEr  hP hD hS hl
