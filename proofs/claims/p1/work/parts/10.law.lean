theorem t_342 : Cond.code yX11_life cX11_life 3 (some .boolean) ∈ gT := tm (List.mem_of_getElem? (i := 297) (by decide +kernel)) (by decide +kernel)
theorem t_343 : Cond.methodLink RL 13 yX11_life ∈ gT := tm (List.mem_of_getElem? (i := 294) (by decide +kernel)) (by decide +kernel)
theorem t_344 : Cond.instanceMethod yX11_life ∈ gT := tm (List.mem_of_getElem? (i := 295) (by decide +kernel)) (by decide +kernel)
theorem t_345 : Cond.selects RX11 yX11_life yX11_life ∈ gT := tm (List.mem_of_getElem? (i := 296) (by decide +kernel)) (by decide +kernel)
theorem t_346 : Cond.code yX12_life cX12_life 3 (some .boolean) ∈ gT := tm (List.mem_of_getElem? (i := 1195) (by decide +kernel)) (by decide +kernel)
theorem t_347 : Cond.methodLink RL 17 yX12_life ∈ gT := tm (List.mem_of_getElem? (i := 1192) (by decide +kernel)) (by decide +kernel)
theorem t_348 : Cond.instanceMethod yX12_life ∈ gT := tm (List.mem_of_getElem? (i := 1193) (by decide +kernel)) (by decide +kernel)
theorem t_349 : Cond.selects RX12 yX12_life yX12_life ∈ gT := tm (List.mem_of_getElem? (i := 1194) (by decide +kernel)) (by decide +kernel)
theorem t_350 : Cond.code yX11_price cX11_price 4 (some .boolean) ∈ gT := tm (List.mem_of_getElem? (i := 304) (by decide +kernel)) (by decide +kernel)
theorem t_351 : Cond.methodLink RL 18 yX11_price ∈ gT := tm (List.mem_of_getElem? (i := 301) (by decide +kernel)) (by decide +kernel)
theorem t_352 : Cond.instanceMethod yX11_price ∈ gT := tm (List.mem_of_getElem? (i := 302) (by decide +kernel)) (by decide +kernel)
theorem t_353 : Cond.selects RX11 yX11_price yX11_price ∈ gT := tm (List.mem_of_getElem? (i := 303) (by decide +kernel)) (by decide +kernel)
theorem t_354 : Cond.code yX12_price cX12_price 4 (some .boolean) ∈ gT := tm (List.mem_of_getElem? (i := 1205) (by decide +kernel)) (by decide +kernel)
theorem t_355 : Cond.methodLink RL 22 yX12_price ∈ gT := tm (List.mem_of_getElem? (i := 1202) (by decide +kernel)) (by decide +kernel)
theorem t_356 : Cond.instanceMethod yX12_price ∈ gT := tm (List.mem_of_getElem? (i := 1203) (by decide +kernel)) (by decide +kernel)
theorem t_357 : Cond.selects RX12 yX12_price yX12_price ∈ gT := tm (List.mem_of_getElem? (i := 1204) (by decide +kernel)) (by decide +kernel)
theorem t_358 : Cond.code yX11_home cX11_home 8 (some .int) ∈ gT := tm (List.mem_of_getElem? (i := 309) (by decide +kernel)) (by decide +kernel)
theorem t_359 : Cond.methodLink RL 23 yX11_home ∈ gT := tm (List.mem_of_getElem? (i := 306) (by decide +kernel)) (by decide +kernel)
theorem t_360 : Cond.instanceMethod yX11_home ∈ gT := tm (List.mem_of_getElem? (i := 307) (by decide +kernel)) (by decide +kernel)
theorem t_361 : Cond.selects RX11 yX11_home yX11_home ∈ gT := tm (List.mem_of_getElem? (i := 308) (by decide +kernel)) (by decide +kernel)
theorem t_362 : Cond.code yX12_home cX12_home 8 (some .int) ∈ gT := tm (List.mem_of_getElem? (i := 1210) (by decide +kernel)) (by decide +kernel)
theorem t_363 : Cond.methodLink RL 27 yX12_home ∈ gT := tm (List.mem_of_getElem? (i := 1207) (by decide +kernel)) (by decide +kernel)
theorem t_364 : Cond.instanceMethod yX12_home ∈ gT := tm (List.mem_of_getElem? (i := 1208) (by decide +kernel)) (by decide +kernel)
theorem t_365 : Cond.selects RX12 yX12_home yX12_home ∈ gT := tm (List.mem_of_getElem? (i := 1209) (by decide +kernel)) (by decide +kernel)
theorem t_366 : Cond.code yX11_part cX11_part 5 (some .boolean) ∈ gT := tm (List.mem_of_getElem? (i := 405) (by decide +kernel)) (by decide +kernel)
theorem t_367 : Cond.methodLink RL 28 yX11_part ∈ gT := tm (List.mem_of_getElem? (i := 402) (by decide +kernel)) (by decide +kernel)
theorem t_368 : Cond.instanceMethod yX11_part ∈ gT := tm (List.mem_of_getElem? (i := 403) (by decide +kernel)) (by decide +kernel)
theorem t_369 : Cond.selects RX11 yX11_part yX11_part ∈ gT := tm (List.mem_of_getElem? (i := 404) (by decide +kernel)) (by decide +kernel)
theorem t_370 : Cond.code yX12_part cX12_part 4 (some .boolean) ∈ gT := tm (List.mem_of_getElem? (i := 1218) (by decide +kernel)) (by decide +kernel)
theorem t_371 : Cond.methodLink RL 31 yX12_part ∈ gT := tm (List.mem_of_getElem? (i := 1215) (by decide +kernel)) (by decide +kernel)
theorem t_372 : Cond.instanceMethod yX12_part ∈ gT := tm (List.mem_of_getElem? (i := 1216) (by decide +kernel)) (by decide +kernel)
theorem t_373 : Cond.selects RX12 yX12_part yX12_part ∈ gT := tm (List.mem_of_getElem? (i := 1217) (by decide +kernel)) (by decide +kernel)
theorem t_374 : Cond.code yX11_owes cX11_owes 5 (some .boolean) ∈ gT := tm (List.mem_of_getElem? (i := 413) (by decide +kernel)) (by decide +kernel)
theorem t_375 : Cond.methodLink RL 32 yX11_owes ∈ gT := tm (List.mem_of_getElem? (i := 410) (by decide +kernel)) (by decide +kernel)
theorem t_376 : Cond.instanceMethod yX11_owes ∈ gT := tm (List.mem_of_getElem? (i := 411) (by decide +kernel)) (by decide +kernel)
theorem t_377 : Cond.selects RX11 yX11_owes yX11_owes ∈ gT := tm (List.mem_of_getElem? (i := 412) (by decide +kernel)) (by decide +kernel)
theorem t_378 : Cond.code yX12_owes cX12_owes 4 (some .boolean) ∈ gT := tm (List.mem_of_getElem? (i := 1226) (by decide +kernel)) (by decide +kernel)
theorem t_379 : Cond.methodLink RL 35 yX12_owes ∈ gT := tm (List.mem_of_getElem? (i := 1223) (by decide +kernel)) (by decide +kernel)
theorem t_380 : Cond.instanceMethod yX12_owes ∈ gT := tm (List.mem_of_getElem? (i := 1224) (by decide +kernel)) (by decide +kernel)
theorem t_381 : Cond.selects RX12 yX12_owes yX12_owes ∈ gT := tm (List.mem_of_getElem? (i := 1225) (by decide +kernel)) (by decide +kernel)
theorem t_382 : Cond.code yX11_first cX11_first 7 (some .int) ∈ gT := tm (List.mem_of_getElem? (i := 417) (by decide +kernel)) (by decide +kernel)
theorem t_383 : Cond.methodLink RL 36 yX11_first ∈ gT := tm (List.mem_of_getElem? (i := 414) (by decide +kernel)) (by decide +kernel)
theorem t_384 : Cond.instanceMethod yX11_first ∈ gT := tm (List.mem_of_getElem? (i := 415) (by decide +kernel)) (by decide +kernel)
theorem t_385 : Cond.selects RX11 yX11_first yX11_first ∈ gT := tm (List.mem_of_getElem? (i := 416) (by decide +kernel)) (by decide +kernel)
theorem t_386 : Cond.code yX12_first cX12_first 7 (some .int) ∈ gT := tm (List.mem_of_getElem? (i := 1230) (by decide +kernel)) (by decide +kernel)
theorem t_387 : Cond.methodLink RL 40 yX12_first ∈ gT := tm (List.mem_of_getElem? (i := 1227) (by decide +kernel)) (by decide +kernel)
theorem t_388 : Cond.instanceMethod yX12_first ∈ gT := tm (List.mem_of_getElem? (i := 1228) (by decide +kernel)) (by decide +kernel)
theorem t_389 : Cond.selects RX12 yX12_first yX12_first ∈ gT := tm (List.mem_of_getElem? (i := 1229) (by decide +kernel)) (by decide +kernel)
theorem t_390 : Cond.code yX11_last cX11_last 6 (some .int) ∈ gT := tm (List.mem_of_getElem? (i := 456) (by decide +kernel)) (by decide +kernel)
theorem t_391 : Cond.methodLink RL 41 yX11_last ∈ gT := tm (List.mem_of_getElem? (i := 453) (by decide +kernel)) (by decide +kernel)
theorem t_392 : Cond.instanceMethod yX11_last ∈ gT := tm (List.mem_of_getElem? (i := 454) (by decide +kernel)) (by decide +kernel)
theorem t_393 : Cond.selects RX11 yX11_last yX11_last ∈ gT := tm (List.mem_of_getElem? (i := 455) (by decide +kernel)) (by decide +kernel)
theorem t_394 : Cond.code yX12_last cX12_last 6 (some .int) ∈ gT := tm (List.mem_of_getElem? (i := 1237) (by decide +kernel)) (by decide +kernel)
theorem t_395 : Cond.methodLink RL 45 yX12_last ∈ gT := tm (List.mem_of_getElem? (i := 1234) (by decide +kernel)) (by decide +kernel)
theorem t_396 : Cond.instanceMethod yX12_last ∈ gT := tm (List.mem_of_getElem? (i := 1235) (by decide +kernel)) (by decide +kernel)
theorem t_397 : Cond.selects RX12 yX12_last yX12_last ∈ gT := tm (List.mem_of_getElem? (i := 1236) (by decide +kernel)) (by decide +kernel)
theorem t_398 : Cond.code yX11_feed cX11_feed 6 (some .int) ∈ gT := tm (List.mem_of_getElem? (i := 460) (by decide +kernel)) (by decide +kernel)
theorem t_399 : Cond.methodLink RL 46 yX11_feed ∈ gT := tm (List.mem_of_getElem? (i := 457) (by decide +kernel)) (by decide +kernel)
theorem t_400 : Cond.instanceMethod yX11_feed ∈ gT := tm (List.mem_of_getElem? (i := 458) (by decide +kernel)) (by decide +kernel)
theorem t_401 : Cond.selects RX11 yX11_feed yX11_feed ∈ gT := tm (List.mem_of_getElem? (i := 459) (by decide +kernel)) (by decide +kernel)
theorem t_402 : Cond.code yX12_feed cX12_feed 6 (some .int) ∈ gT := tm (List.mem_of_getElem? (i := 1241) (by decide +kernel)) (by decide +kernel)
theorem t_403 : Cond.methodLink RL 49 yX12_feed ∈ gT := tm (List.mem_of_getElem? (i := 1238) (by decide +kernel)) (by decide +kernel)
theorem t_404 : Cond.instanceMethod yX12_feed ∈ gT := tm (List.mem_of_getElem? (i := 1239) (by decide +kernel)) (by decide +kernel)
theorem t_405 : Cond.selects RX12 yX12_feed yX12_feed ∈ gT := tm (List.mem_of_getElem? (i := 1240) (by decide +kernel)) (by decide +kernel)
theorem t_406 : Cond.code yX11_law cX11_law 4 (some .int) ∈ gT := tm (List.mem_of_getElem? (i := 468) (by decide +kernel)) (by decide +kernel)
theorem t_407 : Cond.methodLink RL 50 yX11_law ∈ gT := tm (List.mem_of_getElem? (i := 465) (by decide +kernel)) (by decide +kernel)
theorem t_408 : Cond.instanceMethod yX11_law ∈ gT := tm (List.mem_of_getElem? (i := 466) (by decide +kernel)) (by decide +kernel)
theorem t_409 : Cond.selects RX11 yX11_law yX11_law ∈ gT := tm (List.mem_of_getElem? (i := 467) (by decide +kernel)) (by decide +kernel)
theorem t_410 : Cond.code yX12_law cX12_law 4 (some .int) ∈ gT := tm (List.mem_of_getElem? (i := 1249) (by decide +kernel)) (by decide +kernel)
theorem t_411 : Cond.methodLink RL 54 yX12_law ∈ gT := tm (List.mem_of_getElem? (i := 1246) (by decide +kernel)) (by decide +kernel)
theorem t_412 : Cond.instanceMethod yX12_law ∈ gT := tm (List.mem_of_getElem? (i := 1247) (by decide +kernel)) (by decide +kernel)
theorem t_413 : Cond.selects RX12 yX12_law yX12_law ∈ gT := tm (List.mem_of_getElem? (i := 1248) (by decide +kernel)) (by decide +kernel)
theorem t_414 : Cond.code yX11_thing cX11_thing 5 (some .int) ∈ gT := tm (List.mem_of_getElem? (i := 637) (by decide +kernel)) (by decide +kernel)
theorem t_415 : Cond.methodLink RL 55 yX11_thing ∈ gT := tm (List.mem_of_getElem? (i := 634) (by decide +kernel)) (by decide +kernel)
theorem t_416 : Cond.instanceMethod yX11_thing ∈ gT := tm (List.mem_of_getElem? (i := 635) (by decide +kernel)) (by decide +kernel)
theorem t_417 : Cond.selects RX11 yX11_thing yX11_thing ∈ gT := tm (List.mem_of_getElem? (i := 636) (by decide +kernel)) (by decide +kernel)
theorem t_418 : Cond.code yX12_thing cX12_thing 4 (some .int) ∈ gT := tm (List.mem_of_getElem? (i := 1332) (by decide +kernel)) (by decide +kernel)
theorem t_419 : Cond.methodLink RL 59 yX12_thing ∈ gT := tm (List.mem_of_getElem? (i := 1329) (by decide +kernel)) (by decide +kernel)
theorem t_420 : Cond.instanceMethod yX12_thing ∈ gT := tm (List.mem_of_getElem? (i := 1330) (by decide +kernel)) (by decide +kernel)
theorem t_421 : Cond.selects RX12 yX12_thing yX12_thing ∈ gT := tm (List.mem_of_getElem? (i := 1331) (by decide +kernel)) (by decide +kernel)
theorem t_422 : Cond.code yX11_isNew cX11_isNew 4 (some .int) ∈ gT := tm (List.mem_of_getElem? (i := 697) (by decide +kernel)) (by decide +kernel)
theorem t_423 : Cond.methodLink RL 60 yX11_isNew ∈ gT := tm (List.mem_of_getElem? (i := 694) (by decide +kernel)) (by decide +kernel)
theorem t_424 : Cond.instanceMethod yX11_isNew ∈ gT := tm (List.mem_of_getElem? (i := 695) (by decide +kernel)) (by decide +kernel)
theorem t_425 : Cond.selects RX11 yX11_isNew yX11_isNew ∈ gT := tm (List.mem_of_getElem? (i := 696) (by decide +kernel)) (by decide +kernel)
theorem t_426 : Cond.code yX12_isNew cX12_isNew 3 (some .int) ∈ gT := tm (List.mem_of_getElem? (i := 1411) (by decide +kernel)) (by decide +kernel)
theorem t_427 : Cond.methodLink RL 64 yX12_isNew ∈ gT := tm (List.mem_of_getElem? (i := 1408) (by decide +kernel)) (by decide +kernel)
theorem t_428 : Cond.instanceMethod yX12_isNew ∈ gT := tm (List.mem_of_getElem? (i := 1409) (by decide +kernel)) (by decide +kernel)
theorem t_429 : Cond.selects RX12 yX12_isNew yX12_isNew ∈ gT := tm (List.mem_of_getElem? (i := 1410) (by decide +kernel)) (by decide +kernel)
theorem t_430 : Cond.code yX11_led cX11_led 5 (some .int) ∈ gT := tm (List.mem_of_getElem? (i := 705) (by decide +kernel)) (by decide +kernel)
theorem t_431 : Cond.methodLink RL 65 yX11_led ∈ gT := tm (List.mem_of_getElem? (i := 702) (by decide +kernel)) (by decide +kernel)
theorem t_432 : Cond.instanceMethod yX11_led ∈ gT := tm (List.mem_of_getElem? (i := 703) (by decide +kernel)) (by decide +kernel)
theorem t_433 : Cond.selects RX11 yX11_led yX11_led ∈ gT := tm (List.mem_of_getElem? (i := 704) (by decide +kernel)) (by decide +kernel)
theorem t_434 : Cond.code yX12_led cX12_led 4 (some .int) ∈ gT := tm (List.mem_of_getElem? (i := 1415) (by decide +kernel)) (by decide +kernel)
theorem t_435 : Cond.methodLink RL 68 yX12_led ∈ gT := tm (List.mem_of_getElem? (i := 1412) (by decide +kernel)) (by decide +kernel)
theorem t_436 : Cond.instanceMethod yX12_led ∈ gT := tm (List.mem_of_getElem? (i := 1413) (by decide +kernel)) (by decide +kernel)
theorem t_437 : Cond.selects RX12 yX12_led yX12_led ∈ gT := tm (List.mem_of_getElem? (i := 1414) (by decide +kernel)) (by decide +kernel)
theorem t_438 : Cond.code yX11_claim cX11_claim 7 (some .int) ∈ gT := tm (List.mem_of_getElem? (i := 709) (by decide +kernel)) (by decide +kernel)
theorem t_439 : Cond.methodLink RL 69 yX11_claim ∈ gT := tm (List.mem_of_getElem? (i := 706) (by decide +kernel)) (by decide +kernel)
theorem t_440 : Cond.instanceMethod yX11_claim ∈ gT := tm (List.mem_of_getElem? (i := 707) (by decide +kernel)) (by decide +kernel)
theorem t_441 : Cond.selects RX11 yX11_claim yX11_claim ∈ gT := tm (List.mem_of_getElem? (i := 708) (by decide +kernel)) (by decide +kernel)
theorem t_442 : Cond.code yX12_claim cX12_claim 7 (some .int) ∈ gT := tm (List.mem_of_getElem? (i := 1419) (by decide +kernel)) (by decide +kernel)
theorem t_443 : Cond.methodLink RL 72 yX12_claim ∈ gT := tm (List.mem_of_getElem? (i := 1416) (by decide +kernel)) (by decide +kernel)
theorem t_444 : Cond.instanceMethod yX12_claim ∈ gT := tm (List.mem_of_getElem? (i := 1417) (by decide +kernel)) (by decide +kernel)
theorem t_445 : Cond.selects RX12 yX12_claim yX12_claim ∈ gT := tm (List.mem_of_getElem? (i := 1418) (by decide +kernel)) (by decide +kernel)
theorem t_446 : Cond.code yX11_agree cX11_agree 3 (some .boolean) ∈ gT := tm (List.mem_of_getElem? (i := 724) (by decide +kernel)) (by decide +kernel)
theorem t_447 : Cond.methodLink RL 73 yX11_agree ∈ gT := tm (List.mem_of_getElem? (i := 721) (by decide +kernel)) (by decide +kernel)
theorem t_448 : Cond.instanceMethod yX11_agree ∈ gT := tm (List.mem_of_getElem? (i := 722) (by decide +kernel)) (by decide +kernel)
theorem t_449 : Cond.selects RX11 yX11_agree yX11_agree ∈ gT := tm (List.mem_of_getElem? (i := 723) (by decide +kernel)) (by decide +kernel)
theorem t_450 : Cond.code yX12_agree cX12_agree 3 (some .boolean) ∈ gT := tm (List.mem_of_getElem? (i := 1426) (by decide +kernel)) (by decide +kernel)
theorem t_451 : Cond.methodLink RL 76 yX12_agree ∈ gT := tm (List.mem_of_getElem? (i := 1423) (by decide +kernel)) (by decide +kernel)
theorem t_452 : Cond.instanceMethod yX12_agree ∈ gT := tm (List.mem_of_getElem? (i := 1424) (by decide +kernel)) (by decide +kernel)
theorem t_453 : Cond.selects RX12 yX12_agree yX12_agree ∈ gT := tm (List.mem_of_getElem? (i := 1425) (by decide +kernel)) (by decide +kernel)
theorem t_454 : Cond.code yX11_answer cX11_answer 4 (some .boolean) ∈ gT := tm (List.mem_of_getElem? (i := 732) (by decide +kernel)) (by decide +kernel)
theorem t_455 : Cond.methodLink RL 77 yX11_answer ∈ gT := tm (List.mem_of_getElem? (i := 729) (by decide +kernel)) (by decide +kernel)
theorem t_456 : Cond.instanceMethod yX11_answer ∈ gT := tm (List.mem_of_getElem? (i := 730) (by decide +kernel)) (by decide +kernel)
theorem t_457 : Cond.selects RX11 yX11_answer yX11_answer ∈ gT := tm (List.mem_of_getElem? (i := 731) (by decide +kernel)) (by decide +kernel)
theorem t_458 : Cond.code yX12_answer cX12_answer 4 (some .boolean) ∈ gT := tm (List.mem_of_getElem? (i := 1434) (by decide +kernel)) (by decide +kernel)
theorem t_459 : Cond.methodLink RL 81 yX12_answer ∈ gT := tm (List.mem_of_getElem? (i := 1431) (by decide +kernel)) (by decide +kernel)
theorem t_460 : Cond.instanceMethod yX12_answer ∈ gT := tm (List.mem_of_getElem? (i := 1432) (by decide +kernel)) (by decide +kernel)
theorem t_461 : Cond.selects RX12 yX12_answer yX12_answer ∈ gT := tm (List.mem_of_getElem? (i := 1433) (by decide +kernel)) (by decide +kernel)
theorem t_462 : Cond.code yX11_award cX11_award 8 (some .int) ∈ gT := tm (List.mem_of_getElem? (i := 736) (by decide +kernel)) (by decide +kernel)
theorem t_463 : Cond.methodLink RL 82 yX11_award ∈ gT := tm (List.mem_of_getElem? (i := 733) (by decide +kernel)) (by decide +kernel)
theorem t_464 : Cond.instanceMethod yX11_award ∈ gT := tm (List.mem_of_getElem? (i := 734) (by decide +kernel)) (by decide +kernel)
theorem t_465 : Cond.selects RX11 yX11_award yX11_award ∈ gT := tm (List.mem_of_getElem? (i := 735) (by decide +kernel)) (by decide +kernel)
theorem t_466 : Cond.code yX12_award cX12_award 5 (some .int) ∈ gT := tm (List.mem_of_getElem? (i := 1438) (by decide +kernel)) (by decide +kernel)
theorem t_467 : Cond.methodLink RL 85 yX12_award ∈ gT := tm (List.mem_of_getElem? (i := 1435) (by decide +kernel)) (by decide +kernel)
theorem t_468 : Cond.instanceMethod yX12_award ∈ gT := tm (List.mem_of_getElem? (i := 1436) (by decide +kernel)) (by decide +kernel)
theorem t_469 : Cond.selects RX12 yX12_award yX12_award ∈ gT := tm (List.mem_of_getElem? (i := 1437) (by decide +kernel)) (by decide +kernel)
theorem t_470 : Cond.code yX11_judged cX11_judged 5 (some .int) ∈ gT := tm (List.mem_of_getElem? (i := 756) (by decide +kernel)) (by decide +kernel)
theorem t_471 : Cond.methodLink RL 86 yX11_judged ∈ gT := tm (List.mem_of_getElem? (i := 753) (by decide +kernel)) (by decide +kernel)
theorem t_472 : Cond.instanceMethod yX11_judged ∈ gT := tm (List.mem_of_getElem? (i := 754) (by decide +kernel)) (by decide +kernel)
theorem t_473 : Cond.selects RX11 yX11_judged yX11_judged ∈ gT := tm (List.mem_of_getElem? (i := 755) (by decide +kernel)) (by decide +kernel)
theorem t_474 : Cond.code yX12_judged cX12_judged 4 (some .int) ∈ gT := tm (List.mem_of_getElem? (i := 1466) (by decide +kernel)) (by decide +kernel)
theorem t_475 : Cond.methodLink RL 89 yX12_judged ∈ gT := tm (List.mem_of_getElem? (i := 1463) (by decide +kernel)) (by decide +kernel)
theorem t_476 : Cond.instanceMethod yX12_judged ∈ gT := tm (List.mem_of_getElem? (i := 1464) (by decide +kernel)) (by decide +kernel)
theorem t_477 : Cond.selects RX12 yX12_judged yX12_judged ∈ gT := tm (List.mem_of_getElem? (i := 1465) (by decide +kernel)) (by decide +kernel)
theorem t_478 : Cond.code yX11_offer cX11_offer 4 (some .int) ∈ gT := tm (List.mem_of_getElem? (i := 790) (by decide +kernel)) (by decide +kernel)
theorem t_479 : Cond.methodLink RL 90 yX11_offer ∈ gT := tm (List.mem_of_getElem? (i := 787) (by decide +kernel)) (by decide +kernel)
theorem t_480 : Cond.instanceMethod yX11_offer ∈ gT := tm (List.mem_of_getElem? (i := 788) (by decide +kernel)) (by decide +kernel)
theorem t_481 : Cond.selects RX11 yX11_offer yX11_offer ∈ gT := tm (List.mem_of_getElem? (i := 789) (by decide +kernel)) (by decide +kernel)
theorem t_482 : Cond.code yX12_offer cX12_offer 4 (some .int) ∈ gT := tm (List.mem_of_getElem? (i := 1491) (by decide +kernel)) (by decide +kernel)
theorem t_483 : Cond.methodLink RL 94 yX12_offer ∈ gT := tm (List.mem_of_getElem? (i := 1488) (by decide +kernel)) (by decide +kernel)
theorem t_484 : Cond.instanceMethod yX12_offer ∈ gT := tm (List.mem_of_getElem? (i := 1489) (by decide +kernel)) (by decide +kernel)
theorem t_485 : Cond.selects RX12 yX12_offer yX12_offer ∈ gT := tm (List.mem_of_getElem? (i := 1490) (by decide +kernel)) (by decide +kernel)
theorem t_486 : Cond.code yX11_met cX11_met 4 (some .int) ∈ gT := tm (List.mem_of_getElem? (i := 798) (by decide +kernel)) (by decide +kernel)
theorem t_487 : Cond.methodLink RL 95 yX11_met ∈ gT := tm (List.mem_of_getElem? (i := 795) (by decide +kernel)) (by decide +kernel)
theorem t_488 : Cond.instanceMethod yX11_met ∈ gT := tm (List.mem_of_getElem? (i := 796) (by decide +kernel)) (by decide +kernel)
theorem t_489 : Cond.selects RX11 yX11_met yX11_met ∈ gT := tm (List.mem_of_getElem? (i := 797) (by decide +kernel)) (by decide +kernel)
theorem t_490 : Cond.code yX12_met cX12_met 2 (some .int) ∈ gT := tm (List.mem_of_getElem? (i := 1495) (by decide +kernel)) (by decide +kernel)
theorem t_491 : Cond.methodLink RL 98 yX12_met ∈ gT := tm (List.mem_of_getElem? (i := 1492) (by decide +kernel)) (by decide +kernel)
theorem t_492 : Cond.instanceMethod yX12_met ∈ gT := tm (List.mem_of_getElem? (i := 1493) (by decide +kernel)) (by decide +kernel)
theorem t_493 : Cond.selects RX12 yX12_met yX12_met ∈ gT := tm (List.mem_of_getElem? (i := 1494) (by decide +kernel)) (by decide +kernel)
theorem t_494 : Cond.code yX11_kin cX11_kin 5 (some .boolean) ∈ gT := tm (List.mem_of_getElem? (i := 806) (by decide +kernel)) (by decide +kernel)
theorem t_495 : Cond.methodLink RL 99 yX11_kin ∈ gT := tm (List.mem_of_getElem? (i := 803) (by decide +kernel)) (by decide +kernel)
theorem t_496 : Cond.instanceMethod yX11_kin ∈ gT := tm (List.mem_of_getElem? (i := 804) (by decide +kernel)) (by decide +kernel)
theorem t_497 : Cond.selects RX11 yX11_kin yX11_kin ∈ gT := tm (List.mem_of_getElem? (i := 805) (by decide +kernel)) (by decide +kernel)
theorem t_498 : Cond.code yX12_kin cX12_kin 4 (some .boolean) ∈ gT := tm (List.mem_of_getElem? (i := 1499) (by decide +kernel)) (by decide +kernel)
theorem t_499 : Cond.methodLink RL 102 yX12_kin ∈ gT := tm (List.mem_of_getElem? (i := 1496) (by decide +kernel)) (by decide +kernel)
theorem t_500 : Cond.instanceMethod yX12_kin ∈ gT := tm (List.mem_of_getElem? (i := 1497) (by decide +kernel)) (by decide +kernel)
theorem t_501 : Cond.selects RX12 yX12_kin yX12_kin ∈ gT := tm (List.mem_of_getElem? (i := 1498) (by decide +kernel)) (by decide +kernel)
theorem t_502 : Cond.code yX11_seed cX11_seed 2 (some .boolean) ∈ gT := tm (List.mem_of_getElem? (i := 810) (by decide +kernel)) (by decide +kernel)
theorem t_503 : Cond.methodLink RL 103 yX11_seed ∈ gT := tm (List.mem_of_getElem? (i := 807) (by decide +kernel)) (by decide +kernel)
theorem t_504 : Cond.instanceMethod yX11_seed ∈ gT := tm (List.mem_of_getElem? (i := 808) (by decide +kernel)) (by decide +kernel)
theorem t_505 : Cond.selects RX11 yX11_seed yX11_seed ∈ gT := tm (List.mem_of_getElem? (i := 809) (by decide +kernel)) (by decide +kernel)
theorem t_506 : Cond.code yX12_seed cX12_seed 2 (some .boolean) ∈ gT := tm (List.mem_of_getElem? (i := 1506) (by decide +kernel)) (by decide +kernel)
theorem t_507 : Cond.methodLink RL 107 yX12_seed ∈ gT := tm (List.mem_of_getElem? (i := 1503) (by decide +kernel)) (by decide +kernel)
theorem t_508 : Cond.instanceMethod yX12_seed ∈ gT := tm (List.mem_of_getElem? (i := 1504) (by decide +kernel)) (by decide +kernel)
theorem t_509 : Cond.selects RX12 yX12_seed yX12_seed ∈ gT := tm (List.mem_of_getElem? (i := 1505) (by decide +kernel)) (by decide +kernel)
theorem t_510 : Cond.code yX11_draw cX11_draw 5 (some .int) ∈ gT := tm (List.mem_of_getElem? (i := 815) (by decide +kernel)) (by decide +kernel)
theorem t_511 : Cond.methodLink RL 108 yX11_draw ∈ gT := tm (List.mem_of_getElem? (i := 812) (by decide +kernel)) (by decide +kernel)
theorem t_512 : Cond.instanceMethod yX11_draw ∈ gT := tm (List.mem_of_getElem? (i := 813) (by decide +kernel)) (by decide +kernel)
theorem t_513 : Cond.selects RX11 yX11_draw yX11_draw ∈ gT := tm (List.mem_of_getElem? (i := 814) (by decide +kernel)) (by decide +kernel)
theorem t_514 : Cond.code yX12_draw cX12_draw 4 (some .int) ∈ gT := tm (List.mem_of_getElem? (i := 1511) (by decide +kernel)) (by decide +kernel)
theorem t_515 : Cond.methodLink RL 111 yX12_draw ∈ gT := tm (List.mem_of_getElem? (i := 1508) (by decide +kernel)) (by decide +kernel)
theorem t_516 : Cond.instanceMethod yX12_draw ∈ gT := tm (List.mem_of_getElem? (i := 1509) (by decide +kernel)) (by decide +kernel)
theorem t_517 : Cond.selects RX12 yX12_draw yX12_draw ∈ gT := tm (List.mem_of_getElem? (i := 1510) (by decide +kernel)) (by decide +kernel)
theorem t_518 : Cond.code yX11_twice cX11_twice 5 (some .int) ∈ gT := tm (List.mem_of_getElem? (i := 824) (by decide +kernel)) (by decide +kernel)
theorem t_519 : Cond.methodLink RL 112 yX11_twice ∈ gT := tm (List.mem_of_getElem? (i := 821) (by decide +kernel)) (by decide +kernel)
theorem t_520 : Cond.instanceMethod yX11_twice ∈ gT := tm (List.mem_of_getElem? (i := 822) (by decide +kernel)) (by decide +kernel)
theorem t_521 : Cond.selects RX11 yX11_twice yX11_twice ∈ gT := tm (List.mem_of_getElem? (i := 823) (by decide +kernel)) (by decide +kernel)
theorem t_522 : Cond.code yX12_twice cX12_twice 5 (some .int) ∈ gT := tm (List.mem_of_getElem? (i := 1516) (by decide +kernel)) (by decide +kernel)
theorem t_523 : Cond.methodLink RL 115 yX12_twice ∈ gT := tm (List.mem_of_getElem? (i := 1513) (by decide +kernel)) (by decide +kernel)
theorem t_524 : Cond.instanceMethod yX12_twice ∈ gT := tm (List.mem_of_getElem? (i := 1514) (by decide +kernel)) (by decide +kernel)
theorem t_525 : Cond.selects RX12 yX12_twice yX12_twice ∈ gT := tm (List.mem_of_getElem? (i := 1515) (by decide +kernel)) (by decide +kernel)
theorem t_526 : Cond.code yX11_spread cX11_spread 6 (some .int) ∈ gT := tm (List.mem_of_getElem? (i := 835) (by decide +kernel)) (by decide +kernel)
theorem t_527 : Cond.methodLink RL 116 yX11_spread ∈ gT := tm (List.mem_of_getElem? (i := 832) (by decide +kernel)) (by decide +kernel)
theorem t_528 : Cond.instanceMethod yX11_spread ∈ gT := tm (List.mem_of_getElem? (i := 833) (by decide +kernel)) (by decide +kernel)
theorem t_529 : Cond.selects RX11 yX11_spread yX11_spread ∈ gT := tm (List.mem_of_getElem? (i := 834) (by decide +kernel)) (by decide +kernel)
theorem t_530 : Cond.code yX12_spread cX12_spread 8 (some .int) ∈ gT := tm (List.mem_of_getElem? (i := 1520) (by decide +kernel)) (by decide +kernel)
theorem t_531 : Cond.methodLink RL 119 yX12_spread ∈ gT := tm (List.mem_of_getElem? (i := 1517) (by decide +kernel)) (by decide +kernel)
theorem t_532 : Cond.instanceMethod yX12_spread ∈ gT := tm (List.mem_of_getElem? (i := 1518) (by decide +kernel)) (by decide +kernel)
theorem t_533 : Cond.selects RX12 yX12_spread yX12_spread ∈ gT := tm (List.mem_of_getElem? (i := 1519) (by decide +kernel)) (by decide +kernel)
theorem t_534 : Cond.code yX11_like cX11_like 9 (some .int) ∈ gT := tm (List.mem_of_getElem? (i := 844) (by decide +kernel)) (by decide +kernel)
theorem t_535 : Cond.methodLink RL 120 yX11_like ∈ gT := tm (List.mem_of_getElem? (i := 841) (by decide +kernel)) (by decide +kernel)
theorem t_536 : Cond.instanceMethod yX11_like ∈ gT := tm (List.mem_of_getElem? (i := 842) (by decide +kernel)) (by decide +kernel)
theorem t_537 : Cond.selects RX11 yX11_like yX11_like ∈ gT := tm (List.mem_of_getElem? (i := 843) (by decide +kernel)) (by decide +kernel)
theorem t_538 : Cond.code yX12_like cX12_like 5 (some .int) ∈ gT := tm (List.mem_of_getElem? (i := 1531) (by decide +kernel)) (by decide +kernel)
theorem t_539 : Cond.methodLink RL 123 yX12_like ∈ gT := tm (List.mem_of_getElem? (i := 1528) (by decide +kernel)) (by decide +kernel)
theorem t_540 : Cond.instanceMethod yX12_like ∈ gT := tm (List.mem_of_getElem? (i := 1529) (by decide +kernel)) (by decide +kernel)
theorem t_541 : Cond.selects RX12 yX12_like yX12_like ∈ gT := tm (List.mem_of_getElem? (i := 1530) (by decide +kernel)) (by decide +kernel)
theorem t_542 : Cond.code yX11_fact cX11_fact 4 (some .int) ∈ gT := tm (List.mem_of_getElem? (i := 855) (by decide +kernel)) (by decide +kernel)
theorem t_543 : Cond.methodLink RL 124 yX11_fact ∈ gT := tm (List.mem_of_getElem? (i := 852) (by decide +kernel)) (by decide +kernel)
theorem t_544 : Cond.instanceMethod yX11_fact ∈ gT := tm (List.mem_of_getElem? (i := 853) (by decide +kernel)) (by decide +kernel)
theorem t_545 : Cond.selects RX11 yX11_fact yX11_fact ∈ gT := tm (List.mem_of_getElem? (i := 854) (by decide +kernel)) (by decide +kernel)
theorem t_546 : Cond.code yX12_fact cX12_fact 4 (some .int) ∈ gT := tm (List.mem_of_getElem? (i := 1543) (by decide +kernel)) (by decide +kernel)
theorem t_547 : Cond.methodLink RL 127 yX12_fact ∈ gT := tm (List.mem_of_getElem? (i := 1540) (by decide +kernel)) (by decide +kernel)
theorem t_548 : Cond.instanceMethod yX12_fact ∈ gT := tm (List.mem_of_getElem? (i := 1541) (by decide +kernel)) (by decide +kernel)
theorem t_549 : Cond.selects RX12 yX12_fact yX12_fact ∈ gT := tm (List.mem_of_getElem? (i := 1542) (by decide +kernel)) (by decide +kernel)
theorem t_550 : Cond.code yX11_dated cX11_dated 4 (some .int) ∈ gT := tm (List.mem_of_getElem? (i := 872) (by decide +kernel)) (by decide +kernel)
theorem t_551 : Cond.methodLink RL 128 yX11_dated ∈ gT := tm (List.mem_of_getElem? (i := 869) (by decide +kernel)) (by decide +kernel)
theorem t_552 : Cond.instanceMethod yX11_dated ∈ gT := tm (List.mem_of_getElem? (i := 870) (by decide +kernel)) (by decide +kernel)
theorem t_553 : Cond.selects RX11 yX11_dated yX11_dated ∈ gT := tm (List.mem_of_getElem? (i := 871) (by decide +kernel)) (by decide +kernel)
theorem t_554 : Cond.code yX12_dated cX12_dated 4 (some .int) ∈ gT := tm (List.mem_of_getElem? (i := 1547) (by decide +kernel)) (by decide +kernel)
theorem t_555 : Cond.methodLink RL 131 yX12_dated ∈ gT := tm (List.mem_of_getElem? (i := 1544) (by decide +kernel)) (by decide +kernel)
theorem t_556 : Cond.instanceMethod yX12_dated ∈ gT := tm (List.mem_of_getElem? (i := 1545) (by decide +kernel)) (by decide +kernel)
theorem t_557 : Cond.selects RX12 yX12_dated yX12_dated ∈ gT := tm (List.mem_of_getElem? (i := 1546) (by decide +kernel)) (by decide +kernel)
theorem t_558 : Cond.code yX11_wrong cX11_wrong 2 (some .int) ∈ gT := tm (List.mem_of_getElem? (i := 878) (by decide +kernel)) (by decide +kernel)
theorem t_559 : Cond.methodLink RL 132 yX11_wrong ∈ gT := tm (List.mem_of_getElem? (i := 875) (by decide +kernel)) (by decide +kernel)
theorem t_560 : Cond.instanceMethod yX11_wrong ∈ gT := tm (List.mem_of_getElem? (i := 876) (by decide +kernel)) (by decide +kernel)
theorem t_561 : Cond.selects RX11 yX11_wrong yX11_wrong ∈ gT := tm (List.mem_of_getElem? (i := 877) (by decide +kernel)) (by decide +kernel)
theorem t_562 : Cond.code yX12_wrong cX12_wrong 4 (some .int) ∈ gT := tm (List.mem_of_getElem? (i := 1564) (by decide +kernel)) (by decide +kernel)
theorem t_563 : Cond.methodLink RL 135 yX12_wrong ∈ gT := tm (List.mem_of_getElem? (i := 1561) (by decide +kernel)) (by decide +kernel)
theorem t_564 : Cond.instanceMethod yX12_wrong ∈ gT := tm (List.mem_of_getElem? (i := 1562) (by decide +kernel)) (by decide +kernel)
theorem t_565 : Cond.selects RX12 yX12_wrong yX12_wrong ∈ gT := tm (List.mem_of_getElem? (i := 1563) (by decide +kernel)) (by decide +kernel)
theorem t_566 : Cond.code yX11_byKind cX11_byKind 6 (some .int) ∈ gT := tm (List.mem_of_getElem? (i := 882) (by decide +kernel)) (by decide +kernel)
theorem t_567 : Cond.methodLink RL 136 yX11_byKind ∈ gT := tm (List.mem_of_getElem? (i := 879) (by decide +kernel)) (by decide +kernel)
theorem t_568 : Cond.instanceMethod yX11_byKind ∈ gT := tm (List.mem_of_getElem? (i := 880) (by decide +kernel)) (by decide +kernel)
theorem t_569 : Cond.selects RX11 yX11_byKind yX11_byKind ∈ gT := tm (List.mem_of_getElem? (i := 881) (by decide +kernel)) (by decide +kernel)
theorem t_570 : Cond.code yX12_byKind cX12_byKind 5 (some .int) ∈ gT := tm (List.mem_of_getElem? (i := 1568) (by decide +kernel)) (by decide +kernel)
theorem t_571 : Cond.methodLink RL 139 yX12_byKind ∈ gT := tm (List.mem_of_getElem? (i := 1565) (by decide +kernel)) (by decide +kernel)
theorem t_572 : Cond.instanceMethod yX12_byKind ∈ gT := tm (List.mem_of_getElem? (i := 1566) (by decide +kernel)) (by decide +kernel)
theorem t_573 : Cond.selects RX12 yX12_byKind yX12_byKind ∈ gT := tm (List.mem_of_getElem? (i := 1567) (by decide +kernel)) (by decide +kernel)
theorem t_574 : Cond.code yX11_keep cX11_keep 1 (some .int) ∈ gT := tm (List.mem_of_getElem? (i := 886) (by decide +kernel)) (by decide +kernel)
theorem t_575 : Cond.methodLink RL 140 yX11_keep ∈ gT := tm (List.mem_of_getElem? (i := 883) (by decide +kernel)) (by decide +kernel)
theorem t_576 : Cond.instanceMethod yX11_keep ∈ gT := tm (List.mem_of_getElem? (i := 884) (by decide +kernel)) (by decide +kernel)
theorem t_577 : Cond.selects RX11 yX11_keep yX11_keep ∈ gT := tm (List.mem_of_getElem? (i := 885) (by decide +kernel)) (by decide +kernel)
theorem t_578 : Cond.code yX12_keep cX12_keep 2 (some .int) ∈ gT := tm (List.mem_of_getElem? (i := 1572) (by decide +kernel)) (by decide +kernel)
theorem t_579 : Cond.methodLink RL 144 yX12_keep ∈ gT := tm (List.mem_of_getElem? (i := 1569) (by decide +kernel)) (by decide +kernel)
theorem t_580 : Cond.instanceMethod yX12_keep ∈ gT := tm (List.mem_of_getElem? (i := 1570) (by decide +kernel)) (by decide +kernel)
theorem t_581 : Cond.selects RX12 yX12_keep yX12_keep ∈ gT := tm (List.mem_of_getElem? (i := 1571) (by decide +kernel)) (by decide +kernel)
theorem t_582 : Cond.code yX11_undo cX11_undo 1 (some .boolean) ∈ gT := tm (List.mem_of_getElem? (i := 894) (by decide +kernel)) (by decide +kernel)
theorem t_583 : Cond.methodLink RL 145 yX11_undo ∈ gT := tm (List.mem_of_getElem? (i := 891) (by decide +kernel)) (by decide +kernel)
theorem t_584 : Cond.instanceMethod yX11_undo ∈ gT := tm (List.mem_of_getElem? (i := 892) (by decide +kernel)) (by decide +kernel)
theorem t_585 : Cond.selects RX11 yX11_undo yX11_undo ∈ gT := tm (List.mem_of_getElem? (i := 893) (by decide +kernel)) (by decide +kernel)
theorem t_586 : Cond.code yX12_undo cX12_undo 2 (some .boolean) ∈ gT := tm (List.mem_of_getElem? (i := 1579) (by decide +kernel)) (by decide +kernel)
theorem t_587 : Cond.methodLink RL 149 yX12_undo ∈ gT := tm (List.mem_of_getElem? (i := 1576) (by decide +kernel)) (by decide +kernel)
theorem t_588 : Cond.instanceMethod yX12_undo ∈ gT := tm (List.mem_of_getElem? (i := 1577) (by decide +kernel)) (by decide +kernel)
theorem t_589 : Cond.selects RX12 yX12_undo yX12_undo ∈ gT := tm (List.mem_of_getElem? (i := 1578) (by decide +kernel)) (by decide +kernel)
theorem t_590 : Cond.code yX11_check cX11_check 6 (some .int) ∈ gT := tm (List.mem_of_getElem? (i := 898) (by decide +kernel)) (by decide +kernel)
theorem t_591 : Cond.methodLink RL 150 yX11_check ∈ gT := tm (List.mem_of_getElem? (i := 895) (by decide +kernel)) (by decide +kernel)
theorem t_592 : Cond.instanceMethod yX11_check ∈ gT := tm (List.mem_of_getElem? (i := 896) (by decide +kernel)) (by decide +kernel)
theorem t_593 : Cond.selects RX11 yX11_check yX11_check ∈ gT := tm (List.mem_of_getElem? (i := 897) (by decide +kernel)) (by decide +kernel)
theorem t_594 : Cond.code yX12_check cX12_check 5 (some .int) ∈ gT := tm (List.mem_of_getElem? (i := 1583) (by decide +kernel)) (by decide +kernel)
theorem t_595 : Cond.methodLink RL 153 yX12_check ∈ gT := tm (List.mem_of_getElem? (i := 1580) (by decide +kernel)) (by decide +kernel)
theorem t_596 : Cond.instanceMethod yX12_check ∈ gT := tm (List.mem_of_getElem? (i := 1581) (by decide +kernel)) (by decide +kernel)
theorem t_597 : Cond.selects RX12 yX12_check yX12_check ∈ gT := tm (List.mem_of_getElem? (i := 1582) (by decide +kernel)) (by decide +kernel)
theorem t_598 : Cond.code yX11_count cX11_count 3 (some .int) ∈ gT := tm (List.mem_of_getElem? (i := 910) (by decide +kernel)) (by decide +kernel)
theorem t_599 : Cond.methodLink RL 154 yX11_count ∈ gT := tm (List.mem_of_getElem? (i := 907) (by decide +kernel)) (by decide +kernel)
theorem t_600 : Cond.instanceMethod yX11_count ∈ gT := tm (List.mem_of_getElem? (i := 908) (by decide +kernel)) (by decide +kernel)
theorem t_601 : Cond.selects RX11 yX11_count yX11_count ∈ gT := tm (List.mem_of_getElem? (i := 909) (by decide +kernel)) (by decide +kernel)
theorem t_602 : Cond.code yX12_count cX12_count 2 (some .int) ∈ gT := tm (List.mem_of_getElem? (i := 1591) (by decide +kernel)) (by decide +kernel)
theorem t_603 : Cond.methodLink RL 157 yX12_count ∈ gT := tm (List.mem_of_getElem? (i := 1588) (by decide +kernel)) (by decide +kernel)
theorem t_604 : Cond.instanceMethod yX12_count ∈ gT := tm (List.mem_of_getElem? (i := 1589) (by decide +kernel)) (by decide +kernel)
theorem t_605 : Cond.selects RX12 yX12_count yX12_count ∈ gT := tm (List.mem_of_getElem? (i := 1590) (by decide +kernel)) (by decide +kernel)
theorem dL_law_18 : decode cL_law 18 = .ok (.iload_n 3, 1) := by decide +kernel
theorem dL_law_19 : decode cL_law 19 = .ok (.aload_n 0, 1) := by decide +kernel
theorem dL_law_20 : decode cL_law 20 = .ok (.arraylength, 1) := by decide +kernel
theorem dL_law_21 : decode cL_law 21 = .ok (.bipush 7, 2) := by decide +kernel
theorem dL_law_23 : decode cL_law 23 = .ok (.isub, 1) := by decide +kernel
theorem dL_law_24 : decode cL_law 24 = .ok (.if_icmp .gt 1507, 3) := by decide +kernel
theorem dL_law_180 : decode cL_law 180 = .ok (.aload_n 1, 1) := by decide +kernel
theorem dL_law_181 : decode cL_law 181 = .ok (.aload_n 0, 1) := by decide +kernel
theorem dL_law_182 : decode cL_law 182 = .ok (.iload_n 3, 1) := by decide +kernel
theorem dL_law_183 : decode cL_law 183 = .ok (.iconst 1, 1) := by decide +kernel
theorem dL_law_184 : decode cL_law 184 = .ok (.iadd, 1) := by decide +kernel
theorem dL_law_185 : decode cL_law 185 = .ok (.iaload, 1) := by decide +kernel
theorem dL_law_186 : decode cL_law 186 = .ok (.aload_n 0, 1) := by decide +kernel
theorem dL_law_187 : decode cL_law 187 = .ok (.iload_n 3, 1) := by decide +kernel
theorem dL_law_188 : decode cL_law 188 = .ok (.iconst 2, 1) := by decide +kernel
theorem dL_law_189 : decode cL_law 189 = .ok (.iadd, 1) := by decide +kernel
theorem dL_law_190 : decode cL_law 190 = .ok (.iaload, 1) := by decide +kernel
theorem dL_law_191 : decode cL_law 191 = .ok (.invokevirtual 13, 3) := by decide +kernel
theorem dL_law_194 : decode cL_law 194 = .ok (.aload_n 2, 1) := by decide +kernel
theorem dL_law_195 : decode cL_law 195 = .ok (.aload_n 0, 1) := by decide +kernel
theorem dL_law_196 : decode cL_law 196 = .ok (.iload_n 3, 1) := by decide +kernel
theorem dL_law_197 : decode cL_law 197 = .ok (.iconst 1, 1) := by decide +kernel
theorem dL_law_198 : decode cL_law 198 = .ok (.iadd, 1) := by decide +kernel
theorem dL_law_199 : decode cL_law 199 = .ok (.iaload, 1) := by decide +kernel
theorem dL_law_200 : decode cL_law 200 = .ok (.aload_n 0, 1) := by decide +kernel
theorem dL_law_201 : decode cL_law 201 = .ok (.iload_n 3, 1) := by decide +kernel
theorem dL_law_202 : decode cL_law 202 = .ok (.iconst 2, 1) := by decide +kernel
theorem dL_law_203 : decode cL_law 203 = .ok (.iadd, 1) := by decide +kernel
theorem dL_law_204 : decode cL_law 204 = .ok (.iaload, 1) := by decide +kernel
theorem dL_law_205 : decode cL_law 205 = .ok (.invokevirtual 17, 3) := by decide +kernel
theorem dL_law_208 : decode cL_law 208 = .ok (.if_icmp .eq 1317, 3) := by decide +kernel
theorem dL_law_213 : decode cL_law 213 = .ok (.aload_n 1, 1) := by decide +kernel
theorem dL_law_214 : decode cL_law 214 = .ok (.aload_n 0, 1) := by decide +kernel
theorem dL_law_215 : decode cL_law 215 = .ok (.iload_n 3, 1) := by decide +kernel
theorem dL_law_216 : decode cL_law 216 = .ok (.iconst 1, 1) := by decide +kernel
theorem dL_law_217 : decode cL_law 217 = .ok (.iadd, 1) := by decide +kernel
theorem dL_law_218 : decode cL_law 218 = .ok (.iaload, 1) := by decide +kernel
theorem dL_law_219 : decode cL_law 219 = .ok (.aload_n 0, 1) := by decide +kernel
theorem dL_law_220 : decode cL_law 220 = .ok (.iload_n 3, 1) := by decide +kernel
theorem dL_law_221 : decode cL_law 221 = .ok (.iconst 2, 1) := by decide +kernel
theorem dL_law_222 : decode cL_law 222 = .ok (.iadd, 1) := by decide +kernel
theorem dL_law_223 : decode cL_law 223 = .ok (.iaload, 1) := by decide +kernel
theorem dL_law_224 : decode cL_law 224 = .ok (.aload_n 0, 1) := by decide +kernel
theorem dL_law_225 : decode cL_law 225 = .ok (.iload_n 3, 1) := by decide +kernel
theorem dL_law_226 : decode cL_law 226 = .ok (.iconst 3, 1) := by decide +kernel
theorem dL_law_227 : decode cL_law 227 = .ok (.iadd, 1) := by decide +kernel
theorem dL_law_228 : decode cL_law 228 = .ok (.iaload, 1) := by decide +kernel
theorem dL_law_229 : decode cL_law 229 = .ok (.invokevirtual 18, 3) := by decide +kernel
theorem dL_law_232 : decode cL_law 232 = .ok (.aload_n 2, 1) := by decide +kernel
theorem dL_law_233 : decode cL_law 233 = .ok (.aload_n 0, 1) := by decide +kernel
theorem dL_law_234 : decode cL_law 234 = .ok (.iload_n 3, 1) := by decide +kernel
theorem dL_law_235 : decode cL_law 235 = .ok (.iconst 1, 1) := by decide +kernel
theorem dL_law_236 : decode cL_law 236 = .ok (.iadd, 1) := by decide +kernel
theorem dL_law_237 : decode cL_law 237 = .ok (.iaload, 1) := by decide +kernel
theorem dL_law_238 : decode cL_law 238 = .ok (.aload_n 0, 1) := by decide +kernel
theorem dL_law_239 : decode cL_law 239 = .ok (.iload_n 3, 1) := by decide +kernel
theorem dL_law_240 : decode cL_law 240 = .ok (.iconst 2, 1) := by decide +kernel
theorem dL_law_241 : decode cL_law 241 = .ok (.iadd, 1) := by decide +kernel
theorem dL_law_242 : decode cL_law 242 = .ok (.iaload, 1) := by decide +kernel
theorem dL_law_243 : decode cL_law 243 = .ok (.aload_n 0, 1) := by decide +kernel
theorem dL_law_244 : decode cL_law 244 = .ok (.iload_n 3, 1) := by decide +kernel
theorem dL_law_245 : decode cL_law 245 = .ok (.iconst 3, 1) := by decide +kernel
theorem dL_law_246 : decode cL_law 246 = .ok (.iadd, 1) := by decide +kernel
theorem dL_law_247 : decode cL_law 247 = .ok (.iaload, 1) := by decide +kernel
theorem dL_law_248 : decode cL_law 248 = .ok (.invokevirtual 22, 3) := by decide +kernel
theorem dL_law_251 : decode cL_law 251 = .ok (.if_icmp .eq 1274, 3) := by decide +kernel
theorem dL_law_256 : decode cL_law 256 = .ok (.aload_n 1, 1) := by decide +kernel
theorem dL_law_257 : decode cL_law 257 = .ok (.aload_n 0, 1) := by decide +kernel
theorem dL_law_258 : decode cL_law 258 = .ok (.iload_n 3, 1) := by decide +kernel
theorem dL_law_259 : decode cL_law 259 = .ok (.iconst 1, 1) := by decide +kernel
theorem dL_law_260 : decode cL_law 260 = .ok (.iadd, 1) := by decide +kernel
theorem dL_law_261 : decode cL_law 261 = .ok (.iaload, 1) := by decide +kernel
theorem dL_law_262 : decode cL_law 262 = .ok (.aload_n 0, 1) := by decide +kernel
theorem dL_law_263 : decode cL_law 263 = .ok (.iload_n 3, 1) := by decide +kernel
theorem dL_law_264 : decode cL_law 264 = .ok (.iconst 2, 1) := by decide +kernel
theorem dL_law_265 : decode cL_law 265 = .ok (.iadd, 1) := by decide +kernel
theorem dL_law_266 : decode cL_law 266 = .ok (.iaload, 1) := by decide +kernel
theorem dL_law_267 : decode cL_law 267 = .ok (.aload_n 0, 1) := by decide +kernel
theorem dL_law_268 : decode cL_law 268 = .ok (.iload_n 3, 1) := by decide +kernel
theorem dL_law_269 : decode cL_law 269 = .ok (.iconst 3, 1) := by decide +kernel
theorem dL_law_270 : decode cL_law 270 = .ok (.iadd, 1) := by decide +kernel
theorem dL_law_271 : decode cL_law 271 = .ok (.iaload, 1) := by decide +kernel
theorem dL_law_272 : decode cL_law 272 = .ok (.aload_n 0, 1) := by decide +kernel
theorem dL_law_273 : decode cL_law 273 = .ok (.iload_n 3, 1) := by decide +kernel
theorem dL_law_274 : decode cL_law 274 = .ok (.iconst 4, 1) := by decide +kernel
theorem dL_law_275 : decode cL_law 275 = .ok (.iadd, 1) := by decide +kernel
theorem dL_law_276 : decode cL_law 276 = .ok (.iaload, 1) := by decide +kernel
theorem dL_law_277 : decode cL_law 277 = .ok (.aload_n 0, 1) := by decide +kernel
theorem dL_law_278 : decode cL_law 278 = .ok (.iload_n 3, 1) := by decide +kernel
theorem dL_law_279 : decode cL_law 279 = .ok (.iconst 5, 1) := by decide +kernel
theorem dL_law_280 : decode cL_law 280 = .ok (.iadd, 1) := by decide +kernel
theorem dL_law_281 : decode cL_law 281 = .ok (.iaload, 1) := by decide +kernel
theorem dL_law_282 : decode cL_law 282 = .ok (.aload_n 0, 1) := by decide +kernel
theorem dL_law_283 : decode cL_law 283 = .ok (.iload_n 3, 1) := by decide +kernel
theorem dL_law_284 : decode cL_law 284 = .ok (.bipush 6, 2) := by decide +kernel
theorem dL_law_286 : decode cL_law 286 = .ok (.iadd, 1) := by decide +kernel
theorem dL_law_287 : decode cL_law 287 = .ok (.iaload, 1) := by decide +kernel
theorem dL_law_288 : decode cL_law 288 = .ok (.ifCond .eq 7, 3) := by decide +kernel
theorem dL_law_291 : decode cL_law 291 = .ok (.iconst 1, 1) := by decide +kernel
theorem dL_law_292 : decode cL_law 292 = .ok (.goto 4, 3) := by decide +kernel
theorem dL_law_295 : decode cL_law 295 = .ok (.iconst 0, 1) := by decide +kernel
theorem dL_law_296 : decode cL_law 296 = .ok (.invokevirtual 23, 3) := by decide +kernel
theorem dL_law_299 : decode cL_law 299 = .ok (.aload_n 2, 1) := by decide +kernel
theorem dL_law_300 : decode cL_law 300 = .ok (.aload_n 0, 1) := by decide +kernel
theorem dL_law_301 : decode cL_law 301 = .ok (.iload_n 3, 1) := by decide +kernel
theorem dL_law_302 : decode cL_law 302 = .ok (.iconst 1, 1) := by decide +kernel
theorem dL_law_303 : decode cL_law 303 = .ok (.iadd, 1) := by decide +kernel
theorem dL_law_304 : decode cL_law 304 = .ok (.iaload, 1) := by decide +kernel
theorem dL_law_305 : decode cL_law 305 = .ok (.aload_n 0, 1) := by decide +kernel
theorem dL_law_306 : decode cL_law 306 = .ok (.iload_n 3, 1) := by decide +kernel
theorem dL_law_307 : decode cL_law 307 = .ok (.iconst 2, 1) := by decide +kernel
theorem dL_law_308 : decode cL_law 308 = .ok (.iadd, 1) := by decide +kernel
theorem dL_law_309 : decode cL_law 309 = .ok (.iaload, 1) := by decide +kernel
theorem dL_law_310 : decode cL_law 310 = .ok (.aload_n 0, 1) := by decide +kernel
theorem dL_law_311 : decode cL_law 311 = .ok (.iload_n 3, 1) := by decide +kernel
theorem dL_law_312 : decode cL_law 312 = .ok (.iconst 3, 1) := by decide +kernel
theorem dL_law_313 : decode cL_law 313 = .ok (.iadd, 1) := by decide +kernel
theorem dL_law_314 : decode cL_law 314 = .ok (.iaload, 1) := by decide +kernel
theorem dL_law_315 : decode cL_law 315 = .ok (.aload_n 0, 1) := by decide +kernel
theorem dL_law_316 : decode cL_law 316 = .ok (.iload_n 3, 1) := by decide +kernel
theorem dL_law_317 : decode cL_law 317 = .ok (.iconst 4, 1) := by decide +kernel
theorem dL_law_318 : decode cL_law 318 = .ok (.iadd, 1) := by decide +kernel
theorem dL_law_319 : decode cL_law 319 = .ok (.iaload, 1) := by decide +kernel
theorem dL_law_320 : decode cL_law 320 = .ok (.aload_n 0, 1) := by decide +kernel
theorem dL_law_321 : decode cL_law 321 = .ok (.iload_n 3, 1) := by decide +kernel
theorem dL_law_322 : decode cL_law 322 = .ok (.iconst 5, 1) := by decide +kernel
theorem dL_law_323 : decode cL_law 323 = .ok (.iadd, 1) := by decide +kernel
theorem dL_law_324 : decode cL_law 324 = .ok (.iaload, 1) := by decide +kernel
theorem dL_law_325 : decode cL_law 325 = .ok (.aload_n 0, 1) := by decide +kernel
theorem dL_law_326 : decode cL_law 326 = .ok (.iload_n 3, 1) := by decide +kernel
theorem dL_law_327 : decode cL_law 327 = .ok (.bipush 6, 2) := by decide +kernel
theorem dL_law_329 : decode cL_law 329 = .ok (.iadd, 1) := by decide +kernel
theorem dL_law_330 : decode cL_law 330 = .ok (.iaload, 1) := by decide +kernel
theorem dL_law_331 : decode cL_law 331 = .ok (.ifCond .eq 7, 3) := by decide +kernel
theorem dL_law_334 : decode cL_law 334 = .ok (.iconst 1, 1) := by decide +kernel
theorem dL_law_335 : decode cL_law 335 = .ok (.goto 4, 3) := by decide +kernel
theorem dL_law_338 : decode cL_law 338 = .ok (.iconst 0, 1) := by decide +kernel
theorem dL_law_339 : decode cL_law 339 = .ok (.invokevirtual 27, 3) := by decide +kernel
theorem dL_law_342 : decode cL_law 342 = .ok (.if_icmp .eq 1183, 3) := by decide +kernel
theorem dL_law_347 : decode cL_law 347 = .ok (.aload_n 1, 1) := by decide +kernel
theorem dL_law_348 : decode cL_law 348 = .ok (.aload_n 0, 1) := by decide +kernel
theorem dL_law_349 : decode cL_law 349 = .ok (.iload_n 3, 1) := by decide +kernel
theorem dL_law_350 : decode cL_law 350 = .ok (.iconst 1, 1) := by decide +kernel
theorem dL_law_351 : decode cL_law 351 = .ok (.iadd, 1) := by decide +kernel
theorem dL_law_352 : decode cL_law 352 = .ok (.iaload, 1) := by decide +kernel
theorem dL_law_353 : decode cL_law 353 = .ok (.aload_n 0, 1) := by decide +kernel
theorem dL_law_354 : decode cL_law 354 = .ok (.iload_n 3, 1) := by decide +kernel
theorem dL_law_355 : decode cL_law 355 = .ok (.iconst 2, 1) := by decide +kernel
theorem dL_law_356 : decode cL_law 356 = .ok (.iadd, 1) := by decide +kernel
theorem dL_law_357 : decode cL_law 357 = .ok (.iaload, 1) := by decide +kernel
theorem dL_law_358 : decode cL_law 358 = .ok (.aload_n 0, 1) := by decide +kernel
theorem dL_law_359 : decode cL_law 359 = .ok (.iload_n 3, 1) := by decide +kernel
theorem dL_law_360 : decode cL_law 360 = .ok (.iconst 3, 1) := by decide +kernel
theorem dL_law_361 : decode cL_law 361 = .ok (.iadd, 1) := by decide +kernel
theorem dL_law_362 : decode cL_law 362 = .ok (.iaload, 1) := by decide +kernel
theorem dL_law_363 : decode cL_law 363 = .ok (.invokevirtual 28, 3) := by decide +kernel
theorem dL_law_366 : decode cL_law 366 = .ok (.aload_n 2, 1) := by decide +kernel
theorem dL_law_367 : decode cL_law 367 = .ok (.aload_n 0, 1) := by decide +kernel
theorem dL_law_368 : decode cL_law 368 = .ok (.iload_n 3, 1) := by decide +kernel
theorem dL_law_369 : decode cL_law 369 = .ok (.iconst 1, 1) := by decide +kernel
theorem dL_law_370 : decode cL_law 370 = .ok (.iadd, 1) := by decide +kernel
theorem dL_law_371 : decode cL_law 371 = .ok (.iaload, 1) := by decide +kernel
theorem dL_law_372 : decode cL_law 372 = .ok (.aload_n 0, 1) := by decide +kernel
theorem dL_law_373 : decode cL_law 373 = .ok (.iload_n 3, 1) := by decide +kernel
theorem dL_law_374 : decode cL_law 374 = .ok (.iconst 2, 1) := by decide +kernel
theorem dL_law_375 : decode cL_law 375 = .ok (.iadd, 1) := by decide +kernel
theorem dL_law_376 : decode cL_law 376 = .ok (.iaload, 1) := by decide +kernel
theorem dL_law_377 : decode cL_law 377 = .ok (.aload_n 0, 1) := by decide +kernel
theorem dL_law_378 : decode cL_law 378 = .ok (.iload_n 3, 1) := by decide +kernel
theorem dL_law_379 : decode cL_law 379 = .ok (.iconst 3, 1) := by decide +kernel
theorem dL_law_380 : decode cL_law 380 = .ok (.iadd, 1) := by decide +kernel
theorem dL_law_381 : decode cL_law 381 = .ok (.iaload, 1) := by decide +kernel
theorem dL_law_382 : decode cL_law 382 = .ok (.invokevirtual 31, 3) := by decide +kernel
theorem dL_law_385 : decode cL_law 385 = .ok (.if_icmp .eq 1140, 3) := by decide +kernel
theorem dL_law_390 : decode cL_law 390 = .ok (.aload_n 1, 1) := by decide +kernel
theorem dL_law_391 : decode cL_law 391 = .ok (.aload_n 0, 1) := by decide +kernel
theorem dL_law_392 : decode cL_law 392 = .ok (.iload_n 3, 1) := by decide +kernel
theorem dL_law_393 : decode cL_law 393 = .ok (.iconst 1, 1) := by decide +kernel
theorem dL_law_394 : decode cL_law 394 = .ok (.iadd, 1) := by decide +kernel
theorem dL_law_395 : decode cL_law 395 = .ok (.iaload, 1) := by decide +kernel
theorem dL_law_396 : decode cL_law 396 = .ok (.aload_n 0, 1) := by decide +kernel
theorem dL_law_397 : decode cL_law 397 = .ok (.iload_n 3, 1) := by decide +kernel
theorem dL_law_398 : decode cL_law 398 = .ok (.iconst 2, 1) := by decide +kernel
theorem dL_law_399 : decode cL_law 399 = .ok (.iadd, 1) := by decide +kernel
theorem dL_law_400 : decode cL_law 400 = .ok (.iaload, 1) := by decide +kernel
theorem dL_law_401 : decode cL_law 401 = .ok (.aload_n 0, 1) := by decide +kernel
theorem dL_law_402 : decode cL_law 402 = .ok (.iload_n 3, 1) := by decide +kernel
theorem dL_law_403 : decode cL_law 403 = .ok (.iconst 3, 1) := by decide +kernel
theorem dL_law_404 : decode cL_law 404 = .ok (.iadd, 1) := by decide +kernel
theorem dL_law_405 : decode cL_law 405 = .ok (.iaload, 1) := by decide +kernel
theorem dL_law_406 : decode cL_law 406 = .ok (.invokevirtual 32, 3) := by decide +kernel
theorem dL_law_409 : decode cL_law 409 = .ok (.aload_n 2, 1) := by decide +kernel
theorem dL_law_410 : decode cL_law 410 = .ok (.aload_n 0, 1) := by decide +kernel
theorem dL_law_411 : decode cL_law 411 = .ok (.iload_n 3, 1) := by decide +kernel
theorem dL_law_412 : decode cL_law 412 = .ok (.iconst 1, 1) := by decide +kernel
theorem dL_law_413 : decode cL_law 413 = .ok (.iadd, 1) := by decide +kernel
theorem dL_law_414 : decode cL_law 414 = .ok (.iaload, 1) := by decide +kernel
theorem dL_law_415 : decode cL_law 415 = .ok (.aload_n 0, 1) := by decide +kernel
theorem dL_law_416 : decode cL_law 416 = .ok (.iload_n 3, 1) := by decide +kernel
theorem dL_law_417 : decode cL_law 417 = .ok (.iconst 2, 1) := by decide +kernel
theorem dL_law_418 : decode cL_law 418 = .ok (.iadd, 1) := by decide +kernel
theorem dL_law_419 : decode cL_law 419 = .ok (.iaload, 1) := by decide +kernel
theorem dL_law_420 : decode cL_law 420 = .ok (.aload_n 0, 1) := by decide +kernel
theorem dL_law_421 : decode cL_law 421 = .ok (.iload_n 3, 1) := by decide +kernel
theorem dL_law_422 : decode cL_law 422 = .ok (.iconst 3, 1) := by decide +kernel
theorem dL_law_423 : decode cL_law 423 = .ok (.iadd, 1) := by decide +kernel
theorem dL_law_424 : decode cL_law 424 = .ok (.iaload, 1) := by decide +kernel
theorem dL_law_425 : decode cL_law 425 = .ok (.invokevirtual 35, 3) := by decide +kernel
theorem dL_law_428 : decode cL_law 428 = .ok (.if_icmp .eq 1097, 3) := by decide +kernel
theorem dL_law_433 : decode cL_law 433 = .ok (.aload_n 1, 1) := by decide +kernel
theorem dL_law_434 : decode cL_law 434 = .ok (.aload_n 0, 1) := by decide +kernel
theorem dL_law_435 : decode cL_law 435 = .ok (.iload_n 3, 1) := by decide +kernel
theorem dL_law_436 : decode cL_law 436 = .ok (.iconst 1, 1) := by decide +kernel
theorem dL_law_437 : decode cL_law 437 = .ok (.iadd, 1) := by decide +kernel
theorem dL_law_438 : decode cL_law 438 = .ok (.iaload, 1) := by decide +kernel
theorem dL_law_439 : decode cL_law 439 = .ok (.aload_n 0, 1) := by decide +kernel
theorem dL_law_440 : decode cL_law 440 = .ok (.iload_n 3, 1) := by decide +kernel
theorem dL_law_441 : decode cL_law 441 = .ok (.iconst 2, 1) := by decide +kernel
theorem dL_law_442 : decode cL_law 442 = .ok (.iadd, 1) := by decide +kernel
theorem dL_law_443 : decode cL_law 443 = .ok (.iaload, 1) := by decide +kernel
theorem dL_law_444 : decode cL_law 444 = .ok (.aload_n 0, 1) := by decide +kernel
theorem dL_law_445 : decode cL_law 445 = .ok (.iload_n 3, 1) := by decide +kernel
theorem dL_law_446 : decode cL_law 446 = .ok (.iconst 3, 1) := by decide +kernel
theorem dL_law_447 : decode cL_law 447 = .ok (.iadd, 1) := by decide +kernel
theorem dL_law_448 : decode cL_law 448 = .ok (.iaload, 1) := by decide +kernel
theorem dL_law_449 : decode cL_law 449 = .ok (.aload_n 0, 1) := by decide +kernel
theorem dL_law_450 : decode cL_law 450 = .ok (.iload_n 3, 1) := by decide +kernel
theorem dL_law_451 : decode cL_law 451 = .ok (.iconst 4, 1) := by decide +kernel
theorem dL_law_452 : decode cL_law 452 = .ok (.iadd, 1) := by decide +kernel
theorem dL_law_453 : decode cL_law 453 = .ok (.iaload, 1) := by decide +kernel
theorem dL_law_454 : decode cL_law 454 = .ok (.aload_n 0, 1) := by decide +kernel
theorem dL_law_455 : decode cL_law 455 = .ok (.iload_n 3, 1) := by decide +kernel
theorem dL_law_456 : decode cL_law 456 = .ok (.iconst 5, 1) := by decide +kernel
theorem dL_law_457 : decode cL_law 457 = .ok (.iadd, 1) := by decide +kernel
theorem dL_law_458 : decode cL_law 458 = .ok (.iaload, 1) := by decide +kernel
theorem dL_law_459 : decode cL_law 459 = .ok (.invokevirtual 36, 3) := by decide +kernel
theorem dL_law_462 : decode cL_law 462 = .ok (.aload_n 2, 1) := by decide +kernel
theorem dL_law_463 : decode cL_law 463 = .ok (.aload_n 0, 1) := by decide +kernel
theorem dL_law_464 : decode cL_law 464 = .ok (.iload_n 3, 1) := by decide +kernel
theorem dL_law_465 : decode cL_law 465 = .ok (.iconst 1, 1) := by decide +kernel
theorem dL_law_466 : decode cL_law 466 = .ok (.iadd, 1) := by decide +kernel
theorem dL_law_467 : decode cL_law 467 = .ok (.iaload, 1) := by decide +kernel
theorem dL_law_468 : decode cL_law 468 = .ok (.aload_n 0, 1) := by decide +kernel
theorem dL_law_469 : decode cL_law 469 = .ok (.iload_n 3, 1) := by decide +kernel
theorem dL_law_470 : decode cL_law 470 = .ok (.iconst 2, 1) := by decide +kernel
theorem dL_law_471 : decode cL_law 471 = .ok (.iadd, 1) := by decide +kernel
theorem dL_law_472 : decode cL_law 472 = .ok (.iaload, 1) := by decide +kernel
theorem dL_law_473 : decode cL_law 473 = .ok (.aload_n 0, 1) := by decide +kernel
theorem dL_law_474 : decode cL_law 474 = .ok (.iload_n 3, 1) := by decide +kernel
theorem dL_law_475 : decode cL_law 475 = .ok (.iconst 3, 1) := by decide +kernel
theorem dL_law_476 : decode cL_law 476 = .ok (.iadd, 1) := by decide +kernel
theorem dL_law_477 : decode cL_law 477 = .ok (.iaload, 1) := by decide +kernel
theorem dL_law_478 : decode cL_law 478 = .ok (.aload_n 0, 1) := by decide +kernel
theorem dL_law_479 : decode cL_law 479 = .ok (.iload_n 3, 1) := by decide +kernel
theorem dL_law_480 : decode cL_law 480 = .ok (.iconst 4, 1) := by decide +kernel
theorem dL_law_481 : decode cL_law 481 = .ok (.iadd, 1) := by decide +kernel
theorem dL_law_482 : decode cL_law 482 = .ok (.iaload, 1) := by decide +kernel
theorem dL_law_483 : decode cL_law 483 = .ok (.aload_n 0, 1) := by decide +kernel
theorem dL_law_484 : decode cL_law 484 = .ok (.iload_n 3, 1) := by decide +kernel
theorem dL_law_485 : decode cL_law 485 = .ok (.iconst 5, 1) := by decide +kernel
theorem dL_law_486 : decode cL_law 486 = .ok (.iadd, 1) := by decide +kernel
theorem dL_law_487 : decode cL_law 487 = .ok (.iaload, 1) := by decide +kernel
theorem dL_law_488 : decode cL_law 488 = .ok (.invokevirtual 40, 3) := by decide +kernel
theorem dL_law_491 : decode cL_law 491 = .ok (.if_icmp .eq 1034, 3) := by decide +kernel
theorem dL_law_496 : decode cL_law 496 = .ok (.aload_n 1, 1) := by decide +kernel
theorem dL_law_497 : decode cL_law 497 = .ok (.aload_n 0, 1) := by decide +kernel
theorem dL_law_498 : decode cL_law 498 = .ok (.iload_n 3, 1) := by decide +kernel
theorem dL_law_499 : decode cL_law 499 = .ok (.iconst 1, 1) := by decide +kernel
theorem dL_law_500 : decode cL_law 500 = .ok (.iadd, 1) := by decide +kernel
theorem dL_law_501 : decode cL_law 501 = .ok (.iaload, 1) := by decide +kernel
theorem dL_law_502 : decode cL_law 502 = .ok (.aload_n 0, 1) := by decide +kernel
theorem dL_law_503 : decode cL_law 503 = .ok (.iload_n 3, 1) := by decide +kernel
theorem dL_law_504 : decode cL_law 504 = .ok (.iconst 2, 1) := by decide +kernel
theorem dL_law_505 : decode cL_law 505 = .ok (.iadd, 1) := by decide +kernel
theorem dL_law_506 : decode cL_law 506 = .ok (.iaload, 1) := by decide +kernel
theorem dL_law_507 : decode cL_law 507 = .ok (.aload_n 0, 1) := by decide +kernel
theorem dL_law_508 : decode cL_law 508 = .ok (.iload_n 3, 1) := by decide +kernel
theorem dL_law_509 : decode cL_law 509 = .ok (.iconst 3, 1) := by decide +kernel
theorem dL_law_510 : decode cL_law 510 = .ok (.iadd, 1) := by decide +kernel
theorem dL_law_511 : decode cL_law 511 = .ok (.iaload, 1) := by decide +kernel
theorem dL_law_512 : decode cL_law 512 = .ok (.aload_n 0, 1) := by decide +kernel
theorem dL_law_513 : decode cL_law 513 = .ok (.iload_n 3, 1) := by decide +kernel
theorem dL_law_514 : decode cL_law 514 = .ok (.iconst 4, 1) := by decide +kernel
theorem dL_law_515 : decode cL_law 515 = .ok (.iadd, 1) := by decide +kernel
theorem dL_law_516 : decode cL_law 516 = .ok (.iaload, 1) := by decide +kernel
theorem dL_law_517 : decode cL_law 517 = .ok (.invokevirtual 41, 3) := by decide +kernel
theorem dL_law_520 : decode cL_law 520 = .ok (.aload_n 2, 1) := by decide +kernel
theorem dL_law_521 : decode cL_law 521 = .ok (.aload_n 0, 1) := by decide +kernel
theorem dL_law_522 : decode cL_law 522 = .ok (.iload_n 3, 1) := by decide +kernel
theorem dL_law_523 : decode cL_law 523 = .ok (.iconst 1, 1) := by decide +kernel
theorem dL_law_524 : decode cL_law 524 = .ok (.iadd, 1) := by decide +kernel
theorem dL_law_525 : decode cL_law 525 = .ok (.iaload, 1) := by decide +kernel
theorem dL_law_526 : decode cL_law 526 = .ok (.aload_n 0, 1) := by decide +kernel
theorem dL_law_527 : decode cL_law 527 = .ok (.iload_n 3, 1) := by decide +kernel
theorem dL_law_528 : decode cL_law 528 = .ok (.iconst 2, 1) := by decide +kernel
theorem dL_law_529 : decode cL_law 529 = .ok (.iadd, 1) := by decide +kernel
theorem dL_law_530 : decode cL_law 530 = .ok (.iaload, 1) := by decide +kernel
theorem dL_law_531 : decode cL_law 531 = .ok (.aload_n 0, 1) := by decide +kernel
theorem dL_law_532 : decode cL_law 532 = .ok (.iload_n 3, 1) := by decide +kernel
theorem dL_law_533 : decode cL_law 533 = .ok (.iconst 3, 1) := by decide +kernel
theorem dL_law_534 : decode cL_law 534 = .ok (.iadd, 1) := by decide +kernel
theorem dL_law_535 : decode cL_law 535 = .ok (.iaload, 1) := by decide +kernel
theorem dL_law_536 : decode cL_law 536 = .ok (.aload_n 0, 1) := by decide +kernel
theorem dL_law_537 : decode cL_law 537 = .ok (.iload_n 3, 1) := by decide +kernel
theorem dL_law_538 : decode cL_law 538 = .ok (.iconst 4, 1) := by decide +kernel
theorem dL_law_539 : decode cL_law 539 = .ok (.iadd, 1) := by decide +kernel
theorem dL_law_540 : decode cL_law 540 = .ok (.iaload, 1) := by decide +kernel
theorem dL_law_541 : decode cL_law 541 = .ok (.invokevirtual 45, 3) := by decide +kernel
theorem dL_law_544 : decode cL_law 544 = .ok (.if_icmp .eq 981, 3) := by decide +kernel
theorem dL_law_549 : decode cL_law 549 = .ok (.aload_n 1, 1) := by decide +kernel
theorem dL_law_550 : decode cL_law 550 = .ok (.aload_n 0, 1) := by decide +kernel
theorem dL_law_551 : decode cL_law 551 = .ok (.iload_n 3, 1) := by decide +kernel
theorem dL_law_552 : decode cL_law 552 = .ok (.iconst 1, 1) := by decide +kernel
theorem dL_law_553 : decode cL_law 553 = .ok (.iadd, 1) := by decide +kernel
theorem dL_law_554 : decode cL_law 554 = .ok (.iaload, 1) := by decide +kernel
theorem dL_law_555 : decode cL_law 555 = .ok (.aload_n 0, 1) := by decide +kernel
theorem dL_law_556 : decode cL_law 556 = .ok (.iload_n 3, 1) := by decide +kernel
theorem dL_law_557 : decode cL_law 557 = .ok (.iconst 2, 1) := by decide +kernel
theorem dL_law_558 : decode cL_law 558 = .ok (.iadd, 1) := by decide +kernel
theorem dL_law_559 : decode cL_law 559 = .ok (.iaload, 1) := by decide +kernel
theorem dL_law_560 : decode cL_law 560 = .ok (.aload_n 0, 1) := by decide +kernel
theorem dL_law_561 : decode cL_law 561 = .ok (.iload_n 3, 1) := by decide +kernel
theorem dL_law_562 : decode cL_law 562 = .ok (.iconst 3, 1) := by decide +kernel
theorem dL_law_563 : decode cL_law 563 = .ok (.iadd, 1) := by decide +kernel
theorem dL_law_564 : decode cL_law 564 = .ok (.iaload, 1) := by decide +kernel
theorem dL_law_565 : decode cL_law 565 = .ok (.aload_n 0, 1) := by decide +kernel
theorem dL_law_566 : decode cL_law 566 = .ok (.iload_n 3, 1) := by decide +kernel
theorem dL_law_567 : decode cL_law 567 = .ok (.iconst 4, 1) := by decide +kernel
theorem dL_law_568 : decode cL_law 568 = .ok (.iadd, 1) := by decide +kernel
theorem dL_law_569 : decode cL_law 569 = .ok (.iaload, 1) := by decide +kernel
theorem dL_law_570 : decode cL_law 570 = .ok (.aload_n 0, 1) := by decide +kernel
theorem dL_law_571 : decode cL_law 571 = .ok (.iload_n 3, 1) := by decide +kernel
theorem dL_law_572 : decode cL_law 572 = .ok (.iconst 5, 1) := by decide +kernel
theorem dL_law_573 : decode cL_law 573 = .ok (.iadd, 1) := by decide +kernel
theorem dL_law_574 : decode cL_law 574 = .ok (.iaload, 1) := by decide +kernel
theorem dL_law_575 : decode cL_law 575 = .ok (.invokevirtual 46, 3) := by decide +kernel
theorem dL_law_578 : decode cL_law 578 = .ok (.aload_n 2, 1) := by decide +kernel
theorem dL_law_579 : decode cL_law 579 = .ok (.aload_n 0, 1) := by decide +kernel
theorem dL_law_580 : decode cL_law 580 = .ok (.iload_n 3, 1) := by decide +kernel
theorem dL_law_581 : decode cL_law 581 = .ok (.iconst 1, 1) := by decide +kernel
theorem dL_law_582 : decode cL_law 582 = .ok (.iadd, 1) := by decide +kernel
theorem dL_law_583 : decode cL_law 583 = .ok (.iaload, 1) := by decide +kernel
theorem dL_law_584 : decode cL_law 584 = .ok (.aload_n 0, 1) := by decide +kernel
theorem dL_law_585 : decode cL_law 585 = .ok (.iload_n 3, 1) := by decide +kernel
theorem dL_law_586 : decode cL_law 586 = .ok (.iconst 2, 1) := by decide +kernel
theorem dL_law_587 : decode cL_law 587 = .ok (.iadd, 1) := by decide +kernel
theorem dL_law_588 : decode cL_law 588 = .ok (.iaload, 1) := by decide +kernel
theorem dL_law_589 : decode cL_law 589 = .ok (.aload_n 0, 1) := by decide +kernel
theorem dL_law_590 : decode cL_law 590 = .ok (.iload_n 3, 1) := by decide +kernel
theorem dL_law_591 : decode cL_law 591 = .ok (.iconst 3, 1) := by decide +kernel
theorem dL_law_592 : decode cL_law 592 = .ok (.iadd, 1) := by decide +kernel
theorem dL_law_593 : decode cL_law 593 = .ok (.iaload, 1) := by decide +kernel
theorem dL_law_594 : decode cL_law 594 = .ok (.aload_n 0, 1) := by decide +kernel
theorem dL_law_595 : decode cL_law 595 = .ok (.iload_n 3, 1) := by decide +kernel
theorem dL_law_596 : decode cL_law 596 = .ok (.iconst 4, 1) := by decide +kernel
theorem dL_law_597 : decode cL_law 597 = .ok (.iadd, 1) := by decide +kernel
theorem dL_law_598 : decode cL_law 598 = .ok (.iaload, 1) := by decide +kernel
theorem dL_law_599 : decode cL_law 599 = .ok (.aload_n 0, 1) := by decide +kernel
theorem dL_law_600 : decode cL_law 600 = .ok (.iload_n 3, 1) := by decide +kernel
theorem dL_law_601 : decode cL_law 601 = .ok (.iconst 5, 1) := by decide +kernel
theorem dL_law_602 : decode cL_law 602 = .ok (.iadd, 1) := by decide +kernel
theorem dL_law_603 : decode cL_law 603 = .ok (.iaload, 1) := by decide +kernel
theorem dL_law_604 : decode cL_law 604 = .ok (.invokevirtual 49, 3) := by decide +kernel
theorem dL_law_607 : decode cL_law 607 = .ok (.if_icmp .eq 918, 3) := by decide +kernel
theorem dL_law_612 : decode cL_law 612 = .ok (.aload_n 1, 1) := by decide +kernel
theorem dL_law_613 : decode cL_law 613 = .ok (.aload_n 0, 1) := by decide +kernel
theorem dL_law_614 : decode cL_law 614 = .ok (.iload_n 3, 1) := by decide +kernel
theorem dL_law_615 : decode cL_law 615 = .ok (.iconst 1, 1) := by decide +kernel
theorem dL_law_616 : decode cL_law 616 = .ok (.iadd, 1) := by decide +kernel
theorem dL_law_617 : decode cL_law 617 = .ok (.iaload, 1) := by decide +kernel
theorem dL_law_618 : decode cL_law 618 = .ok (.invokevirtual 50, 3) := by decide +kernel
theorem dL_law_621 : decode cL_law 621 = .ok (.aload_n 2, 1) := by decide +kernel
theorem dL_law_622 : decode cL_law 622 = .ok (.aload_n 0, 1) := by decide +kernel
theorem dL_law_623 : decode cL_law 623 = .ok (.iload_n 3, 1) := by decide +kernel
theorem dL_law_624 : decode cL_law 624 = .ok (.iconst 1, 1) := by decide +kernel
theorem dL_law_625 : decode cL_law 625 = .ok (.iadd, 1) := by decide +kernel
theorem dL_law_626 : decode cL_law 626 = .ok (.iaload, 1) := by decide +kernel
theorem dL_law_627 : decode cL_law 627 = .ok (.invokevirtual 54, 3) := by decide +kernel
theorem dL_law_630 : decode cL_law 630 = .ok (.if_icmp .eq 895, 3) := by decide +kernel
theorem dL_law_635 : decode cL_law 635 = .ok (.aload_n 1, 1) := by decide +kernel
theorem dL_law_636 : decode cL_law 636 = .ok (.aload_n 0, 1) := by decide +kernel
theorem dL_law_637 : decode cL_law 637 = .ok (.iload_n 3, 1) := by decide +kernel
theorem dL_law_638 : decode cL_law 638 = .ok (.iconst 1, 1) := by decide +kernel
theorem dL_law_639 : decode cL_law 639 = .ok (.iadd, 1) := by decide +kernel
theorem dL_law_640 : decode cL_law 640 = .ok (.iaload, 1) := by decide +kernel
theorem dL_law_641 : decode cL_law 641 = .ok (.aload_n 0, 1) := by decide +kernel
theorem dL_law_642 : decode cL_law 642 = .ok (.iload_n 3, 1) := by decide +kernel
theorem dL_law_643 : decode cL_law 643 = .ok (.iconst 2, 1) := by decide +kernel
theorem dL_law_644 : decode cL_law 644 = .ok (.iadd, 1) := by decide +kernel
theorem dL_law_645 : decode cL_law 645 = .ok (.iaload, 1) := by decide +kernel
theorem dL_law_646 : decode cL_law 646 = .ok (.aload_n 0, 1) := by decide +kernel
theorem dL_law_647 : decode cL_law 647 = .ok (.iload_n 3, 1) := by decide +kernel
theorem dL_law_648 : decode cL_law 648 = .ok (.iconst 3, 1) := by decide +kernel
theorem dL_law_649 : decode cL_law 649 = .ok (.iadd, 1) := by decide +kernel
theorem dL_law_650 : decode cL_law 650 = .ok (.iaload, 1) := by decide +kernel
theorem dL_law_651 : decode cL_law 651 = .ok (.invokevirtual 55, 3) := by decide +kernel
theorem dL_law_654 : decode cL_law 654 = .ok (.aload_n 2, 1) := by decide +kernel
theorem dL_law_655 : decode cL_law 655 = .ok (.aload_n 0, 1) := by decide +kernel
theorem dL_law_656 : decode cL_law 656 = .ok (.iload_n 3, 1) := by decide +kernel
theorem dL_law_657 : decode cL_law 657 = .ok (.iconst 1, 1) := by decide +kernel
theorem dL_law_658 : decode cL_law 658 = .ok (.iadd, 1) := by decide +kernel
theorem dL_law_659 : decode cL_law 659 = .ok (.iaload, 1) := by decide +kernel
theorem dL_law_660 : decode cL_law 660 = .ok (.aload_n 0, 1) := by decide +kernel
theorem dL_law_661 : decode cL_law 661 = .ok (.iload_n 3, 1) := by decide +kernel
theorem dL_law_662 : decode cL_law 662 = .ok (.iconst 2, 1) := by decide +kernel
theorem dL_law_663 : decode cL_law 663 = .ok (.iadd, 1) := by decide +kernel
theorem dL_law_664 : decode cL_law 664 = .ok (.iaload, 1) := by decide +kernel
theorem dL_law_665 : decode cL_law 665 = .ok (.aload_n 0, 1) := by decide +kernel
theorem dL_law_666 : decode cL_law 666 = .ok (.iload_n 3, 1) := by decide +kernel
theorem dL_law_667 : decode cL_law 667 = .ok (.iconst 3, 1) := by decide +kernel
theorem dL_law_668 : decode cL_law 668 = .ok (.iadd, 1) := by decide +kernel
theorem dL_law_669 : decode cL_law 669 = .ok (.iaload, 1) := by decide +kernel
theorem dL_law_670 : decode cL_law 670 = .ok (.invokevirtual 59, 3) := by decide +kernel
theorem dL_law_673 : decode cL_law 673 = .ok (.if_icmp .eq 852, 3) := by decide +kernel
theorem dL_law_678 : decode cL_law 678 = .ok (.aload_n 1, 1) := by decide +kernel
theorem dL_law_679 : decode cL_law 679 = .ok (.aload_n 0, 1) := by decide +kernel
theorem dL_law_680 : decode cL_law 680 = .ok (.iload_n 3, 1) := by decide +kernel
theorem dL_law_681 : decode cL_law 681 = .ok (.iconst 1, 1) := by decide +kernel
theorem dL_law_682 : decode cL_law 682 = .ok (.iadd, 1) := by decide +kernel
theorem dL_law_683 : decode cL_law 683 = .ok (.iaload, 1) := by decide +kernel
theorem dL_law_684 : decode cL_law 684 = .ok (.aload_n 0, 1) := by decide +kernel
theorem dL_law_685 : decode cL_law 685 = .ok (.iload_n 3, 1) := by decide +kernel
theorem dL_law_686 : decode cL_law 686 = .ok (.iconst 2, 1) := by decide +kernel
theorem dL_law_687 : decode cL_law 687 = .ok (.iadd, 1) := by decide +kernel
theorem dL_law_688 : decode cL_law 688 = .ok (.iaload, 1) := by decide +kernel
theorem dL_law_689 : decode cL_law 689 = .ok (.invokevirtual 60, 3) := by decide +kernel
theorem dL_law_692 : decode cL_law 692 = .ok (.aload_n 2, 1) := by decide +kernel
theorem dL_law_693 : decode cL_law 693 = .ok (.aload_n 0, 1) := by decide +kernel
theorem dL_law_694 : decode cL_law 694 = .ok (.iload_n 3, 1) := by decide +kernel
theorem dL_law_695 : decode cL_law 695 = .ok (.iconst 1, 1) := by decide +kernel
theorem dL_law_696 : decode cL_law 696 = .ok (.iadd, 1) := by decide +kernel
theorem dL_law_697 : decode cL_law 697 = .ok (.iaload, 1) := by decide +kernel
theorem dL_law_698 : decode cL_law 698 = .ok (.aload_n 0, 1) := by decide +kernel
theorem dL_law_699 : decode cL_law 699 = .ok (.iload_n 3, 1) := by decide +kernel
theorem dL_law_700 : decode cL_law 700 = .ok (.iconst 2, 1) := by decide +kernel
theorem dL_law_701 : decode cL_law 701 = .ok (.iadd, 1) := by decide +kernel
theorem dL_law_702 : decode cL_law 702 = .ok (.iaload, 1) := by decide +kernel
theorem dL_law_703 : decode cL_law 703 = .ok (.invokevirtual 64, 3) := by decide +kernel
theorem dL_law_706 : decode cL_law 706 = .ok (.if_icmp .eq 819, 3) := by decide +kernel
theorem dL_law_711 : decode cL_law 711 = .ok (.aload_n 1, 1) := by decide +kernel
theorem dL_law_712 : decode cL_law 712 = .ok (.aload_n 0, 1) := by decide +kernel
theorem dL_law_713 : decode cL_law 713 = .ok (.iload_n 3, 1) := by decide +kernel
theorem dL_law_714 : decode cL_law 714 = .ok (.iconst 1, 1) := by decide +kernel
theorem dL_law_715 : decode cL_law 715 = .ok (.iadd, 1) := by decide +kernel
theorem dL_law_716 : decode cL_law 716 = .ok (.iaload, 1) := by decide +kernel
theorem dL_law_717 : decode cL_law 717 = .ok (.aload_n 0, 1) := by decide +kernel
theorem dL_law_718 : decode cL_law 718 = .ok (.iload_n 3, 1) := by decide +kernel
theorem dL_law_719 : decode cL_law 719 = .ok (.iconst 2, 1) := by decide +kernel
theorem dL_law_720 : decode cL_law 720 = .ok (.iadd, 1) := by decide +kernel
theorem dL_law_721 : decode cL_law 721 = .ok (.iaload, 1) := by decide +kernel
theorem dL_law_722 : decode cL_law 722 = .ok (.aload_n 0, 1) := by decide +kernel
theorem dL_law_723 : decode cL_law 723 = .ok (.iload_n 3, 1) := by decide +kernel
theorem dL_law_724 : decode cL_law 724 = .ok (.iconst 3, 1) := by decide +kernel
theorem dL_law_725 : decode cL_law 725 = .ok (.iadd, 1) := by decide +kernel
theorem dL_law_726 : decode cL_law 726 = .ok (.iaload, 1) := by decide +kernel
theorem dL_law_727 : decode cL_law 727 = .ok (.invokevirtual 65, 3) := by decide +kernel
theorem dL_law_730 : decode cL_law 730 = .ok (.aload_n 2, 1) := by decide +kernel
theorem dL_law_731 : decode cL_law 731 = .ok (.aload_n 0, 1) := by decide +kernel
theorem dL_law_732 : decode cL_law 732 = .ok (.iload_n 3, 1) := by decide +kernel
theorem dL_law_733 : decode cL_law 733 = .ok (.iconst 1, 1) := by decide +kernel
theorem dL_law_734 : decode cL_law 734 = .ok (.iadd, 1) := by decide +kernel
theorem dL_law_735 : decode cL_law 735 = .ok (.iaload, 1) := by decide +kernel
theorem dL_law_736 : decode cL_law 736 = .ok (.aload_n 0, 1) := by decide +kernel
theorem dL_law_737 : decode cL_law 737 = .ok (.iload_n 3, 1) := by decide +kernel
theorem dL_law_738 : decode cL_law 738 = .ok (.iconst 2, 1) := by decide +kernel
theorem dL_law_739 : decode cL_law 739 = .ok (.iadd, 1) := by decide +kernel
theorem dL_law_740 : decode cL_law 740 = .ok (.iaload, 1) := by decide +kernel
theorem dL_law_741 : decode cL_law 741 = .ok (.aload_n 0, 1) := by decide +kernel
theorem dL_law_742 : decode cL_law 742 = .ok (.iload_n 3, 1) := by decide +kernel
theorem dL_law_743 : decode cL_law 743 = .ok (.iconst 3, 1) := by decide +kernel
theorem dL_law_744 : decode cL_law 744 = .ok (.iadd, 1) := by decide +kernel
theorem dL_law_745 : decode cL_law 745 = .ok (.iaload, 1) := by decide +kernel
theorem dL_law_746 : decode cL_law 746 = .ok (.invokevirtual 68, 3) := by decide +kernel
theorem dL_law_749 : decode cL_law 749 = .ok (.if_icmp .eq 776, 3) := by decide +kernel
theorem dL_law_754 : decode cL_law 754 = .ok (.aload_n 1, 1) := by decide +kernel
theorem dL_law_755 : decode cL_law 755 = .ok (.aload_n 0, 1) := by decide +kernel
theorem dL_law_756 : decode cL_law 756 = .ok (.iload_n 3, 1) := by decide +kernel
theorem dL_law_757 : decode cL_law 757 = .ok (.iconst 1, 1) := by decide +kernel
theorem dL_law_758 : decode cL_law 758 = .ok (.iadd, 1) := by decide +kernel
theorem dL_law_759 : decode cL_law 759 = .ok (.iaload, 1) := by decide +kernel
theorem dL_law_760 : decode cL_law 760 = .ok (.aload_n 0, 1) := by decide +kernel
theorem dL_law_761 : decode cL_law 761 = .ok (.iload_n 3, 1) := by decide +kernel
theorem dL_law_762 : decode cL_law 762 = .ok (.iconst 2, 1) := by decide +kernel
theorem dL_law_763 : decode cL_law 763 = .ok (.iadd, 1) := by decide +kernel
theorem dL_law_764 : decode cL_law 764 = .ok (.iaload, 1) := by decide +kernel
theorem dL_law_765 : decode cL_law 765 = .ok (.aload_n 0, 1) := by decide +kernel
theorem dL_law_766 : decode cL_law 766 = .ok (.iload_n 3, 1) := by decide +kernel
theorem dL_law_767 : decode cL_law 767 = .ok (.iconst 3, 1) := by decide +kernel
theorem dL_law_768 : decode cL_law 768 = .ok (.iadd, 1) := by decide +kernel
theorem dL_law_769 : decode cL_law 769 = .ok (.iaload, 1) := by decide +kernel
theorem dL_law_770 : decode cL_law 770 = .ok (.aload_n 0, 1) := by decide +kernel
theorem dL_law_771 : decode cL_law 771 = .ok (.iload_n 3, 1) := by decide +kernel
theorem dL_law_772 : decode cL_law 772 = .ok (.iconst 4, 1) := by decide +kernel
theorem dL_law_773 : decode cL_law 773 = .ok (.iadd, 1) := by decide +kernel
theorem dL_law_774 : decode cL_law 774 = .ok (.iaload, 1) := by decide +kernel
theorem dL_law_775 : decode cL_law 775 = .ok (.aload_n 0, 1) := by decide +kernel
theorem dL_law_776 : decode cL_law 776 = .ok (.iload_n 3, 1) := by decide +kernel
theorem dL_law_777 : decode cL_law 777 = .ok (.iconst 5, 1) := by decide +kernel
theorem dL_law_778 : decode cL_law 778 = .ok (.iadd, 1) := by decide +kernel
theorem dL_law_779 : decode cL_law 779 = .ok (.iaload, 1) := by decide +kernel
theorem dL_law_780 : decode cL_law 780 = .ok (.invokevirtual 69, 3) := by decide +kernel
theorem dL_law_783 : decode cL_law 783 = .ok (.aload_n 2, 1) := by decide +kernel
theorem dL_law_784 : decode cL_law 784 = .ok (.aload_n 0, 1) := by decide +kernel
theorem dL_law_785 : decode cL_law 785 = .ok (.iload_n 3, 1) := by decide +kernel
theorem dL_law_786 : decode cL_law 786 = .ok (.iconst 1, 1) := by decide +kernel
theorem dL_law_787 : decode cL_law 787 = .ok (.iadd, 1) := by decide +kernel
theorem dL_law_788 : decode cL_law 788 = .ok (.iaload, 1) := by decide +kernel
theorem dL_law_789 : decode cL_law 789 = .ok (.aload_n 0, 1) := by decide +kernel
theorem dL_law_790 : decode cL_law 790 = .ok (.iload_n 3, 1) := by decide +kernel
theorem dL_law_791 : decode cL_law 791 = .ok (.iconst 2, 1) := by decide +kernel
theorem dL_law_792 : decode cL_law 792 = .ok (.iadd, 1) := by decide +kernel
theorem dL_law_793 : decode cL_law 793 = .ok (.iaload, 1) := by decide +kernel
theorem dL_law_794 : decode cL_law 794 = .ok (.aload_n 0, 1) := by decide +kernel
theorem dL_law_795 : decode cL_law 795 = .ok (.iload_n 3, 1) := by decide +kernel
theorem dL_law_796 : decode cL_law 796 = .ok (.iconst 3, 1) := by decide +kernel
theorem dL_law_797 : decode cL_law 797 = .ok (.iadd, 1) := by decide +kernel
theorem dL_law_798 : decode cL_law 798 = .ok (.iaload, 1) := by decide +kernel
theorem dL_law_799 : decode cL_law 799 = .ok (.aload_n 0, 1) := by decide +kernel
theorem dL_law_800 : decode cL_law 800 = .ok (.iload_n 3, 1) := by decide +kernel
theorem dL_law_801 : decode cL_law 801 = .ok (.iconst 4, 1) := by decide +kernel
theorem dL_law_802 : decode cL_law 802 = .ok (.iadd, 1) := by decide +kernel
theorem dL_law_803 : decode cL_law 803 = .ok (.iaload, 1) := by decide +kernel
theorem dL_law_804 : decode cL_law 804 = .ok (.aload_n 0, 1) := by decide +kernel
theorem dL_law_805 : decode cL_law 805 = .ok (.iload_n 3, 1) := by decide +kernel
theorem dL_law_806 : decode cL_law 806 = .ok (.iconst 5, 1) := by decide +kernel
theorem dL_law_807 : decode cL_law 807 = .ok (.iadd, 1) := by decide +kernel
theorem dL_law_808 : decode cL_law 808 = .ok (.iaload, 1) := by decide +kernel
theorem dL_law_809 : decode cL_law 809 = .ok (.invokevirtual 72, 3) := by decide +kernel
theorem dL_law_812 : decode cL_law 812 = .ok (.if_icmp .eq 713, 3) := by decide +kernel
theorem dL_law_817 : decode cL_law 817 = .ok (.aload_n 1, 1) := by decide +kernel
theorem dL_law_818 : decode cL_law 818 = .ok (.aload_n 0, 1) := by decide +kernel
theorem dL_law_819 : decode cL_law 819 = .ok (.iload_n 3, 1) := by decide +kernel
theorem dL_law_820 : decode cL_law 820 = .ok (.iconst 1, 1) := by decide +kernel
theorem dL_law_821 : decode cL_law 821 = .ok (.iadd, 1) := by decide +kernel
theorem dL_law_822 : decode cL_law 822 = .ok (.iaload, 1) := by decide +kernel
theorem dL_law_823 : decode cL_law 823 = .ok (.aload_n 0, 1) := by decide +kernel
theorem dL_law_824 : decode cL_law 824 = .ok (.iload_n 3, 1) := by decide +kernel
theorem dL_law_825 : decode cL_law 825 = .ok (.iconst 2, 1) := by decide +kernel
theorem dL_law_826 : decode cL_law 826 = .ok (.iadd, 1) := by decide +kernel
theorem dL_law_827 : decode cL_law 827 = .ok (.iaload, 1) := by decide +kernel
theorem dL_law_828 : decode cL_law 828 = .ok (.invokevirtual 73, 3) := by decide +kernel
theorem dL_law_831 : decode cL_law 831 = .ok (.aload_n 2, 1) := by decide +kernel
theorem dL_law_832 : decode cL_law 832 = .ok (.aload_n 0, 1) := by decide +kernel
theorem dL_law_833 : decode cL_law 833 = .ok (.iload_n 3, 1) := by decide +kernel
theorem dL_law_834 : decode cL_law 834 = .ok (.iconst 1, 1) := by decide +kernel
theorem dL_law_835 : decode cL_law 835 = .ok (.iadd, 1) := by decide +kernel
theorem dL_law_836 : decode cL_law 836 = .ok (.iaload, 1) := by decide +kernel
theorem dL_law_837 : decode cL_law 837 = .ok (.aload_n 0, 1) := by decide +kernel
theorem dL_law_838 : decode cL_law 838 = .ok (.iload_n 3, 1) := by decide +kernel
theorem dL_law_839 : decode cL_law 839 = .ok (.iconst 2, 1) := by decide +kernel
theorem dL_law_840 : decode cL_law 840 = .ok (.iadd, 1) := by decide +kernel
theorem dL_law_841 : decode cL_law 841 = .ok (.iaload, 1) := by decide +kernel
theorem dL_law_842 : decode cL_law 842 = .ok (.invokevirtual 76, 3) := by decide +kernel
theorem dL_law_845 : decode cL_law 845 = .ok (.if_icmp .eq 680, 3) := by decide +kernel
theorem dL_law_850 : decode cL_law 850 = .ok (.aload_n 1, 1) := by decide +kernel
theorem dL_law_851 : decode cL_law 851 = .ok (.aload_n 0, 1) := by decide +kernel
theorem dL_law_852 : decode cL_law 852 = .ok (.iload_n 3, 1) := by decide +kernel
theorem dL_law_853 : decode cL_law 853 = .ok (.iconst 1, 1) := by decide +kernel
theorem dL_law_854 : decode cL_law 854 = .ok (.iadd, 1) := by decide +kernel
theorem dL_law_855 : decode cL_law 855 = .ok (.iaload, 1) := by decide +kernel
theorem dL_law_856 : decode cL_law 856 = .ok (.aload_n 0, 1) := by decide +kernel
theorem dL_law_857 : decode cL_law 857 = .ok (.iload_n 3, 1) := by decide +kernel
theorem dL_law_858 : decode cL_law 858 = .ok (.iconst 2, 1) := by decide +kernel
theorem dL_law_859 : decode cL_law 859 = .ok (.iadd, 1) := by decide +kernel
theorem dL_law_860 : decode cL_law 860 = .ok (.iaload, 1) := by decide +kernel
theorem dL_law_861 : decode cL_law 861 = .ok (.aload_n 0, 1) := by decide +kernel
theorem dL_law_862 : decode cL_law 862 = .ok (.iload_n 3, 1) := by decide +kernel
theorem dL_law_863 : decode cL_law 863 = .ok (.iconst 3, 1) := by decide +kernel
theorem dL_law_864 : decode cL_law 864 = .ok (.iadd, 1) := by decide +kernel
theorem dL_law_865 : decode cL_law 865 = .ok (.iaload, 1) := by decide +kernel
theorem dL_law_866 : decode cL_law 866 = .ok (.ifCond .eq 7, 3) := by decide +kernel
theorem dL_law_869 : decode cL_law 869 = .ok (.iconst 1, 1) := by decide +kernel
theorem dL_law_870 : decode cL_law 870 = .ok (.goto 4, 3) := by decide +kernel
theorem dL_law_873 : decode cL_law 873 = .ok (.iconst 0, 1) := by decide +kernel
theorem dL_law_874 : decode cL_law 874 = .ok (.invokevirtual 77, 3) := by decide +kernel
theorem dL_law_877 : decode cL_law 877 = .ok (.aload_n 2, 1) := by decide +kernel
theorem dL_law_878 : decode cL_law 878 = .ok (.aload_n 0, 1) := by decide +kernel
theorem dL_law_879 : decode cL_law 879 = .ok (.iload_n 3, 1) := by decide +kernel
theorem dL_law_880 : decode cL_law 880 = .ok (.iconst 1, 1) := by decide +kernel
theorem dL_law_881 : decode cL_law 881 = .ok (.iadd, 1) := by decide +kernel
theorem dL_law_882 : decode cL_law 882 = .ok (.iaload, 1) := by decide +kernel
theorem dL_law_883 : decode cL_law 883 = .ok (.aload_n 0, 1) := by decide +kernel
theorem dL_law_884 : decode cL_law 884 = .ok (.iload_n 3, 1) := by decide +kernel
theorem dL_law_885 : decode cL_law 885 = .ok (.iconst 2, 1) := by decide +kernel
theorem dL_law_886 : decode cL_law 886 = .ok (.iadd, 1) := by decide +kernel
theorem dL_law_887 : decode cL_law 887 = .ok (.iaload, 1) := by decide +kernel
theorem dL_law_888 : decode cL_law 888 = .ok (.aload_n 0, 1) := by decide +kernel
theorem dL_law_889 : decode cL_law 889 = .ok (.iload_n 3, 1) := by decide +kernel
theorem dL_law_890 : decode cL_law 890 = .ok (.iconst 3, 1) := by decide +kernel
theorem dL_law_891 : decode cL_law 891 = .ok (.iadd, 1) := by decide +kernel
theorem dL_law_892 : decode cL_law 892 = .ok (.iaload, 1) := by decide +kernel
theorem dL_law_893 : decode cL_law 893 = .ok (.ifCond .eq 7, 3) := by decide +kernel
theorem dL_law_896 : decode cL_law 896 = .ok (.iconst 1, 1) := by decide +kernel
theorem dL_law_897 : decode cL_law 897 = .ok (.goto 4, 3) := by decide +kernel
theorem dL_law_900 : decode cL_law 900 = .ok (.iconst 0, 1) := by decide +kernel
theorem dL_law_901 : decode cL_law 901 = .ok (.invokevirtual 81, 3) := by decide +kernel
theorem dL_law_904 : decode cL_law 904 = .ok (.if_icmp .eq 621, 3) := by decide +kernel
theorem dL_law_909 : decode cL_law 909 = .ok (.aload_n 1, 1) := by decide +kernel
theorem dL_law_910 : decode cL_law 910 = .ok (.aload_n 0, 1) := by decide +kernel
theorem dL_law_911 : decode cL_law 911 = .ok (.iload_n 3, 1) := by decide +kernel
theorem dL_law_912 : decode cL_law 912 = .ok (.iconst 1, 1) := by decide +kernel
theorem dL_law_913 : decode cL_law 913 = .ok (.iadd, 1) := by decide +kernel
theorem dL_law_914 : decode cL_law 914 = .ok (.iaload, 1) := by decide +kernel
theorem dL_law_915 : decode cL_law 915 = .ok (.aload_n 0, 1) := by decide +kernel
theorem dL_law_916 : decode cL_law 916 = .ok (.iload_n 3, 1) := by decide +kernel
theorem dL_law_917 : decode cL_law 917 = .ok (.iconst 2, 1) := by decide +kernel
theorem dL_law_918 : decode cL_law 918 = .ok (.iadd, 1) := by decide +kernel
theorem dL_law_919 : decode cL_law 919 = .ok (.iaload, 1) := by decide +kernel
theorem dL_law_920 : decode cL_law 920 = .ok (.aload_n 0, 1) := by decide +kernel
theorem dL_law_921 : decode cL_law 921 = .ok (.iload_n 3, 1) := by decide +kernel
theorem dL_law_922 : decode cL_law 922 = .ok (.iconst 3, 1) := by decide +kernel
theorem dL_law_923 : decode cL_law 923 = .ok (.iadd, 1) := by decide +kernel
theorem dL_law_924 : decode cL_law 924 = .ok (.iaload, 1) := by decide +kernel
theorem dL_law_925 : decode cL_law 925 = .ok (.invokevirtual 82, 3) := by decide +kernel
theorem dL_law_928 : decode cL_law 928 = .ok (.aload_n 2, 1) := by decide +kernel
theorem dL_law_929 : decode cL_law 929 = .ok (.aload_n 0, 1) := by decide +kernel
theorem dL_law_930 : decode cL_law 930 = .ok (.iload_n 3, 1) := by decide +kernel
theorem dL_law_931 : decode cL_law 931 = .ok (.iconst 1, 1) := by decide +kernel
theorem dL_law_932 : decode cL_law 932 = .ok (.iadd, 1) := by decide +kernel
theorem dL_law_933 : decode cL_law 933 = .ok (.iaload, 1) := by decide +kernel
theorem dL_law_934 : decode cL_law 934 = .ok (.aload_n 0, 1) := by decide +kernel
theorem dL_law_935 : decode cL_law 935 = .ok (.iload_n 3, 1) := by decide +kernel
theorem dL_law_936 : decode cL_law 936 = .ok (.iconst 2, 1) := by decide +kernel
theorem dL_law_937 : decode cL_law 937 = .ok (.iadd, 1) := by decide +kernel
theorem dL_law_938 : decode cL_law 938 = .ok (.iaload, 1) := by decide +kernel
theorem dL_law_939 : decode cL_law 939 = .ok (.aload_n 0, 1) := by decide +kernel
theorem dL_law_940 : decode cL_law 940 = .ok (.iload_n 3, 1) := by decide +kernel
theorem dL_law_941 : decode cL_law 941 = .ok (.iconst 3, 1) := by decide +kernel
theorem dL_law_942 : decode cL_law 942 = .ok (.iadd, 1) := by decide +kernel
theorem dL_law_943 : decode cL_law 943 = .ok (.iaload, 1) := by decide +kernel
theorem dL_law_944 : decode cL_law 944 = .ok (.invokevirtual 85, 3) := by decide +kernel
theorem dL_law_947 : decode cL_law 947 = .ok (.if_icmp .eq 578, 3) := by decide +kernel
theorem dL_law_952 : decode cL_law 952 = .ok (.aload_n 1, 1) := by decide +kernel
theorem dL_law_953 : decode cL_law 953 = .ok (.aload_n 0, 1) := by decide +kernel
theorem dL_law_954 : decode cL_law 954 = .ok (.iload_n 3, 1) := by decide +kernel
theorem dL_law_955 : decode cL_law 955 = .ok (.iconst 1, 1) := by decide +kernel
theorem dL_law_956 : decode cL_law 956 = .ok (.iadd, 1) := by decide +kernel
theorem dL_law_957 : decode cL_law 957 = .ok (.iaload, 1) := by decide +kernel
theorem dL_law_958 : decode cL_law 958 = .ok (.aload_n 0, 1) := by decide +kernel
theorem dL_law_959 : decode cL_law 959 = .ok (.iload_n 3, 1) := by decide +kernel
theorem dL_law_960 : decode cL_law 960 = .ok (.iconst 2, 1) := by decide +kernel
theorem dL_law_961 : decode cL_law 961 = .ok (.iadd, 1) := by decide +kernel
theorem dL_law_962 : decode cL_law 962 = .ok (.iaload, 1) := by decide +kernel
theorem dL_law_963 : decode cL_law 963 = .ok (.aload_n 0, 1) := by decide +kernel
theorem dL_law_964 : decode cL_law 964 = .ok (.iload_n 3, 1) := by decide +kernel
theorem dL_law_965 : decode cL_law 965 = .ok (.iconst 3, 1) := by decide +kernel
theorem dL_law_966 : decode cL_law 966 = .ok (.iadd, 1) := by decide +kernel
theorem dL_law_967 : decode cL_law 967 = .ok (.iaload, 1) := by decide +kernel
theorem dL_law_968 : decode cL_law 968 = .ok (.invokevirtual 86, 3) := by decide +kernel
theorem dL_law_971 : decode cL_law 971 = .ok (.aload_n 2, 1) := by decide +kernel
theorem dL_law_972 : decode cL_law 972 = .ok (.aload_n 0, 1) := by decide +kernel
theorem dL_law_973 : decode cL_law 973 = .ok (.iload_n 3, 1) := by decide +kernel
theorem dL_law_974 : decode cL_law 974 = .ok (.iconst 1, 1) := by decide +kernel
theorem dL_law_975 : decode cL_law 975 = .ok (.iadd, 1) := by decide +kernel
theorem dL_law_976 : decode cL_law 976 = .ok (.iaload, 1) := by decide +kernel
theorem dL_law_977 : decode cL_law 977 = .ok (.aload_n 0, 1) := by decide +kernel
theorem dL_law_978 : decode cL_law 978 = .ok (.iload_n 3, 1) := by decide +kernel
theorem dL_law_979 : decode cL_law 979 = .ok (.iconst 2, 1) := by decide +kernel
theorem dL_law_980 : decode cL_law 980 = .ok (.iadd, 1) := by decide +kernel
theorem dL_law_981 : decode cL_law 981 = .ok (.iaload, 1) := by decide +kernel
theorem dL_law_982 : decode cL_law 982 = .ok (.aload_n 0, 1) := by decide +kernel
theorem dL_law_983 : decode cL_law 983 = .ok (.iload_n 3, 1) := by decide +kernel
theorem dL_law_984 : decode cL_law 984 = .ok (.iconst 3, 1) := by decide +kernel
theorem dL_law_985 : decode cL_law 985 = .ok (.iadd, 1) := by decide +kernel
theorem dL_law_986 : decode cL_law 986 = .ok (.iaload, 1) := by decide +kernel
theorem dL_law_987 : decode cL_law 987 = .ok (.invokevirtual 89, 3) := by decide +kernel
theorem dL_law_990 : decode cL_law 990 = .ok (.if_icmp .eq 535, 3) := by decide +kernel
theorem dL_law_995 : decode cL_law 995 = .ok (.aload_n 1, 1) := by decide +kernel
theorem dL_law_996 : decode cL_law 996 = .ok (.aload_n 0, 1) := by decide +kernel
theorem dL_law_997 : decode cL_law 997 = .ok (.iload_n 3, 1) := by decide +kernel
theorem dL_law_998 : decode cL_law 998 = .ok (.iconst 1, 1) := by decide +kernel
theorem dL_law_999 : decode cL_law 999 = .ok (.iadd, 1) := by decide +kernel
theorem dL_law_1000 : decode cL_law 1000 = .ok (.iaload, 1) := by decide +kernel
theorem dL_law_1001 : decode cL_law 1001 = .ok (.aload_n 0, 1) := by decide +kernel
theorem dL_law_1002 : decode cL_law 1002 = .ok (.iload_n 3, 1) := by decide +kernel
theorem dL_law_1003 : decode cL_law 1003 = .ok (.iconst 2, 1) := by decide +kernel
theorem dL_law_1004 : decode cL_law 1004 = .ok (.iadd, 1) := by decide +kernel
theorem dL_law_1005 : decode cL_law 1005 = .ok (.iaload, 1) := by decide +kernel
theorem dL_law_1006 : decode cL_law 1006 = .ok (.ifCond .eq 7, 3) := by decide +kernel
theorem dL_law_1009 : decode cL_law 1009 = .ok (.iconst 1, 1) := by decide +kernel
theorem dL_law_1010 : decode cL_law 1010 = .ok (.goto 4, 3) := by decide +kernel
theorem dL_law_1013 : decode cL_law 1013 = .ok (.iconst 0, 1) := by decide +kernel
theorem dL_law_1014 : decode cL_law 1014 = .ok (.aload_n 0, 1) := by decide +kernel
theorem dL_law_1015 : decode cL_law 1015 = .ok (.iload_n 3, 1) := by decide +kernel
theorem dL_law_1016 : decode cL_law 1016 = .ok (.iconst 3, 1) := by decide +kernel
theorem dL_law_1017 : decode cL_law 1017 = .ok (.iadd, 1) := by decide +kernel
theorem dL_law_1018 : decode cL_law 1018 = .ok (.iaload, 1) := by decide +kernel
theorem dL_law_1019 : decode cL_law 1019 = .ok (.invokevirtual 90, 3) := by decide +kernel
theorem dL_law_1022 : decode cL_law 1022 = .ok (.aload_n 2, 1) := by decide +kernel
theorem dL_law_1023 : decode cL_law 1023 = .ok (.aload_n 0, 1) := by decide +kernel
theorem dL_law_1024 : decode cL_law 1024 = .ok (.iload_n 3, 1) := by decide +kernel
theorem dL_law_1025 : decode cL_law 1025 = .ok (.iconst 1, 1) := by decide +kernel
theorem dL_law_1026 : decode cL_law 1026 = .ok (.iadd, 1) := by decide +kernel
theorem dL_law_1027 : decode cL_law 1027 = .ok (.iaload, 1) := by decide +kernel
theorem dL_law_1028 : decode cL_law 1028 = .ok (.aload_n 0, 1) := by decide +kernel
theorem dL_law_1029 : decode cL_law 1029 = .ok (.iload_n 3, 1) := by decide +kernel
theorem dL_law_1030 : decode cL_law 1030 = .ok (.iconst 2, 1) := by decide +kernel
theorem dL_law_1031 : decode cL_law 1031 = .ok (.iadd, 1) := by decide +kernel
theorem dL_law_1032 : decode cL_law 1032 = .ok (.iaload, 1) := by decide +kernel
theorem dL_law_1033 : decode cL_law 1033 = .ok (.ifCond .eq 7, 3) := by decide +kernel
theorem dL_law_1036 : decode cL_law 1036 = .ok (.iconst 1, 1) := by decide +kernel
theorem dL_law_1037 : decode cL_law 1037 = .ok (.goto 4, 3) := by decide +kernel
theorem dL_law_1040 : decode cL_law 1040 = .ok (.iconst 0, 1) := by decide +kernel
theorem dL_law_1041 : decode cL_law 1041 = .ok (.aload_n 0, 1) := by decide +kernel
theorem dL_law_1042 : decode cL_law 1042 = .ok (.iload_n 3, 1) := by decide +kernel
theorem dL_law_1043 : decode cL_law 1043 = .ok (.iconst 3, 1) := by decide +kernel
theorem dL_law_1044 : decode cL_law 1044 = .ok (.iadd, 1) := by decide +kernel
theorem dL_law_1045 : decode cL_law 1045 = .ok (.iaload, 1) := by decide +kernel
theorem dL_law_1046 : decode cL_law 1046 = .ok (.invokevirtual 94, 3) := by decide +kernel
theorem dL_law_1049 : decode cL_law 1049 = .ok (.if_icmp .eq 476, 3) := by decide +kernel
theorem dL_law_1054 : decode cL_law 1054 = .ok (.aload_n 1, 1) := by decide +kernel
theorem dL_law_1055 : decode cL_law 1055 = .ok (.aload_n 0, 1) := by decide +kernel
theorem dL_law_1056 : decode cL_law 1056 = .ok (.iload_n 3, 1) := by decide +kernel
theorem dL_law_1057 : decode cL_law 1057 = .ok (.iconst 1, 1) := by decide +kernel
theorem dL_law_1058 : decode cL_law 1058 = .ok (.iadd, 1) := by decide +kernel
theorem dL_law_1059 : decode cL_law 1059 = .ok (.iaload, 1) := by decide +kernel
theorem dL_law_1060 : decode cL_law 1060 = .ok (.invokevirtual 95, 3) := by decide +kernel
theorem dL_law_1063 : decode cL_law 1063 = .ok (.aload_n 2, 1) := by decide +kernel
theorem dL_law_1064 : decode cL_law 1064 = .ok (.aload_n 0, 1) := by decide +kernel
theorem dL_law_1065 : decode cL_law 1065 = .ok (.iload_n 3, 1) := by decide +kernel
theorem dL_law_1066 : decode cL_law 1066 = .ok (.iconst 1, 1) := by decide +kernel
theorem dL_law_1067 : decode cL_law 1067 = .ok (.iadd, 1) := by decide +kernel
theorem dL_law_1068 : decode cL_law 1068 = .ok (.iaload, 1) := by decide +kernel
theorem dL_law_1069 : decode cL_law 1069 = .ok (.invokevirtual 98, 3) := by decide +kernel
theorem dL_law_1072 : decode cL_law 1072 = .ok (.if_icmp .eq 453, 3) := by decide +kernel
theorem dL_law_1077 : decode cL_law 1077 = .ok (.aload_n 1, 1) := by decide +kernel
theorem dL_law_1078 : decode cL_law 1078 = .ok (.aload_n 0, 1) := by decide +kernel
theorem dL_law_1079 : decode cL_law 1079 = .ok (.iload_n 3, 1) := by decide +kernel
theorem dL_law_1080 : decode cL_law 1080 = .ok (.iconst 1, 1) := by decide +kernel
theorem dL_law_1081 : decode cL_law 1081 = .ok (.iadd, 1) := by decide +kernel
theorem dL_law_1082 : decode cL_law 1082 = .ok (.iaload, 1) := by decide +kernel
theorem dL_law_1083 : decode cL_law 1083 = .ok (.aload_n 0, 1) := by decide +kernel
theorem dL_law_1084 : decode cL_law 1084 = .ok (.iload_n 3, 1) := by decide +kernel
theorem dL_law_1085 : decode cL_law 1085 = .ok (.iconst 2, 1) := by decide +kernel
theorem dL_law_1086 : decode cL_law 1086 = .ok (.iadd, 1) := by decide +kernel
theorem dL_law_1087 : decode cL_law 1087 = .ok (.iaload, 1) := by decide +kernel
theorem dL_law_1088 : decode cL_law 1088 = .ok (.aload_n 0, 1) := by decide +kernel
theorem dL_law_1089 : decode cL_law 1089 = .ok (.iload_n 3, 1) := by decide +kernel
theorem dL_law_1090 : decode cL_law 1090 = .ok (.iconst 3, 1) := by decide +kernel
theorem dL_law_1091 : decode cL_law 1091 = .ok (.iadd, 1) := by decide +kernel
theorem dL_law_1092 : decode cL_law 1092 = .ok (.iaload, 1) := by decide +kernel
theorem dL_law_1093 : decode cL_law 1093 = .ok (.ifCond .eq 7, 3) := by decide +kernel
theorem dL_law_1096 : decode cL_law 1096 = .ok (.iconst 1, 1) := by decide +kernel
theorem dL_law_1097 : decode cL_law 1097 = .ok (.goto 4, 3) := by decide +kernel
theorem dL_law_1100 : decode cL_law 1100 = .ok (.iconst 0, 1) := by decide +kernel
theorem dL_law_1101 : decode cL_law 1101 = .ok (.invokevirtual 99, 3) := by decide +kernel
theorem dL_law_1104 : decode cL_law 1104 = .ok (.aload_n 2, 1) := by decide +kernel
theorem dL_law_1105 : decode cL_law 1105 = .ok (.aload_n 0, 1) := by decide +kernel
theorem dL_law_1106 : decode cL_law 1106 = .ok (.iload_n 3, 1) := by decide +kernel
theorem dL_law_1107 : decode cL_law 1107 = .ok (.iconst 1, 1) := by decide +kernel
theorem dL_law_1108 : decode cL_law 1108 = .ok (.iadd, 1) := by decide +kernel
theorem dL_law_1109 : decode cL_law 1109 = .ok (.iaload, 1) := by decide +kernel
theorem dL_law_1110 : decode cL_law 1110 = .ok (.aload_n 0, 1) := by decide +kernel
theorem dL_law_1111 : decode cL_law 1111 = .ok (.iload_n 3, 1) := by decide +kernel
theorem dL_law_1112 : decode cL_law 1112 = .ok (.iconst 2, 1) := by decide +kernel
theorem dL_law_1113 : decode cL_law 1113 = .ok (.iadd, 1) := by decide +kernel
theorem dL_law_1114 : decode cL_law 1114 = .ok (.iaload, 1) := by decide +kernel
theorem dL_law_1115 : decode cL_law 1115 = .ok (.aload_n 0, 1) := by decide +kernel
theorem dL_law_1116 : decode cL_law 1116 = .ok (.iload_n 3, 1) := by decide +kernel
theorem dL_law_1117 : decode cL_law 1117 = .ok (.iconst 3, 1) := by decide +kernel
theorem dL_law_1118 : decode cL_law 1118 = .ok (.iadd, 1) := by decide +kernel
theorem dL_law_1119 : decode cL_law 1119 = .ok (.iaload, 1) := by decide +kernel
theorem dL_law_1120 : decode cL_law 1120 = .ok (.ifCond .eq 7, 3) := by decide +kernel
theorem dL_law_1123 : decode cL_law 1123 = .ok (.iconst 1, 1) := by decide +kernel
theorem dL_law_1124 : decode cL_law 1124 = .ok (.goto 4, 3) := by decide +kernel
theorem dL_law_1127 : decode cL_law 1127 = .ok (.iconst 0, 1) := by decide +kernel
theorem dL_law_1128 : decode cL_law 1128 = .ok (.invokevirtual 102, 3) := by decide +kernel
theorem dL_law_1131 : decode cL_law 1131 = .ok (.if_icmp .eq 394, 3) := by decide +kernel
theorem dL_law_1136 : decode cL_law 1136 = .ok (.aload_n 1, 1) := by decide +kernel
theorem dL_law_1137 : decode cL_law 1137 = .ok (.aload_n 0, 1) := by decide +kernel
theorem dL_law_1138 : decode cL_law 1138 = .ok (.iload_n 3, 1) := by decide +kernel
theorem dL_law_1139 : decode cL_law 1139 = .ok (.iconst 1, 1) := by decide +kernel
theorem dL_law_1140 : decode cL_law 1140 = .ok (.iadd, 1) := by decide +kernel
theorem dL_law_1141 : decode cL_law 1141 = .ok (.iaload, 1) := by decide +kernel
theorem dL_law_1142 : decode cL_law 1142 = .ok (.invokevirtual 103, 3) := by decide +kernel
theorem dL_law_1145 : decode cL_law 1145 = .ok (.aload_n 2, 1) := by decide +kernel
theorem dL_law_1146 : decode cL_law 1146 = .ok (.aload_n 0, 1) := by decide +kernel
theorem dL_law_1147 : decode cL_law 1147 = .ok (.iload_n 3, 1) := by decide +kernel
theorem dL_law_1148 : decode cL_law 1148 = .ok (.iconst 1, 1) := by decide +kernel
theorem dL_law_1149 : decode cL_law 1149 = .ok (.iadd, 1) := by decide +kernel
theorem dL_law_1150 : decode cL_law 1150 = .ok (.iaload, 1) := by decide +kernel
theorem dL_law_1151 : decode cL_law 1151 = .ok (.invokevirtual 107, 3) := by decide +kernel
theorem dL_law_1154 : decode cL_law 1154 = .ok (.if_icmp .eq 371, 3) := by decide +kernel
theorem dL_law_1159 : decode cL_law 1159 = .ok (.aload_n 1, 1) := by decide +kernel
theorem dL_law_1160 : decode cL_law 1160 = .ok (.aload_n 0, 1) := by decide +kernel
theorem dL_law_1161 : decode cL_law 1161 = .ok (.iload_n 3, 1) := by decide +kernel
theorem dL_law_1162 : decode cL_law 1162 = .ok (.iconst 1, 1) := by decide +kernel
theorem dL_law_1163 : decode cL_law 1163 = .ok (.iadd, 1) := by decide +kernel
theorem dL_law_1164 : decode cL_law 1164 = .ok (.iaload, 1) := by decide +kernel
theorem dL_law_1165 : decode cL_law 1165 = .ok (.invokevirtual 108, 3) := by decide +kernel
theorem dL_law_1168 : decode cL_law 1168 = .ok (.aload_n 2, 1) := by decide +kernel
theorem dL_law_1169 : decode cL_law 1169 = .ok (.aload_n 0, 1) := by decide +kernel
theorem dL_law_1170 : decode cL_law 1170 = .ok (.iload_n 3, 1) := by decide +kernel
theorem dL_law_1171 : decode cL_law 1171 = .ok (.iconst 1, 1) := by decide +kernel
theorem dL_law_1172 : decode cL_law 1172 = .ok (.iadd, 1) := by decide +kernel
theorem dL_law_1173 : decode cL_law 1173 = .ok (.iaload, 1) := by decide +kernel
theorem dL_law_1174 : decode cL_law 1174 = .ok (.invokevirtual 111, 3) := by decide +kernel
theorem dL_law_1177 : decode cL_law 1177 = .ok (.if_icmp .eq 348, 3) := by decide +kernel
theorem dL_law_1182 : decode cL_law 1182 = .ok (.aload_n 1, 1) := by decide +kernel
theorem dL_law_1183 : decode cL_law 1183 = .ok (.aload_n 0, 1) := by decide +kernel
theorem dL_law_1184 : decode cL_law 1184 = .ok (.iload_n 3, 1) := by decide +kernel
theorem dL_law_1185 : decode cL_law 1185 = .ok (.iconst 1, 1) := by decide +kernel
theorem dL_law_1186 : decode cL_law 1186 = .ok (.iadd, 1) := by decide +kernel
theorem dL_law_1187 : decode cL_law 1187 = .ok (.iaload, 1) := by decide +kernel
theorem dL_law_1188 : decode cL_law 1188 = .ok (.aload_n 0, 1) := by decide +kernel
theorem dL_law_1189 : decode cL_law 1189 = .ok (.iload_n 3, 1) := by decide +kernel
theorem dL_law_1190 : decode cL_law 1190 = .ok (.iconst 2, 1) := by decide +kernel
theorem dL_law_1191 : decode cL_law 1191 = .ok (.iadd, 1) := by decide +kernel
theorem dL_law_1192 : decode cL_law 1192 = .ok (.iaload, 1) := by decide +kernel
theorem dL_law_1193 : decode cL_law 1193 = .ok (.aload_n 0, 1) := by decide +kernel
theorem dL_law_1194 : decode cL_law 1194 = .ok (.iload_n 3, 1) := by decide +kernel
theorem dL_law_1195 : decode cL_law 1195 = .ok (.iconst 3, 1) := by decide +kernel
theorem dL_law_1196 : decode cL_law 1196 = .ok (.iadd, 1) := by decide +kernel
theorem dL_law_1197 : decode cL_law 1197 = .ok (.iaload, 1) := by decide +kernel
theorem dL_law_1198 : decode cL_law 1198 = .ok (.aload_n 0, 1) := by decide +kernel
theorem dL_law_1199 : decode cL_law 1199 = .ok (.iload_n 3, 1) := by decide +kernel
theorem dL_law_1200 : decode cL_law 1200 = .ok (.iconst 4, 1) := by decide +kernel
theorem dL_law_1201 : decode cL_law 1201 = .ok (.iadd, 1) := by decide +kernel
theorem dL_law_1202 : decode cL_law 1202 = .ok (.iaload, 1) := by decide +kernel
theorem dL_law_1203 : decode cL_law 1203 = .ok (.invokevirtual 112, 3) := by decide +kernel
theorem dL_law_1206 : decode cL_law 1206 = .ok (.aload_n 2, 1) := by decide +kernel
theorem dL_law_1207 : decode cL_law 1207 = .ok (.aload_n 0, 1) := by decide +kernel
theorem dL_law_1208 : decode cL_law 1208 = .ok (.iload_n 3, 1) := by decide +kernel
theorem dL_law_1209 : decode cL_law 1209 = .ok (.iconst 1, 1) := by decide +kernel
theorem dL_law_1210 : decode cL_law 1210 = .ok (.iadd, 1) := by decide +kernel
theorem dL_law_1211 : decode cL_law 1211 = .ok (.iaload, 1) := by decide +kernel
theorem dL_law_1212 : decode cL_law 1212 = .ok (.aload_n 0, 1) := by decide +kernel
theorem dL_law_1213 : decode cL_law 1213 = .ok (.iload_n 3, 1) := by decide +kernel
theorem dL_law_1214 : decode cL_law 1214 = .ok (.iconst 2, 1) := by decide +kernel
theorem dL_law_1215 : decode cL_law 1215 = .ok (.iadd, 1) := by decide +kernel
theorem dL_law_1216 : decode cL_law 1216 = .ok (.iaload, 1) := by decide +kernel
theorem dL_law_1217 : decode cL_law 1217 = .ok (.aload_n 0, 1) := by decide +kernel
theorem dL_law_1218 : decode cL_law 1218 = .ok (.iload_n 3, 1) := by decide +kernel
theorem dL_law_1219 : decode cL_law 1219 = .ok (.iconst 3, 1) := by decide +kernel
theorem dL_law_1220 : decode cL_law 1220 = .ok (.iadd, 1) := by decide +kernel
theorem dL_law_1221 : decode cL_law 1221 = .ok (.iaload, 1) := by decide +kernel
theorem dL_law_1222 : decode cL_law 1222 = .ok (.aload_n 0, 1) := by decide +kernel
theorem dL_law_1223 : decode cL_law 1223 = .ok (.iload_n 3, 1) := by decide +kernel
theorem dL_law_1224 : decode cL_law 1224 = .ok (.iconst 4, 1) := by decide +kernel
theorem dL_law_1225 : decode cL_law 1225 = .ok (.iadd, 1) := by decide +kernel
theorem dL_law_1226 : decode cL_law 1226 = .ok (.iaload, 1) := by decide +kernel
theorem dL_law_1227 : decode cL_law 1227 = .ok (.invokevirtual 115, 3) := by decide +kernel
theorem dL_law_1230 : decode cL_law 1230 = .ok (.if_icmp .eq 295, 3) := by decide +kernel
theorem dL_law_1235 : decode cL_law 1235 = .ok (.aload_n 1, 1) := by decide +kernel
theorem dL_law_1236 : decode cL_law 1236 = .ok (.aload_n 0, 1) := by decide +kernel
theorem dL_law_1237 : decode cL_law 1237 = .ok (.iload_n 3, 1) := by decide +kernel
theorem dL_law_1238 : decode cL_law 1238 = .ok (.iconst 1, 1) := by decide +kernel
theorem dL_law_1239 : decode cL_law 1239 = .ok (.iadd, 1) := by decide +kernel
theorem dL_law_1240 : decode cL_law 1240 = .ok (.iaload, 1) := by decide +kernel
theorem dL_law_1241 : decode cL_law 1241 = .ok (.aload_n 0, 1) := by decide +kernel
theorem dL_law_1242 : decode cL_law 1242 = .ok (.iload_n 3, 1) := by decide +kernel
theorem dL_law_1243 : decode cL_law 1243 = .ok (.iconst 2, 1) := by decide +kernel
theorem dL_law_1244 : decode cL_law 1244 = .ok (.iadd, 1) := by decide +kernel
theorem dL_law_1245 : decode cL_law 1245 = .ok (.iaload, 1) := by decide +kernel
theorem dL_law_1246 : decode cL_law 1246 = .ok (.invokevirtual 116, 3) := by decide +kernel
theorem dL_law_1249 : decode cL_law 1249 = .ok (.aload_n 2, 1) := by decide +kernel
theorem dL_law_1250 : decode cL_law 1250 = .ok (.aload_n 0, 1) := by decide +kernel
theorem dL_law_1251 : decode cL_law 1251 = .ok (.iload_n 3, 1) := by decide +kernel
theorem dL_law_1252 : decode cL_law 1252 = .ok (.iconst 1, 1) := by decide +kernel
theorem dL_law_1253 : decode cL_law 1253 = .ok (.iadd, 1) := by decide +kernel
theorem dL_law_1254 : decode cL_law 1254 = .ok (.iaload, 1) := by decide +kernel
theorem dL_law_1255 : decode cL_law 1255 = .ok (.aload_n 0, 1) := by decide +kernel
theorem dL_law_1256 : decode cL_law 1256 = .ok (.iload_n 3, 1) := by decide +kernel
theorem dL_law_1257 : decode cL_law 1257 = .ok (.iconst 2, 1) := by decide +kernel
theorem dL_law_1258 : decode cL_law 1258 = .ok (.iadd, 1) := by decide +kernel
theorem dL_law_1259 : decode cL_law 1259 = .ok (.iaload, 1) := by decide +kernel
theorem dL_law_1260 : decode cL_law 1260 = .ok (.invokevirtual 119, 3) := by decide +kernel
theorem dL_law_1263 : decode cL_law 1263 = .ok (.if_icmp .eq 262, 3) := by decide +kernel
theorem dL_law_1268 : decode cL_law 1268 = .ok (.aload_n 1, 1) := by decide +kernel
theorem dL_law_1269 : decode cL_law 1269 = .ok (.aload_n 0, 1) := by decide +kernel
theorem dL_law_1270 : decode cL_law 1270 = .ok (.iload_n 3, 1) := by decide +kernel
theorem dL_law_1271 : decode cL_law 1271 = .ok (.iconst 1, 1) := by decide +kernel
theorem dL_law_1272 : decode cL_law 1272 = .ok (.iadd, 1) := by decide +kernel
theorem dL_law_1273 : decode cL_law 1273 = .ok (.iaload, 1) := by decide +kernel
theorem dL_law_1274 : decode cL_law 1274 = .ok (.aload_n 0, 1) := by decide +kernel
theorem dL_law_1275 : decode cL_law 1275 = .ok (.iload_n 3, 1) := by decide +kernel
theorem dL_law_1276 : decode cL_law 1276 = .ok (.iconst 2, 1) := by decide +kernel
theorem dL_law_1277 : decode cL_law 1277 = .ok (.iadd, 1) := by decide +kernel
theorem dL_law_1278 : decode cL_law 1278 = .ok (.iaload, 1) := by decide +kernel
theorem dL_law_1279 : decode cL_law 1279 = .ok (.invokevirtual 120, 3) := by decide +kernel
theorem dL_law_1282 : decode cL_law 1282 = .ok (.aload_n 2, 1) := by decide +kernel
theorem dL_law_1283 : decode cL_law 1283 = .ok (.aload_n 0, 1) := by decide +kernel
theorem dL_law_1284 : decode cL_law 1284 = .ok (.iload_n 3, 1) := by decide +kernel
theorem dL_law_1285 : decode cL_law 1285 = .ok (.iconst 1, 1) := by decide +kernel
theorem dL_law_1286 : decode cL_law 1286 = .ok (.iadd, 1) := by decide +kernel
theorem dL_law_1287 : decode cL_law 1287 = .ok (.iaload, 1) := by decide +kernel
theorem dL_law_1288 : decode cL_law 1288 = .ok (.aload_n 0, 1) := by decide +kernel
theorem dL_law_1289 : decode cL_law 1289 = .ok (.iload_n 3, 1) := by decide +kernel
theorem dL_law_1290 : decode cL_law 1290 = .ok (.iconst 2, 1) := by decide +kernel
theorem dL_law_1291 : decode cL_law 1291 = .ok (.iadd, 1) := by decide +kernel
theorem dL_law_1292 : decode cL_law 1292 = .ok (.iaload, 1) := by decide +kernel
theorem dL_law_1293 : decode cL_law 1293 = .ok (.invokevirtual 123, 3) := by decide +kernel
theorem dL_law_1296 : decode cL_law 1296 = .ok (.if_icmp .eq 229, 3) := by decide +kernel
theorem dL_law_1301 : decode cL_law 1301 = .ok (.aload_n 1, 1) := by decide +kernel
theorem dL_law_1302 : decode cL_law 1302 = .ok (.aload_n 0, 1) := by decide +kernel
theorem dL_law_1303 : decode cL_law 1303 = .ok (.iload_n 3, 1) := by decide +kernel
theorem dL_law_1304 : decode cL_law 1304 = .ok (.iconst 1, 1) := by decide +kernel
theorem dL_law_1305 : decode cL_law 1305 = .ok (.iadd, 1) := by decide +kernel
theorem dL_law_1306 : decode cL_law 1306 = .ok (.iaload, 1) := by decide +kernel
theorem dL_law_1307 : decode cL_law 1307 = .ok (.aload_n 0, 1) := by decide +kernel
theorem dL_law_1308 : decode cL_law 1308 = .ok (.iload_n 3, 1) := by decide +kernel
theorem dL_law_1309 : decode cL_law 1309 = .ok (.iconst 2, 1) := by decide +kernel
theorem dL_law_1310 : decode cL_law 1310 = .ok (.iadd, 1) := by decide +kernel
theorem dL_law_1311 : decode cL_law 1311 = .ok (.iaload, 1) := by decide +kernel
theorem dL_law_1312 : decode cL_law 1312 = .ok (.aload_n 0, 1) := by decide +kernel
theorem dL_law_1313 : decode cL_law 1313 = .ok (.iload_n 3, 1) := by decide +kernel
theorem dL_law_1314 : decode cL_law 1314 = .ok (.iconst 3, 1) := by decide +kernel
theorem dL_law_1315 : decode cL_law 1315 = .ok (.iadd, 1) := by decide +kernel
theorem dL_law_1316 : decode cL_law 1316 = .ok (.iaload, 1) := by decide +kernel
theorem dL_law_1317 : decode cL_law 1317 = .ok (.invokevirtual 124, 3) := by decide +kernel
theorem dL_law_1320 : decode cL_law 1320 = .ok (.aload_n 2, 1) := by decide +kernel
theorem dL_law_1321 : decode cL_law 1321 = .ok (.aload_n 0, 1) := by decide +kernel
theorem dL_law_1322 : decode cL_law 1322 = .ok (.iload_n 3, 1) := by decide +kernel
theorem dL_law_1323 : decode cL_law 1323 = .ok (.iconst 1, 1) := by decide +kernel
theorem dL_law_1324 : decode cL_law 1324 = .ok (.iadd, 1) := by decide +kernel
theorem dL_law_1325 : decode cL_law 1325 = .ok (.iaload, 1) := by decide +kernel
theorem dL_law_1326 : decode cL_law 1326 = .ok (.aload_n 0, 1) := by decide +kernel
theorem dL_law_1327 : decode cL_law 1327 = .ok (.iload_n 3, 1) := by decide +kernel
theorem dL_law_1328 : decode cL_law 1328 = .ok (.iconst 2, 1) := by decide +kernel
theorem dL_law_1329 : decode cL_law 1329 = .ok (.iadd, 1) := by decide +kernel
theorem dL_law_1330 : decode cL_law 1330 = .ok (.iaload, 1) := by decide +kernel
theorem dL_law_1331 : decode cL_law 1331 = .ok (.aload_n 0, 1) := by decide +kernel
theorem dL_law_1332 : decode cL_law 1332 = .ok (.iload_n 3, 1) := by decide +kernel
theorem dL_law_1333 : decode cL_law 1333 = .ok (.iconst 3, 1) := by decide +kernel
theorem dL_law_1334 : decode cL_law 1334 = .ok (.iadd, 1) := by decide +kernel
theorem dL_law_1335 : decode cL_law 1335 = .ok (.iaload, 1) := by decide +kernel
theorem dL_law_1336 : decode cL_law 1336 = .ok (.invokevirtual 127, 3) := by decide +kernel
theorem dL_law_1339 : decode cL_law 1339 = .ok (.if_icmp .eq 186, 3) := by decide +kernel
theorem dL_law_1344 : decode cL_law 1344 = .ok (.aload_n 1, 1) := by decide +kernel
theorem dL_law_1345 : decode cL_law 1345 = .ok (.aload_n 0, 1) := by decide +kernel
theorem dL_law_1346 : decode cL_law 1346 = .ok (.iload_n 3, 1) := by decide +kernel
theorem dL_law_1347 : decode cL_law 1347 = .ok (.iconst 1, 1) := by decide +kernel
theorem dL_law_1348 : decode cL_law 1348 = .ok (.iadd, 1) := by decide +kernel
theorem dL_law_1349 : decode cL_law 1349 = .ok (.iaload, 1) := by decide +kernel
theorem dL_law_1350 : decode cL_law 1350 = .ok (.aload_n 0, 1) := by decide +kernel
theorem dL_law_1351 : decode cL_law 1351 = .ok (.iload_n 3, 1) := by decide +kernel
theorem dL_law_1352 : decode cL_law 1352 = .ok (.iconst 2, 1) := by decide +kernel
theorem dL_law_1353 : decode cL_law 1353 = .ok (.iadd, 1) := by decide +kernel
theorem dL_law_1354 : decode cL_law 1354 = .ok (.iaload, 1) := by decide +kernel
theorem dL_law_1355 : decode cL_law 1355 = .ok (.invokevirtual 128, 3) := by decide +kernel
theorem dL_law_1358 : decode cL_law 1358 = .ok (.aload_n 2, 1) := by decide +kernel
theorem dL_law_1359 : decode cL_law 1359 = .ok (.aload_n 0, 1) := by decide +kernel
theorem dL_law_1360 : decode cL_law 1360 = .ok (.iload_n 3, 1) := by decide +kernel
theorem dL_law_1361 : decode cL_law 1361 = .ok (.iconst 1, 1) := by decide +kernel
theorem dL_law_1362 : decode cL_law 1362 = .ok (.iadd, 1) := by decide +kernel
theorem dL_law_1363 : decode cL_law 1363 = .ok (.iaload, 1) := by decide +kernel
theorem dL_law_1364 : decode cL_law 1364 = .ok (.aload_n 0, 1) := by decide +kernel
theorem dL_law_1365 : decode cL_law 1365 = .ok (.iload_n 3, 1) := by decide +kernel
theorem dL_law_1366 : decode cL_law 1366 = .ok (.iconst 2, 1) := by decide +kernel
theorem dL_law_1367 : decode cL_law 1367 = .ok (.iadd, 1) := by decide +kernel
theorem dL_law_1368 : decode cL_law 1368 = .ok (.iaload, 1) := by decide +kernel
theorem dL_law_1369 : decode cL_law 1369 = .ok (.invokevirtual 131, 3) := by decide +kernel
theorem dL_law_1372 : decode cL_law 1372 = .ok (.if_icmp .eq 153, 3) := by decide +kernel
theorem dL_law_1377 : decode cL_law 1377 = .ok (.aload_n 1, 1) := by decide +kernel
theorem dL_law_1378 : decode cL_law 1378 = .ok (.aload_n 0, 1) := by decide +kernel
theorem dL_law_1379 : decode cL_law 1379 = .ok (.iload_n 3, 1) := by decide +kernel
theorem dL_law_1380 : decode cL_law 1380 = .ok (.iconst 1, 1) := by decide +kernel
theorem dL_law_1381 : decode cL_law 1381 = .ok (.iadd, 1) := by decide +kernel
theorem dL_law_1382 : decode cL_law 1382 = .ok (.iaload, 1) := by decide +kernel
theorem dL_law_1383 : decode cL_law 1383 = .ok (.invokevirtual 132, 3) := by decide +kernel
theorem dL_law_1386 : decode cL_law 1386 = .ok (.aload_n 2, 1) := by decide +kernel
theorem dL_law_1387 : decode cL_law 1387 = .ok (.aload_n 0, 1) := by decide +kernel
theorem dL_law_1388 : decode cL_law 1388 = .ok (.iload_n 3, 1) := by decide +kernel
theorem dL_law_1389 : decode cL_law 1389 = .ok (.iconst 1, 1) := by decide +kernel
theorem dL_law_1390 : decode cL_law 1390 = .ok (.iadd, 1) := by decide +kernel
theorem dL_law_1391 : decode cL_law 1391 = .ok (.iaload, 1) := by decide +kernel
theorem dL_law_1392 : decode cL_law 1392 = .ok (.invokevirtual 135, 3) := by decide +kernel
theorem dL_law_1395 : decode cL_law 1395 = .ok (.if_icmp .eq 130, 3) := by decide +kernel
theorem dL_law_1400 : decode cL_law 1400 = .ok (.aload_n 1, 1) := by decide +kernel
theorem dL_law_1401 : decode cL_law 1401 = .ok (.aload_n 0, 1) := by decide +kernel
theorem dL_law_1402 : decode cL_law 1402 = .ok (.iload_n 3, 1) := by decide +kernel
theorem dL_law_1403 : decode cL_law 1403 = .ok (.iconst 1, 1) := by decide +kernel
theorem dL_law_1404 : decode cL_law 1404 = .ok (.iadd, 1) := by decide +kernel
theorem dL_law_1405 : decode cL_law 1405 = .ok (.iaload, 1) := by decide +kernel
theorem dL_law_1406 : decode cL_law 1406 = .ok (.aload_n 0, 1) := by decide +kernel
theorem dL_law_1407 : decode cL_law 1407 = .ok (.iload_n 3, 1) := by decide +kernel
theorem dL_law_1408 : decode cL_law 1408 = .ok (.iconst 2, 1) := by decide +kernel
theorem dL_law_1409 : decode cL_law 1409 = .ok (.iadd, 1) := by decide +kernel
theorem dL_law_1410 : decode cL_law 1410 = .ok (.iaload, 1) := by decide +kernel
theorem dL_law_1411 : decode cL_law 1411 = .ok (.invokevirtual 136, 3) := by decide +kernel
theorem dL_law_1414 : decode cL_law 1414 = .ok (.aload_n 2, 1) := by decide +kernel
theorem dL_law_1415 : decode cL_law 1415 = .ok (.aload_n 0, 1) := by decide +kernel
theorem dL_law_1416 : decode cL_law 1416 = .ok (.iload_n 3, 1) := by decide +kernel
theorem dL_law_1417 : decode cL_law 1417 = .ok (.iconst 1, 1) := by decide +kernel
theorem dL_law_1418 : decode cL_law 1418 = .ok (.iadd, 1) := by decide +kernel
theorem dL_law_1419 : decode cL_law 1419 = .ok (.iaload, 1) := by decide +kernel
theorem dL_law_1420 : decode cL_law 1420 = .ok (.aload_n 0, 1) := by decide +kernel
theorem dL_law_1421 : decode cL_law 1421 = .ok (.iload_n 3, 1) := by decide +kernel
theorem dL_law_1422 : decode cL_law 1422 = .ok (.iconst 2, 1) := by decide +kernel
theorem dL_law_1423 : decode cL_law 1423 = .ok (.iadd, 1) := by decide +kernel
theorem dL_law_1424 : decode cL_law 1424 = .ok (.iaload, 1) := by decide +kernel
theorem dL_law_1425 : decode cL_law 1425 = .ok (.invokevirtual 139, 3) := by decide +kernel
theorem dL_law_1428 : decode cL_law 1428 = .ok (.if_icmp .eq 97, 3) := by decide +kernel
theorem dL_law_1433 : decode cL_law 1433 = .ok (.aload_n 1, 1) := by decide +kernel
theorem dL_law_1434 : decode cL_law 1434 = .ok (.invokevirtual 140, 3) := by decide +kernel
theorem dL_law_1437 : decode cL_law 1437 = .ok (.aload_n 2, 1) := by decide +kernel
theorem dL_law_1438 : decode cL_law 1438 = .ok (.invokevirtual 144, 3) := by decide +kernel
theorem dL_law_1441 : decode cL_law 1441 = .ok (.if_icmp .eq 84, 3) := by decide +kernel
theorem dL_law_1446 : decode cL_law 1446 = .ok (.aload_n 1, 1) := by decide +kernel
theorem dL_law_1447 : decode cL_law 1447 = .ok (.invokevirtual 145, 3) := by decide +kernel
theorem dL_law_1450 : decode cL_law 1450 = .ok (.aload_n 2, 1) := by decide +kernel
theorem dL_law_1451 : decode cL_law 1451 = .ok (.invokevirtual 149, 3) := by decide +kernel
theorem dL_law_1454 : decode cL_law 1454 = .ok (.if_icmp .eq 71, 3) := by decide +kernel
theorem dL_law_1459 : decode cL_law 1459 = .ok (.aload_n 1, 1) := by decide +kernel
theorem dL_law_1460 : decode cL_law 1460 = .ok (.aload_n 0, 1) := by decide +kernel
theorem dL_law_1461 : decode cL_law 1461 = .ok (.iload_n 3, 1) := by decide +kernel
theorem dL_law_1462 : decode cL_law 1462 = .ok (.iconst 1, 1) := by decide +kernel
theorem dL_law_1463 : decode cL_law 1463 = .ok (.iadd, 1) := by decide +kernel
theorem dL_law_1464 : decode cL_law 1464 = .ok (.iaload, 1) := by decide +kernel
theorem dL_law_1465 : decode cL_law 1465 = .ok (.aload_n 0, 1) := by decide +kernel
theorem dL_law_1466 : decode cL_law 1466 = .ok (.iload_n 3, 1) := by decide +kernel
theorem dL_law_1467 : decode cL_law 1467 = .ok (.iconst 2, 1) := by decide +kernel
theorem dL_law_1468 : decode cL_law 1468 = .ok (.iadd, 1) := by decide +kernel
theorem dL_law_1469 : decode cL_law 1469 = .ok (.iaload, 1) := by decide +kernel
theorem dL_law_1470 : decode cL_law 1470 = .ok (.aload_n 0, 1) := by decide +kernel
theorem dL_law_1471 : decode cL_law 1471 = .ok (.iload_n 3, 1) := by decide +kernel
theorem dL_law_1472 : decode cL_law 1472 = .ok (.iconst 3, 1) := by decide +kernel
theorem dL_law_1473 : decode cL_law 1473 = .ok (.iadd, 1) := by decide +kernel
theorem dL_law_1474 : decode cL_law 1474 = .ok (.iaload, 1) := by decide +kernel
theorem dL_law_1475 : decode cL_law 1475 = .ok (.invokevirtual 150, 3) := by decide +kernel
theorem dL_law_1478 : decode cL_law 1478 = .ok (.aload_n 2, 1) := by decide +kernel
theorem dL_law_1479 : decode cL_law 1479 = .ok (.aload_n 0, 1) := by decide +kernel
theorem dL_law_1480 : decode cL_law 1480 = .ok (.iload_n 3, 1) := by decide +kernel
theorem dL_law_1481 : decode cL_law 1481 = .ok (.iconst 1, 1) := by decide +kernel
theorem dL_law_1482 : decode cL_law 1482 = .ok (.iadd, 1) := by decide +kernel
theorem dL_law_1483 : decode cL_law 1483 = .ok (.iaload, 1) := by decide +kernel
theorem dL_law_1484 : decode cL_law 1484 = .ok (.aload_n 0, 1) := by decide +kernel
theorem dL_law_1485 : decode cL_law 1485 = .ok (.iload_n 3, 1) := by decide +kernel
theorem dL_law_1486 : decode cL_law 1486 = .ok (.iconst 2, 1) := by decide +kernel
theorem dL_law_1487 : decode cL_law 1487 = .ok (.iadd, 1) := by decide +kernel
theorem dL_law_1488 : decode cL_law 1488 = .ok (.iaload, 1) := by decide +kernel
theorem dL_law_1489 : decode cL_law 1489 = .ok (.aload_n 0, 1) := by decide +kernel
theorem dL_law_1490 : decode cL_law 1490 = .ok (.iload_n 3, 1) := by decide +kernel
theorem dL_law_1491 : decode cL_law 1491 = .ok (.iconst 3, 1) := by decide +kernel
theorem dL_law_1492 : decode cL_law 1492 = .ok (.iadd, 1) := by decide +kernel
theorem dL_law_1493 : decode cL_law 1493 = .ok (.iaload, 1) := by decide +kernel
theorem dL_law_1494 : decode cL_law 1494 = .ok (.invokevirtual 153, 3) := by decide +kernel
theorem dL_law_1497 : decode cL_law 1497 = .ok (.if_icmp .eq 28, 3) := by decide +kernel
theorem dL_law_1502 : decode cL_law 1502 = .ok (.aload_n 1, 1) := by decide +kernel
theorem dL_law_1503 : decode cL_law 1503 = .ok (.aload_n 0, 1) := by decide +kernel
theorem dL_law_1504 : decode cL_law 1504 = .ok (.iload_n 3, 1) := by decide +kernel
theorem dL_law_1505 : decode cL_law 1505 = .ok (.iconst 1, 1) := by decide +kernel
theorem dL_law_1506 : decode cL_law 1506 = .ok (.iadd, 1) := by decide +kernel
theorem dL_law_1507 : decode cL_law 1507 = .ok (.iaload, 1) := by decide +kernel
theorem dL_law_1508 : decode cL_law 1508 = .ok (.invokevirtual 154, 3) := by decide +kernel
theorem dL_law_1511 : decode cL_law 1511 = .ok (.aload_n 2, 1) := by decide +kernel
theorem dL_law_1512 : decode cL_law 1512 = .ok (.aload_n 0, 1) := by decide +kernel
theorem dL_law_1513 : decode cL_law 1513 = .ok (.iload_n 3, 1) := by decide +kernel
theorem dL_law_1514 : decode cL_law 1514 = .ok (.iconst 1, 1) := by decide +kernel
theorem dL_law_1515 : decode cL_law 1515 = .ok (.iadd, 1) := by decide +kernel
theorem dL_law_1516 : decode cL_law 1516 = .ok (.iaload, 1) := by decide +kernel
theorem dL_law_1517 : decode cL_law 1517 = .ok (.invokevirtual 157, 3) := by decide +kernel
theorem dL_law_1520 : decode cL_law 1520 = .ok (.if_icmp .eq 5, 3) := by decide +kernel
theorem dL_law_1525 : decode cL_law 1525 = .ok (.iinc 3 7, 3) := by decide +kernel
theorem dL_law_1528 : decode cL_law 1528 = .ok (.goto (-1510), 3) := by decide +kernel
theorem dL_law_1531 : decode cL_law 1531 = .ok (.iconst 1, 1) := by decide +kernel
theorem dL_law_1532 : decode cL_law 1532 = .ok (.ireturn, 1) := by decide +kernel
theorem vaP_l {D : va_G} {cl : List vw_C} {w1 w2 : va_W} {H : Heap} (h : va_P D cl (w1 ++ w2) H) : va_P D cl w1 H := fun k q hq => h k q (by rw [List.getElem?_append_left (List.getElem?_eq_some_iff.mp hq).1]; exact hq)
theorem vaP_r {D : va_G} {cl : List vw_C} {w1 w2 : va_W} {H : Heap} (h : va_P D cl (w1 ++ w2) H) : va_P D cl w2 H := fun k q hq => h (w1.length + k) q (by rw [List.getElem?_append_right (by omega), show w1.length + k - w1.length = k by omega]; exact hq)
theorem vaD_l {A : Nat → Prop} {w1 w2 : va_W} (h : va_D A (w1 ++ w2)) : va_D A w1 := by
  have key : ∀ (k : Nat) (q : Nat × va_E), w1[k]? = some q → (w1 ++ w2)[k]? = some q := fun k q hq => by rw [List.getElem?_append_left (List.getElem?_eq_some_iff.mp hq).1]; exact hq
  exact ⟨fun i j p q hp hq => h.1 i j p q (key i p hp) (key j q hq), fun k q hq => h.2 k q (key k q hq)⟩
theorem vaD_r {A : Nat → Prop} {w1 w2 : va_W} (h : va_D A (w1 ++ w2)) : va_D A w2 := by
  have key : ∀ (k : Nat) (q : Nat × va_E), w2[k]? = some q → (w1 ++ w2)[w1.length + k]? = some q := fun k q hq => by rw [List.getElem?_append_right (by omega), show w1.length + k - w1.length = k by omega]; exact hq
  exact ⟨fun i j p q hp hq e => by have := h.1 _ _ p q (key i p hp) (key j q hq) e; omega, fun k q hq => h.2 _ q (key k q hq)⟩
theorem vaA_sub {ws wc : va_W} {n q : Nat} (is : List Nat) (hC : is.map (fun i => ws[i]?) = wc.map some) (h : va_A wc n q) : va_A ws n q := by
  rcases h with ⟨j, e, hj⟩ | h
  · have e1 : (is.map (fun i => ws[i]?))[j]? = some (some (q, e)) := by rw [hC, List.getElem?_map, hj]; rfl
    rw [List.getElem?_map] at e1
    cases hi : is[j]? with
    | none => rw [hi] at e1; cases e1
    | some i0 => rw [hi] at e1; exact Or.inl ⟨i0, e, Option.some.inj e1⟩
  · exact Or.inr h
theorem CNT_eq {x z y : Int32} (h : (x.toInt = 6 → z = 1) ∧ (0 ≤ x.toInt → x.toInt ≤ 5 → z = 0) ∧ (x.toInt < 0 ∨ 6 < x.toInt → z = -1)) (h2 : (x.toInt = 6 → y = 1) ∧ (0 ≤ x.toInt → x.toInt ≤ 5 → y = 0) ∧ (x.toInt < 0 ∨ 6 < x.toInt → y = -1)) : z = y := by
  rcases (show x.toInt = 6 ∨ (0 ≤ x.toInt ∧ x.toInt ≤ 5) ∨ (x.toInt < 0 ∨ 6 < x.toInt) by omega) with q | q | q
  · exact (h.1 q).trans (h2.1 q).symm
  · exact (h.2.1 q.1 q.2).trans (h2.2.1 q.1 q.2).symm
  · exact (h.2.2 q).trans (h2.2.2 q).symm
/-! THE CLAIM OUT OF ONE WALK OF THE LAW'S BODY. Your part is whole_start (and what it stands on); all else here is the same for every law, but numbers. -/
def R_law : String := "DepositJudgeLaw"
def lw_P (b : Addr) (xs : List Int32) (args : Array Value) (s : State) : Prop := args = #[.ref b] ∧ s.IntsAt b xs ∧ xs.length ≤ 7 ∧ (Jvm.Cond.and given_1 narrow_1).before args s = true
def lw_Q (_ : Array Value) (s : State) (o : Outcome) (t : State) : Prop := o = .returned (some (.int 1)) ∧ Framed s o t [] 600000 7302249
def lw_Z (below : List Frame) (a : Array Value) (s : State) : State → Prop := fun t => ∃ o, t.status = .running ∧ Ended t below o ∧ lw_Q a s o t
/-- the law's own end, with 1 on the stack, nothing written that was there before, its room as the claim has it -/
theorem lw_ret {p : Program} {l : Launch} {e : Env} {s : State} {m : MethodId} {below : List Frame} {meth : Method} {c : Code} {b : Nat} (hx : p.tables.exec = Jvm.exec) (hb : c.code = code) (hr : meth.sig.returnType = ret) (hlocks : meth.locks = false) {pc : Nat} {H : Heap} {ls : Array Slot} (hdg : decode code pc = .ok (.ireturn, 1)) : W p l e room_1 s m #[Value.ref b] below meth c H [] 600000 7302249 (lw_Z below #[Value.ref b] s) (F0 m pc ls [.int 1]) := by
  intro T hT X
  obtain ⟨fs, hret, hrun, hended, hW, hframe⟩ := X.leave (v := some (.int 1)) (hlocks := hlocks) (fun h => by rw [hr] at h; cases h)
  have hmeth' : T.vm.method? m = some meth := X.method'
  refine ⟨T.setFrames fs, ?_, .returned (some (.int 1)), hrun, hended, rfl, ⟨_, rfl⟩, hW, hframe⟩
  jvm_step X.here [X.here.top, hx, hb, hdg, hmeth', hr, ret, narrow_b1]
  (try refine ⟨rfl, ?_⟩); (try refine ⟨rfl, ?_⟩)
  first | (intro acts; rw [hret _ acts rfl rfl rfl]) | rw [hret _ _ rfl rfl rfl]
  exact Steps.refl _
/-- what holds at the law's entry: the machine, the code, the tables' words (any of lw_tbl by 'hts w (by decide +kernel)'), the script of L ints xs at the cell b, what the Statement gives of the start (any of its parts by flat_of_before) -/
def lw_At (p : Program) (s : State) (m : MethodId) (meth : Method) (c : Code) (b L : Nat) (xs : Nat → Int32) : Prop :=
  p.tables.exec = Jvm.exec ∧ c.code = code ∧ meth.sig.returnType = ret ∧ c.maxLocals = 4 ∧ s.vm.findClass R_law = some m.cls ∧ (∀ w ∈ lw_tbl, w.before #[Value.ref b] s = true) ∧ va_X b L xs s s.heap ∧ b < s.heap.size ∧ meth.locks = false ∧ (Jvm.Cond.and given_1 narrow_1).before #[Value.ref b] s = true
set_option maxHeartbeats 4000000 in
set_option maxRecDepth 100000 in
theorem lc_end {p : Program} {l : Launch} {e : Env} {s : State} {m : MethodId} {below : List Frame} {meth : Method} {c : Code} {b : Nat} {xs : Nat → Int32} (C0 : lw_At p s m meth c b 7 xs) {H : Heap} {locs : List Loc} (hS : va_S (fun q : Nat => s.heap.size ≤ q) s.heap H locs) {ls : Array Slot} (hl : lv_has ls 4 [(0, .ref b), (3, .int 0)]) {ce sl : Nat} (hce : ce ≤ 600000) (hsl : sl ≤ 7302249) : W p l e room_1 s m #[Value.ref b] below meth c H locs ce sl (lw_Z below #[Value.ref b] s) (F0 m 1525 ls []) := by
  obtain ⟨hx, hb, hr, hml, hown, hts, hX, hbl, hlocks, hgv⟩ := C0
  have hT : ∀ w ∈ gT, w.before _ s = true := fun w h => hts w (gT_in w h)
  have hA : ∀ q : Nat, s.heap.size ≤ q → (fun q : Nat => s.heap.size ≤ q) q := fun _ h => h
  have hbA : ¬ (fun q : Nat => s.heap.size ≤ q) b := Nat.not_le.mpr hbl
  obtain ⟨x_1, ex_1⟩ : ∃ y : Int32, y = (0 : Int32) + 7 := ⟨_, rfl⟩
  refine lv_iinc (v := x_1) (lv' := [(3, .int x_1), (0, .ref b)]) hx hb dL_law_1525 hl (k := 1) rfl (by rw [ex_1]; rfl) (by decide) rfl (fun ls hl => ?_)
  obtain rfl : x_1 = 7 := ex_1.trans (by decide)
  refine lv_goto (tgt := 18) hx hb dL_law_1528 (by decide) ?_
  refine lv_iload_n hx hb dL_law_18 rfl (lv_at hl 0 rfl) ?_
  refine lv_aload_n hx hb dL_law_19 rfl (lv_at hl 1 rfl) ?_
  refine va_slen hx hb hX hbl hbA hS dL_law_20 ?_
  refine lv_topi (fun v_2 ev_2 => ?_)
  obtain rfl : v_2 = 7 := ev_2
  refine lv_bipush (v := 7) hx hb dL_law_21 (by decide) ?_
  refine lv_isub hx hb dL_law_23 ?_
  refine lv_topi (fun v_3 ev_3 => ?_)
  obtain rfl : v_3 = 0 := ev_3.trans (by decide)
  refine lv_icmp_gt (tgt := 1531) hx hb dL_law_24 (by decide) (fun c_4 => ?_) (fun c_4 => absurd (by decide) c_4)
  refine lv_iconst (v := 1) hx hb dL_law_1531 (by decide) ?_
  refine va_forget (fun q hq => hS.2.2 q hq) ?_
  refine W.widen (k := 600000) (n := 7302249) hce hsl ?_
  exact lw_ret hx hb hr hlocks dL_law_1532
set_option maxHeartbeats 4000000 in
set_option maxRecDepth 100000 in
theorem lc_0 {p : Program} {l : Launch} {e : Env} {s : State} {m : MethodId} {below : List Frame} {meth : Method} {c : Code} {b : Nat} {xs : Nat → Int32} (C0 : lw_At p s m meth c b 7 xs) {D : va_G} {cy : Nat → ClassId} {ax : Nat → Nat} {ix : Nat → Int32} {rx : Nat → Nat → Int32} {am : Nat → Nat} {im : Nat → Int32} {rm : Nat → Nat → Int32} {lm : Nat → Int64} (hf : xZ ix) (hg : xZr rx) (hz : mZ im) (hn : nw s) (hK : va_K D vwCl (vT cy) s) {H : Heap} {locs : List Loc} (hPx : va_P D vwCl (xW cy ax ix rx (fun _ => none) (ax 20) (ax 12)) H) (hPm : va_P D vwCl (mW cy am im rm lm) H) (hDj : va_D (fun q : Nat => s.heap.size ≤ q) ((xW cy ax ix rx (fun _ => none) (ax 20) (ax 12)) ++ (mW cy am im rm lm))) (hS : va_S (fun q : Nat => s.heap.size ≤ q) s.heap H locs) {ls : Array Slot} (hl : lv_has ls 4 [(0, .ref b), (1, .ref (ax 0)), (2, .ref (am 0)), (3, .int 0)]) : W p l e room_1 s m #[Value.ref b] below meth c H locs 134 5936 (lw_Z below #[Value.ref b] s) (F0 m 180 ls []) := by
  obtain ⟨hx, hb, hr, hml, hown, hts, hX, hbl, hlocks, hgv⟩ := id C0
  have hT : ∀ w ∈ gT, w.before _ s = true := fun w h => hts w (gT_in w h)
  have hA : ∀ q : Nat, s.heap.size ≤ q → (fun q : Nat => s.heap.size ≤ q) q := fun _ h => h
  have hbA : ¬ (fun q : Nat => s.heap.size ≤ q) b := Nat.not_le.mpr hbl
  have hDx := vaD_l hDj
  have hDm := vaD_r hDj
  refine lv_aload_n hx hb dL_law_180 rfl (lv_at hl 1 rfl) ?_
  refine lv_aload_n hx hb dL_law_181 rfl (lv_at hl 0 rfl) ?_
  refine lv_iload_n hx hb dL_law_182 rfl (lv_at hl 3 rfl) ?_
  refine lv_iconst (v := 1) hx hb dL_law_183 (by decide) ?_
  refine lv_iadd hx hb dL_law_184 ?_
  refine lv_topi (fun v_1 ev_1 => ?_)
  obtain rfl : v_1 = 1 := ev_1.trans (by decide)
  refine va_sld hx hb hX hbl hbA hS (vp_inI (by decide) (by decide)) dL_law_185 ?_
  refine lv_topi (fun v_2 ev_2 => ?_)
  obtain rfl : v_2 = xs 1 := ev_2
  refine lv_aload_n hx hb dL_law_186 rfl (lv_at hl 0 rfl) ?_
  refine lv_iload_n hx hb dL_law_187 rfl (lv_at hl 3 rfl) ?_
  refine lv_iconst (v := 2) hx hb dL_law_188 (by decide) ?_
  refine lv_iadd hx hb dL_law_189 ?_
  refine lv_topi (fun v_3 ev_3 => ?_)
  obtain rfl : v_3 = 2 := ev_3.trans (by decide)
  refine va_sld hx hb hX hbl hbA hS (vp_inI (by decide) (by decide)) dL_law_190 ?_
  refine lv_topi (fun v_4 ev_4 => ?_)
  obtain rfl : v_4 = xs 2 := ev_4
  have hFx := rF hDx hS hA
  refine va_calli (va_runV (As := [.int (xs 1), .int (xs 2)]) (rest := []) ⟨hx, hb, hml, hown, hT⟩ (c_X11_life l D cy ax ix rx (fun _ => none) (xs 1) (xs 2) _ hf hg) (cwV 2 hT (gV t_342 t_343 t_344 t_345 t_2) rfl rfl rfl (by decide +kernel) ⟨Nat.le_of_ble_eq_true rfl, Nat.le_of_ble_eq_true rfl⟩) (rQ_v hPx hK hDx (va_recv hK hPx (ci := 11) (q0 := 0) rfl rfl)) rfl rfl hl.1 rfl (lv_room (Nat.le_of_ble_eq_true rfl)) dL_law_191 ⟨Nat.le_of_ble_eq_true rfl, Nat.le_of_ble_eq_true rfl⟩) hS (fun q _ h => hFx q h) hFx (fun r_5 u_6 t H1 locs ht hvm hr_5 hB hz1 hk1 hS => ?_)
  have hPm := rk hDj hPm hk1
  refine lv_aload_n hx hb dL_law_194 rfl (lv_at hl 2 rfl) ?_
  refine lv_aload_n hx hb dL_law_195 rfl (lv_at hl 0 rfl) ?_
  refine lv_iload_n hx hb dL_law_196 rfl (lv_at hl 3 rfl) ?_
  refine lv_iconst (v := 1) hx hb dL_law_197 (by decide) ?_
  refine lv_iadd hx hb dL_law_198 ?_
  refine lv_topi (fun v_7 ev_7 => ?_)
  obtain rfl : v_7 = 1 := ev_7.trans (by decide)
  refine va_sld hx hb hX hbl hbA hS (vp_inI (by decide) (by decide)) dL_law_199 ?_
  refine lv_topi (fun v_8 ev_8 => ?_)
  obtain rfl : v_8 = xs 1 := ev_8
  refine lv_aload_n hx hb dL_law_200 rfl (lv_at hl 0 rfl) ?_
  refine lv_iload_n hx hb dL_law_201 rfl (lv_at hl 3 rfl) ?_
  refine lv_iconst (v := 2) hx hb dL_law_202 (by decide) ?_
  refine lv_iadd hx hb dL_law_203 ?_
  refine lv_topi (fun v_9 ev_9 => ?_)
  obtain rfl : v_9 = 2 := ev_9.trans (by decide)
  refine va_sld hx hb hX hbl hbA hS (vp_inI (by decide) (by decide)) dL_law_204 ?_
  refine lv_topi (fun v_10 ev_10 => ?_)
  obtain rfl : v_10 = xs 2 := ev_10
  have hFm := rF hDm hS hA
  refine va_calli (va_runV (As := [.int (xs 1), .int (xs 2)]) (rest := [.int r_5]) ⟨hx, hb, hml, hown, hT⟩ (c_X12_life l D cy am im rm lm (xs 1) (xs 2) _ hz) (cwV 2 hT (gV t_346 t_347 t_348 t_349 t_8) rfl rfl rfl (by decide +kernel) ⟨Nat.le_of_ble_eq_true rfl, Nat.le_of_ble_eq_true rfl⟩) (rQ_v hPm hK hDm (va_recv hK hPm (ci := 12) (q0 := 0) rfl rfl)) rfl rfl hl.1 rfl (lv_room (Nat.le_of_ble_eq_true rfl)) dL_law_205 ⟨Nat.le_of_ble_eq_true rfl, Nat.le_of_ble_eq_true rfl⟩) hS (fun q _ h => hFm q h) hFm (fun r_11 u_12 t H1 locs ht hvm hr_11 hB hz1 hk1 hS => ?_)
  refine lv_icmp_eq (tgt := 1525) hx hb dL_law_208 (by decide) (fun _ => ?_) (fun c9 => absurd (BR_eq hr_5 hr_11) c9)
  exact lc_end C0 hS (lv_sub hl [0, 3] rfl) (Nat.le_of_ble_eq_true rfl) (Nat.le_of_ble_eq_true rfl)
set_option maxHeartbeats 4000000 in
set_option maxRecDepth 100000 in
theorem lc_1 {p : Program} {l : Launch} {e : Env} {s : State} {m : MethodId} {below : List Frame} {meth : Method} {c : Code} {b : Nat} {xs : Nat → Int32} (C0 : lw_At p s m meth c b 7 xs) {D : va_G} {cy : Nat → ClassId} {ax : Nat → Nat} {ix : Nat → Int32} {rx : Nat → Nat → Int32} {am : Nat → Nat} {im : Nat → Int32} {rm : Nat → Nat → Int32} {lm : Nat → Int64} (hf : xZ ix) (hg : xZr rx) (hz : mZ im) (hn : nw s) (hK : va_K D vwCl (vT cy) s) {H : Heap} {locs : List Loc} (hPx : va_P D vwCl (xW cy ax ix rx (fun _ => none) (ax 20) (ax 12)) H) (hPm : va_P D vwCl (mW cy am im rm lm) H) (hDj : va_D (fun q : Nat => s.heap.size ≤ q) ((xW cy ax ix rx (fun _ => none) (ax 20) (ax 12)) ++ (mW cy am im rm lm))) (hS : va_S (fun q : Nat => s.heap.size ≤ q) s.heap H locs) {ls : Array Slot} (hl : lv_has ls 4 [(0, .ref b), (1, .ref (ax 0)), (2, .ref (am 0)), (3, .int 0)]) : W p l e room_1 s m #[Value.ref b] below meth c H locs 134 5936 (lw_Z below #[Value.ref b] s) (F0 m 213 ls []) := by
  obtain ⟨hx, hb, hr, hml, hown, hts, hX, hbl, hlocks, hgv⟩ := id C0
  have hT : ∀ w ∈ gT, w.before _ s = true := fun w h => hts w (gT_in w h)
  have hA : ∀ q : Nat, s.heap.size ≤ q → (fun q : Nat => s.heap.size ≤ q) q := fun _ h => h
  have hbA : ¬ (fun q : Nat => s.heap.size ≤ q) b := Nat.not_le.mpr hbl
  have hDx := vaD_l hDj
  have hDm := vaD_r hDj
  refine lv_aload_n hx hb dL_law_213 rfl (lv_at hl 1 rfl) ?_
  refine lv_aload_n hx hb dL_law_214 rfl (lv_at hl 0 rfl) ?_
  refine lv_iload_n hx hb dL_law_215 rfl (lv_at hl 3 rfl) ?_
  refine lv_iconst (v := 1) hx hb dL_law_216 (by decide) ?_
  refine lv_iadd hx hb dL_law_217 ?_
  refine lv_topi (fun v_1 ev_1 => ?_)
  obtain rfl : v_1 = 1 := ev_1.trans (by decide)
  refine va_sld hx hb hX hbl hbA hS (vp_inI (by decide) (by decide)) dL_law_218 ?_
  refine lv_topi (fun v_2 ev_2 => ?_)
  obtain rfl : v_2 = xs 1 := ev_2
  refine lv_aload_n hx hb dL_law_219 rfl (lv_at hl 0 rfl) ?_
  refine lv_iload_n hx hb dL_law_220 rfl (lv_at hl 3 rfl) ?_
  refine lv_iconst (v := 2) hx hb dL_law_221 (by decide) ?_
  refine lv_iadd hx hb dL_law_222 ?_
  refine lv_topi (fun v_3 ev_3 => ?_)
  obtain rfl : v_3 = 2 := ev_3.trans (by decide)
  refine va_sld hx hb hX hbl hbA hS (vp_inI (by decide) (by decide)) dL_law_223 ?_
  refine lv_topi (fun v_4 ev_4 => ?_)
  obtain rfl : v_4 = xs 2 := ev_4
  refine lv_aload_n hx hb dL_law_224 rfl (lv_at hl 0 rfl) ?_
  refine lv_iload_n hx hb dL_law_225 rfl (lv_at hl 3 rfl) ?_
  refine lv_iconst (v := 3) hx hb dL_law_226 (by decide) ?_
  refine lv_iadd hx hb dL_law_227 ?_
  refine lv_topi (fun v_5 ev_5 => ?_)
  obtain rfl : v_5 = 3 := ev_5.trans (by decide)
  refine va_sld hx hb hX hbl hbA hS (vp_inI (by decide) (by decide)) dL_law_228 ?_
  refine lv_topi (fun v_6 ev_6 => ?_)
  obtain rfl : v_6 = xs 3 := ev_6
  have hFx := rF hDx hS hA
  refine va_calli (va_runV (As := [.int (xs 1), .int (xs 2), .int (xs 3)]) (rest := []) ⟨hx, hb, hml, hown, hT⟩ (c_X11_price l D cy ax ix rx (fun _ => none) (xs 1) (xs 2) (xs 3) _ hf hg) (cwV 3 hT (gV t_350 t_351 t_352 t_353 t_2) rfl rfl rfl (by decide +kernel) ⟨Nat.le_of_ble_eq_true rfl, Nat.le_of_ble_eq_true rfl⟩) (rQ_v hPx hK hDx (va_recv hK hPx (ci := 11) (q0 := 0) rfl rfl)) rfl rfl hl.1 rfl (lv_room (Nat.le_of_ble_eq_true rfl)) dL_law_229 ⟨Nat.le_of_ble_eq_true rfl, Nat.le_of_ble_eq_true rfl⟩) hS (fun q _ h => hFx q h) hFx (fun r_7 u_8 t H1 locs ht hvm hr_7 hB hz1 hk1 hS => ?_)
  have hPm := rk hDj hPm hk1
  refine lv_aload_n hx hb dL_law_232 rfl (lv_at hl 2 rfl) ?_
  refine lv_aload_n hx hb dL_law_233 rfl (lv_at hl 0 rfl) ?_
  refine lv_iload_n hx hb dL_law_234 rfl (lv_at hl 3 rfl) ?_
  refine lv_iconst (v := 1) hx hb dL_law_235 (by decide) ?_
  refine lv_iadd hx hb dL_law_236 ?_
  refine lv_topi (fun v_9 ev_9 => ?_)
  obtain rfl : v_9 = 1 := ev_9.trans (by decide)
  refine va_sld hx hb hX hbl hbA hS (vp_inI (by decide) (by decide)) dL_law_237 ?_
  refine lv_topi (fun v_10 ev_10 => ?_)
  obtain rfl : v_10 = xs 1 := ev_10
  refine lv_aload_n hx hb dL_law_238 rfl (lv_at hl 0 rfl) ?_
  refine lv_iload_n hx hb dL_law_239 rfl (lv_at hl 3 rfl) ?_
  refine lv_iconst (v := 2) hx hb dL_law_240 (by decide) ?_
  refine lv_iadd hx hb dL_law_241 ?_
  refine lv_topi (fun v_11 ev_11 => ?_)
  obtain rfl : v_11 = 2 := ev_11.trans (by decide)
  refine va_sld hx hb hX hbl hbA hS (vp_inI (by decide) (by decide)) dL_law_242 ?_
  refine lv_topi (fun v_12 ev_12 => ?_)
  obtain rfl : v_12 = xs 2 := ev_12
  refine lv_aload_n hx hb dL_law_243 rfl (lv_at hl 0 rfl) ?_
  refine lv_iload_n hx hb dL_law_244 rfl (lv_at hl 3 rfl) ?_
  refine lv_iconst (v := 3) hx hb dL_law_245 (by decide) ?_
  refine lv_iadd hx hb dL_law_246 ?_
  refine lv_topi (fun v_13 ev_13 => ?_)
  obtain rfl : v_13 = 3 := ev_13.trans (by decide)
  refine va_sld hx hb hX hbl hbA hS (vp_inI (by decide) (by decide)) dL_law_247 ?_
  refine lv_topi (fun v_14 ev_14 => ?_)
  obtain rfl : v_14 = xs 3 := ev_14
  have hFm := rF hDm hS hA
  refine va_calli (va_runV (As := [.int (xs 1), .int (xs 2), .int (xs 3)]) (rest := [.int r_7]) ⟨hx, hb, hml, hown, hT⟩ (c_X12_price l D cy am im rm lm (xs 1) (xs 2) (xs 3) _ hz) (cwV 3 hT (gV t_354 t_355 t_356 t_357 t_8) rfl rfl rfl (by decide +kernel) ⟨Nat.le_of_ble_eq_true rfl, Nat.le_of_ble_eq_true rfl⟩) (rQ_v hPm hK hDm (va_recv hK hPm (ci := 12) (q0 := 0) rfl rfl)) rfl rfl hl.1 rfl (lv_room (Nat.le_of_ble_eq_true rfl)) dL_law_248 ⟨Nat.le_of_ble_eq_true rfl, Nat.le_of_ble_eq_true rfl⟩) hS (fun q _ h => hFm q h) hFm (fun r_15 u_16 t H1 locs ht hvm hr_15 hB hz1 hk1 hS => ?_)
  refine lv_icmp_eq (tgt := 1525) hx hb dL_law_251 (by decide) (fun _ => ?_) (fun c9 => absurd (BR_eq hr_7 hr_15) c9)
  exact lc_end C0 hS (lv_sub hl [0, 3] rfl) (Nat.le_of_ble_eq_true rfl) (Nat.le_of_ble_eq_true rfl)
set_option maxHeartbeats 4000000 in
set_option maxRecDepth 100000 in
theorem lc_2 {p : Program} {l : Launch} {e : Env} {s : State} {m : MethodId} {below : List Frame} {meth : Method} {c : Code} {b : Nat} {xs : Nat → Int32} (C0 : lw_At p s m meth c b 7 xs) {D : va_G} {cy : Nat → ClassId} {ax : Nat → Nat} {ix : Nat → Int32} {rx : Nat → Nat → Int32} {am : Nat → Nat} {im : Nat → Int32} {rm : Nat → Nat → Int32} {lm : Nat → Int64} (hf : xZ ix) (hg : xZr rx) (hz : mZ im) (hn : nw s) (hK : va_K D vwCl (vT cy) s) {H : Heap} {locs : List Loc} (hPx : va_P D vwCl (xW cy ax ix rx (fun _ => none) (ax 20) (ax 12)) H) (hPm : va_P D vwCl (mW cy am im rm lm) H) (hDj : va_D (fun q : Nat => s.heap.size ≤ q) ((xW cy ax ix rx (fun _ => none) (ax 20) (ax 12)) ++ (mW cy am im rm lm))) (hS : va_S (fun q : Nat => s.heap.size ≤ q) s.heap H locs) {ls : Array Slot} (hl : lv_has ls 4 [(0, .ref b), (1, .ref (ax 0)), (2, .ref (am 0)), (3, .int 0)]) : W p l e room_1 s m #[Value.ref b] below meth c H locs 134 5936 (lw_Z below #[Value.ref b] s) (F0 m 256 ls []) := by
  obtain ⟨hx, hb, hr, hml, hown, hts, hX, hbl, hlocks, hgv⟩ := id C0
  have hT : ∀ w ∈ gT, w.before _ s = true := fun w h => hts w (gT_in w h)
  have hA : ∀ q : Nat, s.heap.size ≤ q → (fun q : Nat => s.heap.size ≤ q) q := fun _ h => h
  have hbA : ¬ (fun q : Nat => s.heap.size ≤ q) b := Nat.not_le.mpr hbl
  have hDx := vaD_l hDj
  have hDm := vaD_r hDj
  refine lv_aload_n hx hb dL_law_256 rfl (lv_at hl 1 rfl) ?_
  refine lv_aload_n hx hb dL_law_257 rfl (lv_at hl 0 rfl) ?_
  refine lv_iload_n hx hb dL_law_258 rfl (lv_at hl 3 rfl) ?_
  refine lv_iconst (v := 1) hx hb dL_law_259 (by decide) ?_
  refine lv_iadd hx hb dL_law_260 ?_
  refine lv_topi (fun v_1 ev_1 => ?_)
  obtain rfl : v_1 = 1 := ev_1.trans (by decide)
  refine va_sld hx hb hX hbl hbA hS (vp_inI (by decide) (by decide)) dL_law_261 ?_
  refine lv_topi (fun v_2 ev_2 => ?_)
  obtain rfl : v_2 = xs 1 := ev_2
  refine lv_aload_n hx hb dL_law_262 rfl (lv_at hl 0 rfl) ?_
  refine lv_iload_n hx hb dL_law_263 rfl (lv_at hl 3 rfl) ?_
  refine lv_iconst (v := 2) hx hb dL_law_264 (by decide) ?_
  refine lv_iadd hx hb dL_law_265 ?_
  refine lv_topi (fun v_3 ev_3 => ?_)
  obtain rfl : v_3 = 2 := ev_3.trans (by decide)
  refine va_sld hx hb hX hbl hbA hS (vp_inI (by decide) (by decide)) dL_law_266 ?_
  refine lv_topi (fun v_4 ev_4 => ?_)
  obtain rfl : v_4 = xs 2 := ev_4
  refine lv_aload_n hx hb dL_law_267 rfl (lv_at hl 0 rfl) ?_
  refine lv_iload_n hx hb dL_law_268 rfl (lv_at hl 3 rfl) ?_
  refine lv_iconst (v := 3) hx hb dL_law_269 (by decide) ?_
  refine lv_iadd hx hb dL_law_270 ?_
  refine lv_topi (fun v_5 ev_5 => ?_)
  obtain rfl : v_5 = 3 := ev_5.trans (by decide)
  refine va_sld hx hb hX hbl hbA hS (vp_inI (by decide) (by decide)) dL_law_271 ?_
  refine lv_topi (fun v_6 ev_6 => ?_)
  obtain rfl : v_6 = xs 3 := ev_6
  refine lv_aload_n hx hb dL_law_272 rfl (lv_at hl 0 rfl) ?_
  refine lv_iload_n hx hb dL_law_273 rfl (lv_at hl 3 rfl) ?_
  refine lv_iconst (v := 4) hx hb dL_law_274 (by decide) ?_
  refine lv_iadd hx hb dL_law_275 ?_
  refine lv_topi (fun v_7 ev_7 => ?_)
  obtain rfl : v_7 = 4 := ev_7.trans (by decide)
  refine va_sld hx hb hX hbl hbA hS (vp_inI (by decide) (by decide)) dL_law_276 ?_
  refine lv_topi (fun v_8 ev_8 => ?_)
  obtain rfl : v_8 = xs 4 := ev_8
  refine lv_aload_n hx hb dL_law_277 rfl (lv_at hl 0 rfl) ?_
  refine lv_iload_n hx hb dL_law_278 rfl (lv_at hl 3 rfl) ?_
  refine lv_iconst (v := 5) hx hb dL_law_279 (by decide) ?_
  refine lv_iadd hx hb dL_law_280 ?_
  refine lv_topi (fun v_9 ev_9 => ?_)
  obtain rfl : v_9 = 5 := ev_9.trans (by decide)
  refine va_sld hx hb hX hbl hbA hS (vp_inI (by decide) (by decide)) dL_law_281 ?_
  refine lv_topi (fun v_10 ev_10 => ?_)
  obtain rfl : v_10 = xs 5 := ev_10
  refine lv_aload_n hx hb dL_law_282 rfl (lv_at hl 0 rfl) ?_
  refine lv_iload_n hx hb dL_law_283 rfl (lv_at hl 3 rfl) ?_
  refine lv_bipush (v := 6) hx hb dL_law_284 (by decide) ?_
  refine lv_iadd hx hb dL_law_286 ?_
  refine lv_topi (fun v_11 ev_11 => ?_)
  obtain rfl : v_11 = 6 := ev_11.trans (by decide)
  refine va_sld hx hb hX hbl hbA hS (vp_inI (by decide) (by decide)) dL_law_287 ?_
  refine lv_topi (fun v_12 ev_12 => ?_)
  obtain rfl : v_12 = xs 6 := ev_12
  refine lv_if_eq (tgt := 295) hx hb dL_law_288 (by decide) (fun c_13 => ?_) (fun c_13 => ?_)
  · have c_13 : (xs 6).toInt = 0 := b_eq c_13
    refine lv_iconst (v := 0) hx hb dL_law_295 (by decide) ?_
    have hPs := hPx.sub (ws' := [(ax 0, .inr (11, [.ref (ax 1), .ref (ax 4), .int (ix 0), .ref (ax 5), .ref (ax 8), .ref (ax 10), .ref (ax 20), .ref (ax 28), .ref (ax 29), .ref (ax 40), .int (ix 1), .ref (ax 51), .ref (ax 54), .ref (ax 58)])), (ax 4, .inl (cy 4, 6, .inr (.inr (.inr (.inr (fun _ => none))))))]) [0, 4] rfl
    have hDs := hDx.sub (ws' := [(ax 0, .inr (11, [.ref (ax 1), .ref (ax 4), .int (ix 0), .ref (ax 5), .ref (ax 8), .ref (ax 10), .ref (ax 20), .ref (ax 28), .ref (ax 29), .ref (ax 40), .int (ix 1), .ref (ax 51), .ref (ax 54), .ref (ax 58)])), (ax 4, .inl (cy 4, 6, .inr (.inr (.inr (.inr (fun _ => none))))))]) [0, 4] (by decide) rfl
    have hFs := va_free (wc := [(ax 0, .inr (11, [.ref (ax 1), .ref (ax 4), .int (ix 0), .ref (ax 5), .ref (ax 8), .ref (ax 10), .ref (ax 20), .ref (ax 28), .ref (ax 29), .ref (ax 40), .int (ix 1), .ref (ax 51), .ref (ax 54), .ref (ax 58)])), (ax 4, .inl (cy 4, 6, .inr (.inr (.inr (.inr (fun _ => none))))))]) hDx hS hA [0, 4] rfl
    refine va_calli (va_runV (As := [.int (xs 1), .int (xs 2), .int (xs 3), .int (xs 4), .int (xs 5), .int 0]) (rest := []) ⟨hx, hb, hml, hown, hT⟩ (c_X11_home l D cy (ax 0) (ax 1) (ax 4) (ix 0) (ax 5) (ax 8) (ax 10) (ax 20) (ax 28) (ax 29) (ax 40) (ix 1) (ax 51) (ax 54) (ax 58) (fun _ => none) (xs 1) (xs 2) (xs 3) (xs 4) (xs 5) 0 _ (hf.1 0 (by decide) (by decide)) (Or.inl rfl)) (cwV 6 hT (gV t_358 t_359 t_360 t_361 t_2) rfl rfl rfl (by decide +kernel) ⟨Nat.le_of_ble_eq_true rfl, Nat.le_of_ble_eq_true rfl⟩) (rN_v hn hPs hK hDs (va_recv hK hPs (ci := 11) (q0 := 0) rfl rfl)) rfl rfl hl.1 rfl (lv_room (Nat.le_of_ble_eq_true rfl)) dL_law_296 ⟨Nat.le_of_ble_eq_true rfl, Nat.le_of_ble_eq_true rfl⟩) hS (fun q _ h => hFs q h) hFs (fun r_14 u_15 t H1 locs ht hvm hr_14 hB hz1 hk1 hS => ?_)
    have hk1 : ∀ q : Nat, q < H.size → ¬ va_A (xW cy ax ix rx (fun _ => none) (ax 20) (ax 12)) H.size q → H1[q]? = H[q]? := fun q h1 h2 => hk1 q h1 (fun h3 => h2 (vaA_sub [0, 4] rfl h3))
    have hPm := rk hDj hPm hk1
    refine lv_aload_n hx hb dL_law_299 rfl (lv_at hl 2 rfl) ?_
    refine lv_aload_n hx hb dL_law_300 rfl (lv_at hl 0 rfl) ?_
    refine lv_iload_n hx hb dL_law_301 rfl (lv_at hl 3 rfl) ?_
    refine lv_iconst (v := 1) hx hb dL_law_302 (by decide) ?_
    refine lv_iadd hx hb dL_law_303 ?_
    refine lv_topi (fun v_16 ev_16 => ?_)
    obtain rfl : v_16 = 1 := ev_16.trans (by decide)
    refine va_sld hx hb hX hbl hbA hS (vp_inI (by decide) (by decide)) dL_law_304 ?_
    refine lv_topi (fun v_17 ev_17 => ?_)
    obtain rfl : v_17 = xs 1 := ev_17
    refine lv_aload_n hx hb dL_law_305 rfl (lv_at hl 0 rfl) ?_
    refine lv_iload_n hx hb dL_law_306 rfl (lv_at hl 3 rfl) ?_
    refine lv_iconst (v := 2) hx hb dL_law_307 (by decide) ?_
    refine lv_iadd hx hb dL_law_308 ?_
    refine lv_topi (fun v_18 ev_18 => ?_)
    obtain rfl : v_18 = 2 := ev_18.trans (by decide)
    refine va_sld hx hb hX hbl hbA hS (vp_inI (by decide) (by decide)) dL_law_309 ?_
    refine lv_topi (fun v_19 ev_19 => ?_)
    obtain rfl : v_19 = xs 2 := ev_19
    refine lv_aload_n hx hb dL_law_310 rfl (lv_at hl 0 rfl) ?_
    refine lv_iload_n hx hb dL_law_311 rfl (lv_at hl 3 rfl) ?_
    refine lv_iconst (v := 3) hx hb dL_law_312 (by decide) ?_
    refine lv_iadd hx hb dL_law_313 ?_
    refine lv_topi (fun v_20 ev_20 => ?_)
    obtain rfl : v_20 = 3 := ev_20.trans (by decide)
    refine va_sld hx hb hX hbl hbA hS (vp_inI (by decide) (by decide)) dL_law_314 ?_
    refine lv_topi (fun v_21 ev_21 => ?_)
    obtain rfl : v_21 = xs 3 := ev_21
    refine lv_aload_n hx hb dL_law_315 rfl (lv_at hl 0 rfl) ?_
    refine lv_iload_n hx hb dL_law_316 rfl (lv_at hl 3 rfl) ?_
    refine lv_iconst (v := 4) hx hb dL_law_317 (by decide) ?_
    refine lv_iadd hx hb dL_law_318 ?_
    refine lv_topi (fun v_22 ev_22 => ?_)
    obtain rfl : v_22 = 4 := ev_22.trans (by decide)
    refine va_sld hx hb hX hbl hbA hS (vp_inI (by decide) (by decide)) dL_law_319 ?_
    refine lv_topi (fun v_23 ev_23 => ?_)
    obtain rfl : v_23 = xs 4 := ev_23
    refine lv_aload_n hx hb dL_law_320 rfl (lv_at hl 0 rfl) ?_
    refine lv_iload_n hx hb dL_law_321 rfl (lv_at hl 3 rfl) ?_
    refine lv_iconst (v := 5) hx hb dL_law_322 (by decide) ?_
    refine lv_iadd hx hb dL_law_323 ?_
    refine lv_topi (fun v_24 ev_24 => ?_)
    obtain rfl : v_24 = 5 := ev_24.trans (by decide)
    refine va_sld hx hb hX hbl hbA hS (vp_inI (by decide) (by decide)) dL_law_324 ?_
    refine lv_topi (fun v_25 ev_25 => ?_)
    obtain rfl : v_25 = xs 5 := ev_25
    refine lv_aload_n hx hb dL_law_325 rfl (lv_at hl 0 rfl) ?_
    refine lv_iload_n hx hb dL_law_326 rfl (lv_at hl 3 rfl) ?_
    refine lv_bipush (v := 6) hx hb dL_law_327 (by decide) ?_
    refine lv_iadd hx hb dL_law_329 ?_
    refine lv_topi (fun v_26 ev_26 => ?_)
    obtain rfl : v_26 = 6 := ev_26.trans (by decide)
    refine va_sld hx hb hX hbl hbA hS (vp_inI (by decide) (by decide)) dL_law_330 ?_
    refine lv_topi (fun v_27 ev_27 => ?_)
    obtain rfl : v_27 = xs 6 := ev_27
    refine lv_if_eq (tgt := 338) hx hb dL_law_331 (by decide) (fun c_28 => ?_) (fun c_28 => by have c_28 : (xs 6).toInt ≠ 0 := b_ne c_28; omega)
    have c_28 : (xs 6).toInt = 0 := b_eq c_28
    refine lv_iconst (v := 0) hx hb dL_law_338 (by decide) ?_
    have hFm := rF hDm hS hA
    refine va_calli (va_runV (As := [.int (xs 1), .int (xs 2), .int (xs 3), .int (xs 4), .int (xs 5), .int 0]) (rest := [.int r_14]) ⟨hx, hb, hml, hown, hT⟩ (c_X12_home l D cy am im rm lm (xs 1) (xs 2) (xs 3) (xs 4) (xs 5) 0 _ hz) (cwV 6 hT (gV t_362 t_363 t_364 t_365 t_8) rfl rfl rfl (by decide +kernel) ⟨Nat.le_of_ble_eq_true rfl, Nat.le_of_ble_eq_true rfl⟩) (rQ_v hPm hK hDm (va_recv hK hPm (ci := 12) (q0 := 0) rfl rfl)) rfl rfl hl.1 rfl (lv_room (Nat.le_of_ble_eq_true rfl)) dL_law_339 ⟨Nat.le_of_ble_eq_true rfl, Nat.le_of_ble_eq_true rfl⟩) hS (fun q _ h => hFm q h) hFm (fun r_29 u_30 t H1 locs ht hvm hr_29 hB hz1 hk1 hS => ?_)
    refine lv_icmp_eq (tgt := 1525) hx hb dL_law_342 (by decide) (fun _ => ?_) (fun c9 => absurd (BR_eq hr_14 hr_29) c9)
    exact lc_end C0 hS (lv_sub hl [0, 3] rfl) (Nat.le_of_ble_eq_true rfl) (Nat.le_of_ble_eq_true rfl)
  · have c_13 : (xs 6).toInt ≠ 0 := b_ne c_13
    refine lv_iconst (v := 1) hx hb dL_law_291 (by decide) ?_
    refine lv_goto (tgt := 296) hx hb dL_law_292 (by decide) ?_
    have hPs := hPx.sub (ws' := [(ax 0, .inr (11, [.ref (ax 1), .ref (ax 4), .int (ix 0), .ref (ax 5), .ref (ax 8), .ref (ax 10), .ref (ax 20), .ref (ax 28), .ref (ax 29), .ref (ax 40), .int (ix 1), .ref (ax 51), .ref (ax 54), .ref (ax 58)])), (ax 4, .inl (cy 4, 6, .inr (.inr (.inr (.inr (fun _ => none))))))]) [0, 4] rfl
    have hDs := hDx.sub (ws' := [(ax 0, .inr (11, [.ref (ax 1), .ref (ax 4), .int (ix 0), .ref (ax 5), .ref (ax 8), .ref (ax 10), .ref (ax 20), .ref (ax 28), .ref (ax 29), .ref (ax 40), .int (ix 1), .ref (ax 51), .ref (ax 54), .ref (ax 58)])), (ax 4, .inl (cy 4, 6, .inr (.inr (.inr (.inr (fun _ => none))))))]) [0, 4] (by decide) rfl
    have hFs := va_free (wc := [(ax 0, .inr (11, [.ref (ax 1), .ref (ax 4), .int (ix 0), .ref (ax 5), .ref (ax 8), .ref (ax 10), .ref (ax 20), .ref (ax 28), .ref (ax 29), .ref (ax 40), .int (ix 1), .ref (ax 51), .ref (ax 54), .ref (ax 58)])), (ax 4, .inl (cy 4, 6, .inr (.inr (.inr (.inr (fun _ => none))))))]) hDx hS hA [0, 4] rfl
    refine va_calli (va_runV (As := [.int (xs 1), .int (xs 2), .int (xs 3), .int (xs 4), .int (xs 5), .int 1]) (rest := []) ⟨hx, hb, hml, hown, hT⟩ (c_X11_home l D cy (ax 0) (ax 1) (ax 4) (ix 0) (ax 5) (ax 8) (ax 10) (ax 20) (ax 28) (ax 29) (ax 40) (ix 1) (ax 51) (ax 54) (ax 58) (fun _ => none) (xs 1) (xs 2) (xs 3) (xs 4) (xs 5) 1 _ (hf.1 0 (by decide) (by decide)) (Or.inr rfl)) (cwV 6 hT (gV t_358 t_359 t_360 t_361 t_2) rfl rfl rfl (by decide +kernel) ⟨Nat.le_of_ble_eq_true rfl, Nat.le_of_ble_eq_true rfl⟩) (rN_v hn hPs hK hDs (va_recv hK hPs (ci := 11) (q0 := 0) rfl rfl)) rfl rfl hl.1 rfl (lv_room (Nat.le_of_ble_eq_true rfl)) dL_law_296 ⟨Nat.le_of_ble_eq_true rfl, Nat.le_of_ble_eq_true rfl⟩) hS (fun q _ h => hFs q h) hFs (fun r_31 u_32 t H1 locs ht hvm hr_31 hB hz1 hk1 hS => ?_)
    have hk1 : ∀ q : Nat, q < H.size → ¬ va_A (xW cy ax ix rx (fun _ => none) (ax 20) (ax 12)) H.size q → H1[q]? = H[q]? := fun q h1 h2 => hk1 q h1 (fun h3 => h2 (vaA_sub [0, 4] rfl h3))
    have hPm := rk hDj hPm hk1
    refine lv_aload_n hx hb dL_law_299 rfl (lv_at hl 2 rfl) ?_
    refine lv_aload_n hx hb dL_law_300 rfl (lv_at hl 0 rfl) ?_
    refine lv_iload_n hx hb dL_law_301 rfl (lv_at hl 3 rfl) ?_
    refine lv_iconst (v := 1) hx hb dL_law_302 (by decide) ?_
    refine lv_iadd hx hb dL_law_303 ?_
    refine lv_topi (fun v_33 ev_33 => ?_)
    obtain rfl : v_33 = 1 := ev_33.trans (by decide)
    refine va_sld hx hb hX hbl hbA hS (vp_inI (by decide) (by decide)) dL_law_304 ?_
    refine lv_topi (fun v_34 ev_34 => ?_)
    obtain rfl : v_34 = xs 1 := ev_34
    refine lv_aload_n hx hb dL_law_305 rfl (lv_at hl 0 rfl) ?_
    refine lv_iload_n hx hb dL_law_306 rfl (lv_at hl 3 rfl) ?_
    refine lv_iconst (v := 2) hx hb dL_law_307 (by decide) ?_
    refine lv_iadd hx hb dL_law_308 ?_
    refine lv_topi (fun v_35 ev_35 => ?_)
    obtain rfl : v_35 = 2 := ev_35.trans (by decide)
    refine va_sld hx hb hX hbl hbA hS (vp_inI (by decide) (by decide)) dL_law_309 ?_
    refine lv_topi (fun v_36 ev_36 => ?_)
    obtain rfl : v_36 = xs 2 := ev_36
    refine lv_aload_n hx hb dL_law_310 rfl (lv_at hl 0 rfl) ?_
    refine lv_iload_n hx hb dL_law_311 rfl (lv_at hl 3 rfl) ?_
    refine lv_iconst (v := 3) hx hb dL_law_312 (by decide) ?_
    refine lv_iadd hx hb dL_law_313 ?_
    refine lv_topi (fun v_37 ev_37 => ?_)
    obtain rfl : v_37 = 3 := ev_37.trans (by decide)
    refine va_sld hx hb hX hbl hbA hS (vp_inI (by decide) (by decide)) dL_law_314 ?_
    refine lv_topi (fun v_38 ev_38 => ?_)
    obtain rfl : v_38 = xs 3 := ev_38
    refine lv_aload_n hx hb dL_law_315 rfl (lv_at hl 0 rfl) ?_
    refine lv_iload_n hx hb dL_law_316 rfl (lv_at hl 3 rfl) ?_
    refine lv_iconst (v := 4) hx hb dL_law_317 (by decide) ?_
    refine lv_iadd hx hb dL_law_318 ?_
    refine lv_topi (fun v_39 ev_39 => ?_)
    obtain rfl : v_39 = 4 := ev_39.trans (by decide)
    refine va_sld hx hb hX hbl hbA hS (vp_inI (by decide) (by decide)) dL_law_319 ?_
    refine lv_topi (fun v_40 ev_40 => ?_)
    obtain rfl : v_40 = xs 4 := ev_40
    refine lv_aload_n hx hb dL_law_320 rfl (lv_at hl 0 rfl) ?_
    refine lv_iload_n hx hb dL_law_321 rfl (lv_at hl 3 rfl) ?_
    refine lv_iconst (v := 5) hx hb dL_law_322 (by decide) ?_
    refine lv_iadd hx hb dL_law_323 ?_
    refine lv_topi (fun v_41 ev_41 => ?_)
    obtain rfl : v_41 = 5 := ev_41.trans (by decide)
    refine va_sld hx hb hX hbl hbA hS (vp_inI (by decide) (by decide)) dL_law_324 ?_
    refine lv_topi (fun v_42 ev_42 => ?_)
    obtain rfl : v_42 = xs 5 := ev_42
    refine lv_aload_n hx hb dL_law_325 rfl (lv_at hl 0 rfl) ?_
    refine lv_iload_n hx hb dL_law_326 rfl (lv_at hl 3 rfl) ?_
    refine lv_bipush (v := 6) hx hb dL_law_327 (by decide) ?_
    refine lv_iadd hx hb dL_law_329 ?_
    refine lv_topi (fun v_43 ev_43 => ?_)
    obtain rfl : v_43 = 6 := ev_43.trans (by decide)
    refine va_sld hx hb hX hbl hbA hS (vp_inI (by decide) (by decide)) dL_law_330 ?_
    refine lv_topi (fun v_44 ev_44 => ?_)
    obtain rfl : v_44 = xs 6 := ev_44
    refine lv_if_eq (tgt := 338) hx hb dL_law_331 (by decide) (fun c_45 => by have c_45 : (xs 6).toInt = 0 := b_eq c_45; omega) (fun c_45 => ?_)
    have c_45 : (xs 6).toInt ≠ 0 := b_ne c_45
    refine lv_iconst (v := 1) hx hb dL_law_334 (by decide) ?_
    refine lv_goto (tgt := 339) hx hb dL_law_335 (by decide) ?_
    have hFm := rF hDm hS hA
    refine va_calli (va_runV (As := [.int (xs 1), .int (xs 2), .int (xs 3), .int (xs 4), .int (xs 5), .int 1]) (rest := [.int r_31]) ⟨hx, hb, hml, hown, hT⟩ (c_X12_home l D cy am im rm lm (xs 1) (xs 2) (xs 3) (xs 4) (xs 5) 1 _ hz) (cwV 6 hT (gV t_362 t_363 t_364 t_365 t_8) rfl rfl rfl (by decide +kernel) ⟨Nat.le_of_ble_eq_true rfl, Nat.le_of_ble_eq_true rfl⟩) (rQ_v hPm hK hDm (va_recv hK hPm (ci := 12) (q0 := 0) rfl rfl)) rfl rfl hl.1 rfl (lv_room (Nat.le_of_ble_eq_true rfl)) dL_law_339 ⟨Nat.le_of_ble_eq_true rfl, Nat.le_of_ble_eq_true rfl⟩) hS (fun q _ h => hFm q h) hFm (fun r_46 u_47 t H1 locs ht hvm hr_46 hB hz1 hk1 hS => ?_)
    refine lv_icmp_eq (tgt := 1525) hx hb dL_law_342 (by decide) (fun _ => ?_) (fun c9 => absurd (BR_eq hr_31 hr_46) c9)
    exact lc_end C0 hS (lv_sub hl [0, 3] rfl) (Nat.le_of_ble_eq_true rfl) (Nat.le_of_ble_eq_true rfl)
set_option maxHeartbeats 4000000 in
set_option maxRecDepth 100000 in
theorem lc_3 {p : Program} {l : Launch} {e : Env} {s : State} {m : MethodId} {below : List Frame} {meth : Method} {c : Code} {b : Nat} {xs : Nat → Int32} (C0 : lw_At p s m meth c b 7 xs) {D : va_G} {cy : Nat → ClassId} {ax : Nat → Nat} {ix : Nat → Int32} {rx : Nat → Nat → Int32} {am : Nat → Nat} {im : Nat → Int32} {rm : Nat → Nat → Int32} {lm : Nat → Int64} (hf : xZ ix) (hg : xZr rx) (hz : mZ im) (hn : nw s) (hK : va_K D vwCl (vT cy) s) {H : Heap} {locs : List Loc} (hPx : va_P D vwCl (xW cy ax ix rx (fun _ => none) (ax 20) (ax 12)) H) (hPm : va_P D vwCl (mW cy am im rm lm) H) (hDj : va_D (fun q : Nat => s.heap.size ≤ q) ((xW cy ax ix rx (fun _ => none) (ax 20) (ax 12)) ++ (mW cy am im rm lm))) (hS : va_S (fun q : Nat => s.heap.size ≤ q) s.heap H locs) {ls : Array Slot} (hl : lv_has ls 4 [(0, .ref b), (1, .ref (ax 0)), (2, .ref (am 0)), (3, .int 0)]) : W p l e room_1 s m #[Value.ref b] below meth c H locs 134 5936 (lw_Z below #[Value.ref b] s) (F0 m 347 ls []) := by
  obtain ⟨hx, hb, hr, hml, hown, hts, hX, hbl, hlocks, hgv⟩ := id C0
  have hT : ∀ w ∈ gT, w.before _ s = true := fun w h => hts w (gT_in w h)
  have hA : ∀ q : Nat, s.heap.size ≤ q → (fun q : Nat => s.heap.size ≤ q) q := fun _ h => h
  have hbA : ¬ (fun q : Nat => s.heap.size ≤ q) b := Nat.not_le.mpr hbl
  have hDx := vaD_l hDj
  have hDm := vaD_r hDj
  refine lv_aload_n hx hb dL_law_347 rfl (lv_at hl 1 rfl) ?_
  refine lv_aload_n hx hb dL_law_348 rfl (lv_at hl 0 rfl) ?_
  refine lv_iload_n hx hb dL_law_349 rfl (lv_at hl 3 rfl) ?_
  refine lv_iconst (v := 1) hx hb dL_law_350 (by decide) ?_
  refine lv_iadd hx hb dL_law_351 ?_
  refine lv_topi (fun v_1 ev_1 => ?_)
  obtain rfl : v_1 = 1 := ev_1.trans (by decide)
  refine va_sld hx hb hX hbl hbA hS (vp_inI (by decide) (by decide)) dL_law_352 ?_
  refine lv_topi (fun v_2 ev_2 => ?_)
  obtain rfl : v_2 = xs 1 := ev_2
  refine lv_aload_n hx hb dL_law_353 rfl (lv_at hl 0 rfl) ?_
  refine lv_iload_n hx hb dL_law_354 rfl (lv_at hl 3 rfl) ?_
  refine lv_iconst (v := 2) hx hb dL_law_355 (by decide) ?_
  refine lv_iadd hx hb dL_law_356 ?_
  refine lv_topi (fun v_3 ev_3 => ?_)
  obtain rfl : v_3 = 2 := ev_3.trans (by decide)
  refine va_sld hx hb hX hbl hbA hS (vp_inI (by decide) (by decide)) dL_law_357 ?_
  refine lv_topi (fun v_4 ev_4 => ?_)
  obtain rfl : v_4 = xs 2 := ev_4
  refine lv_aload_n hx hb dL_law_358 rfl (lv_at hl 0 rfl) ?_
  refine lv_iload_n hx hb dL_law_359 rfl (lv_at hl 3 rfl) ?_
  refine lv_iconst (v := 3) hx hb dL_law_360 (by decide) ?_
  refine lv_iadd hx hb dL_law_361 ?_
  refine lv_topi (fun v_5 ev_5 => ?_)
  obtain rfl : v_5 = 3 := ev_5.trans (by decide)
  refine va_sld hx hb hX hbl hbA hS (vp_inI (by decide) (by decide)) dL_law_362 ?_
  refine lv_topi (fun v_6 ev_6 => ?_)
  obtain rfl : v_6 = xs 3 := ev_6
  refine vp_callSi (W.runV (As := [.int (xs 1), .int (xs 2), .int (xs 3)]) (rest := []) ⟨hx, hb, hml, hown, hT⟩ (c_X11_part l D cy ax ix rx (fun _ => none) (xs 1) (xs 2) (xs 3) hf hg) (cwV 3 hT (gV t_366 t_367 t_368 t_369 t_2) rfl rfl rfl (by decide +kernel) ⟨Nat.le_of_ble_eq_true rfl, Nat.le_of_ble_eq_true rfl⟩) (rP_v hPx hK (va_recv hK hPx (ci := 11) (q0 := 0) rfl rfl)) rfl rfl hl.1 rfl (lv_room (Nat.le_of_ble_eq_true rfl)) dL_law_363 ⟨Nat.le_of_ble_eq_true rfl, Nat.le_of_ble_eq_true rfl⟩) (fun r_7 hr_7 => ?_)
  refine lv_aload_n hx hb dL_law_366 rfl (lv_at hl 2 rfl) ?_
  refine lv_aload_n hx hb dL_law_367 rfl (lv_at hl 0 rfl) ?_
  refine lv_iload_n hx hb dL_law_368 rfl (lv_at hl 3 rfl) ?_
  refine lv_iconst (v := 1) hx hb dL_law_369 (by decide) ?_
  refine lv_iadd hx hb dL_law_370 ?_
  refine lv_topi (fun v_8 ev_8 => ?_)
  obtain rfl : v_8 = 1 := ev_8.trans (by decide)
  refine va_sld hx hb hX hbl hbA hS (vp_inI (by decide) (by decide)) dL_law_371 ?_
  refine lv_topi (fun v_9 ev_9 => ?_)
  obtain rfl : v_9 = xs 1 := ev_9
  refine lv_aload_n hx hb dL_law_372 rfl (lv_at hl 0 rfl) ?_
  refine lv_iload_n hx hb dL_law_373 rfl (lv_at hl 3 rfl) ?_
  refine lv_iconst (v := 2) hx hb dL_law_374 (by decide) ?_
  refine lv_iadd hx hb dL_law_375 ?_
  refine lv_topi (fun v_10 ev_10 => ?_)
  obtain rfl : v_10 = 2 := ev_10.trans (by decide)
  refine va_sld hx hb hX hbl hbA hS (vp_inI (by decide) (by decide)) dL_law_376 ?_
  refine lv_topi (fun v_11 ev_11 => ?_)
  obtain rfl : v_11 = xs 2 := ev_11
  refine lv_aload_n hx hb dL_law_377 rfl (lv_at hl 0 rfl) ?_
  refine lv_iload_n hx hb dL_law_378 rfl (lv_at hl 3 rfl) ?_
  refine lv_iconst (v := 3) hx hb dL_law_379 (by decide) ?_
  refine lv_iadd hx hb dL_law_380 ?_
  refine lv_topi (fun v_12 ev_12 => ?_)
  obtain rfl : v_12 = 3 := ev_12.trans (by decide)
  refine va_sld hx hb hX hbl hbA hS (vp_inI (by decide) (by decide)) dL_law_381 ?_
  refine lv_topi (fun v_13 ev_13 => ?_)
  obtain rfl : v_13 = xs 3 := ev_13
  refine vp_callSi (W.runV (As := [.int (xs 1), .int (xs 2), .int (xs 3)]) (rest := [.int r_7]) ⟨hx, hb, hml, hown, hT⟩ (c_X12_part l D cy am im rm lm (xs 1) (xs 2) (xs 3) hz) (cwV 3 hT (gV t_370 t_371 t_372 t_373 t_8) rfl rfl rfl (by decide +kernel) ⟨Nat.le_of_ble_eq_true rfl, Nat.le_of_ble_eq_true rfl⟩) (rP_v hPm hK (va_recv hK hPm (ci := 12) (q0 := 0) rfl rfl)) rfl rfl hl.1 rfl (lv_room (Nat.le_of_ble_eq_true rfl)) dL_law_382 ⟨Nat.le_of_ble_eq_true rfl, Nat.le_of_ble_eq_true rfl⟩) (fun r_14 hr_14 => ?_)
  refine lv_icmp_eq (tgt := 1525) hx hb dL_law_385 (by decide) (fun _ => ?_) (fun c9 => absurd (hr_7.trans hr_14.symm) c9)
  exact lc_end C0 hS (lv_sub hl [0, 3] rfl) (Nat.le_of_ble_eq_true rfl) (Nat.le_of_ble_eq_true rfl)
set_option maxHeartbeats 4000000 in
set_option maxRecDepth 100000 in
theorem lc_4 {p : Program} {l : Launch} {e : Env} {s : State} {m : MethodId} {below : List Frame} {meth : Method} {c : Code} {b : Nat} {xs : Nat → Int32} (C0 : lw_At p s m meth c b 7 xs) {D : va_G} {cy : Nat → ClassId} {ax : Nat → Nat} {ix : Nat → Int32} {rx : Nat → Nat → Int32} {am : Nat → Nat} {im : Nat → Int32} {rm : Nat → Nat → Int32} {lm : Nat → Int64} (hf : xZ ix) (hg : xZr rx) (hz : mZ im) (hn : nw s) (hK : va_K D vwCl (vT cy) s) {H : Heap} {locs : List Loc} (hPx : va_P D vwCl (xW cy ax ix rx (fun _ => none) (ax 20) (ax 12)) H) (hPm : va_P D vwCl (mW cy am im rm lm) H) (hDj : va_D (fun q : Nat => s.heap.size ≤ q) ((xW cy ax ix rx (fun _ => none) (ax 20) (ax 12)) ++ (mW cy am im rm lm))) (hS : va_S (fun q : Nat => s.heap.size ≤ q) s.heap H locs) {ls : Array Slot} (hl : lv_has ls 4 [(0, .ref b), (1, .ref (ax 0)), (2, .ref (am 0)), (3, .int 0)]) : W p l e room_1 s m #[Value.ref b] below meth c H locs 134 5936 (lw_Z below #[Value.ref b] s) (F0 m 390 ls []) := by
  obtain ⟨hx, hb, hr, hml, hown, hts, hX, hbl, hlocks, hgv⟩ := id C0
  have hT : ∀ w ∈ gT, w.before _ s = true := fun w h => hts w (gT_in w h)
  have hA : ∀ q : Nat, s.heap.size ≤ q → (fun q : Nat => s.heap.size ≤ q) q := fun _ h => h
  have hbA : ¬ (fun q : Nat => s.heap.size ≤ q) b := Nat.not_le.mpr hbl
  have hDx := vaD_l hDj
  have hDm := vaD_r hDj
  refine lv_aload_n hx hb dL_law_390 rfl (lv_at hl 1 rfl) ?_
  refine lv_aload_n hx hb dL_law_391 rfl (lv_at hl 0 rfl) ?_
  refine lv_iload_n hx hb dL_law_392 rfl (lv_at hl 3 rfl) ?_
  refine lv_iconst (v := 1) hx hb dL_law_393 (by decide) ?_
  refine lv_iadd hx hb dL_law_394 ?_
  refine lv_topi (fun v_1 ev_1 => ?_)
  obtain rfl : v_1 = 1 := ev_1.trans (by decide)
  refine va_sld hx hb hX hbl hbA hS (vp_inI (by decide) (by decide)) dL_law_395 ?_
  refine lv_topi (fun v_2 ev_2 => ?_)
  obtain rfl : v_2 = xs 1 := ev_2
  refine lv_aload_n hx hb dL_law_396 rfl (lv_at hl 0 rfl) ?_
  refine lv_iload_n hx hb dL_law_397 rfl (lv_at hl 3 rfl) ?_
  refine lv_iconst (v := 2) hx hb dL_law_398 (by decide) ?_
  refine lv_iadd hx hb dL_law_399 ?_
  refine lv_topi (fun v_3 ev_3 => ?_)
  obtain rfl : v_3 = 2 := ev_3.trans (by decide)
  refine va_sld hx hb hX hbl hbA hS (vp_inI (by decide) (by decide)) dL_law_400 ?_
  refine lv_topi (fun v_4 ev_4 => ?_)
  obtain rfl : v_4 = xs 2 := ev_4
  refine lv_aload_n hx hb dL_law_401 rfl (lv_at hl 0 rfl) ?_
  refine lv_iload_n hx hb dL_law_402 rfl (lv_at hl 3 rfl) ?_
  refine lv_iconst (v := 3) hx hb dL_law_403 (by decide) ?_
  refine lv_iadd hx hb dL_law_404 ?_
  refine lv_topi (fun v_5 ev_5 => ?_)
  obtain rfl : v_5 = 3 := ev_5.trans (by decide)
  refine va_sld hx hb hX hbl hbA hS (vp_inI (by decide) (by decide)) dL_law_405 ?_
  refine lv_topi (fun v_6 ev_6 => ?_)
  obtain rfl : v_6 = xs 3 := ev_6
  refine vp_callSi (W.runV (As := [.int (xs 1), .int (xs 2), .int (xs 3)]) (rest := []) ⟨hx, hb, hml, hown, hT⟩ (c_X11_owes l D cy ax ix rx (fun _ => none) (xs 1) (xs 2) (xs 3) hf hg) (cwV 3 hT (gV t_374 t_375 t_376 t_377 t_2) rfl rfl rfl (by decide +kernel) ⟨Nat.le_of_ble_eq_true rfl, Nat.le_of_ble_eq_true rfl⟩) (rP_v hPx hK (va_recv hK hPx (ci := 11) (q0 := 0) rfl rfl)) rfl rfl hl.1 rfl (lv_room (Nat.le_of_ble_eq_true rfl)) dL_law_406 ⟨Nat.le_of_ble_eq_true rfl, Nat.le_of_ble_eq_true rfl⟩) (fun r_7 hr_7 => ?_)
  refine lv_aload_n hx hb dL_law_409 rfl (lv_at hl 2 rfl) ?_
  refine lv_aload_n hx hb dL_law_410 rfl (lv_at hl 0 rfl) ?_
  refine lv_iload_n hx hb dL_law_411 rfl (lv_at hl 3 rfl) ?_
  refine lv_iconst (v := 1) hx hb dL_law_412 (by decide) ?_
  refine lv_iadd hx hb dL_law_413 ?_
  refine lv_topi (fun v_8 ev_8 => ?_)
  obtain rfl : v_8 = 1 := ev_8.trans (by decide)
  refine va_sld hx hb hX hbl hbA hS (vp_inI (by decide) (by decide)) dL_law_414 ?_
  refine lv_topi (fun v_9 ev_9 => ?_)
  obtain rfl : v_9 = xs 1 := ev_9
  refine lv_aload_n hx hb dL_law_415 rfl (lv_at hl 0 rfl) ?_
  refine lv_iload_n hx hb dL_law_416 rfl (lv_at hl 3 rfl) ?_
  refine lv_iconst (v := 2) hx hb dL_law_417 (by decide) ?_
  refine lv_iadd hx hb dL_law_418 ?_
  refine lv_topi (fun v_10 ev_10 => ?_)
  obtain rfl : v_10 = 2 := ev_10.trans (by decide)
  refine va_sld hx hb hX hbl hbA hS (vp_inI (by decide) (by decide)) dL_law_419 ?_
  refine lv_topi (fun v_11 ev_11 => ?_)
  obtain rfl : v_11 = xs 2 := ev_11
  refine lv_aload_n hx hb dL_law_420 rfl (lv_at hl 0 rfl) ?_
  refine lv_iload_n hx hb dL_law_421 rfl (lv_at hl 3 rfl) ?_
  refine lv_iconst (v := 3) hx hb dL_law_422 (by decide) ?_
  refine lv_iadd hx hb dL_law_423 ?_
  refine lv_topi (fun v_12 ev_12 => ?_)
  obtain rfl : v_12 = 3 := ev_12.trans (by decide)
  refine va_sld hx hb hX hbl hbA hS (vp_inI (by decide) (by decide)) dL_law_424 ?_
  refine lv_topi (fun v_13 ev_13 => ?_)
  obtain rfl : v_13 = xs 3 := ev_13
  refine vp_callSi (W.runV (As := [.int (xs 1), .int (xs 2), .int (xs 3)]) (rest := [.int r_7]) ⟨hx, hb, hml, hown, hT⟩ (c_X12_owes l D cy am im rm lm (xs 1) (xs 2) (xs 3) hz) (cwV 3 hT (gV t_378 t_379 t_380 t_381 t_8) rfl rfl rfl (by decide +kernel) ⟨Nat.le_of_ble_eq_true rfl, Nat.le_of_ble_eq_true rfl⟩) (rP_v hPm hK (va_recv hK hPm (ci := 12) (q0 := 0) rfl rfl)) rfl rfl hl.1 rfl (lv_room (Nat.le_of_ble_eq_true rfl)) dL_law_425 ⟨Nat.le_of_ble_eq_true rfl, Nat.le_of_ble_eq_true rfl⟩) (fun r_14 hr_14 => ?_)
  refine lv_icmp_eq (tgt := 1525) hx hb dL_law_428 (by decide) (fun _ => ?_) (fun c9 => absurd (hr_7.trans hr_14.symm) c9)
  exact lc_end C0 hS (lv_sub hl [0, 3] rfl) (Nat.le_of_ble_eq_true rfl) (Nat.le_of_ble_eq_true rfl)
set_option maxHeartbeats 4000000 in
set_option maxRecDepth 100000 in
theorem lc_5 {p : Program} {l : Launch} {e : Env} {s : State} {m : MethodId} {below : List Frame} {meth : Method} {c : Code} {b : Nat} {xs : Nat → Int32} (C0 : lw_At p s m meth c b 7 xs) {D : va_G} {cy : Nat → ClassId} {ax : Nat → Nat} {ix : Nat → Int32} {rx : Nat → Nat → Int32} {am : Nat → Nat} {im : Nat → Int32} {rm : Nat → Nat → Int32} {lm : Nat → Int64} (hf : xZ ix) (hg : xZr rx) (hz : mZ im) (hn : nw s) (hK : va_K D vwCl (vT cy) s) {H : Heap} {locs : List Loc} (hPx : va_P D vwCl (xW cy ax ix rx (fun _ => none) (ax 20) (ax 12)) H) (hPm : va_P D vwCl (mW cy am im rm lm) H) (hDj : va_D (fun q : Nat => s.heap.size ≤ q) ((xW cy ax ix rx (fun _ => none) (ax 20) (ax 12)) ++ (mW cy am im rm lm))) (hS : va_S (fun q : Nat => s.heap.size ≤ q) s.heap H locs) {ls : Array Slot} (hl : lv_has ls 4 [(0, .ref b), (1, .ref (ax 0)), (2, .ref (am 0)), (3, .int 0)]) : W p l e room_1 s m #[Value.ref b] below meth c H locs 134 5936 (lw_Z below #[Value.ref b] s) (F0 m 433 ls []) := by
  obtain ⟨hx, hb, hr, hml, hown, hts, hX, hbl, hlocks, hgv⟩ := id C0
  have hT : ∀ w ∈ gT, w.before _ s = true := fun w h => hts w (gT_in w h)
  have hA : ∀ q : Nat, s.heap.size ≤ q → (fun q : Nat => s.heap.size ≤ q) q := fun _ h => h
  have hbA : ¬ (fun q : Nat => s.heap.size ≤ q) b := Nat.not_le.mpr hbl
  have hDx := vaD_l hDj
  have hDm := vaD_r hDj
  refine lv_aload_n hx hb dL_law_433 rfl (lv_at hl 1 rfl) ?_
  refine lv_aload_n hx hb dL_law_434 rfl (lv_at hl 0 rfl) ?_
  refine lv_iload_n hx hb dL_law_435 rfl (lv_at hl 3 rfl) ?_
  refine lv_iconst (v := 1) hx hb dL_law_436 (by decide) ?_
  refine lv_iadd hx hb dL_law_437 ?_
  refine lv_topi (fun v_1 ev_1 => ?_)
  obtain rfl : v_1 = 1 := ev_1.trans (by decide)
  refine va_sld hx hb hX hbl hbA hS (vp_inI (by decide) (by decide)) dL_law_438 ?_
  refine lv_topi (fun v_2 ev_2 => ?_)
  obtain rfl : v_2 = xs 1 := ev_2
  refine lv_aload_n hx hb dL_law_439 rfl (lv_at hl 0 rfl) ?_
  refine lv_iload_n hx hb dL_law_440 rfl (lv_at hl 3 rfl) ?_
  refine lv_iconst (v := 2) hx hb dL_law_441 (by decide) ?_
  refine lv_iadd hx hb dL_law_442 ?_
  refine lv_topi (fun v_3 ev_3 => ?_)
  obtain rfl : v_3 = 2 := ev_3.trans (by decide)
  refine va_sld hx hb hX hbl hbA hS (vp_inI (by decide) (by decide)) dL_law_443 ?_
  refine lv_topi (fun v_4 ev_4 => ?_)
  obtain rfl : v_4 = xs 2 := ev_4
  refine lv_aload_n hx hb dL_law_444 rfl (lv_at hl 0 rfl) ?_
  refine lv_iload_n hx hb dL_law_445 rfl (lv_at hl 3 rfl) ?_
  refine lv_iconst (v := 3) hx hb dL_law_446 (by decide) ?_
  refine lv_iadd hx hb dL_law_447 ?_
  refine lv_topi (fun v_5 ev_5 => ?_)
  obtain rfl : v_5 = 3 := ev_5.trans (by decide)
  refine va_sld hx hb hX hbl hbA hS (vp_inI (by decide) (by decide)) dL_law_448 ?_
  refine lv_topi (fun v_6 ev_6 => ?_)
  obtain rfl : v_6 = xs 3 := ev_6
  refine lv_aload_n hx hb dL_law_449 rfl (lv_at hl 0 rfl) ?_
  refine lv_iload_n hx hb dL_law_450 rfl (lv_at hl 3 rfl) ?_
  refine lv_iconst (v := 4) hx hb dL_law_451 (by decide) ?_
  refine lv_iadd hx hb dL_law_452 ?_
  refine lv_topi (fun v_7 ev_7 => ?_)
  obtain rfl : v_7 = 4 := ev_7.trans (by decide)
  refine va_sld hx hb hX hbl hbA hS (vp_inI (by decide) (by decide)) dL_law_453 ?_
  refine lv_topi (fun v_8 ev_8 => ?_)
  obtain rfl : v_8 = xs 4 := ev_8
  refine lv_aload_n hx hb dL_law_454 rfl (lv_at hl 0 rfl) ?_
  refine lv_iload_n hx hb dL_law_455 rfl (lv_at hl 3 rfl) ?_
  refine lv_iconst (v := 5) hx hb dL_law_456 (by decide) ?_
  refine lv_iadd hx hb dL_law_457 ?_
  refine lv_topi (fun v_9 ev_9 => ?_)
  obtain rfl : v_9 = 5 := ev_9.trans (by decide)
  refine va_sld hx hb hX hbl hbA hS (vp_inI (by decide) (by decide)) dL_law_458 ?_
  refine lv_topi (fun v_10 ev_10 => ?_)
  obtain rfl : v_10 = xs 5 := ev_10
  refine vp_callSi (W.runV (As := [.int (xs 1), .int (xs 2), .int (xs 3), .int (xs 4), .int (xs 5)]) (rest := []) ⟨hx, hb, hml, hown, hT⟩ (c_X11_first l D cy ax ix rx (fun _ => none) (xs 1) (xs 2) (xs 3) (xs 4) (xs 5) hf hg) (cwV 5 hT (gV t_382 t_383 t_384 t_385 t_2) rfl rfl rfl (by decide +kernel) ⟨Nat.le_of_ble_eq_true rfl, Nat.le_of_ble_eq_true rfl⟩) (rP_v hPx hK (va_recv hK hPx (ci := 11) (q0 := 0) rfl rfl)) rfl rfl hl.1 rfl (lv_room (Nat.le_of_ble_eq_true rfl)) dL_law_459 ⟨Nat.le_of_ble_eq_true rfl, Nat.le_of_ble_eq_true rfl⟩) (fun r_11 hr_11 => ?_)
  refine lv_aload_n hx hb dL_law_462 rfl (lv_at hl 2 rfl) ?_
  refine lv_aload_n hx hb dL_law_463 rfl (lv_at hl 0 rfl) ?_
  refine lv_iload_n hx hb dL_law_464 rfl (lv_at hl 3 rfl) ?_
  refine lv_iconst (v := 1) hx hb dL_law_465 (by decide) ?_
  refine lv_iadd hx hb dL_law_466 ?_
  refine lv_topi (fun v_12 ev_12 => ?_)
  obtain rfl : v_12 = 1 := ev_12.trans (by decide)
  refine va_sld hx hb hX hbl hbA hS (vp_inI (by decide) (by decide)) dL_law_467 ?_
  refine lv_topi (fun v_13 ev_13 => ?_)
  obtain rfl : v_13 = xs 1 := ev_13
  refine lv_aload_n hx hb dL_law_468 rfl (lv_at hl 0 rfl) ?_
  refine lv_iload_n hx hb dL_law_469 rfl (lv_at hl 3 rfl) ?_
  refine lv_iconst (v := 2) hx hb dL_law_470 (by decide) ?_
  refine lv_iadd hx hb dL_law_471 ?_
  refine lv_topi (fun v_14 ev_14 => ?_)
  obtain rfl : v_14 = 2 := ev_14.trans (by decide)
  refine va_sld hx hb hX hbl hbA hS (vp_inI (by decide) (by decide)) dL_law_472 ?_
  refine lv_topi (fun v_15 ev_15 => ?_)
  obtain rfl : v_15 = xs 2 := ev_15
  refine lv_aload_n hx hb dL_law_473 rfl (lv_at hl 0 rfl) ?_
  refine lv_iload_n hx hb dL_law_474 rfl (lv_at hl 3 rfl) ?_
  refine lv_iconst (v := 3) hx hb dL_law_475 (by decide) ?_
  refine lv_iadd hx hb dL_law_476 ?_
  refine lv_topi (fun v_16 ev_16 => ?_)
  obtain rfl : v_16 = 3 := ev_16.trans (by decide)
  refine va_sld hx hb hX hbl hbA hS (vp_inI (by decide) (by decide)) dL_law_477 ?_
  refine lv_topi (fun v_17 ev_17 => ?_)
  obtain rfl : v_17 = xs 3 := ev_17
  refine lv_aload_n hx hb dL_law_478 rfl (lv_at hl 0 rfl) ?_
  refine lv_iload_n hx hb dL_law_479 rfl (lv_at hl 3 rfl) ?_
  refine lv_iconst (v := 4) hx hb dL_law_480 (by decide) ?_
  refine lv_iadd hx hb dL_law_481 ?_
  refine lv_topi (fun v_18 ev_18 => ?_)
  obtain rfl : v_18 = 4 := ev_18.trans (by decide)
  refine va_sld hx hb hX hbl hbA hS (vp_inI (by decide) (by decide)) dL_law_482 ?_
  refine lv_topi (fun v_19 ev_19 => ?_)
  obtain rfl : v_19 = xs 4 := ev_19
  refine lv_aload_n hx hb dL_law_483 rfl (lv_at hl 0 rfl) ?_
  refine lv_iload_n hx hb dL_law_484 rfl (lv_at hl 3 rfl) ?_
  refine lv_iconst (v := 5) hx hb dL_law_485 (by decide) ?_
  refine lv_iadd hx hb dL_law_486 ?_
  refine lv_topi (fun v_20 ev_20 => ?_)
  obtain rfl : v_20 = 5 := ev_20.trans (by decide)
  refine va_sld hx hb hX hbl hbA hS (vp_inI (by decide) (by decide)) dL_law_487 ?_
  refine lv_topi (fun v_21 ev_21 => ?_)
  obtain rfl : v_21 = xs 5 := ev_21
  refine vp_callSi (W.runV (As := [.int (xs 1), .int (xs 2), .int (xs 3), .int (xs 4), .int (xs 5)]) (rest := [.int r_11]) ⟨hx, hb, hml, hown, hT⟩ (c_X12_first l D cy am im rm lm (xs 1) (xs 2) (xs 3) (xs 4) (xs 5) hz) (cwV 5 hT (gV t_386 t_387 t_388 t_389 t_8) rfl rfl rfl (by decide +kernel) ⟨Nat.le_of_ble_eq_true rfl, Nat.le_of_ble_eq_true rfl⟩) (rP_v hPm hK (va_recv hK hPm (ci := 12) (q0 := 0) rfl rfl)) rfl rfl hl.1 rfl (lv_room (Nat.le_of_ble_eq_true rfl)) dL_law_488 ⟨Nat.le_of_ble_eq_true rfl, Nat.le_of_ble_eq_true rfl⟩) (fun r_22 hr_22 => ?_)
  refine lv_icmp_eq (tgt := 1525) hx hb dL_law_491 (by decide) (fun _ => ?_) (fun c9 => absurd (hr_11.trans hr_22.symm) c9)
  exact lc_end C0 hS (lv_sub hl [0, 3] rfl) (Nat.le_of_ble_eq_true rfl) (Nat.le_of_ble_eq_true rfl)
set_option maxHeartbeats 4000000 in
set_option maxRecDepth 100000 in
theorem lc_6 {p : Program} {l : Launch} {e : Env} {s : State} {m : MethodId} {below : List Frame} {meth : Method} {c : Code} {b : Nat} {xs : Nat → Int32} (C0 : lw_At p s m meth c b 7 xs) {D : va_G} {cy : Nat → ClassId} {ax : Nat → Nat} {ix : Nat → Int32} {rx : Nat → Nat → Int32} {am : Nat → Nat} {im : Nat → Int32} {rm : Nat → Nat → Int32} {lm : Nat → Int64} (hf : xZ ix) (hg : xZr rx) (hz : mZ im) (hn : nw s) (hK : va_K D vwCl (vT cy) s) {H : Heap} {locs : List Loc} (hPx : va_P D vwCl (xW cy ax ix rx (fun _ => none) (ax 20) (ax 12)) H) (hPm : va_P D vwCl (mW cy am im rm lm) H) (hDj : va_D (fun q : Nat => s.heap.size ≤ q) ((xW cy ax ix rx (fun _ => none) (ax 20) (ax 12)) ++ (mW cy am im rm lm))) (hS : va_S (fun q : Nat => s.heap.size ≤ q) s.heap H locs) {ls : Array Slot} (hl : lv_has ls 4 [(0, .ref b), (1, .ref (ax 0)), (2, .ref (am 0)), (3, .int 0)]) : W p l e room_1 s m #[Value.ref b] below meth c H locs 134 5936 (lw_Z below #[Value.ref b] s) (F0 m 496 ls []) := by
  obtain ⟨hx, hb, hr, hml, hown, hts, hX, hbl, hlocks, hgv⟩ := id C0
  have hT : ∀ w ∈ gT, w.before _ s = true := fun w h => hts w (gT_in w h)
  have hA : ∀ q : Nat, s.heap.size ≤ q → (fun q : Nat => s.heap.size ≤ q) q := fun _ h => h
  have hbA : ¬ (fun q : Nat => s.heap.size ≤ q) b := Nat.not_le.mpr hbl
  have hDx := vaD_l hDj
  have hDm := vaD_r hDj
  refine lv_aload_n hx hb dL_law_496 rfl (lv_at hl 1 rfl) ?_
  refine lv_aload_n hx hb dL_law_497 rfl (lv_at hl 0 rfl) ?_
  refine lv_iload_n hx hb dL_law_498 rfl (lv_at hl 3 rfl) ?_
  refine lv_iconst (v := 1) hx hb dL_law_499 (by decide) ?_
  refine lv_iadd hx hb dL_law_500 ?_
  refine lv_topi (fun v_1 ev_1 => ?_)
  obtain rfl : v_1 = 1 := ev_1.trans (by decide)
  refine va_sld hx hb hX hbl hbA hS (vp_inI (by decide) (by decide)) dL_law_501 ?_
  refine lv_topi (fun v_2 ev_2 => ?_)
  obtain rfl : v_2 = xs 1 := ev_2
  refine lv_aload_n hx hb dL_law_502 rfl (lv_at hl 0 rfl) ?_
  refine lv_iload_n hx hb dL_law_503 rfl (lv_at hl 3 rfl) ?_
  refine lv_iconst (v := 2) hx hb dL_law_504 (by decide) ?_
  refine lv_iadd hx hb dL_law_505 ?_
  refine lv_topi (fun v_3 ev_3 => ?_)
  obtain rfl : v_3 = 2 := ev_3.trans (by decide)
  refine va_sld hx hb hX hbl hbA hS (vp_inI (by decide) (by decide)) dL_law_506 ?_
  refine lv_topi (fun v_4 ev_4 => ?_)
  obtain rfl : v_4 = xs 2 := ev_4
  refine lv_aload_n hx hb dL_law_507 rfl (lv_at hl 0 rfl) ?_
  refine lv_iload_n hx hb dL_law_508 rfl (lv_at hl 3 rfl) ?_
  refine lv_iconst (v := 3) hx hb dL_law_509 (by decide) ?_
  refine lv_iadd hx hb dL_law_510 ?_
  refine lv_topi (fun v_5 ev_5 => ?_)
  obtain rfl : v_5 = 3 := ev_5.trans (by decide)
  refine va_sld hx hb hX hbl hbA hS (vp_inI (by decide) (by decide)) dL_law_511 ?_
  refine lv_topi (fun v_6 ev_6 => ?_)
  obtain rfl : v_6 = xs 3 := ev_6
  refine lv_aload_n hx hb dL_law_512 rfl (lv_at hl 0 rfl) ?_
  refine lv_iload_n hx hb dL_law_513 rfl (lv_at hl 3 rfl) ?_
  refine lv_iconst (v := 4) hx hb dL_law_514 (by decide) ?_
  refine lv_iadd hx hb dL_law_515 ?_
  refine lv_topi (fun v_7 ev_7 => ?_)
  obtain rfl : v_7 = 4 := ev_7.trans (by decide)
  refine va_sld hx hb hX hbl hbA hS (vp_inI (by decide) (by decide)) dL_law_516 ?_
  refine lv_topi (fun v_8 ev_8 => ?_)
  obtain rfl : v_8 = xs 4 := ev_8
  refine vp_callSi (W.runV (As := [.int (xs 1), .int (xs 2), .int (xs 3), .int (xs 4)]) (rest := []) ⟨hx, hb, hml, hown, hT⟩ (c_X11_last l D cy ax ix rx (fun _ => none) (xs 1) (xs 2) (xs 3) (xs 4) hf hg) (cwV 4 hT (gV t_390 t_391 t_392 t_393 t_2) rfl rfl rfl (by decide +kernel) ⟨Nat.le_of_ble_eq_true rfl, Nat.le_of_ble_eq_true rfl⟩) (rP_v hPx hK (va_recv hK hPx (ci := 11) (q0 := 0) rfl rfl)) rfl rfl hl.1 rfl (lv_room (Nat.le_of_ble_eq_true rfl)) dL_law_517 ⟨Nat.le_of_ble_eq_true rfl, Nat.le_of_ble_eq_true rfl⟩) (fun r_9 hr_9 => ?_)
  refine lv_aload_n hx hb dL_law_520 rfl (lv_at hl 2 rfl) ?_
  refine lv_aload_n hx hb dL_law_521 rfl (lv_at hl 0 rfl) ?_
  refine lv_iload_n hx hb dL_law_522 rfl (lv_at hl 3 rfl) ?_
  refine lv_iconst (v := 1) hx hb dL_law_523 (by decide) ?_
  refine lv_iadd hx hb dL_law_524 ?_
  refine lv_topi (fun v_10 ev_10 => ?_)
  obtain rfl : v_10 = 1 := ev_10.trans (by decide)
  refine va_sld hx hb hX hbl hbA hS (vp_inI (by decide) (by decide)) dL_law_525 ?_
  refine lv_topi (fun v_11 ev_11 => ?_)
  obtain rfl : v_11 = xs 1 := ev_11
  refine lv_aload_n hx hb dL_law_526 rfl (lv_at hl 0 rfl) ?_
  refine lv_iload_n hx hb dL_law_527 rfl (lv_at hl 3 rfl) ?_
  refine lv_iconst (v := 2) hx hb dL_law_528 (by decide) ?_
  refine lv_iadd hx hb dL_law_529 ?_
  refine lv_topi (fun v_12 ev_12 => ?_)
  obtain rfl : v_12 = 2 := ev_12.trans (by decide)
  refine va_sld hx hb hX hbl hbA hS (vp_inI (by decide) (by decide)) dL_law_530 ?_
  refine lv_topi (fun v_13 ev_13 => ?_)
  obtain rfl : v_13 = xs 2 := ev_13
  refine lv_aload_n hx hb dL_law_531 rfl (lv_at hl 0 rfl) ?_
  refine lv_iload_n hx hb dL_law_532 rfl (lv_at hl 3 rfl) ?_
  refine lv_iconst (v := 3) hx hb dL_law_533 (by decide) ?_
  refine lv_iadd hx hb dL_law_534 ?_
  refine lv_topi (fun v_14 ev_14 => ?_)
  obtain rfl : v_14 = 3 := ev_14.trans (by decide)
  refine va_sld hx hb hX hbl hbA hS (vp_inI (by decide) (by decide)) dL_law_535 ?_
  refine lv_topi (fun v_15 ev_15 => ?_)
  obtain rfl : v_15 = xs 3 := ev_15
  refine lv_aload_n hx hb dL_law_536 rfl (lv_at hl 0 rfl) ?_
  refine lv_iload_n hx hb dL_law_537 rfl (lv_at hl 3 rfl) ?_
  refine lv_iconst (v := 4) hx hb dL_law_538 (by decide) ?_
  refine lv_iadd hx hb dL_law_539 ?_
  refine lv_topi (fun v_16 ev_16 => ?_)
  obtain rfl : v_16 = 4 := ev_16.trans (by decide)
  refine va_sld hx hb hX hbl hbA hS (vp_inI (by decide) (by decide)) dL_law_540 ?_
  refine lv_topi (fun v_17 ev_17 => ?_)
  obtain rfl : v_17 = xs 4 := ev_17
  refine vp_callSi (W.runV (As := [.int (xs 1), .int (xs 2), .int (xs 3), .int (xs 4)]) (rest := [.int r_9]) ⟨hx, hb, hml, hown, hT⟩ (c_X12_last l D cy am im rm lm (xs 1) (xs 2) (xs 3) (xs 4) hz) (cwV 4 hT (gV t_394 t_395 t_396 t_397 t_8) rfl rfl rfl (by decide +kernel) ⟨Nat.le_of_ble_eq_true rfl, Nat.le_of_ble_eq_true rfl⟩) (rP_v hPm hK (va_recv hK hPm (ci := 12) (q0 := 0) rfl rfl)) rfl rfl hl.1 rfl (lv_room (Nat.le_of_ble_eq_true rfl)) dL_law_541 ⟨Nat.le_of_ble_eq_true rfl, Nat.le_of_ble_eq_true rfl⟩) (fun r_18 hr_18 => ?_)
  refine lv_icmp_eq (tgt := 1525) hx hb dL_law_544 (by decide) (fun _ => ?_) (fun c9 => absurd (hr_9.trans hr_18.symm) c9)
  exact lc_end C0 hS (lv_sub hl [0, 3] rfl) (Nat.le_of_ble_eq_true rfl) (Nat.le_of_ble_eq_true rfl)
set_option maxHeartbeats 4000000 in
set_option maxRecDepth 100000 in
theorem lc_7 {p : Program} {l : Launch} {e : Env} {s : State} {m : MethodId} {below : List Frame} {meth : Method} {c : Code} {b : Nat} {xs : Nat → Int32} (C0 : lw_At p s m meth c b 7 xs) {D : va_G} {cy : Nat → ClassId} {ax : Nat → Nat} {ix : Nat → Int32} {rx : Nat → Nat → Int32} {am : Nat → Nat} {im : Nat → Int32} {rm : Nat → Nat → Int32} {lm : Nat → Int64} (hf : xZ ix) (hg : xZr rx) (hz : mZ im) (hn : nw s) (hK : va_K D vwCl (vT cy) s) {H : Heap} {locs : List Loc} (hPx : va_P D vwCl (xW cy ax ix rx (fun _ => none) (ax 20) (ax 12)) H) (hPm : va_P D vwCl (mW cy am im rm lm) H) (hDj : va_D (fun q : Nat => s.heap.size ≤ q) ((xW cy ax ix rx (fun _ => none) (ax 20) (ax 12)) ++ (mW cy am im rm lm))) (hS : va_S (fun q : Nat => s.heap.size ≤ q) s.heap H locs) {ls : Array Slot} (hl : lv_has ls 4 [(0, .ref b), (1, .ref (ax 0)), (2, .ref (am 0)), (3, .int 0)]) : W p l e room_1 s m #[Value.ref b] below meth c H locs 134 5936 (lw_Z below #[Value.ref b] s) (F0 m 549 ls []) := by
  obtain ⟨hx, hb, hr, hml, hown, hts, hX, hbl, hlocks, hgv⟩ := id C0
  have hT : ∀ w ∈ gT, w.before _ s = true := fun w h => hts w (gT_in w h)
  have hA : ∀ q : Nat, s.heap.size ≤ q → (fun q : Nat => s.heap.size ≤ q) q := fun _ h => h
  have hbA : ¬ (fun q : Nat => s.heap.size ≤ q) b := Nat.not_le.mpr hbl
  have hDx := vaD_l hDj
  have hDm := vaD_r hDj
  refine lv_aload_n hx hb dL_law_549 rfl (lv_at hl 1 rfl) ?_
  refine lv_aload_n hx hb dL_law_550 rfl (lv_at hl 0 rfl) ?_
  refine lv_iload_n hx hb dL_law_551 rfl (lv_at hl 3 rfl) ?_
  refine lv_iconst (v := 1) hx hb dL_law_552 (by decide) ?_
  refine lv_iadd hx hb dL_law_553 ?_
  refine lv_topi (fun v_1 ev_1 => ?_)
  obtain rfl : v_1 = 1 := ev_1.trans (by decide)
  refine va_sld hx hb hX hbl hbA hS (vp_inI (by decide) (by decide)) dL_law_554 ?_
  refine lv_topi (fun v_2 ev_2 => ?_)
  obtain rfl : v_2 = xs 1 := ev_2
  refine lv_aload_n hx hb dL_law_555 rfl (lv_at hl 0 rfl) ?_
  refine lv_iload_n hx hb dL_law_556 rfl (lv_at hl 3 rfl) ?_
  refine lv_iconst (v := 2) hx hb dL_law_557 (by decide) ?_
  refine lv_iadd hx hb dL_law_558 ?_
  refine lv_topi (fun v_3 ev_3 => ?_)
  obtain rfl : v_3 = 2 := ev_3.trans (by decide)
  refine va_sld hx hb hX hbl hbA hS (vp_inI (by decide) (by decide)) dL_law_559 ?_
  refine lv_topi (fun v_4 ev_4 => ?_)
  obtain rfl : v_4 = xs 2 := ev_4
  refine lv_aload_n hx hb dL_law_560 rfl (lv_at hl 0 rfl) ?_
  refine lv_iload_n hx hb dL_law_561 rfl (lv_at hl 3 rfl) ?_
  refine lv_iconst (v := 3) hx hb dL_law_562 (by decide) ?_
  refine lv_iadd hx hb dL_law_563 ?_
  refine lv_topi (fun v_5 ev_5 => ?_)
  obtain rfl : v_5 = 3 := ev_5.trans (by decide)
  refine va_sld hx hb hX hbl hbA hS (vp_inI (by decide) (by decide)) dL_law_564 ?_
  refine lv_topi (fun v_6 ev_6 => ?_)
  obtain rfl : v_6 = xs 3 := ev_6
  refine lv_aload_n hx hb dL_law_565 rfl (lv_at hl 0 rfl) ?_
  refine lv_iload_n hx hb dL_law_566 rfl (lv_at hl 3 rfl) ?_
  refine lv_iconst (v := 4) hx hb dL_law_567 (by decide) ?_
  refine lv_iadd hx hb dL_law_568 ?_
  refine lv_topi (fun v_7 ev_7 => ?_)
  obtain rfl : v_7 = 4 := ev_7.trans (by decide)
  refine va_sld hx hb hX hbl hbA hS (vp_inI (by decide) (by decide)) dL_law_569 ?_
  refine lv_topi (fun v_8 ev_8 => ?_)
  obtain rfl : v_8 = xs 4 := ev_8
  refine lv_aload_n hx hb dL_law_570 rfl (lv_at hl 0 rfl) ?_
  refine lv_iload_n hx hb dL_law_571 rfl (lv_at hl 3 rfl) ?_
  refine lv_iconst (v := 5) hx hb dL_law_572 (by decide) ?_
  refine lv_iadd hx hb dL_law_573 ?_
  refine lv_topi (fun v_9 ev_9 => ?_)
  obtain rfl : v_9 = 5 := ev_9.trans (by decide)
  refine va_sld hx hb hX hbl hbA hS (vp_inI (by decide) (by decide)) dL_law_574 ?_
  refine lv_topi (fun v_10 ev_10 => ?_)
  obtain rfl : v_10 = xs 5 := ev_10
  have hFx := rF hDx hS hA
  refine va_calli (va_runV (As := [.int (xs 1), .int (xs 2), .int (xs 3), .int (xs 4), .int (xs 5)]) (rest := []) ⟨hx, hb, hml, hown, hT⟩ (c_X11_feed l D cy ax ix rx (fun _ => none) (xs 1) (xs 2) (xs 3) (xs 4) (xs 5) _ hf hg) (cwV 5 hT (gV t_398 t_399 t_400 t_401 t_2) rfl rfl rfl (by decide +kernel) ⟨Nat.le_of_ble_eq_true rfl, Nat.le_of_ble_eq_true rfl⟩) (rQ_v hPx hK hDx (va_recv hK hPx (ci := 11) (q0 := 0) rfl rfl)) rfl rfl hl.1 rfl (lv_room (Nat.le_of_ble_eq_true rfl)) dL_law_575 ⟨Nat.le_of_ble_eq_true rfl, Nat.le_of_ble_eq_true rfl⟩) hS (fun q _ h => hFx q h) hFx (fun r_11 u_12 t H1 locs ht hvm hr_11 hB hz1 hk1 hS => ?_)
  have hPm := rk hDj hPm hk1
  refine lv_aload_n hx hb dL_law_578 rfl (lv_at hl 2 rfl) ?_
  refine lv_aload_n hx hb dL_law_579 rfl (lv_at hl 0 rfl) ?_
  refine lv_iload_n hx hb dL_law_580 rfl (lv_at hl 3 rfl) ?_
  refine lv_iconst (v := 1) hx hb dL_law_581 (by decide) ?_
  refine lv_iadd hx hb dL_law_582 ?_
  refine lv_topi (fun v_13 ev_13 => ?_)
  obtain rfl : v_13 = 1 := ev_13.trans (by decide)
  refine va_sld hx hb hX hbl hbA hS (vp_inI (by decide) (by decide)) dL_law_583 ?_
  refine lv_topi (fun v_14 ev_14 => ?_)
  obtain rfl : v_14 = xs 1 := ev_14
  refine lv_aload_n hx hb dL_law_584 rfl (lv_at hl 0 rfl) ?_
  refine lv_iload_n hx hb dL_law_585 rfl (lv_at hl 3 rfl) ?_
  refine lv_iconst (v := 2) hx hb dL_law_586 (by decide) ?_
  refine lv_iadd hx hb dL_law_587 ?_
  refine lv_topi (fun v_15 ev_15 => ?_)
  obtain rfl : v_15 = 2 := ev_15.trans (by decide)
  refine va_sld hx hb hX hbl hbA hS (vp_inI (by decide) (by decide)) dL_law_588 ?_
  refine lv_topi (fun v_16 ev_16 => ?_)
  obtain rfl : v_16 = xs 2 := ev_16
  refine lv_aload_n hx hb dL_law_589 rfl (lv_at hl 0 rfl) ?_
  refine lv_iload_n hx hb dL_law_590 rfl (lv_at hl 3 rfl) ?_
  refine lv_iconst (v := 3) hx hb dL_law_591 (by decide) ?_
  refine lv_iadd hx hb dL_law_592 ?_
  refine lv_topi (fun v_17 ev_17 => ?_)
  obtain rfl : v_17 = 3 := ev_17.trans (by decide)
  refine va_sld hx hb hX hbl hbA hS (vp_inI (by decide) (by decide)) dL_law_593 ?_
  refine lv_topi (fun v_18 ev_18 => ?_)
  obtain rfl : v_18 = xs 3 := ev_18
  refine lv_aload_n hx hb dL_law_594 rfl (lv_at hl 0 rfl) ?_
  refine lv_iload_n hx hb dL_law_595 rfl (lv_at hl 3 rfl) ?_
  refine lv_iconst (v := 4) hx hb dL_law_596 (by decide) ?_
  refine lv_iadd hx hb dL_law_597 ?_
  refine lv_topi (fun v_19 ev_19 => ?_)
  obtain rfl : v_19 = 4 := ev_19.trans (by decide)
  refine va_sld hx hb hX hbl hbA hS (vp_inI (by decide) (by decide)) dL_law_598 ?_
  refine lv_topi (fun v_20 ev_20 => ?_)
  obtain rfl : v_20 = xs 4 := ev_20
  refine lv_aload_n hx hb dL_law_599 rfl (lv_at hl 0 rfl) ?_
  refine lv_iload_n hx hb dL_law_600 rfl (lv_at hl 3 rfl) ?_
  refine lv_iconst (v := 5) hx hb dL_law_601 (by decide) ?_
  refine lv_iadd hx hb dL_law_602 ?_
  refine lv_topi (fun v_21 ev_21 => ?_)
  obtain rfl : v_21 = 5 := ev_21.trans (by decide)
  refine va_sld hx hb hX hbl hbA hS (vp_inI (by decide) (by decide)) dL_law_603 ?_
  refine lv_topi (fun v_22 ev_22 => ?_)
  obtain rfl : v_22 = xs 5 := ev_22
  have hFm := rF hDm hS hA
  refine va_calli (va_runV (As := [.int (xs 1), .int (xs 2), .int (xs 3), .int (xs 4), .int (xs 5)]) (rest := [.int r_11]) ⟨hx, hb, hml, hown, hT⟩ (c_X12_feed l D cy am im rm lm (xs 1) (xs 2) (xs 3) (xs 4) (xs 5) _ hz) (cwV 5 hT (gV t_402 t_403 t_404 t_405 t_8) rfl rfl rfl (by decide +kernel) ⟨Nat.le_of_ble_eq_true rfl, Nat.le_of_ble_eq_true rfl⟩) (rQ_v hPm hK hDm (va_recv hK hPm (ci := 12) (q0 := 0) rfl rfl)) rfl rfl hl.1 rfl (lv_room (Nat.le_of_ble_eq_true rfl)) dL_law_604 ⟨Nat.le_of_ble_eq_true rfl, Nat.le_of_ble_eq_true rfl⟩) hS (fun q _ h => hFm q h) hFm (fun r_23 u_24 t H1 locs ht hvm hr_23 hB hz1 hk1 hS => ?_)
  refine lv_icmp_eq (tgt := 1525) hx hb dL_law_607 (by decide) (fun _ => ?_) (fun c9 => absurd (hr_11.trans hr_23.symm) c9)
  exact lc_end C0 hS (lv_sub hl [0, 3] rfl) (Nat.le_of_ble_eq_true rfl) (Nat.le_of_ble_eq_true rfl)
set_option maxHeartbeats 4000000 in
set_option maxRecDepth 100000 in
theorem lc_8 {p : Program} {l : Launch} {e : Env} {s : State} {m : MethodId} {below : List Frame} {meth : Method} {c : Code} {b : Nat} {xs : Nat → Int32} (C0 : lw_At p s m meth c b 7 xs) {D : va_G} {cy : Nat → ClassId} {ax : Nat → Nat} {ix : Nat → Int32} {rx : Nat → Nat → Int32} {am : Nat → Nat} {im : Nat → Int32} {rm : Nat → Nat → Int32} {lm : Nat → Int64} (hf : xZ ix) (hg : xZr rx) (hz : mZ im) (hn : nw s) (hK : va_K D vwCl (vT cy) s) {H : Heap} {locs : List Loc} (hPx : va_P D vwCl (xW cy ax ix rx (fun _ => none) (ax 20) (ax 12)) H) (hPm : va_P D vwCl (mW cy am im rm lm) H) (hDj : va_D (fun q : Nat => s.heap.size ≤ q) ((xW cy ax ix rx (fun _ => none) (ax 20) (ax 12)) ++ (mW cy am im rm lm))) (hS : va_S (fun q : Nat => s.heap.size ≤ q) s.heap H locs) {ls : Array Slot} (hl : lv_has ls 4 [(0, .ref b), (1, .ref (ax 0)), (2, .ref (am 0)), (3, .int 0)]) : W p l e room_1 s m #[Value.ref b] below meth c H locs 134 5936 (lw_Z below #[Value.ref b] s) (F0 m 612 ls []) := by
  obtain ⟨hx, hb, hr, hml, hown, hts, hX, hbl, hlocks, hgv⟩ := id C0
  have hT : ∀ w ∈ gT, w.before _ s = true := fun w h => hts w (gT_in w h)
  have hA : ∀ q : Nat, s.heap.size ≤ q → (fun q : Nat => s.heap.size ≤ q) q := fun _ h => h
  have hbA : ¬ (fun q : Nat => s.heap.size ≤ q) b := Nat.not_le.mpr hbl
  have hDx := vaD_l hDj
  have hDm := vaD_r hDj
  refine lv_aload_n hx hb dL_law_612 rfl (lv_at hl 1 rfl) ?_
  refine lv_aload_n hx hb dL_law_613 rfl (lv_at hl 0 rfl) ?_
  refine lv_iload_n hx hb dL_law_614 rfl (lv_at hl 3 rfl) ?_
  refine lv_iconst (v := 1) hx hb dL_law_615 (by decide) ?_
  refine lv_iadd hx hb dL_law_616 ?_
  refine lv_topi (fun v_1 ev_1 => ?_)
  obtain rfl : v_1 = 1 := ev_1.trans (by decide)
  refine va_sld hx hb hX hbl hbA hS (vp_inI (by decide) (by decide)) dL_law_617 ?_
  refine lv_topi (fun v_2 ev_2 => ?_)
  obtain rfl : v_2 = xs 1 := ev_2
  refine vp_callSi (W.runV (As := [.int (xs 1)]) (rest := []) ⟨hx, hb, hml, hown, hT⟩ (c_X11_law l D cy ax ix rx (fun _ => none) (xs 1) hf hg) (cwV 1 hT (gV t_406 t_407 t_408 t_409 t_2) rfl rfl rfl (by decide +kernel) ⟨Nat.le_of_ble_eq_true rfl, Nat.le_of_ble_eq_true rfl⟩) (rP_v hPx hK (va_recv hK hPx (ci := 11) (q0 := 0) rfl rfl)) rfl rfl hl.1 rfl (lv_room (Nat.le_of_ble_eq_true rfl)) dL_law_618 ⟨Nat.le_of_ble_eq_true rfl, Nat.le_of_ble_eq_true rfl⟩) (fun r_3 hr_3 => ?_)
  refine lv_aload_n hx hb dL_law_621 rfl (lv_at hl 2 rfl) ?_
  refine lv_aload_n hx hb dL_law_622 rfl (lv_at hl 0 rfl) ?_
  refine lv_iload_n hx hb dL_law_623 rfl (lv_at hl 3 rfl) ?_
  refine lv_iconst (v := 1) hx hb dL_law_624 (by decide) ?_
  refine lv_iadd hx hb dL_law_625 ?_
  refine lv_topi (fun v_4 ev_4 => ?_)
  obtain rfl : v_4 = 1 := ev_4.trans (by decide)
  refine va_sld hx hb hX hbl hbA hS (vp_inI (by decide) (by decide)) dL_law_626 ?_
  refine lv_topi (fun v_5 ev_5 => ?_)
  obtain rfl : v_5 = xs 1 := ev_5
  refine vp_callSi (W.runV (As := [.int (xs 1)]) (rest := [.int r_3]) ⟨hx, hb, hml, hown, hT⟩ (c_X12_law l D cy am im rm lm (xs 1) hz) (cwV 1 hT (gV t_410 t_411 t_412 t_413 t_8) rfl rfl rfl (by decide +kernel) ⟨Nat.le_of_ble_eq_true rfl, Nat.le_of_ble_eq_true rfl⟩) (rP_v hPm hK (va_recv hK hPm (ci := 12) (q0 := 0) rfl rfl)) rfl rfl hl.1 rfl (lv_room (Nat.le_of_ble_eq_true rfl)) dL_law_627 ⟨Nat.le_of_ble_eq_true rfl, Nat.le_of_ble_eq_true rfl⟩) (fun r_6 hr_6 => ?_)
  refine lv_icmp_eq (tgt := 1525) hx hb dL_law_630 (by decide) (fun _ => ?_) (fun c9 => absurd (hr_3.trans hr_6.symm) c9)
  exact lc_end C0 hS (lv_sub hl [0, 3] rfl) (Nat.le_of_ble_eq_true rfl) (Nat.le_of_ble_eq_true rfl)
set_option maxHeartbeats 4000000 in
set_option maxRecDepth 100000 in
theorem lc_9 {p : Program} {l : Launch} {e : Env} {s : State} {m : MethodId} {below : List Frame} {meth : Method} {c : Code} {b : Nat} {xs : Nat → Int32} (C0 : lw_At p s m meth c b 7 xs) {D : va_G} {cy : Nat → ClassId} {ax : Nat → Nat} {ix : Nat → Int32} {rx : Nat → Nat → Int32} {am : Nat → Nat} {im : Nat → Int32} {rm : Nat → Nat → Int32} {lm : Nat → Int64} (hf : xZ ix) (hg : xZr rx) (hz : mZ im) (hn : nw s) (hK : va_K D vwCl (vT cy) s) {H : Heap} {locs : List Loc} (hPx : va_P D vwCl (xW cy ax ix rx (fun _ => none) (ax 20) (ax 12)) H) (hPm : va_P D vwCl (mW cy am im rm lm) H) (hDj : va_D (fun q : Nat => s.heap.size ≤ q) ((xW cy ax ix rx (fun _ => none) (ax 20) (ax 12)) ++ (mW cy am im rm lm))) (hS : va_S (fun q : Nat => s.heap.size ≤ q) s.heap H locs) {ls : Array Slot} (hl : lv_has ls 4 [(0, .ref b), (1, .ref (ax 0)), (2, .ref (am 0)), (3, .int 0)]) : W p l e room_1 s m #[Value.ref b] below meth c H locs 134 5936 (lw_Z below #[Value.ref b] s) (F0 m 635 ls []) := by
  obtain ⟨hx, hb, hr, hml, hown, hts, hX, hbl, hlocks, hgv⟩ := id C0
  have hT : ∀ w ∈ gT, w.before _ s = true := fun w h => hts w (gT_in w h)
  have hA : ∀ q : Nat, s.heap.size ≤ q → (fun q : Nat => s.heap.size ≤ q) q := fun _ h => h
  have hbA : ¬ (fun q : Nat => s.heap.size ≤ q) b := Nat.not_le.mpr hbl
  have hDx := vaD_l hDj
  have hDm := vaD_r hDj
  refine lv_aload_n hx hb dL_law_635 rfl (lv_at hl 1 rfl) ?_
  refine lv_aload_n hx hb dL_law_636 rfl (lv_at hl 0 rfl) ?_
  refine lv_iload_n hx hb dL_law_637 rfl (lv_at hl 3 rfl) ?_
  refine lv_iconst (v := 1) hx hb dL_law_638 (by decide) ?_
  refine lv_iadd hx hb dL_law_639 ?_
  refine lv_topi (fun v_1 ev_1 => ?_)
  obtain rfl : v_1 = 1 := ev_1.trans (by decide)
  refine va_sld hx hb hX hbl hbA hS (vp_inI (by decide) (by decide)) dL_law_640 ?_
  refine lv_topi (fun v_2 ev_2 => ?_)
  obtain rfl : v_2 = xs 1 := ev_2
  refine lv_aload_n hx hb dL_law_641 rfl (lv_at hl 0 rfl) ?_
  refine lv_iload_n hx hb dL_law_642 rfl (lv_at hl 3 rfl) ?_
  refine lv_iconst (v := 2) hx hb dL_law_643 (by decide) ?_
  refine lv_iadd hx hb dL_law_644 ?_
  refine lv_topi (fun v_3 ev_3 => ?_)
  obtain rfl : v_3 = 2 := ev_3.trans (by decide)
  refine va_sld hx hb hX hbl hbA hS (vp_inI (by decide) (by decide)) dL_law_645 ?_
  refine lv_topi (fun v_4 ev_4 => ?_)
  obtain rfl : v_4 = xs 2 := ev_4
  refine lv_aload_n hx hb dL_law_646 rfl (lv_at hl 0 rfl) ?_
  refine lv_iload_n hx hb dL_law_647 rfl (lv_at hl 3 rfl) ?_
  refine lv_iconst (v := 3) hx hb dL_law_648 (by decide) ?_
  refine lv_iadd hx hb dL_law_649 ?_
  refine lv_topi (fun v_5 ev_5 => ?_)
  obtain rfl : v_5 = 3 := ev_5.trans (by decide)
  refine va_sld hx hb hX hbl hbA hS (vp_inI (by decide) (by decide)) dL_law_650 ?_
  refine lv_topi (fun v_6 ev_6 => ?_)
  obtain rfl : v_6 = xs 3 := ev_6
  refine vp_callSi (W.runV (As := [.int (xs 1), .int (xs 2), .int (xs 3)]) (rest := []) ⟨hx, hb, hml, hown, hT⟩ (c_X11_thing l D cy ax ix rx (fun _ => none) (xs 1) (xs 2) (xs 3) hf hg) (cwV 3 hT (gV t_414 t_415 t_416 t_417 t_2) rfl rfl rfl (by decide +kernel) ⟨Nat.le_of_ble_eq_true rfl, Nat.le_of_ble_eq_true rfl⟩) (rP_v hPx hK (va_recv hK hPx (ci := 11) (q0 := 0) rfl rfl)) rfl rfl hl.1 rfl (lv_room (Nat.le_of_ble_eq_true rfl)) dL_law_651 ⟨Nat.le_of_ble_eq_true rfl, Nat.le_of_ble_eq_true rfl⟩) (fun r_7 hr_7 => ?_)
  refine lv_aload_n hx hb dL_law_654 rfl (lv_at hl 2 rfl) ?_
  refine lv_aload_n hx hb dL_law_655 rfl (lv_at hl 0 rfl) ?_
  refine lv_iload_n hx hb dL_law_656 rfl (lv_at hl 3 rfl) ?_
  refine lv_iconst (v := 1) hx hb dL_law_657 (by decide) ?_
  refine lv_iadd hx hb dL_law_658 ?_
  refine lv_topi (fun v_8 ev_8 => ?_)
  obtain rfl : v_8 = 1 := ev_8.trans (by decide)
  refine va_sld hx hb hX hbl hbA hS (vp_inI (by decide) (by decide)) dL_law_659 ?_
  refine lv_topi (fun v_9 ev_9 => ?_)
  obtain rfl : v_9 = xs 1 := ev_9
  refine lv_aload_n hx hb dL_law_660 rfl (lv_at hl 0 rfl) ?_
  refine lv_iload_n hx hb dL_law_661 rfl (lv_at hl 3 rfl) ?_
  refine lv_iconst (v := 2) hx hb dL_law_662 (by decide) ?_
  refine lv_iadd hx hb dL_law_663 ?_
  refine lv_topi (fun v_10 ev_10 => ?_)
  obtain rfl : v_10 = 2 := ev_10.trans (by decide)
  refine va_sld hx hb hX hbl hbA hS (vp_inI (by decide) (by decide)) dL_law_664 ?_
  refine lv_topi (fun v_11 ev_11 => ?_)
  obtain rfl : v_11 = xs 2 := ev_11
  refine lv_aload_n hx hb dL_law_665 rfl (lv_at hl 0 rfl) ?_
  refine lv_iload_n hx hb dL_law_666 rfl (lv_at hl 3 rfl) ?_
  refine lv_iconst (v := 3) hx hb dL_law_667 (by decide) ?_
  refine lv_iadd hx hb dL_law_668 ?_
  refine lv_topi (fun v_12 ev_12 => ?_)
  obtain rfl : v_12 = 3 := ev_12.trans (by decide)
  refine va_sld hx hb hX hbl hbA hS (vp_inI (by decide) (by decide)) dL_law_669 ?_
  refine lv_topi (fun v_13 ev_13 => ?_)
  obtain rfl : v_13 = xs 3 := ev_13
  refine vp_callSi (W.runV (As := [.int (xs 1), .int (xs 2), .int (xs 3)]) (rest := [.int r_7]) ⟨hx, hb, hml, hown, hT⟩ (c_X12_thing l D cy am im rm lm (xs 1) (xs 2) (xs 3) hz) (cwV 3 hT (gV t_418 t_419 t_420 t_421 t_8) rfl rfl rfl (by decide +kernel) ⟨Nat.le_of_ble_eq_true rfl, Nat.le_of_ble_eq_true rfl⟩) (rP_v hPm hK (va_recv hK hPm (ci := 12) (q0 := 0) rfl rfl)) rfl rfl hl.1 rfl (lv_room (Nat.le_of_ble_eq_true rfl)) dL_law_670 ⟨Nat.le_of_ble_eq_true rfl, Nat.le_of_ble_eq_true rfl⟩) (fun r_14 hr_14 => ?_)
  refine lv_icmp_eq (tgt := 1525) hx hb dL_law_673 (by decide) (fun _ => ?_) (fun c9 => absurd (hr_7.trans hr_14.symm) c9)
  exact lc_end C0 hS (lv_sub hl [0, 3] rfl) (Nat.le_of_ble_eq_true rfl) (Nat.le_of_ble_eq_true rfl)
set_option maxHeartbeats 4000000 in
set_option maxRecDepth 100000 in
theorem lc_10 {p : Program} {l : Launch} {e : Env} {s : State} {m : MethodId} {below : List Frame} {meth : Method} {c : Code} {b : Nat} {xs : Nat → Int32} (C0 : lw_At p s m meth c b 7 xs) {D : va_G} {cy : Nat → ClassId} {ax : Nat → Nat} {ix : Nat → Int32} {rx : Nat → Nat → Int32} {am : Nat → Nat} {im : Nat → Int32} {rm : Nat → Nat → Int32} {lm : Nat → Int64} (hf : xZ ix) (hg : xZr rx) (hz : mZ im) (hn : nw s) (hK : va_K D vwCl (vT cy) s) {H : Heap} {locs : List Loc} (hPx : va_P D vwCl (xW cy ax ix rx (fun _ => none) (ax 20) (ax 12)) H) (hPm : va_P D vwCl (mW cy am im rm lm) H) (hDj : va_D (fun q : Nat => s.heap.size ≤ q) ((xW cy ax ix rx (fun _ => none) (ax 20) (ax 12)) ++ (mW cy am im rm lm))) (hS : va_S (fun q : Nat => s.heap.size ≤ q) s.heap H locs) {ls : Array Slot} (hl : lv_has ls 4 [(0, .ref b), (1, .ref (ax 0)), (2, .ref (am 0)), (3, .int 0)]) : W p l e room_1 s m #[Value.ref b] below meth c H locs 134 5936 (lw_Z below #[Value.ref b] s) (F0 m 678 ls []) := by
  obtain ⟨hx, hb, hr, hml, hown, hts, hX, hbl, hlocks, hgv⟩ := id C0
  have hT : ∀ w ∈ gT, w.before _ s = true := fun w h => hts w (gT_in w h)
  have hA : ∀ q : Nat, s.heap.size ≤ q → (fun q : Nat => s.heap.size ≤ q) q := fun _ h => h
  have hbA : ¬ (fun q : Nat => s.heap.size ≤ q) b := Nat.not_le.mpr hbl
  have hDx := vaD_l hDj
  have hDm := vaD_r hDj
  refine lv_aload_n hx hb dL_law_678 rfl (lv_at hl 1 rfl) ?_
  refine lv_aload_n hx hb dL_law_679 rfl (lv_at hl 0 rfl) ?_
  refine lv_iload_n hx hb dL_law_680 rfl (lv_at hl 3 rfl) ?_
  refine lv_iconst (v := 1) hx hb dL_law_681 (by decide) ?_
  refine lv_iadd hx hb dL_law_682 ?_
  refine lv_topi (fun v_1 ev_1 => ?_)
  obtain rfl : v_1 = 1 := ev_1.trans (by decide)
  refine va_sld hx hb hX hbl hbA hS (vp_inI (by decide) (by decide)) dL_law_683 ?_
  refine lv_topi (fun v_2 ev_2 => ?_)
  obtain rfl : v_2 = xs 1 := ev_2
  refine lv_aload_n hx hb dL_law_684 rfl (lv_at hl 0 rfl) ?_
  refine lv_iload_n hx hb dL_law_685 rfl (lv_at hl 3 rfl) ?_
  refine lv_iconst (v := 2) hx hb dL_law_686 (by decide) ?_
  refine lv_iadd hx hb dL_law_687 ?_
  refine lv_topi (fun v_3 ev_3 => ?_)
  obtain rfl : v_3 = 2 := ev_3.trans (by decide)
  refine va_sld hx hb hX hbl hbA hS (vp_inI (by decide) (by decide)) dL_law_688 ?_
  refine lv_topi (fun v_4 ev_4 => ?_)
  obtain rfl : v_4 = xs 2 := ev_4
  refine vp_callSi (W.runV (As := [.int (xs 1), .int (xs 2)]) (rest := []) ⟨hx, hb, hml, hown, hT⟩ (c_X11_isNew l D cy ax ix rx (fun _ => none) (xs 1) (xs 2) hf hg) (cwV 2 hT (gV t_422 t_423 t_424 t_425 t_2) rfl rfl rfl (by decide +kernel) ⟨Nat.le_of_ble_eq_true rfl, Nat.le_of_ble_eq_true rfl⟩) (rP_v hPx hK (va_recv hK hPx (ci := 11) (q0 := 0) rfl rfl)) rfl rfl hl.1 rfl (lv_room (Nat.le_of_ble_eq_true rfl)) dL_law_689 ⟨Nat.le_of_ble_eq_true rfl, Nat.le_of_ble_eq_true rfl⟩) (fun r_5 hr_5 => ?_)
  refine lv_aload_n hx hb dL_law_692 rfl (lv_at hl 2 rfl) ?_
  refine lv_aload_n hx hb dL_law_693 rfl (lv_at hl 0 rfl) ?_
  refine lv_iload_n hx hb dL_law_694 rfl (lv_at hl 3 rfl) ?_
  refine lv_iconst (v := 1) hx hb dL_law_695 (by decide) ?_
  refine lv_iadd hx hb dL_law_696 ?_
  refine lv_topi (fun v_6 ev_6 => ?_)
  obtain rfl : v_6 = 1 := ev_6.trans (by decide)
  refine va_sld hx hb hX hbl hbA hS (vp_inI (by decide) (by decide)) dL_law_697 ?_
  refine lv_topi (fun v_7 ev_7 => ?_)
  obtain rfl : v_7 = xs 1 := ev_7
  refine lv_aload_n hx hb dL_law_698 rfl (lv_at hl 0 rfl) ?_
  refine lv_iload_n hx hb dL_law_699 rfl (lv_at hl 3 rfl) ?_
  refine lv_iconst (v := 2) hx hb dL_law_700 (by decide) ?_
  refine lv_iadd hx hb dL_law_701 ?_
  refine lv_topi (fun v_8 ev_8 => ?_)
  obtain rfl : v_8 = 2 := ev_8.trans (by decide)
  refine va_sld hx hb hX hbl hbA hS (vp_inI (by decide) (by decide)) dL_law_702 ?_
  refine lv_topi (fun v_9 ev_9 => ?_)
  obtain rfl : v_9 = xs 2 := ev_9
  refine vp_callSi (W.runV (As := [.int (xs 1), .int (xs 2)]) (rest := [.int r_5]) ⟨hx, hb, hml, hown, hT⟩ (c_X12_isNew l D cy am im rm lm (xs 1) (xs 2) hz) (cwV 2 hT (gV t_426 t_427 t_428 t_429 t_8) rfl rfl rfl (by decide +kernel) ⟨Nat.le_of_ble_eq_true rfl, Nat.le_of_ble_eq_true rfl⟩) (rP_v hPm hK (va_recv hK hPm (ci := 12) (q0 := 0) rfl rfl)) rfl rfl hl.1 rfl (lv_room (Nat.le_of_ble_eq_true rfl)) dL_law_703 ⟨Nat.le_of_ble_eq_true rfl, Nat.le_of_ble_eq_true rfl⟩) (fun r_10 hr_10 => ?_)
  refine lv_icmp_eq (tgt := 1525) hx hb dL_law_706 (by decide) (fun _ => ?_) (fun c9 => absurd (hr_5.trans hr_10.symm) c9)
  exact lc_end C0 hS (lv_sub hl [0, 3] rfl) (Nat.le_of_ble_eq_true rfl) (Nat.le_of_ble_eq_true rfl)
set_option maxHeartbeats 4000000 in
set_option maxRecDepth 100000 in
theorem lc_11 {p : Program} {l : Launch} {e : Env} {s : State} {m : MethodId} {below : List Frame} {meth : Method} {c : Code} {b : Nat} {xs : Nat → Int32} (C0 : lw_At p s m meth c b 7 xs) {D : va_G} {cy : Nat → ClassId} {ax : Nat → Nat} {ix : Nat → Int32} {rx : Nat → Nat → Int32} {am : Nat → Nat} {im : Nat → Int32} {rm : Nat → Nat → Int32} {lm : Nat → Int64} (hf : xZ ix) (hg : xZr rx) (hz : mZ im) (hn : nw s) (hK : va_K D vwCl (vT cy) s) {H : Heap} {locs : List Loc} (hPx : va_P D vwCl (xW cy ax ix rx (fun _ => none) (ax 20) (ax 12)) H) (hPm : va_P D vwCl (mW cy am im rm lm) H) (hDj : va_D (fun q : Nat => s.heap.size ≤ q) ((xW cy ax ix rx (fun _ => none) (ax 20) (ax 12)) ++ (mW cy am im rm lm))) (hS : va_S (fun q : Nat => s.heap.size ≤ q) s.heap H locs) {ls : Array Slot} (hl : lv_has ls 4 [(0, .ref b), (1, .ref (ax 0)), (2, .ref (am 0)), (3, .int 0)]) : W p l e room_1 s m #[Value.ref b] below meth c H locs 134 5936 (lw_Z below #[Value.ref b] s) (F0 m 711 ls []) := by
  obtain ⟨hx, hb, hr, hml, hown, hts, hX, hbl, hlocks, hgv⟩ := id C0
  have hT : ∀ w ∈ gT, w.before _ s = true := fun w h => hts w (gT_in w h)
  have hA : ∀ q : Nat, s.heap.size ≤ q → (fun q : Nat => s.heap.size ≤ q) q := fun _ h => h
  have hbA : ¬ (fun q : Nat => s.heap.size ≤ q) b := Nat.not_le.mpr hbl
  have hDx := vaD_l hDj
  have hDm := vaD_r hDj
  refine lv_aload_n hx hb dL_law_711 rfl (lv_at hl 1 rfl) ?_
  refine lv_aload_n hx hb dL_law_712 rfl (lv_at hl 0 rfl) ?_
  refine lv_iload_n hx hb dL_law_713 rfl (lv_at hl 3 rfl) ?_
  refine lv_iconst (v := 1) hx hb dL_law_714 (by decide) ?_
  refine lv_iadd hx hb dL_law_715 ?_
  refine lv_topi (fun v_1 ev_1 => ?_)
  obtain rfl : v_1 = 1 := ev_1.trans (by decide)
  refine va_sld hx hb hX hbl hbA hS (vp_inI (by decide) (by decide)) dL_law_716 ?_
  refine lv_topi (fun v_2 ev_2 => ?_)
  obtain rfl : v_2 = xs 1 := ev_2
  refine lv_aload_n hx hb dL_law_717 rfl (lv_at hl 0 rfl) ?_
  refine lv_iload_n hx hb dL_law_718 rfl (lv_at hl 3 rfl) ?_
  refine lv_iconst (v := 2) hx hb dL_law_719 (by decide) ?_
  refine lv_iadd hx hb dL_law_720 ?_
  refine lv_topi (fun v_3 ev_3 => ?_)
  obtain rfl : v_3 = 2 := ev_3.trans (by decide)
  refine va_sld hx hb hX hbl hbA hS (vp_inI (by decide) (by decide)) dL_law_721 ?_
  refine lv_topi (fun v_4 ev_4 => ?_)
  obtain rfl : v_4 = xs 2 := ev_4
  refine lv_aload_n hx hb dL_law_722 rfl (lv_at hl 0 rfl) ?_
  refine lv_iload_n hx hb dL_law_723 rfl (lv_at hl 3 rfl) ?_
  refine lv_iconst (v := 3) hx hb dL_law_724 (by decide) ?_
  refine lv_iadd hx hb dL_law_725 ?_
  refine lv_topi (fun v_5 ev_5 => ?_)
  obtain rfl : v_5 = 3 := ev_5.trans (by decide)
  refine va_sld hx hb hX hbl hbA hS (vp_inI (by decide) (by decide)) dL_law_726 ?_
  refine lv_topi (fun v_6 ev_6 => ?_)
  obtain rfl : v_6 = xs 3 := ev_6
  refine vp_callSi (W.runV (As := [.int (xs 1), .int (xs 2), .int (xs 3)]) (rest := []) ⟨hx, hb, hml, hown, hT⟩ (c_X11_led l D cy ax ix rx (fun _ => none) (xs 1) (xs 2) (xs 3) hf hg) (cwV 3 hT (gV t_430 t_431 t_432 t_433 t_2) rfl rfl rfl (by decide +kernel) ⟨Nat.le_of_ble_eq_true rfl, Nat.le_of_ble_eq_true rfl⟩) (rP_v hPx hK (va_recv hK hPx (ci := 11) (q0 := 0) rfl rfl)) rfl rfl hl.1 rfl (lv_room (Nat.le_of_ble_eq_true rfl)) dL_law_727 ⟨Nat.le_of_ble_eq_true rfl, Nat.le_of_ble_eq_true rfl⟩) (fun r_7 hr_7 => ?_)
  refine lv_aload_n hx hb dL_law_730 rfl (lv_at hl 2 rfl) ?_
  refine lv_aload_n hx hb dL_law_731 rfl (lv_at hl 0 rfl) ?_
  refine lv_iload_n hx hb dL_law_732 rfl (lv_at hl 3 rfl) ?_
  refine lv_iconst (v := 1) hx hb dL_law_733 (by decide) ?_
  refine lv_iadd hx hb dL_law_734 ?_
  refine lv_topi (fun v_8 ev_8 => ?_)
  obtain rfl : v_8 = 1 := ev_8.trans (by decide)
  refine va_sld hx hb hX hbl hbA hS (vp_inI (by decide) (by decide)) dL_law_735 ?_
  refine lv_topi (fun v_9 ev_9 => ?_)
  obtain rfl : v_9 = xs 1 := ev_9
  refine lv_aload_n hx hb dL_law_736 rfl (lv_at hl 0 rfl) ?_
  refine lv_iload_n hx hb dL_law_737 rfl (lv_at hl 3 rfl) ?_
  refine lv_iconst (v := 2) hx hb dL_law_738 (by decide) ?_
  refine lv_iadd hx hb dL_law_739 ?_
  refine lv_topi (fun v_10 ev_10 => ?_)
  obtain rfl : v_10 = 2 := ev_10.trans (by decide)
  refine va_sld hx hb hX hbl hbA hS (vp_inI (by decide) (by decide)) dL_law_740 ?_
  refine lv_topi (fun v_11 ev_11 => ?_)
  obtain rfl : v_11 = xs 2 := ev_11
  refine lv_aload_n hx hb dL_law_741 rfl (lv_at hl 0 rfl) ?_
  refine lv_iload_n hx hb dL_law_742 rfl (lv_at hl 3 rfl) ?_
  refine lv_iconst (v := 3) hx hb dL_law_743 (by decide) ?_
  refine lv_iadd hx hb dL_law_744 ?_
  refine lv_topi (fun v_12 ev_12 => ?_)
  obtain rfl : v_12 = 3 := ev_12.trans (by decide)
  refine va_sld hx hb hX hbl hbA hS (vp_inI (by decide) (by decide)) dL_law_745 ?_
  refine lv_topi (fun v_13 ev_13 => ?_)
  obtain rfl : v_13 = xs 3 := ev_13
  refine vp_callSi (W.runV (As := [.int (xs 1), .int (xs 2), .int (xs 3)]) (rest := [.int r_7]) ⟨hx, hb, hml, hown, hT⟩ (c_X12_led l D cy am im rm lm (xs 1) (xs 2) (xs 3) hz) (cwV 3 hT (gV t_434 t_435 t_436 t_437 t_8) rfl rfl rfl (by decide +kernel) ⟨Nat.le_of_ble_eq_true rfl, Nat.le_of_ble_eq_true rfl⟩) (rP_v hPm hK (va_recv hK hPm (ci := 12) (q0 := 0) rfl rfl)) rfl rfl hl.1 rfl (lv_room (Nat.le_of_ble_eq_true rfl)) dL_law_746 ⟨Nat.le_of_ble_eq_true rfl, Nat.le_of_ble_eq_true rfl⟩) (fun r_14 hr_14 => ?_)
  refine lv_icmp_eq (tgt := 1525) hx hb dL_law_749 (by decide) (fun _ => ?_) (fun c9 => absurd (hr_7.trans hr_14.symm) c9)
  exact lc_end C0 hS (lv_sub hl [0, 3] rfl) (Nat.le_of_ble_eq_true rfl) (Nat.le_of_ble_eq_true rfl)
set_option maxHeartbeats 4000000 in
set_option maxRecDepth 100000 in
theorem lc_12 {p : Program} {l : Launch} {e : Env} {s : State} {m : MethodId} {below : List Frame} {meth : Method} {c : Code} {b : Nat} {xs : Nat → Int32} (C0 : lw_At p s m meth c b 7 xs) {D : va_G} {cy : Nat → ClassId} {ax : Nat → Nat} {ix : Nat → Int32} {rx : Nat → Nat → Int32} {am : Nat → Nat} {im : Nat → Int32} {rm : Nat → Nat → Int32} {lm : Nat → Int64} (hf : xZ ix) (hg : xZr rx) (hz : mZ im) (hn : nw s) (hK : va_K D vwCl (vT cy) s) {H : Heap} {locs : List Loc} (hPx : va_P D vwCl (xW cy ax ix rx (fun _ => none) (ax 20) (ax 12)) H) (hPm : va_P D vwCl (mW cy am im rm lm) H) (hDj : va_D (fun q : Nat => s.heap.size ≤ q) ((xW cy ax ix rx (fun _ => none) (ax 20) (ax 12)) ++ (mW cy am im rm lm))) (hS : va_S (fun q : Nat => s.heap.size ≤ q) s.heap H locs) {ls : Array Slot} (hl : lv_has ls 4 [(0, .ref b), (1, .ref (ax 0)), (2, .ref (am 0)), (3, .int 0)]) : W p l e room_1 s m #[Value.ref b] below meth c H locs 134 5936 (lw_Z below #[Value.ref b] s) (F0 m 754 ls []) := by
  obtain ⟨hx, hb, hr, hml, hown, hts, hX, hbl, hlocks, hgv⟩ := id C0
  have hT : ∀ w ∈ gT, w.before _ s = true := fun w h => hts w (gT_in w h)
  have hA : ∀ q : Nat, s.heap.size ≤ q → (fun q : Nat => s.heap.size ≤ q) q := fun _ h => h
  have hbA : ¬ (fun q : Nat => s.heap.size ≤ q) b := Nat.not_le.mpr hbl
  have hDx := vaD_l hDj
  have hDm := vaD_r hDj
  refine lv_aload_n hx hb dL_law_754 rfl (lv_at hl 1 rfl) ?_
  refine lv_aload_n hx hb dL_law_755 rfl (lv_at hl 0 rfl) ?_
  refine lv_iload_n hx hb dL_law_756 rfl (lv_at hl 3 rfl) ?_
  refine lv_iconst (v := 1) hx hb dL_law_757 (by decide) ?_
  refine lv_iadd hx hb dL_law_758 ?_
  refine lv_topi (fun v_1 ev_1 => ?_)
  obtain rfl : v_1 = 1 := ev_1.trans (by decide)
  refine va_sld hx hb hX hbl hbA hS (vp_inI (by decide) (by decide)) dL_law_759 ?_
  refine lv_topi (fun v_2 ev_2 => ?_)
  obtain rfl : v_2 = xs 1 := ev_2
  refine lv_aload_n hx hb dL_law_760 rfl (lv_at hl 0 rfl) ?_
  refine lv_iload_n hx hb dL_law_761 rfl (lv_at hl 3 rfl) ?_
  refine lv_iconst (v := 2) hx hb dL_law_762 (by decide) ?_
  refine lv_iadd hx hb dL_law_763 ?_
  refine lv_topi (fun v_3 ev_3 => ?_)
  obtain rfl : v_3 = 2 := ev_3.trans (by decide)
  refine va_sld hx hb hX hbl hbA hS (vp_inI (by decide) (by decide)) dL_law_764 ?_
  refine lv_topi (fun v_4 ev_4 => ?_)
  obtain rfl : v_4 = xs 2 := ev_4
  refine lv_aload_n hx hb dL_law_765 rfl (lv_at hl 0 rfl) ?_
  refine lv_iload_n hx hb dL_law_766 rfl (lv_at hl 3 rfl) ?_
  refine lv_iconst (v := 3) hx hb dL_law_767 (by decide) ?_
  refine lv_iadd hx hb dL_law_768 ?_
  refine lv_topi (fun v_5 ev_5 => ?_)
  obtain rfl : v_5 = 3 := ev_5.trans (by decide)
  refine va_sld hx hb hX hbl hbA hS (vp_inI (by decide) (by decide)) dL_law_769 ?_
  refine lv_topi (fun v_6 ev_6 => ?_)
  obtain rfl : v_6 = xs 3 := ev_6
  refine lv_aload_n hx hb dL_law_770 rfl (lv_at hl 0 rfl) ?_
  refine lv_iload_n hx hb dL_law_771 rfl (lv_at hl 3 rfl) ?_
  refine lv_iconst (v := 4) hx hb dL_law_772 (by decide) ?_
  refine lv_iadd hx hb dL_law_773 ?_
  refine lv_topi (fun v_7 ev_7 => ?_)
  obtain rfl : v_7 = 4 := ev_7.trans (by decide)
  refine va_sld hx hb hX hbl hbA hS (vp_inI (by decide) (by decide)) dL_law_774 ?_
  refine lv_topi (fun v_8 ev_8 => ?_)
  obtain rfl : v_8 = xs 4 := ev_8
  refine lv_aload_n hx hb dL_law_775 rfl (lv_at hl 0 rfl) ?_
  refine lv_iload_n hx hb dL_law_776 rfl (lv_at hl 3 rfl) ?_
  refine lv_iconst (v := 5) hx hb dL_law_777 (by decide) ?_
  refine lv_iadd hx hb dL_law_778 ?_
  refine lv_topi (fun v_9 ev_9 => ?_)
  obtain rfl : v_9 = 5 := ev_9.trans (by decide)
  refine va_sld hx hb hX hbl hbA hS (vp_inI (by decide) (by decide)) dL_law_779 ?_
  refine lv_topi (fun v_10 ev_10 => ?_)
  obtain rfl : v_10 = xs 5 := ev_10
  refine vp_callSi (W.runV (As := [.int (xs 1), .int (xs 2), .int (xs 3), .int (xs 4), .int (xs 5)]) (rest := []) ⟨hx, hb, hml, hown, hT⟩ (c_X11_claim l D cy ax ix rx (fun _ => none) (xs 1) (xs 2) (xs 3) (xs 4) (xs 5) hf hg) (cwV 5 hT (gV t_438 t_439 t_440 t_441 t_2) rfl rfl rfl (by decide +kernel) ⟨Nat.le_of_ble_eq_true rfl, Nat.le_of_ble_eq_true rfl⟩) (rP_v hPx hK (va_recv hK hPx (ci := 11) (q0 := 0) rfl rfl)) rfl rfl hl.1 rfl (lv_room (Nat.le_of_ble_eq_true rfl)) dL_law_780 ⟨Nat.le_of_ble_eq_true rfl, Nat.le_of_ble_eq_true rfl⟩) (fun r_11 hr_11 => ?_)
  refine lv_aload_n hx hb dL_law_783 rfl (lv_at hl 2 rfl) ?_
  refine lv_aload_n hx hb dL_law_784 rfl (lv_at hl 0 rfl) ?_
  refine lv_iload_n hx hb dL_law_785 rfl (lv_at hl 3 rfl) ?_
  refine lv_iconst (v := 1) hx hb dL_law_786 (by decide) ?_
  refine lv_iadd hx hb dL_law_787 ?_
  refine lv_topi (fun v_12 ev_12 => ?_)
  obtain rfl : v_12 = 1 := ev_12.trans (by decide)
  refine va_sld hx hb hX hbl hbA hS (vp_inI (by decide) (by decide)) dL_law_788 ?_
  refine lv_topi (fun v_13 ev_13 => ?_)
  obtain rfl : v_13 = xs 1 := ev_13
  refine lv_aload_n hx hb dL_law_789 rfl (lv_at hl 0 rfl) ?_
  refine lv_iload_n hx hb dL_law_790 rfl (lv_at hl 3 rfl) ?_
  refine lv_iconst (v := 2) hx hb dL_law_791 (by decide) ?_
  refine lv_iadd hx hb dL_law_792 ?_
  refine lv_topi (fun v_14 ev_14 => ?_)
  obtain rfl : v_14 = 2 := ev_14.trans (by decide)
  refine va_sld hx hb hX hbl hbA hS (vp_inI (by decide) (by decide)) dL_law_793 ?_
  refine lv_topi (fun v_15 ev_15 => ?_)
  obtain rfl : v_15 = xs 2 := ev_15
  refine lv_aload_n hx hb dL_law_794 rfl (lv_at hl 0 rfl) ?_
  refine lv_iload_n hx hb dL_law_795 rfl (lv_at hl 3 rfl) ?_
  refine lv_iconst (v := 3) hx hb dL_law_796 (by decide) ?_
  refine lv_iadd hx hb dL_law_797 ?_
  refine lv_topi (fun v_16 ev_16 => ?_)
  obtain rfl : v_16 = 3 := ev_16.trans (by decide)
  refine va_sld hx hb hX hbl hbA hS (vp_inI (by decide) (by decide)) dL_law_798 ?_
  refine lv_topi (fun v_17 ev_17 => ?_)
  obtain rfl : v_17 = xs 3 := ev_17
  refine lv_aload_n hx hb dL_law_799 rfl (lv_at hl 0 rfl) ?_
  refine lv_iload_n hx hb dL_law_800 rfl (lv_at hl 3 rfl) ?_
  refine lv_iconst (v := 4) hx hb dL_law_801 (by decide) ?_
  refine lv_iadd hx hb dL_law_802 ?_
  refine lv_topi (fun v_18 ev_18 => ?_)
  obtain rfl : v_18 = 4 := ev_18.trans (by decide)
  refine va_sld hx hb hX hbl hbA hS (vp_inI (by decide) (by decide)) dL_law_803 ?_
  refine lv_topi (fun v_19 ev_19 => ?_)
  obtain rfl : v_19 = xs 4 := ev_19
  refine lv_aload_n hx hb dL_law_804 rfl (lv_at hl 0 rfl) ?_
  refine lv_iload_n hx hb dL_law_805 rfl (lv_at hl 3 rfl) ?_
  refine lv_iconst (v := 5) hx hb dL_law_806 (by decide) ?_
  refine lv_iadd hx hb dL_law_807 ?_
  refine lv_topi (fun v_20 ev_20 => ?_)
  obtain rfl : v_20 = 5 := ev_20.trans (by decide)
  refine va_sld hx hb hX hbl hbA hS (vp_inI (by decide) (by decide)) dL_law_808 ?_
  refine lv_topi (fun v_21 ev_21 => ?_)
  obtain rfl : v_21 = xs 5 := ev_21
  refine vp_callSi (W.runV (As := [.int (xs 1), .int (xs 2), .int (xs 3), .int (xs 4), .int (xs 5)]) (rest := [.int r_11]) ⟨hx, hb, hml, hown, hT⟩ (c_X12_claim l D cy am im rm lm (xs 1) (xs 2) (xs 3) (xs 4) (xs 5) hz) (cwV 5 hT (gV t_442 t_443 t_444 t_445 t_8) rfl rfl rfl (by decide +kernel) ⟨Nat.le_of_ble_eq_true rfl, Nat.le_of_ble_eq_true rfl⟩) (rP_v hPm hK (va_recv hK hPm (ci := 12) (q0 := 0) rfl rfl)) rfl rfl hl.1 rfl (lv_room (Nat.le_of_ble_eq_true rfl)) dL_law_809 ⟨Nat.le_of_ble_eq_true rfl, Nat.le_of_ble_eq_true rfl⟩) (fun r_22 hr_22 => ?_)
  refine lv_icmp_eq (tgt := 1525) hx hb dL_law_812 (by decide) (fun _ => ?_) (fun c9 => absurd (hr_11.trans hr_22.symm) c9)
  exact lc_end C0 hS (lv_sub hl [0, 3] rfl) (Nat.le_of_ble_eq_true rfl) (Nat.le_of_ble_eq_true rfl)
set_option maxHeartbeats 4000000 in
set_option maxRecDepth 100000 in
theorem lc_13 {p : Program} {l : Launch} {e : Env} {s : State} {m : MethodId} {below : List Frame} {meth : Method} {c : Code} {b : Nat} {xs : Nat → Int32} (C0 : lw_At p s m meth c b 7 xs) {D : va_G} {cy : Nat → ClassId} {ax : Nat → Nat} {ix : Nat → Int32} {rx : Nat → Nat → Int32} {am : Nat → Nat} {im : Nat → Int32} {rm : Nat → Nat → Int32} {lm : Nat → Int64} (hf : xZ ix) (hg : xZr rx) (hz : mZ im) (hn : nw s) (hK : va_K D vwCl (vT cy) s) {H : Heap} {locs : List Loc} (hPx : va_P D vwCl (xW cy ax ix rx (fun _ => none) (ax 20) (ax 12)) H) (hPm : va_P D vwCl (mW cy am im rm lm) H) (hDj : va_D (fun q : Nat => s.heap.size ≤ q) ((xW cy ax ix rx (fun _ => none) (ax 20) (ax 12)) ++ (mW cy am im rm lm))) (hS : va_S (fun q : Nat => s.heap.size ≤ q) s.heap H locs) {ls : Array Slot} (hl : lv_has ls 4 [(0, .ref b), (1, .ref (ax 0)), (2, .ref (am 0)), (3, .int 0)]) : W p l e room_1 s m #[Value.ref b] below meth c H locs 134 5936 (lw_Z below #[Value.ref b] s) (F0 m 817 ls []) := by
  obtain ⟨hx, hb, hr, hml, hown, hts, hX, hbl, hlocks, hgv⟩ := id C0
  have hT : ∀ w ∈ gT, w.before _ s = true := fun w h => hts w (gT_in w h)
  have hA : ∀ q : Nat, s.heap.size ≤ q → (fun q : Nat => s.heap.size ≤ q) q := fun _ h => h
  have hbA : ¬ (fun q : Nat => s.heap.size ≤ q) b := Nat.not_le.mpr hbl
  have hDx := vaD_l hDj
  have hDm := vaD_r hDj
  refine lv_aload_n hx hb dL_law_817 rfl (lv_at hl 1 rfl) ?_
  refine lv_aload_n hx hb dL_law_818 rfl (lv_at hl 0 rfl) ?_
  refine lv_iload_n hx hb dL_law_819 rfl (lv_at hl 3 rfl) ?_
  refine lv_iconst (v := 1) hx hb dL_law_820 (by decide) ?_
  refine lv_iadd hx hb dL_law_821 ?_
  refine lv_topi (fun v_1 ev_1 => ?_)
  obtain rfl : v_1 = 1 := ev_1.trans (by decide)
  refine va_sld hx hb hX hbl hbA hS (vp_inI (by decide) (by decide)) dL_law_822 ?_
  refine lv_topi (fun v_2 ev_2 => ?_)
  obtain rfl : v_2 = xs 1 := ev_2
  refine lv_aload_n hx hb dL_law_823 rfl (lv_at hl 0 rfl) ?_
  refine lv_iload_n hx hb dL_law_824 rfl (lv_at hl 3 rfl) ?_
  refine lv_iconst (v := 2) hx hb dL_law_825 (by decide) ?_
  refine lv_iadd hx hb dL_law_826 ?_
  refine lv_topi (fun v_3 ev_3 => ?_)
  obtain rfl : v_3 = 2 := ev_3.trans (by decide)
  refine va_sld hx hb hX hbl hbA hS (vp_inI (by decide) (by decide)) dL_law_827 ?_
  refine lv_topi (fun v_4 ev_4 => ?_)
  obtain rfl : v_4 = xs 2 := ev_4
  refine vp_callSi (W.runV (As := [.int (xs 1), .int (xs 2)]) (rest := []) ⟨hx, hb, hml, hown, hT⟩ (c_X11_agree l D cy ax ix rx (fun _ => none) (xs 1) (xs 2) hf hg) (cwV 2 hT (gV t_446 t_447 t_448 t_449 t_2) rfl rfl rfl (by decide +kernel) ⟨Nat.le_of_ble_eq_true rfl, Nat.le_of_ble_eq_true rfl⟩) (rP_v hPx hK (va_recv hK hPx (ci := 11) (q0 := 0) rfl rfl)) rfl rfl hl.1 rfl (lv_room (Nat.le_of_ble_eq_true rfl)) dL_law_828 ⟨Nat.le_of_ble_eq_true rfl, Nat.le_of_ble_eq_true rfl⟩) (fun r_5 hr_5 => ?_)
  refine lv_aload_n hx hb dL_law_831 rfl (lv_at hl 2 rfl) ?_
  refine lv_aload_n hx hb dL_law_832 rfl (lv_at hl 0 rfl) ?_
  refine lv_iload_n hx hb dL_law_833 rfl (lv_at hl 3 rfl) ?_
  refine lv_iconst (v := 1) hx hb dL_law_834 (by decide) ?_
  refine lv_iadd hx hb dL_law_835 ?_
  refine lv_topi (fun v_6 ev_6 => ?_)
  obtain rfl : v_6 = 1 := ev_6.trans (by decide)
  refine va_sld hx hb hX hbl hbA hS (vp_inI (by decide) (by decide)) dL_law_836 ?_
  refine lv_topi (fun v_7 ev_7 => ?_)
  obtain rfl : v_7 = xs 1 := ev_7
  refine lv_aload_n hx hb dL_law_837 rfl (lv_at hl 0 rfl) ?_
  refine lv_iload_n hx hb dL_law_838 rfl (lv_at hl 3 rfl) ?_
  refine lv_iconst (v := 2) hx hb dL_law_839 (by decide) ?_
  refine lv_iadd hx hb dL_law_840 ?_
  refine lv_topi (fun v_8 ev_8 => ?_)
  obtain rfl : v_8 = 2 := ev_8.trans (by decide)
  refine va_sld hx hb hX hbl hbA hS (vp_inI (by decide) (by decide)) dL_law_841 ?_
  refine lv_topi (fun v_9 ev_9 => ?_)
  obtain rfl : v_9 = xs 2 := ev_9
  refine vp_callSi (W.runV (As := [.int (xs 1), .int (xs 2)]) (rest := [.int r_5]) ⟨hx, hb, hml, hown, hT⟩ (c_X12_agree l D cy am im rm lm (xs 1) (xs 2) hz) (cwV 2 hT (gV t_450 t_451 t_452 t_453 t_8) rfl rfl rfl (by decide +kernel) ⟨Nat.le_of_ble_eq_true rfl, Nat.le_of_ble_eq_true rfl⟩) (rP_v hPm hK (va_recv hK hPm (ci := 12) (q0 := 0) rfl rfl)) rfl rfl hl.1 rfl (lv_room (Nat.le_of_ble_eq_true rfl)) dL_law_842 ⟨Nat.le_of_ble_eq_true rfl, Nat.le_of_ble_eq_true rfl⟩) (fun r_10 hr_10 => ?_)
  refine lv_icmp_eq (tgt := 1525) hx hb dL_law_845 (by decide) (fun _ => ?_) (fun c9 => absurd (hr_5.trans hr_10.symm) c9)
  exact lc_end C0 hS (lv_sub hl [0, 3] rfl) (Nat.le_of_ble_eq_true rfl) (Nat.le_of_ble_eq_true rfl)
set_option maxHeartbeats 4000000 in
set_option maxRecDepth 100000 in
theorem lc_14 {p : Program} {l : Launch} {e : Env} {s : State} {m : MethodId} {below : List Frame} {meth : Method} {c : Code} {b : Nat} {xs : Nat → Int32} (C0 : lw_At p s m meth c b 7 xs) {D : va_G} {cy : Nat → ClassId} {ax : Nat → Nat} {ix : Nat → Int32} {rx : Nat → Nat → Int32} {am : Nat → Nat} {im : Nat → Int32} {rm : Nat → Nat → Int32} {lm : Nat → Int64} (hf : xZ ix) (hg : xZr rx) (hz : mZ im) (hn : nw s) (hK : va_K D vwCl (vT cy) s) {H : Heap} {locs : List Loc} (hPx : va_P D vwCl (xW cy ax ix rx (fun _ => none) (ax 20) (ax 12)) H) (hPm : va_P D vwCl (mW cy am im rm lm) H) (hDj : va_D (fun q : Nat => s.heap.size ≤ q) ((xW cy ax ix rx (fun _ => none) (ax 20) (ax 12)) ++ (mW cy am im rm lm))) (hS : va_S (fun q : Nat => s.heap.size ≤ q) s.heap H locs) {ls : Array Slot} (hl : lv_has ls 4 [(0, .ref b), (1, .ref (ax 0)), (2, .ref (am 0)), (3, .int 0)]) : W p l e room_1 s m #[Value.ref b] below meth c H locs 134 5936 (lw_Z below #[Value.ref b] s) (F0 m 850 ls []) := by
  obtain ⟨hx, hb, hr, hml, hown, hts, hX, hbl, hlocks, hgv⟩ := id C0
  have hT : ∀ w ∈ gT, w.before _ s = true := fun w h => hts w (gT_in w h)
  have hA : ∀ q : Nat, s.heap.size ≤ q → (fun q : Nat => s.heap.size ≤ q) q := fun _ h => h
  have hbA : ¬ (fun q : Nat => s.heap.size ≤ q) b := Nat.not_le.mpr hbl
  have hDx := vaD_l hDj
  have hDm := vaD_r hDj
  refine lv_aload_n hx hb dL_law_850 rfl (lv_at hl 1 rfl) ?_
  refine lv_aload_n hx hb dL_law_851 rfl (lv_at hl 0 rfl) ?_
  refine lv_iload_n hx hb dL_law_852 rfl (lv_at hl 3 rfl) ?_
  refine lv_iconst (v := 1) hx hb dL_law_853 (by decide) ?_
  refine lv_iadd hx hb dL_law_854 ?_
  refine lv_topi (fun v_1 ev_1 => ?_)
  obtain rfl : v_1 = 1 := ev_1.trans (by decide)
  refine va_sld hx hb hX hbl hbA hS (vp_inI (by decide) (by decide)) dL_law_855 ?_
  refine lv_topi (fun v_2 ev_2 => ?_)
  obtain rfl : v_2 = xs 1 := ev_2
  refine lv_aload_n hx hb dL_law_856 rfl (lv_at hl 0 rfl) ?_
  refine lv_iload_n hx hb dL_law_857 rfl (lv_at hl 3 rfl) ?_
  refine lv_iconst (v := 2) hx hb dL_law_858 (by decide) ?_
  refine lv_iadd hx hb dL_law_859 ?_
  refine lv_topi (fun v_3 ev_3 => ?_)
  obtain rfl : v_3 = 2 := ev_3.trans (by decide)
  refine va_sld hx hb hX hbl hbA hS (vp_inI (by decide) (by decide)) dL_law_860 ?_
  refine lv_topi (fun v_4 ev_4 => ?_)
  obtain rfl : v_4 = xs 2 := ev_4
  refine lv_aload_n hx hb dL_law_861 rfl (lv_at hl 0 rfl) ?_
  refine lv_iload_n hx hb dL_law_862 rfl (lv_at hl 3 rfl) ?_
  refine lv_iconst (v := 3) hx hb dL_law_863 (by decide) ?_
  refine lv_iadd hx hb dL_law_864 ?_
  refine lv_topi (fun v_5 ev_5 => ?_)
  obtain rfl : v_5 = 3 := ev_5.trans (by decide)
  refine va_sld hx hb hX hbl hbA hS (vp_inI (by decide) (by decide)) dL_law_865 ?_
  refine lv_topi (fun v_6 ev_6 => ?_)
  obtain rfl : v_6 = xs 3 := ev_6
  refine lv_if_eq (tgt := 873) hx hb dL_law_866 (by decide) (fun c_7 => ?_) (fun c_7 => ?_)
  · have c_7 : (xs 3).toInt = 0 := b_eq c_7
    refine lv_iconst (v := 0) hx hb dL_law_873 (by decide) ?_
    refine vp_callSi (W.runV (As := [.int (xs 1), .int (xs 2), .int 0]) (rest := []) ⟨hx, hb, hml, hown, hT⟩ (c_X11_answer l D cy ax ix rx (fun _ => none) (xs 1) (xs 2) 0 hf hg) (cwV 3 hT (gV t_454 t_455 t_456 t_457 t_2) rfl rfl rfl (by decide +kernel) ⟨Nat.le_of_ble_eq_true rfl, Nat.le_of_ble_eq_true rfl⟩) (rP_v hPx hK (va_recv hK hPx (ci := 11) (q0 := 0) rfl rfl)) rfl rfl hl.1 rfl (lv_room (Nat.le_of_ble_eq_true rfl)) dL_law_874 ⟨Nat.le_of_ble_eq_true rfl, Nat.le_of_ble_eq_true rfl⟩) (fun r_8 hr_8 => ?_)
    refine lv_aload_n hx hb dL_law_877 rfl (lv_at hl 2 rfl) ?_
    refine lv_aload_n hx hb dL_law_878 rfl (lv_at hl 0 rfl) ?_
    refine lv_iload_n hx hb dL_law_879 rfl (lv_at hl 3 rfl) ?_
    refine lv_iconst (v := 1) hx hb dL_law_880 (by decide) ?_
    refine lv_iadd hx hb dL_law_881 ?_
    refine lv_topi (fun v_9 ev_9 => ?_)
    obtain rfl : v_9 = 1 := ev_9.trans (by decide)
    refine va_sld hx hb hX hbl hbA hS (vp_inI (by decide) (by decide)) dL_law_882 ?_
    refine lv_topi (fun v_10 ev_10 => ?_)
    obtain rfl : v_10 = xs 1 := ev_10
    refine lv_aload_n hx hb dL_law_883 rfl (lv_at hl 0 rfl) ?_
    refine lv_iload_n hx hb dL_law_884 rfl (lv_at hl 3 rfl) ?_
    refine lv_iconst (v := 2) hx hb dL_law_885 (by decide) ?_
    refine lv_iadd hx hb dL_law_886 ?_
    refine lv_topi (fun v_11 ev_11 => ?_)
    obtain rfl : v_11 = 2 := ev_11.trans (by decide)
    refine va_sld hx hb hX hbl hbA hS (vp_inI (by decide) (by decide)) dL_law_887 ?_
    refine lv_topi (fun v_12 ev_12 => ?_)
    obtain rfl : v_12 = xs 2 := ev_12
    refine lv_aload_n hx hb dL_law_888 rfl (lv_at hl 0 rfl) ?_
    refine lv_iload_n hx hb dL_law_889 rfl (lv_at hl 3 rfl) ?_
    refine lv_iconst (v := 3) hx hb dL_law_890 (by decide) ?_
    refine lv_iadd hx hb dL_law_891 ?_
    refine lv_topi (fun v_13 ev_13 => ?_)
    obtain rfl : v_13 = 3 := ev_13.trans (by decide)
    refine va_sld hx hb hX hbl hbA hS (vp_inI (by decide) (by decide)) dL_law_892 ?_
    refine lv_topi (fun v_14 ev_14 => ?_)
    obtain rfl : v_14 = xs 3 := ev_14
    refine lv_if_eq (tgt := 900) hx hb dL_law_893 (by decide) (fun c_15 => ?_) (fun c_15 => by have c_15 : (xs 3).toInt ≠ 0 := b_ne c_15; omega)
    have c_15 : (xs 3).toInt = 0 := b_eq c_15
    refine lv_iconst (v := 0) hx hb dL_law_900 (by decide) ?_
    refine vp_callSi (W.runV (As := [.int (xs 1), .int (xs 2), .int 0]) (rest := [.int r_8]) ⟨hx, hb, hml, hown, hT⟩ (c_X12_answer l D cy am im rm lm (xs 1) (xs 2) 0 hz) (cwV 3 hT (gV t_458 t_459 t_460 t_461 t_8) rfl rfl rfl (by decide +kernel) ⟨Nat.le_of_ble_eq_true rfl, Nat.le_of_ble_eq_true rfl⟩) (rP_v hPm hK (va_recv hK hPm (ci := 12) (q0 := 0) rfl rfl)) rfl rfl hl.1 rfl (lv_room (Nat.le_of_ble_eq_true rfl)) dL_law_901 ⟨Nat.le_of_ble_eq_true rfl, Nat.le_of_ble_eq_true rfl⟩) (fun r_16 hr_16 => ?_)
    refine lv_icmp_eq (tgt := 1525) hx hb dL_law_904 (by decide) (fun _ => ?_) (fun c9 => absurd (hr_8.trans hr_16.symm) c9)
    exact lc_end C0 hS (lv_sub hl [0, 3] rfl) (Nat.le_of_ble_eq_true rfl) (Nat.le_of_ble_eq_true rfl)
  · have c_7 : (xs 3).toInt ≠ 0 := b_ne c_7
    refine lv_iconst (v := 1) hx hb dL_law_869 (by decide) ?_
    refine lv_goto (tgt := 874) hx hb dL_law_870 (by decide) ?_
    refine vp_callSi (W.runV (As := [.int (xs 1), .int (xs 2), .int 1]) (rest := []) ⟨hx, hb, hml, hown, hT⟩ (c_X11_answer l D cy ax ix rx (fun _ => none) (xs 1) (xs 2) 1 hf hg) (cwV 3 hT (gV t_454 t_455 t_456 t_457 t_2) rfl rfl rfl (by decide +kernel) ⟨Nat.le_of_ble_eq_true rfl, Nat.le_of_ble_eq_true rfl⟩) (rP_v hPx hK (va_recv hK hPx (ci := 11) (q0 := 0) rfl rfl)) rfl rfl hl.1 rfl (lv_room (Nat.le_of_ble_eq_true rfl)) dL_law_874 ⟨Nat.le_of_ble_eq_true rfl, Nat.le_of_ble_eq_true rfl⟩) (fun r_17 hr_17 => ?_)
    refine lv_aload_n hx hb dL_law_877 rfl (lv_at hl 2 rfl) ?_
    refine lv_aload_n hx hb dL_law_878 rfl (lv_at hl 0 rfl) ?_
    refine lv_iload_n hx hb dL_law_879 rfl (lv_at hl 3 rfl) ?_
    refine lv_iconst (v := 1) hx hb dL_law_880 (by decide) ?_
    refine lv_iadd hx hb dL_law_881 ?_
    refine lv_topi (fun v_18 ev_18 => ?_)
    obtain rfl : v_18 = 1 := ev_18.trans (by decide)
    refine va_sld hx hb hX hbl hbA hS (vp_inI (by decide) (by decide)) dL_law_882 ?_
    refine lv_topi (fun v_19 ev_19 => ?_)
    obtain rfl : v_19 = xs 1 := ev_19
    refine lv_aload_n hx hb dL_law_883 rfl (lv_at hl 0 rfl) ?_
    refine lv_iload_n hx hb dL_law_884 rfl (lv_at hl 3 rfl) ?_
    refine lv_iconst (v := 2) hx hb dL_law_885 (by decide) ?_
    refine lv_iadd hx hb dL_law_886 ?_
    refine lv_topi (fun v_20 ev_20 => ?_)
    obtain rfl : v_20 = 2 := ev_20.trans (by decide)
    refine va_sld hx hb hX hbl hbA hS (vp_inI (by decide) (by decide)) dL_law_887 ?_
    refine lv_topi (fun v_21 ev_21 => ?_)
    obtain rfl : v_21 = xs 2 := ev_21
    refine lv_aload_n hx hb dL_law_888 rfl (lv_at hl 0 rfl) ?_
    refine lv_iload_n hx hb dL_law_889 rfl (lv_at hl 3 rfl) ?_
    refine lv_iconst (v := 3) hx hb dL_law_890 (by decide) ?_
    refine lv_iadd hx hb dL_law_891 ?_
    refine lv_topi (fun v_22 ev_22 => ?_)
    obtain rfl : v_22 = 3 := ev_22.trans (by decide)
    refine va_sld hx hb hX hbl hbA hS (vp_inI (by decide) (by decide)) dL_law_892 ?_
    refine lv_topi (fun v_23 ev_23 => ?_)
    obtain rfl : v_23 = xs 3 := ev_23
    refine lv_if_eq (tgt := 900) hx hb dL_law_893 (by decide) (fun c_24 => by have c_24 : (xs 3).toInt = 0 := b_eq c_24; omega) (fun c_24 => ?_)
    have c_24 : (xs 3).toInt ≠ 0 := b_ne c_24
    refine lv_iconst (v := 1) hx hb dL_law_896 (by decide) ?_
    refine lv_goto (tgt := 901) hx hb dL_law_897 (by decide) ?_
    refine vp_callSi (W.runV (As := [.int (xs 1), .int (xs 2), .int 1]) (rest := [.int r_17]) ⟨hx, hb, hml, hown, hT⟩ (c_X12_answer l D cy am im rm lm (xs 1) (xs 2) 1 hz) (cwV 3 hT (gV t_458 t_459 t_460 t_461 t_8) rfl rfl rfl (by decide +kernel) ⟨Nat.le_of_ble_eq_true rfl, Nat.le_of_ble_eq_true rfl⟩) (rP_v hPm hK (va_recv hK hPm (ci := 12) (q0 := 0) rfl rfl)) rfl rfl hl.1 rfl (lv_room (Nat.le_of_ble_eq_true rfl)) dL_law_901 ⟨Nat.le_of_ble_eq_true rfl, Nat.le_of_ble_eq_true rfl⟩) (fun r_25 hr_25 => ?_)
    refine lv_icmp_eq (tgt := 1525) hx hb dL_law_904 (by decide) (fun _ => ?_) (fun c9 => absurd (hr_17.trans hr_25.symm) c9)
    exact lc_end C0 hS (lv_sub hl [0, 3] rfl) (Nat.le_of_ble_eq_true rfl) (Nat.le_of_ble_eq_true rfl)
set_option maxHeartbeats 4000000 in
set_option maxRecDepth 100000 in
theorem lc_15 {p : Program} {l : Launch} {e : Env} {s : State} {m : MethodId} {below : List Frame} {meth : Method} {c : Code} {b : Nat} {xs : Nat → Int32} (C0 : lw_At p s m meth c b 7 xs) {D : va_G} {cy : Nat → ClassId} {ax : Nat → Nat} {ix : Nat → Int32} {rx : Nat → Nat → Int32} {am : Nat → Nat} {im : Nat → Int32} {rm : Nat → Nat → Int32} {lm : Nat → Int64} (hf : xZ ix) (hg : xZr rx) (hz : mZ im) (hn : nw s) (hK : va_K D vwCl (vT cy) s) {H : Heap} {locs : List Loc} (hPx : va_P D vwCl (xW cy ax ix rx (fun _ => none) (ax 20) (ax 12)) H) (hPm : va_P D vwCl (mW cy am im rm lm) H) (hDj : va_D (fun q : Nat => s.heap.size ≤ q) ((xW cy ax ix rx (fun _ => none) (ax 20) (ax 12)) ++ (mW cy am im rm lm))) (hS : va_S (fun q : Nat => s.heap.size ≤ q) s.heap H locs) {ls : Array Slot} (hl : lv_has ls 4 [(0, .ref b), (1, .ref (ax 0)), (2, .ref (am 0)), (3, .int 0)]) : W p l e room_1 s m #[Value.ref b] below meth c H locs 134 5936 (lw_Z below #[Value.ref b] s) (F0 m 909 ls []) := by
  obtain ⟨hx, hb, hr, hml, hown, hts, hX, hbl, hlocks, hgv⟩ := id C0
  have hT : ∀ w ∈ gT, w.before _ s = true := fun w h => hts w (gT_in w h)
  have hA : ∀ q : Nat, s.heap.size ≤ q → (fun q : Nat => s.heap.size ≤ q) q := fun _ h => h
  have hbA : ¬ (fun q : Nat => s.heap.size ≤ q) b := Nat.not_le.mpr hbl
  have hDx := vaD_l hDj
  have hDm := vaD_r hDj
  refine lv_aload_n hx hb dL_law_909 rfl (lv_at hl 1 rfl) ?_
  refine lv_aload_n hx hb dL_law_910 rfl (lv_at hl 0 rfl) ?_
  refine lv_iload_n hx hb dL_law_911 rfl (lv_at hl 3 rfl) ?_
  refine lv_iconst (v := 1) hx hb dL_law_912 (by decide) ?_
  refine lv_iadd hx hb dL_law_913 ?_
  refine lv_topi (fun v_1 ev_1 => ?_)
  obtain rfl : v_1 = 1 := ev_1.trans (by decide)
  refine va_sld hx hb hX hbl hbA hS (vp_inI (by decide) (by decide)) dL_law_914 ?_
  refine lv_topi (fun v_2 ev_2 => ?_)
  obtain rfl : v_2 = xs 1 := ev_2
  refine lv_aload_n hx hb dL_law_915 rfl (lv_at hl 0 rfl) ?_
  refine lv_iload_n hx hb dL_law_916 rfl (lv_at hl 3 rfl) ?_
  refine lv_iconst (v := 2) hx hb dL_law_917 (by decide) ?_
  refine lv_iadd hx hb dL_law_918 ?_
  refine lv_topi (fun v_3 ev_3 => ?_)
  obtain rfl : v_3 = 2 := ev_3.trans (by decide)
  refine va_sld hx hb hX hbl hbA hS (vp_inI (by decide) (by decide)) dL_law_919 ?_
  refine lv_topi (fun v_4 ev_4 => ?_)
  obtain rfl : v_4 = xs 2 := ev_4
  refine lv_aload_n hx hb dL_law_920 rfl (lv_at hl 0 rfl) ?_
  refine lv_iload_n hx hb dL_law_921 rfl (lv_at hl 3 rfl) ?_
  refine lv_iconst (v := 3) hx hb dL_law_922 (by decide) ?_
  refine lv_iadd hx hb dL_law_923 ?_
  refine lv_topi (fun v_5 ev_5 => ?_)
  obtain rfl : v_5 = 3 := ev_5.trans (by decide)
  refine va_sld hx hb hX hbl hbA hS (vp_inI (by decide) (by decide)) dL_law_924 ?_
  refine lv_topi (fun v_6 ev_6 => ?_)
  obtain rfl : v_6 = xs 3 := ev_6
  refine vp_callSi (W.runV (As := [.int (xs 1), .int (xs 2), .int (xs 3)]) (rest := []) ⟨hx, hb, hml, hown, hT⟩ (c_X11_award l D cy ax ix rx (fun _ => none) (xs 1) (xs 2) (xs 3) hf hg) (cwV 3 hT (gV t_462 t_463 t_464 t_465 t_2) rfl rfl rfl (by decide +kernel) ⟨Nat.le_of_ble_eq_true rfl, Nat.le_of_ble_eq_true rfl⟩) (rP_v hPx hK (va_recv hK hPx (ci := 11) (q0 := 0) rfl rfl)) rfl rfl hl.1 rfl (lv_room (Nat.le_of_ble_eq_true rfl)) dL_law_925 ⟨Nat.le_of_ble_eq_true rfl, Nat.le_of_ble_eq_true rfl⟩) (fun r_7 hr_7 => ?_)
  refine lv_aload_n hx hb dL_law_928 rfl (lv_at hl 2 rfl) ?_
  refine lv_aload_n hx hb dL_law_929 rfl (lv_at hl 0 rfl) ?_
  refine lv_iload_n hx hb dL_law_930 rfl (lv_at hl 3 rfl) ?_
  refine lv_iconst (v := 1) hx hb dL_law_931 (by decide) ?_
  refine lv_iadd hx hb dL_law_932 ?_
  refine lv_topi (fun v_8 ev_8 => ?_)
  obtain rfl : v_8 = 1 := ev_8.trans (by decide)
  refine va_sld hx hb hX hbl hbA hS (vp_inI (by decide) (by decide)) dL_law_933 ?_
  refine lv_topi (fun v_9 ev_9 => ?_)
  obtain rfl : v_9 = xs 1 := ev_9
  refine lv_aload_n hx hb dL_law_934 rfl (lv_at hl 0 rfl) ?_
  refine lv_iload_n hx hb dL_law_935 rfl (lv_at hl 3 rfl) ?_
  refine lv_iconst (v := 2) hx hb dL_law_936 (by decide) ?_
  refine lv_iadd hx hb dL_law_937 ?_
  refine lv_topi (fun v_10 ev_10 => ?_)
  obtain rfl : v_10 = 2 := ev_10.trans (by decide)
  refine va_sld hx hb hX hbl hbA hS (vp_inI (by decide) (by decide)) dL_law_938 ?_
  refine lv_topi (fun v_11 ev_11 => ?_)
  obtain rfl : v_11 = xs 2 := ev_11
  refine lv_aload_n hx hb dL_law_939 rfl (lv_at hl 0 rfl) ?_
  refine lv_iload_n hx hb dL_law_940 rfl (lv_at hl 3 rfl) ?_
  refine lv_iconst (v := 3) hx hb dL_law_941 (by decide) ?_
  refine lv_iadd hx hb dL_law_942 ?_
  refine lv_topi (fun v_12 ev_12 => ?_)
  obtain rfl : v_12 = 3 := ev_12.trans (by decide)
  refine va_sld hx hb hX hbl hbA hS (vp_inI (by decide) (by decide)) dL_law_943 ?_
  refine lv_topi (fun v_13 ev_13 => ?_)
  obtain rfl : v_13 = xs 3 := ev_13
  refine vp_callSi (W.runV (As := [.int (xs 1), .int (xs 2), .int (xs 3)]) (rest := [.int r_7]) ⟨hx, hb, hml, hown, hT⟩ (c_X12_award l D cy am im rm lm (xs 1) (xs 2) (xs 3) hz) (cwV 3 hT (gV t_466 t_467 t_468 t_469 t_8) rfl rfl rfl (by decide +kernel) ⟨Nat.le_of_ble_eq_true rfl, Nat.le_of_ble_eq_true rfl⟩) (rP_v hPm hK (va_recv hK hPm (ci := 12) (q0 := 0) rfl rfl)) rfl rfl hl.1 rfl (lv_room (Nat.le_of_ble_eq_true rfl)) dL_law_944 ⟨Nat.le_of_ble_eq_true rfl, Nat.le_of_ble_eq_true rfl⟩) (fun r_14 hr_14 => ?_)
  refine lv_icmp_eq (tgt := 1525) hx hb dL_law_947 (by decide) (fun _ => ?_) (fun c9 => absurd (hr_7.trans hr_14.symm) c9)
  exact lc_end C0 hS (lv_sub hl [0, 3] rfl) (Nat.le_of_ble_eq_true rfl) (Nat.le_of_ble_eq_true rfl)
set_option maxHeartbeats 4000000 in
set_option maxRecDepth 100000 in
theorem lc_16 {p : Program} {l : Launch} {e : Env} {s : State} {m : MethodId} {below : List Frame} {meth : Method} {c : Code} {b : Nat} {xs : Nat → Int32} (C0 : lw_At p s m meth c b 7 xs) {D : va_G} {cy : Nat → ClassId} {ax : Nat → Nat} {ix : Nat → Int32} {rx : Nat → Nat → Int32} {am : Nat → Nat} {im : Nat → Int32} {rm : Nat → Nat → Int32} {lm : Nat → Int64} (hf : xZ ix) (hg : xZr rx) (hz : mZ im) (hn : nw s) (hK : va_K D vwCl (vT cy) s) {H : Heap} {locs : List Loc} (hPx : va_P D vwCl (xW cy ax ix rx (fun _ => none) (ax 20) (ax 12)) H) (hPm : va_P D vwCl (mW cy am im rm lm) H) (hDj : va_D (fun q : Nat => s.heap.size ≤ q) ((xW cy ax ix rx (fun _ => none) (ax 20) (ax 12)) ++ (mW cy am im rm lm))) (hS : va_S (fun q : Nat => s.heap.size ≤ q) s.heap H locs) {ls : Array Slot} (hl : lv_has ls 4 [(0, .ref b), (1, .ref (ax 0)), (2, .ref (am 0)), (3, .int 0)]) : W p l e room_1 s m #[Value.ref b] below meth c H locs 134 5936 (lw_Z below #[Value.ref b] s) (F0 m 952 ls []) := by
  obtain ⟨hx, hb, hr, hml, hown, hts, hX, hbl, hlocks, hgv⟩ := id C0
  have hT : ∀ w ∈ gT, w.before _ s = true := fun w h => hts w (gT_in w h)
  have hA : ∀ q : Nat, s.heap.size ≤ q → (fun q : Nat => s.heap.size ≤ q) q := fun _ h => h
  have hbA : ¬ (fun q : Nat => s.heap.size ≤ q) b := Nat.not_le.mpr hbl
  have hDx := vaD_l hDj
  have hDm := vaD_r hDj
  refine lv_aload_n hx hb dL_law_952 rfl (lv_at hl 1 rfl) ?_
  refine lv_aload_n hx hb dL_law_953 rfl (lv_at hl 0 rfl) ?_
  refine lv_iload_n hx hb dL_law_954 rfl (lv_at hl 3 rfl) ?_
  refine lv_iconst (v := 1) hx hb dL_law_955 (by decide) ?_
  refine lv_iadd hx hb dL_law_956 ?_
  refine lv_topi (fun v_1 ev_1 => ?_)
  obtain rfl : v_1 = 1 := ev_1.trans (by decide)
  refine va_sld hx hb hX hbl hbA hS (vp_inI (by decide) (by decide)) dL_law_957 ?_
  refine lv_topi (fun v_2 ev_2 => ?_)
  obtain rfl : v_2 = xs 1 := ev_2
  refine lv_aload_n hx hb dL_law_958 rfl (lv_at hl 0 rfl) ?_
  refine lv_iload_n hx hb dL_law_959 rfl (lv_at hl 3 rfl) ?_
  refine lv_iconst (v := 2) hx hb dL_law_960 (by decide) ?_
  refine lv_iadd hx hb dL_law_961 ?_
  refine lv_topi (fun v_3 ev_3 => ?_)
  obtain rfl : v_3 = 2 := ev_3.trans (by decide)
  refine va_sld hx hb hX hbl hbA hS (vp_inI (by decide) (by decide)) dL_law_962 ?_
  refine lv_topi (fun v_4 ev_4 => ?_)
  obtain rfl : v_4 = xs 2 := ev_4
  refine lv_aload_n hx hb dL_law_963 rfl (lv_at hl 0 rfl) ?_
  refine lv_iload_n hx hb dL_law_964 rfl (lv_at hl 3 rfl) ?_
  refine lv_iconst (v := 3) hx hb dL_law_965 (by decide) ?_
  refine lv_iadd hx hb dL_law_966 ?_
  refine lv_topi (fun v_5 ev_5 => ?_)
  obtain rfl : v_5 = 3 := ev_5.trans (by decide)
  refine va_sld hx hb hX hbl hbA hS (vp_inI (by decide) (by decide)) dL_law_967 ?_
  refine lv_topi (fun v_6 ev_6 => ?_)
  obtain rfl : v_6 = xs 3 := ev_6
  refine vp_callSi (W.runV (As := [.int (xs 1), .int (xs 2), .int (xs 3)]) (rest := []) ⟨hx, hb, hml, hown, hT⟩ (c_X11_judged l D cy ax ix rx (fun _ => none) (xs 1) (xs 2) (xs 3) hf hg) (cwV 3 hT (gV t_470 t_471 t_472 t_473 t_2) rfl rfl rfl (by decide +kernel) ⟨Nat.le_of_ble_eq_true rfl, Nat.le_of_ble_eq_true rfl⟩) (rP_v hPx hK (va_recv hK hPx (ci := 11) (q0 := 0) rfl rfl)) rfl rfl hl.1 rfl (lv_room (Nat.le_of_ble_eq_true rfl)) dL_law_968 ⟨Nat.le_of_ble_eq_true rfl, Nat.le_of_ble_eq_true rfl⟩) (fun r_7 hr_7 => ?_)
  refine lv_aload_n hx hb dL_law_971 rfl (lv_at hl 2 rfl) ?_
  refine lv_aload_n hx hb dL_law_972 rfl (lv_at hl 0 rfl) ?_
  refine lv_iload_n hx hb dL_law_973 rfl (lv_at hl 3 rfl) ?_
  refine lv_iconst (v := 1) hx hb dL_law_974 (by decide) ?_
  refine lv_iadd hx hb dL_law_975 ?_
  refine lv_topi (fun v_8 ev_8 => ?_)
  obtain rfl : v_8 = 1 := ev_8.trans (by decide)
  refine va_sld hx hb hX hbl hbA hS (vp_inI (by decide) (by decide)) dL_law_976 ?_
  refine lv_topi (fun v_9 ev_9 => ?_)
  obtain rfl : v_9 = xs 1 := ev_9
  refine lv_aload_n hx hb dL_law_977 rfl (lv_at hl 0 rfl) ?_
  refine lv_iload_n hx hb dL_law_978 rfl (lv_at hl 3 rfl) ?_
  refine lv_iconst (v := 2) hx hb dL_law_979 (by decide) ?_
  refine lv_iadd hx hb dL_law_980 ?_
  refine lv_topi (fun v_10 ev_10 => ?_)
  obtain rfl : v_10 = 2 := ev_10.trans (by decide)
  refine va_sld hx hb hX hbl hbA hS (vp_inI (by decide) (by decide)) dL_law_981 ?_
  refine lv_topi (fun v_11 ev_11 => ?_)
  obtain rfl : v_11 = xs 2 := ev_11
  refine lv_aload_n hx hb dL_law_982 rfl (lv_at hl 0 rfl) ?_
  refine lv_iload_n hx hb dL_law_983 rfl (lv_at hl 3 rfl) ?_
  refine lv_iconst (v := 3) hx hb dL_law_984 (by decide) ?_
  refine lv_iadd hx hb dL_law_985 ?_
  refine lv_topi (fun v_12 ev_12 => ?_)
  obtain rfl : v_12 = 3 := ev_12.trans (by decide)
  refine va_sld hx hb hX hbl hbA hS (vp_inI (by decide) (by decide)) dL_law_986 ?_
  refine lv_topi (fun v_13 ev_13 => ?_)
  obtain rfl : v_13 = xs 3 := ev_13
  refine vp_callSi (W.runV (As := [.int (xs 1), .int (xs 2), .int (xs 3)]) (rest := [.int r_7]) ⟨hx, hb, hml, hown, hT⟩ (c_X12_judged l D cy am im rm lm (xs 1) (xs 2) (xs 3) hz) (cwV 3 hT (gV t_474 t_475 t_476 t_477 t_8) rfl rfl rfl (by decide +kernel) ⟨Nat.le_of_ble_eq_true rfl, Nat.le_of_ble_eq_true rfl⟩) (rP_v hPm hK (va_recv hK hPm (ci := 12) (q0 := 0) rfl rfl)) rfl rfl hl.1 rfl (lv_room (Nat.le_of_ble_eq_true rfl)) dL_law_987 ⟨Nat.le_of_ble_eq_true rfl, Nat.le_of_ble_eq_true rfl⟩) (fun r_14 hr_14 => ?_)
  refine lv_icmp_eq (tgt := 1525) hx hb dL_law_990 (by decide) (fun _ => ?_) (fun c9 => absurd (hr_7.trans hr_14.symm) c9)
  exact lc_end C0 hS (lv_sub hl [0, 3] rfl) (Nat.le_of_ble_eq_true rfl) (Nat.le_of_ble_eq_true rfl)
set_option maxHeartbeats 4000000 in
set_option maxRecDepth 100000 in
theorem lc_17 {p : Program} {l : Launch} {e : Env} {s : State} {m : MethodId} {below : List Frame} {meth : Method} {c : Code} {b : Nat} {xs : Nat → Int32} (C0 : lw_At p s m meth c b 7 xs) {D : va_G} {cy : Nat → ClassId} {ax : Nat → Nat} {ix : Nat → Int32} {rx : Nat → Nat → Int32} {am : Nat → Nat} {im : Nat → Int32} {rm : Nat → Nat → Int32} {lm : Nat → Int64} (hf : xZ ix) (hg : xZr rx) (hz : mZ im) (hn : nw s) (hK : va_K D vwCl (vT cy) s) {H : Heap} {locs : List Loc} (hPx : va_P D vwCl (xW cy ax ix rx (fun _ => none) (ax 20) (ax 12)) H) (hPm : va_P D vwCl (mW cy am im rm lm) H) (hDj : va_D (fun q : Nat => s.heap.size ≤ q) ((xW cy ax ix rx (fun _ => none) (ax 20) (ax 12)) ++ (mW cy am im rm lm))) (hS : va_S (fun q : Nat => s.heap.size ≤ q) s.heap H locs) {ls : Array Slot} (hl : lv_has ls 4 [(0, .ref b), (1, .ref (ax 0)), (2, .ref (am 0)), (3, .int 0)]) : W p l e room_1 s m #[Value.ref b] below meth c H locs 134 5936 (lw_Z below #[Value.ref b] s) (F0 m 995 ls []) := by
  obtain ⟨hx, hb, hr, hml, hown, hts, hX, hbl, hlocks, hgv⟩ := id C0
  have hT : ∀ w ∈ gT, w.before _ s = true := fun w h => hts w (gT_in w h)
  have hA : ∀ q : Nat, s.heap.size ≤ q → (fun q : Nat => s.heap.size ≤ q) q := fun _ h => h
  have hbA : ¬ (fun q : Nat => s.heap.size ≤ q) b := Nat.not_le.mpr hbl
  have hDx := vaD_l hDj
  have hDm := vaD_r hDj
  refine lv_aload_n hx hb dL_law_995 rfl (lv_at hl 1 rfl) ?_
  refine lv_aload_n hx hb dL_law_996 rfl (lv_at hl 0 rfl) ?_
  refine lv_iload_n hx hb dL_law_997 rfl (lv_at hl 3 rfl) ?_
  refine lv_iconst (v := 1) hx hb dL_law_998 (by decide) ?_
  refine lv_iadd hx hb dL_law_999 ?_
  refine lv_topi (fun v_1 ev_1 => ?_)
  obtain rfl : v_1 = 1 := ev_1.trans (by decide)
  refine va_sld hx hb hX hbl hbA hS (vp_inI (by decide) (by decide)) dL_law_1000 ?_
  refine lv_topi (fun v_2 ev_2 => ?_)
  obtain rfl : v_2 = xs 1 := ev_2
  refine lv_aload_n hx hb dL_law_1001 rfl (lv_at hl 0 rfl) ?_
  refine lv_iload_n hx hb dL_law_1002 rfl (lv_at hl 3 rfl) ?_
  refine lv_iconst (v := 2) hx hb dL_law_1003 (by decide) ?_
  refine lv_iadd hx hb dL_law_1004 ?_
  refine lv_topi (fun v_3 ev_3 => ?_)
  obtain rfl : v_3 = 2 := ev_3.trans (by decide)
  refine va_sld hx hb hX hbl hbA hS (vp_inI (by decide) (by decide)) dL_law_1005 ?_
  refine lv_topi (fun v_4 ev_4 => ?_)
  obtain rfl : v_4 = xs 2 := ev_4
  refine lv_if_eq (tgt := 1013) hx hb dL_law_1006 (by decide) (fun c_5 => ?_) (fun c_5 => ?_)
  · have c_5 : (xs 2).toInt = 0 := b_eq c_5
    refine lv_iconst (v := 0) hx hb dL_law_1013 (by decide) ?_
    refine lv_aload_n hx hb dL_law_1014 rfl (lv_at hl 0 rfl) ?_
    refine lv_iload_n hx hb dL_law_1015 rfl (lv_at hl 3 rfl) ?_
    refine lv_iconst (v := 3) hx hb dL_law_1016 (by decide) ?_
    refine lv_iadd hx hb dL_law_1017 ?_
    refine lv_topi (fun v_6 ev_6 => ?_)
    obtain rfl : v_6 = 3 := ev_6.trans (by decide)
    refine va_sld hx hb hX hbl hbA hS (vp_inI (by decide) (by decide)) dL_law_1018 ?_
    refine lv_topi (fun v_7 ev_7 => ?_)
    obtain rfl : v_7 = xs 3 := ev_7
    refine vp_callSi (W.runV (As := [.int (xs 1), .int 0, .int (xs 3)]) (rest := []) ⟨hx, hb, hml, hown, hT⟩ (c_X11_offer l D cy ax ix rx (fun _ => none) (xs 1) 0 (xs 3) hf hg) (cwV 3 hT (gV t_478 t_479 t_480 t_481 t_2) rfl rfl rfl (by decide +kernel) ⟨Nat.le_of_ble_eq_true rfl, Nat.le_of_ble_eq_true rfl⟩) (rP_v hPx hK (va_recv hK hPx (ci := 11) (q0 := 0) rfl rfl)) rfl rfl hl.1 rfl (lv_room (Nat.le_of_ble_eq_true rfl)) dL_law_1019 ⟨Nat.le_of_ble_eq_true rfl, Nat.le_of_ble_eq_true rfl⟩) (fun r_8 hr_8 => ?_)
    refine lv_aload_n hx hb dL_law_1022 rfl (lv_at hl 2 rfl) ?_
    refine lv_aload_n hx hb dL_law_1023 rfl (lv_at hl 0 rfl) ?_
    refine lv_iload_n hx hb dL_law_1024 rfl (lv_at hl 3 rfl) ?_
    refine lv_iconst (v := 1) hx hb dL_law_1025 (by decide) ?_
    refine lv_iadd hx hb dL_law_1026 ?_
    refine lv_topi (fun v_9 ev_9 => ?_)
    obtain rfl : v_9 = 1 := ev_9.trans (by decide)
    refine va_sld hx hb hX hbl hbA hS (vp_inI (by decide) (by decide)) dL_law_1027 ?_
    refine lv_topi (fun v_10 ev_10 => ?_)
    obtain rfl : v_10 = xs 1 := ev_10
    refine lv_aload_n hx hb dL_law_1028 rfl (lv_at hl 0 rfl) ?_
    refine lv_iload_n hx hb dL_law_1029 rfl (lv_at hl 3 rfl) ?_
    refine lv_iconst (v := 2) hx hb dL_law_1030 (by decide) ?_
    refine lv_iadd hx hb dL_law_1031 ?_
    refine lv_topi (fun v_11 ev_11 => ?_)
    obtain rfl : v_11 = 2 := ev_11.trans (by decide)
    refine va_sld hx hb hX hbl hbA hS (vp_inI (by decide) (by decide)) dL_law_1032 ?_
    refine lv_topi (fun v_12 ev_12 => ?_)
    obtain rfl : v_12 = xs 2 := ev_12
    refine lv_if_eq (tgt := 1040) hx hb dL_law_1033 (by decide) (fun c_13 => ?_) (fun c_13 => by have c_13 : (xs 2).toInt ≠ 0 := b_ne c_13; omega)
    have c_13 : (xs 2).toInt = 0 := b_eq c_13
    refine lv_iconst (v := 0) hx hb dL_law_1040 (by decide) ?_
    refine lv_aload_n hx hb dL_law_1041 rfl (lv_at hl 0 rfl) ?_
    refine lv_iload_n hx hb dL_law_1042 rfl (lv_at hl 3 rfl) ?_
    refine lv_iconst (v := 3) hx hb dL_law_1043 (by decide) ?_
    refine lv_iadd hx hb dL_law_1044 ?_
    refine lv_topi (fun v_14 ev_14 => ?_)
    obtain rfl : v_14 = 3 := ev_14.trans (by decide)
    refine va_sld hx hb hX hbl hbA hS (vp_inI (by decide) (by decide)) dL_law_1045 ?_
    refine lv_topi (fun v_15 ev_15 => ?_)
    obtain rfl : v_15 = xs 3 := ev_15
    refine vp_callSi (W.runV (As := [.int (xs 1), .int 0, .int (xs 3)]) (rest := [.int r_8]) ⟨hx, hb, hml, hown, hT⟩ (c_X12_offer l D cy am im rm lm (xs 1) 0 (xs 3) hz) (cwV 3 hT (gV t_482 t_483 t_484 t_485 t_8) rfl rfl rfl (by decide +kernel) ⟨Nat.le_of_ble_eq_true rfl, Nat.le_of_ble_eq_true rfl⟩) (rP_v hPm hK (va_recv hK hPm (ci := 12) (q0 := 0) rfl rfl)) rfl rfl hl.1 rfl (lv_room (Nat.le_of_ble_eq_true rfl)) dL_law_1046 ⟨Nat.le_of_ble_eq_true rfl, Nat.le_of_ble_eq_true rfl⟩) (fun r_16 hr_16 => ?_)
    refine lv_icmp_eq (tgt := 1525) hx hb dL_law_1049 (by decide) (fun _ => ?_) (fun c9 => absurd (hr_8.trans hr_16.symm) c9)
    exact lc_end C0 hS (lv_sub hl [0, 3] rfl) (Nat.le_of_ble_eq_true rfl) (Nat.le_of_ble_eq_true rfl)
  · have c_5 : (xs 2).toInt ≠ 0 := b_ne c_5
    refine lv_iconst (v := 1) hx hb dL_law_1009 (by decide) ?_
    refine lv_goto (tgt := 1014) hx hb dL_law_1010 (by decide) ?_
    refine lv_aload_n hx hb dL_law_1014 rfl (lv_at hl 0 rfl) ?_
    refine lv_iload_n hx hb dL_law_1015 rfl (lv_at hl 3 rfl) ?_
    refine lv_iconst (v := 3) hx hb dL_law_1016 (by decide) ?_
    refine lv_iadd hx hb dL_law_1017 ?_
    refine lv_topi (fun v_17 ev_17 => ?_)
    obtain rfl : v_17 = 3 := ev_17.trans (by decide)
    refine va_sld hx hb hX hbl hbA hS (vp_inI (by decide) (by decide)) dL_law_1018 ?_
    refine lv_topi (fun v_18 ev_18 => ?_)
    obtain rfl : v_18 = xs 3 := ev_18
    refine vp_callSi (W.runV (As := [.int (xs 1), .int 1, .int (xs 3)]) (rest := []) ⟨hx, hb, hml, hown, hT⟩ (c_X11_offer l D cy ax ix rx (fun _ => none) (xs 1) 1 (xs 3) hf hg) (cwV 3 hT (gV t_478 t_479 t_480 t_481 t_2) rfl rfl rfl (by decide +kernel) ⟨Nat.le_of_ble_eq_true rfl, Nat.le_of_ble_eq_true rfl⟩) (rP_v hPx hK (va_recv hK hPx (ci := 11) (q0 := 0) rfl rfl)) rfl rfl hl.1 rfl (lv_room (Nat.le_of_ble_eq_true rfl)) dL_law_1019 ⟨Nat.le_of_ble_eq_true rfl, Nat.le_of_ble_eq_true rfl⟩) (fun r_19 hr_19 => ?_)
    refine lv_aload_n hx hb dL_law_1022 rfl (lv_at hl 2 rfl) ?_
    refine lv_aload_n hx hb dL_law_1023 rfl (lv_at hl 0 rfl) ?_
    refine lv_iload_n hx hb dL_law_1024 rfl (lv_at hl 3 rfl) ?_
    refine lv_iconst (v := 1) hx hb dL_law_1025 (by decide) ?_
    refine lv_iadd hx hb dL_law_1026 ?_
    refine lv_topi (fun v_20 ev_20 => ?_)
    obtain rfl : v_20 = 1 := ev_20.trans (by decide)
    refine va_sld hx hb hX hbl hbA hS (vp_inI (by decide) (by decide)) dL_law_1027 ?_
    refine lv_topi (fun v_21 ev_21 => ?_)
    obtain rfl : v_21 = xs 1 := ev_21
    refine lv_aload_n hx hb dL_law_1028 rfl (lv_at hl 0 rfl) ?_
    refine lv_iload_n hx hb dL_law_1029 rfl (lv_at hl 3 rfl) ?_
    refine lv_iconst (v := 2) hx hb dL_law_1030 (by decide) ?_
    refine lv_iadd hx hb dL_law_1031 ?_
    refine lv_topi (fun v_22 ev_22 => ?_)
    obtain rfl : v_22 = 2 := ev_22.trans (by decide)
    refine va_sld hx hb hX hbl hbA hS (vp_inI (by decide) (by decide)) dL_law_1032 ?_
    refine lv_topi (fun v_23 ev_23 => ?_)
    obtain rfl : v_23 = xs 2 := ev_23
    refine lv_if_eq (tgt := 1040) hx hb dL_law_1033 (by decide) (fun c_24 => by have c_24 : (xs 2).toInt = 0 := b_eq c_24; omega) (fun c_24 => ?_)
    have c_24 : (xs 2).toInt ≠ 0 := b_ne c_24
    refine lv_iconst (v := 1) hx hb dL_law_1036 (by decide) ?_
    refine lv_goto (tgt := 1041) hx hb dL_law_1037 (by decide) ?_
    refine lv_aload_n hx hb dL_law_1041 rfl (lv_at hl 0 rfl) ?_
    refine lv_iload_n hx hb dL_law_1042 rfl (lv_at hl 3 rfl) ?_
    refine lv_iconst (v := 3) hx hb dL_law_1043 (by decide) ?_
    refine lv_iadd hx hb dL_law_1044 ?_
    refine lv_topi (fun v_25 ev_25 => ?_)
    obtain rfl : v_25 = 3 := ev_25.trans (by decide)
    refine va_sld hx hb hX hbl hbA hS (vp_inI (by decide) (by decide)) dL_law_1045 ?_
    refine lv_topi (fun v_26 ev_26 => ?_)
    obtain rfl : v_26 = xs 3 := ev_26
    refine vp_callSi (W.runV (As := [.int (xs 1), .int 1, .int (xs 3)]) (rest := [.int r_19]) ⟨hx, hb, hml, hown, hT⟩ (c_X12_offer l D cy am im rm lm (xs 1) 1 (xs 3) hz) (cwV 3 hT (gV t_482 t_483 t_484 t_485 t_8) rfl rfl rfl (by decide +kernel) ⟨Nat.le_of_ble_eq_true rfl, Nat.le_of_ble_eq_true rfl⟩) (rP_v hPm hK (va_recv hK hPm (ci := 12) (q0 := 0) rfl rfl)) rfl rfl hl.1 rfl (lv_room (Nat.le_of_ble_eq_true rfl)) dL_law_1046 ⟨Nat.le_of_ble_eq_true rfl, Nat.le_of_ble_eq_true rfl⟩) (fun r_27 hr_27 => ?_)
    refine lv_icmp_eq (tgt := 1525) hx hb dL_law_1049 (by decide) (fun _ => ?_) (fun c9 => absurd (hr_19.trans hr_27.symm) c9)
    exact lc_end C0 hS (lv_sub hl [0, 3] rfl) (Nat.le_of_ble_eq_true rfl) (Nat.le_of_ble_eq_true rfl)
set_option maxHeartbeats 4000000 in
set_option maxRecDepth 100000 in
theorem lc_18 {p : Program} {l : Launch} {e : Env} {s : State} {m : MethodId} {below : List Frame} {meth : Method} {c : Code} {b : Nat} {xs : Nat → Int32} (C0 : lw_At p s m meth c b 7 xs) {D : va_G} {cy : Nat → ClassId} {ax : Nat → Nat} {ix : Nat → Int32} {rx : Nat → Nat → Int32} {am : Nat → Nat} {im : Nat → Int32} {rm : Nat → Nat → Int32} {lm : Nat → Int64} (hf : xZ ix) (hg : xZr rx) (hz : mZ im) (hn : nw s) (hK : va_K D vwCl (vT cy) s) {H : Heap} {locs : List Loc} (hPx : va_P D vwCl (xW cy ax ix rx (fun _ => none) (ax 20) (ax 12)) H) (hPm : va_P D vwCl (mW cy am im rm lm) H) (hDj : va_D (fun q : Nat => s.heap.size ≤ q) ((xW cy ax ix rx (fun _ => none) (ax 20) (ax 12)) ++ (mW cy am im rm lm))) (hS : va_S (fun q : Nat => s.heap.size ≤ q) s.heap H locs) {ls : Array Slot} (hl : lv_has ls 4 [(0, .ref b), (1, .ref (ax 0)), (2, .ref (am 0)), (3, .int 0)]) : W p l e room_1 s m #[Value.ref b] below meth c H locs 134 5936 (lw_Z below #[Value.ref b] s) (F0 m 1054 ls []) := by
  obtain ⟨hx, hb, hr, hml, hown, hts, hX, hbl, hlocks, hgv⟩ := id C0
  have hT : ∀ w ∈ gT, w.before _ s = true := fun w h => hts w (gT_in w h)
  have hA : ∀ q : Nat, s.heap.size ≤ q → (fun q : Nat => s.heap.size ≤ q) q := fun _ h => h
  have hbA : ¬ (fun q : Nat => s.heap.size ≤ q) b := Nat.not_le.mpr hbl
  have hDx := vaD_l hDj
  have hDm := vaD_r hDj
  refine lv_aload_n hx hb dL_law_1054 rfl (lv_at hl 1 rfl) ?_
  refine lv_aload_n hx hb dL_law_1055 rfl (lv_at hl 0 rfl) ?_
  refine lv_iload_n hx hb dL_law_1056 rfl (lv_at hl 3 rfl) ?_
  refine lv_iconst (v := 1) hx hb dL_law_1057 (by decide) ?_
  refine lv_iadd hx hb dL_law_1058 ?_
  refine lv_topi (fun v_1 ev_1 => ?_)
  obtain rfl : v_1 = 1 := ev_1.trans (by decide)
  refine va_sld hx hb hX hbl hbA hS (vp_inI (by decide) (by decide)) dL_law_1059 ?_
  refine lv_topi (fun v_2 ev_2 => ?_)
  obtain rfl : v_2 = xs 1 := ev_2
  refine vp_callSi (W.runV (As := [.int (xs 1)]) (rest := []) ⟨hx, hb, hml, hown, hT⟩ (c_X11_met l D cy ax ix rx (fun _ => none) (xs 1) hf hg) (cwV 1 hT (gV t_486 t_487 t_488 t_489 t_2) rfl rfl rfl (by decide +kernel) ⟨Nat.le_of_ble_eq_true rfl, Nat.le_of_ble_eq_true rfl⟩) (rP_v hPx hK (va_recv hK hPx (ci := 11) (q0 := 0) rfl rfl)) rfl rfl hl.1 rfl (lv_room (Nat.le_of_ble_eq_true rfl)) dL_law_1060 ⟨Nat.le_of_ble_eq_true rfl, Nat.le_of_ble_eq_true rfl⟩) (fun r_3 hr_3 => ?_)
  refine lv_aload_n hx hb dL_law_1063 rfl (lv_at hl 2 rfl) ?_
  refine lv_aload_n hx hb dL_law_1064 rfl (lv_at hl 0 rfl) ?_
  refine lv_iload_n hx hb dL_law_1065 rfl (lv_at hl 3 rfl) ?_
  refine lv_iconst (v := 1) hx hb dL_law_1066 (by decide) ?_
  refine lv_iadd hx hb dL_law_1067 ?_
  refine lv_topi (fun v_4 ev_4 => ?_)
  obtain rfl : v_4 = 1 := ev_4.trans (by decide)
  refine va_sld hx hb hX hbl hbA hS (vp_inI (by decide) (by decide)) dL_law_1068 ?_
  refine lv_topi (fun v_5 ev_5 => ?_)
  obtain rfl : v_5 = xs 1 := ev_5
  refine vp_callSi (W.runV (As := [.int (xs 1)]) (rest := [.int r_3]) ⟨hx, hb, hml, hown, hT⟩ (c_X12_met l D cy am im rm lm (xs 1) hz) (cwV 1 hT (gV t_490 t_491 t_492 t_493 t_8) rfl rfl rfl (by decide +kernel) ⟨Nat.le_of_ble_eq_true rfl, Nat.le_of_ble_eq_true rfl⟩) (rP_v hPm hK (va_recv hK hPm (ci := 12) (q0 := 0) rfl rfl)) rfl rfl hl.1 rfl (lv_room (Nat.le_of_ble_eq_true rfl)) dL_law_1069 ⟨Nat.le_of_ble_eq_true rfl, Nat.le_of_ble_eq_true rfl⟩) (fun r_6 hr_6 => ?_)
  refine lv_icmp_eq (tgt := 1525) hx hb dL_law_1072 (by decide) (fun _ => ?_) (fun c9 => absurd (hr_3.trans hr_6.symm) c9)
  exact lc_end C0 hS (lv_sub hl [0, 3] rfl) (Nat.le_of_ble_eq_true rfl) (Nat.le_of_ble_eq_true rfl)
set_option maxHeartbeats 4000000 in
set_option maxRecDepth 100000 in
theorem lc_19 {p : Program} {l : Launch} {e : Env} {s : State} {m : MethodId} {below : List Frame} {meth : Method} {c : Code} {b : Nat} {xs : Nat → Int32} (C0 : lw_At p s m meth c b 7 xs) {D : va_G} {cy : Nat → ClassId} {ax : Nat → Nat} {ix : Nat → Int32} {rx : Nat → Nat → Int32} {am : Nat → Nat} {im : Nat → Int32} {rm : Nat → Nat → Int32} {lm : Nat → Int64} (hf : xZ ix) (hg : xZr rx) (hz : mZ im) (hn : nw s) (hK : va_K D vwCl (vT cy) s) {H : Heap} {locs : List Loc} (hPx : va_P D vwCl (xW cy ax ix rx (fun _ => none) (ax 20) (ax 12)) H) (hPm : va_P D vwCl (mW cy am im rm lm) H) (hDj : va_D (fun q : Nat => s.heap.size ≤ q) ((xW cy ax ix rx (fun _ => none) (ax 20) (ax 12)) ++ (mW cy am im rm lm))) (hS : va_S (fun q : Nat => s.heap.size ≤ q) s.heap H locs) {ls : Array Slot} (hl : lv_has ls 4 [(0, .ref b), (1, .ref (ax 0)), (2, .ref (am 0)), (3, .int 0)]) : W p l e room_1 s m #[Value.ref b] below meth c H locs 134 5936 (lw_Z below #[Value.ref b] s) (F0 m 1077 ls []) := by
  obtain ⟨hx, hb, hr, hml, hown, hts, hX, hbl, hlocks, hgv⟩ := id C0
  have hT : ∀ w ∈ gT, w.before _ s = true := fun w h => hts w (gT_in w h)
  have hA : ∀ q : Nat, s.heap.size ≤ q → (fun q : Nat => s.heap.size ≤ q) q := fun _ h => h
  have hbA : ¬ (fun q : Nat => s.heap.size ≤ q) b := Nat.not_le.mpr hbl
  have hDx := vaD_l hDj
  have hDm := vaD_r hDj
  refine lv_aload_n hx hb dL_law_1077 rfl (lv_at hl 1 rfl) ?_
  refine lv_aload_n hx hb dL_law_1078 rfl (lv_at hl 0 rfl) ?_
  refine lv_iload_n hx hb dL_law_1079 rfl (lv_at hl 3 rfl) ?_
  refine lv_iconst (v := 1) hx hb dL_law_1080 (by decide) ?_
  refine lv_iadd hx hb dL_law_1081 ?_
  refine lv_topi (fun v_1 ev_1 => ?_)
  obtain rfl : v_1 = 1 := ev_1.trans (by decide)
  refine va_sld hx hb hX hbl hbA hS (vp_inI (by decide) (by decide)) dL_law_1082 ?_
  refine lv_topi (fun v_2 ev_2 => ?_)
  obtain rfl : v_2 = xs 1 := ev_2
  refine lv_aload_n hx hb dL_law_1083 rfl (lv_at hl 0 rfl) ?_
  refine lv_iload_n hx hb dL_law_1084 rfl (lv_at hl 3 rfl) ?_
  refine lv_iconst (v := 2) hx hb dL_law_1085 (by decide) ?_
  refine lv_iadd hx hb dL_law_1086 ?_
  refine lv_topi (fun v_3 ev_3 => ?_)
  obtain rfl : v_3 = 2 := ev_3.trans (by decide)
  refine va_sld hx hb hX hbl hbA hS (vp_inI (by decide) (by decide)) dL_law_1087 ?_
  refine lv_topi (fun v_4 ev_4 => ?_)
  obtain rfl : v_4 = xs 2 := ev_4
  refine lv_aload_n hx hb dL_law_1088 rfl (lv_at hl 0 rfl) ?_
  refine lv_iload_n hx hb dL_law_1089 rfl (lv_at hl 3 rfl) ?_
  refine lv_iconst (v := 3) hx hb dL_law_1090 (by decide) ?_
  refine lv_iadd hx hb dL_law_1091 ?_
  refine lv_topi (fun v_5 ev_5 => ?_)
  obtain rfl : v_5 = 3 := ev_5.trans (by decide)
  refine va_sld hx hb hX hbl hbA hS (vp_inI (by decide) (by decide)) dL_law_1092 ?_
  refine lv_topi (fun v_6 ev_6 => ?_)
  obtain rfl : v_6 = xs 3 := ev_6
  refine lv_if_eq (tgt := 1100) hx hb dL_law_1093 (by decide) (fun c_7 => ?_) (fun c_7 => ?_)
  · have c_7 : (xs 3).toInt = 0 := b_eq c_7
    refine lv_iconst (v := 0) hx hb dL_law_1100 (by decide) ?_
    refine vp_callSi (W.runV (As := [.int (xs 1), .int (xs 2), .int 0]) (rest := []) ⟨hx, hb, hml, hown, hT⟩ (c_X11_kin l D cy ax ix rx (fun _ => none) (xs 1) (xs 2) 0 hf hg) (cwV 3 hT (gV t_494 t_495 t_496 t_497 t_2) rfl rfl rfl (by decide +kernel) ⟨Nat.le_of_ble_eq_true rfl, Nat.le_of_ble_eq_true rfl⟩) (rP_v hPx hK (va_recv hK hPx (ci := 11) (q0 := 0) rfl rfl)) rfl rfl hl.1 rfl (lv_room (Nat.le_of_ble_eq_true rfl)) dL_law_1101 ⟨Nat.le_of_ble_eq_true rfl, Nat.le_of_ble_eq_true rfl⟩) (fun r_8 hr_8 => ?_)
    refine lv_aload_n hx hb dL_law_1104 rfl (lv_at hl 2 rfl) ?_
    refine lv_aload_n hx hb dL_law_1105 rfl (lv_at hl 0 rfl) ?_
    refine lv_iload_n hx hb dL_law_1106 rfl (lv_at hl 3 rfl) ?_
    refine lv_iconst (v := 1) hx hb dL_law_1107 (by decide) ?_
    refine lv_iadd hx hb dL_law_1108 ?_
    refine lv_topi (fun v_9 ev_9 => ?_)
    obtain rfl : v_9 = 1 := ev_9.trans (by decide)
    refine va_sld hx hb hX hbl hbA hS (vp_inI (by decide) (by decide)) dL_law_1109 ?_
    refine lv_topi (fun v_10 ev_10 => ?_)
    obtain rfl : v_10 = xs 1 := ev_10
    refine lv_aload_n hx hb dL_law_1110 rfl (lv_at hl 0 rfl) ?_
    refine lv_iload_n hx hb dL_law_1111 rfl (lv_at hl 3 rfl) ?_
    refine lv_iconst (v := 2) hx hb dL_law_1112 (by decide) ?_
    refine lv_iadd hx hb dL_law_1113 ?_
    refine lv_topi (fun v_11 ev_11 => ?_)
    obtain rfl : v_11 = 2 := ev_11.trans (by decide)
    refine va_sld hx hb hX hbl hbA hS (vp_inI (by decide) (by decide)) dL_law_1114 ?_
    refine lv_topi (fun v_12 ev_12 => ?_)
    obtain rfl : v_12 = xs 2 := ev_12
    refine lv_aload_n hx hb dL_law_1115 rfl (lv_at hl 0 rfl) ?_
    refine lv_iload_n hx hb dL_law_1116 rfl (lv_at hl 3 rfl) ?_
    refine lv_iconst (v := 3) hx hb dL_law_1117 (by decide) ?_
    refine lv_iadd hx hb dL_law_1118 ?_
    refine lv_topi (fun v_13 ev_13 => ?_)
    obtain rfl : v_13 = 3 := ev_13.trans (by decide)
    refine va_sld hx hb hX hbl hbA hS (vp_inI (by decide) (by decide)) dL_law_1119 ?_
    refine lv_topi (fun v_14 ev_14 => ?_)
    obtain rfl : v_14 = xs 3 := ev_14
    refine lv_if_eq (tgt := 1127) hx hb dL_law_1120 (by decide) (fun c_15 => ?_) (fun c_15 => by have c_15 : (xs 3).toInt ≠ 0 := b_ne c_15; omega)
    have c_15 : (xs 3).toInt = 0 := b_eq c_15
    refine lv_iconst (v := 0) hx hb dL_law_1127 (by decide) ?_
    refine vp_callSi (W.runV (As := [.int (xs 1), .int (xs 2), .int 0]) (rest := [.int r_8]) ⟨hx, hb, hml, hown, hT⟩ (c_X12_kin l D cy am im rm lm (xs 1) (xs 2) 0 hz) (cwV 3 hT (gV t_498 t_499 t_500 t_501 t_8) rfl rfl rfl (by decide +kernel) ⟨Nat.le_of_ble_eq_true rfl, Nat.le_of_ble_eq_true rfl⟩) (rP_v hPm hK (va_recv hK hPm (ci := 12) (q0 := 0) rfl rfl)) rfl rfl hl.1 rfl (lv_room (Nat.le_of_ble_eq_true rfl)) dL_law_1128 ⟨Nat.le_of_ble_eq_true rfl, Nat.le_of_ble_eq_true rfl⟩) (fun r_16 hr_16 => ?_)
    refine lv_icmp_eq (tgt := 1525) hx hb dL_law_1131 (by decide) (fun _ => ?_) (fun c9 => absurd (hr_8.trans hr_16.symm) c9)
    exact lc_end C0 hS (lv_sub hl [0, 3] rfl) (Nat.le_of_ble_eq_true rfl) (Nat.le_of_ble_eq_true rfl)
  · have c_7 : (xs 3).toInt ≠ 0 := b_ne c_7
    refine lv_iconst (v := 1) hx hb dL_law_1096 (by decide) ?_
    refine lv_goto (tgt := 1101) hx hb dL_law_1097 (by decide) ?_
    refine vp_callSi (W.runV (As := [.int (xs 1), .int (xs 2), .int 1]) (rest := []) ⟨hx, hb, hml, hown, hT⟩ (c_X11_kin l D cy ax ix rx (fun _ => none) (xs 1) (xs 2) 1 hf hg) (cwV 3 hT (gV t_494 t_495 t_496 t_497 t_2) rfl rfl rfl (by decide +kernel) ⟨Nat.le_of_ble_eq_true rfl, Nat.le_of_ble_eq_true rfl⟩) (rP_v hPx hK (va_recv hK hPx (ci := 11) (q0 := 0) rfl rfl)) rfl rfl hl.1 rfl (lv_room (Nat.le_of_ble_eq_true rfl)) dL_law_1101 ⟨Nat.le_of_ble_eq_true rfl, Nat.le_of_ble_eq_true rfl⟩) (fun r_17 hr_17 => ?_)
    refine lv_aload_n hx hb dL_law_1104 rfl (lv_at hl 2 rfl) ?_
    refine lv_aload_n hx hb dL_law_1105 rfl (lv_at hl 0 rfl) ?_
    refine lv_iload_n hx hb dL_law_1106 rfl (lv_at hl 3 rfl) ?_
    refine lv_iconst (v := 1) hx hb dL_law_1107 (by decide) ?_
    refine lv_iadd hx hb dL_law_1108 ?_
    refine lv_topi (fun v_18 ev_18 => ?_)
    obtain rfl : v_18 = 1 := ev_18.trans (by decide)
    refine va_sld hx hb hX hbl hbA hS (vp_inI (by decide) (by decide)) dL_law_1109 ?_
    refine lv_topi (fun v_19 ev_19 => ?_)
    obtain rfl : v_19 = xs 1 := ev_19
    refine lv_aload_n hx hb dL_law_1110 rfl (lv_at hl 0 rfl) ?_
    refine lv_iload_n hx hb dL_law_1111 rfl (lv_at hl 3 rfl) ?_
    refine lv_iconst (v := 2) hx hb dL_law_1112 (by decide) ?_
    refine lv_iadd hx hb dL_law_1113 ?_
    refine lv_topi (fun v_20 ev_20 => ?_)
    obtain rfl : v_20 = 2 := ev_20.trans (by decide)
    refine va_sld hx hb hX hbl hbA hS (vp_inI (by decide) (by decide)) dL_law_1114 ?_
    refine lv_topi (fun v_21 ev_21 => ?_)
    obtain rfl : v_21 = xs 2 := ev_21
    refine lv_aload_n hx hb dL_law_1115 rfl (lv_at hl 0 rfl) ?_
    refine lv_iload_n hx hb dL_law_1116 rfl (lv_at hl 3 rfl) ?_
    refine lv_iconst (v := 3) hx hb dL_law_1117 (by decide) ?_
    refine lv_iadd hx hb dL_law_1118 ?_
    refine lv_topi (fun v_22 ev_22 => ?_)
    obtain rfl : v_22 = 3 := ev_22.trans (by decide)
    refine va_sld hx hb hX hbl hbA hS (vp_inI (by decide) (by decide)) dL_law_1119 ?_
    refine lv_topi (fun v_23 ev_23 => ?_)
    obtain rfl : v_23 = xs 3 := ev_23
    refine lv_if_eq (tgt := 1127) hx hb dL_law_1120 (by decide) (fun c_24 => by have c_24 : (xs 3).toInt = 0 := b_eq c_24; omega) (fun c_24 => ?_)
    have c_24 : (xs 3).toInt ≠ 0 := b_ne c_24
    refine lv_iconst (v := 1) hx hb dL_law_1123 (by decide) ?_
    refine lv_goto (tgt := 1128) hx hb dL_law_1124 (by decide) ?_
    refine vp_callSi (W.runV (As := [.int (xs 1), .int (xs 2), .int 1]) (rest := [.int r_17]) ⟨hx, hb, hml, hown, hT⟩ (c_X12_kin l D cy am im rm lm (xs 1) (xs 2) 1 hz) (cwV 3 hT (gV t_498 t_499 t_500 t_501 t_8) rfl rfl rfl (by decide +kernel) ⟨Nat.le_of_ble_eq_true rfl, Nat.le_of_ble_eq_true rfl⟩) (rP_v hPm hK (va_recv hK hPm (ci := 12) (q0 := 0) rfl rfl)) rfl rfl hl.1 rfl (lv_room (Nat.le_of_ble_eq_true rfl)) dL_law_1128 ⟨Nat.le_of_ble_eq_true rfl, Nat.le_of_ble_eq_true rfl⟩) (fun r_25 hr_25 => ?_)
    refine lv_icmp_eq (tgt := 1525) hx hb dL_law_1131 (by decide) (fun _ => ?_) (fun c9 => absurd (hr_17.trans hr_25.symm) c9)
    exact lc_end C0 hS (lv_sub hl [0, 3] rfl) (Nat.le_of_ble_eq_true rfl) (Nat.le_of_ble_eq_true rfl)
set_option maxHeartbeats 4000000 in
set_option maxRecDepth 100000 in
theorem lc_20 {p : Program} {l : Launch} {e : Env} {s : State} {m : MethodId} {below : List Frame} {meth : Method} {c : Code} {b : Nat} {xs : Nat → Int32} (C0 : lw_At p s m meth c b 7 xs) {D : va_G} {cy : Nat → ClassId} {ax : Nat → Nat} {ix : Nat → Int32} {rx : Nat → Nat → Int32} {am : Nat → Nat} {im : Nat → Int32} {rm : Nat → Nat → Int32} {lm : Nat → Int64} (hf : xZ ix) (hg : xZr rx) (hz : mZ im) (hn : nw s) (hK : va_K D vwCl (vT cy) s) {H : Heap} {locs : List Loc} (hPx : va_P D vwCl (xW cy ax ix rx (fun _ => none) (ax 20) (ax 12)) H) (hPm : va_P D vwCl (mW cy am im rm lm) H) (hDj : va_D (fun q : Nat => s.heap.size ≤ q) ((xW cy ax ix rx (fun _ => none) (ax 20) (ax 12)) ++ (mW cy am im rm lm))) (hS : va_S (fun q : Nat => s.heap.size ≤ q) s.heap H locs) {ls : Array Slot} (hl : lv_has ls 4 [(0, .ref b), (1, .ref (ax 0)), (2, .ref (am 0)), (3, .int 0)]) : W p l e room_1 s m #[Value.ref b] below meth c H locs 134 5936 (lw_Z below #[Value.ref b] s) (F0 m 1136 ls []) := by
  obtain ⟨hx, hb, hr, hml, hown, hts, hX, hbl, hlocks, hgv⟩ := id C0
  have hT : ∀ w ∈ gT, w.before _ s = true := fun w h => hts w (gT_in w h)
  have hA : ∀ q : Nat, s.heap.size ≤ q → (fun q : Nat => s.heap.size ≤ q) q := fun _ h => h
  have hbA : ¬ (fun q : Nat => s.heap.size ≤ q) b := Nat.not_le.mpr hbl
  have hDx := vaD_l hDj
  have hDm := vaD_r hDj
  refine lv_aload_n hx hb dL_law_1136 rfl (lv_at hl 1 rfl) ?_
  refine lv_aload_n hx hb dL_law_1137 rfl (lv_at hl 0 rfl) ?_
  refine lv_iload_n hx hb dL_law_1138 rfl (lv_at hl 3 rfl) ?_
  refine lv_iconst (v := 1) hx hb dL_law_1139 (by decide) ?_
  refine lv_iadd hx hb dL_law_1140 ?_
  refine lv_topi (fun v_1 ev_1 => ?_)
  obtain rfl : v_1 = 1 := ev_1.trans (by decide)
  refine va_sld hx hb hX hbl hbA hS (vp_inI (by decide) (by decide)) dL_law_1141 ?_
  refine lv_topi (fun v_2 ev_2 => ?_)
  obtain rfl : v_2 = xs 1 := ev_2
  have hFx := rF hDx hS hA
  refine va_calli (va_runV (As := [.int (xs 1)]) (rest := []) ⟨hx, hb, hml, hown, hT⟩ (c_X11_seed l D cy ax ix rx (fun _ => none) (xs 1) _ hf hg) (cwV 1 hT (gV t_502 t_503 t_504 t_505 t_2) rfl rfl rfl (by decide +kernel) ⟨Nat.le_of_ble_eq_true rfl, Nat.le_of_ble_eq_true rfl⟩) (rQ_v hPx hK hDx (va_recv hK hPx (ci := 11) (q0 := 0) rfl rfl)) rfl rfl hl.1 rfl (lv_room (Nat.le_of_ble_eq_true rfl)) dL_law_1142 ⟨Nat.le_of_ble_eq_true rfl, Nat.le_of_ble_eq_true rfl⟩) hS (fun q _ h => hFx q h) hFx (fun r_3 u_4 t H1 locs ht hvm hr_3 hB hz1 hk1 hS => ?_)
  have hPm := rk hDj hPm hk1
  refine lv_aload_n hx hb dL_law_1145 rfl (lv_at hl 2 rfl) ?_
  refine lv_aload_n hx hb dL_law_1146 rfl (lv_at hl 0 rfl) ?_
  refine lv_iload_n hx hb dL_law_1147 rfl (lv_at hl 3 rfl) ?_
  refine lv_iconst (v := 1) hx hb dL_law_1148 (by decide) ?_
  refine lv_iadd hx hb dL_law_1149 ?_
  refine lv_topi (fun v_5 ev_5 => ?_)
  obtain rfl : v_5 = 1 := ev_5.trans (by decide)
  refine va_sld hx hb hX hbl hbA hS (vp_inI (by decide) (by decide)) dL_law_1150 ?_
  refine lv_topi (fun v_6 ev_6 => ?_)
  obtain rfl : v_6 = xs 1 := ev_6
  have hFm := rF hDm hS hA
  refine va_calli (va_runV (As := [.int (xs 1)]) (rest := [.int r_3]) ⟨hx, hb, hml, hown, hT⟩ (c_X12_seed l D cy am im rm lm (xs 1) _ hz) (cwV 1 hT (gV t_506 t_507 t_508 t_509 t_8) rfl rfl rfl (by decide +kernel) ⟨Nat.le_of_ble_eq_true rfl, Nat.le_of_ble_eq_true rfl⟩) (rQ_v hPm hK hDm (va_recv hK hPm (ci := 12) (q0 := 0) rfl rfl)) rfl rfl hl.1 rfl (lv_room (Nat.le_of_ble_eq_true rfl)) dL_law_1151 ⟨Nat.le_of_ble_eq_true rfl, Nat.le_of_ble_eq_true rfl⟩) hS (fun q _ h => hFm q h) hFm (fun r_7 u_8 t H1 locs ht hvm hr_7 hB hz1 hk1 hS => ?_)
  refine lv_icmp_eq (tgt := 1525) hx hb dL_law_1154 (by decide) (fun _ => ?_) (fun c9 => absurd (BR_eq hr_3 hr_7) c9)
  exact lc_end C0 hS (lv_sub hl [0, 3] rfl) (Nat.le_of_ble_eq_true rfl) (Nat.le_of_ble_eq_true rfl)
set_option maxHeartbeats 4000000 in
set_option maxRecDepth 100000 in
theorem lc_21 {p : Program} {l : Launch} {e : Env} {s : State} {m : MethodId} {below : List Frame} {meth : Method} {c : Code} {b : Nat} {xs : Nat → Int32} (C0 : lw_At p s m meth c b 7 xs) {D : va_G} {cy : Nat → ClassId} {ax : Nat → Nat} {ix : Nat → Int32} {rx : Nat → Nat → Int32} {am : Nat → Nat} {im : Nat → Int32} {rm : Nat → Nat → Int32} {lm : Nat → Int64} (hf : xZ ix) (hg : xZr rx) (hz : mZ im) (hn : nw s) (hK : va_K D vwCl (vT cy) s) {H : Heap} {locs : List Loc} (hPx : va_P D vwCl (xW cy ax ix rx (fun _ => none) (ax 20) (ax 12)) H) (hPm : va_P D vwCl (mW cy am im rm lm) H) (hDj : va_D (fun q : Nat => s.heap.size ≤ q) ((xW cy ax ix rx (fun _ => none) (ax 20) (ax 12)) ++ (mW cy am im rm lm))) (hS : va_S (fun q : Nat => s.heap.size ≤ q) s.heap H locs) {ls : Array Slot} (hl : lv_has ls 4 [(0, .ref b), (1, .ref (ax 0)), (2, .ref (am 0)), (3, .int 0)]) : W p l e room_1 s m #[Value.ref b] below meth c H locs 134 5936 (lw_Z below #[Value.ref b] s) (F0 m 1159 ls []) := by
  obtain ⟨hx, hb, hr, hml, hown, hts, hX, hbl, hlocks, hgv⟩ := id C0
  have hT : ∀ w ∈ gT, w.before _ s = true := fun w h => hts w (gT_in w h)
  have hA : ∀ q : Nat, s.heap.size ≤ q → (fun q : Nat => s.heap.size ≤ q) q := fun _ h => h
  have hbA : ¬ (fun q : Nat => s.heap.size ≤ q) b := Nat.not_le.mpr hbl
  have hDx := vaD_l hDj
  have hDm := vaD_r hDj
  refine lv_aload_n hx hb dL_law_1159 rfl (lv_at hl 1 rfl) ?_
  refine lv_aload_n hx hb dL_law_1160 rfl (lv_at hl 0 rfl) ?_
  refine lv_iload_n hx hb dL_law_1161 rfl (lv_at hl 3 rfl) ?_
  refine lv_iconst (v := 1) hx hb dL_law_1162 (by decide) ?_
  refine lv_iadd hx hb dL_law_1163 ?_
  refine lv_topi (fun v_1 ev_1 => ?_)
  obtain rfl : v_1 = 1 := ev_1.trans (by decide)
  refine va_sld hx hb hX hbl hbA hS (vp_inI (by decide) (by decide)) dL_law_1164 ?_
  refine lv_topi (fun v_2 ev_2 => ?_)
  obtain rfl : v_2 = xs 1 := ev_2
  refine vp_callSi (W.runV (As := [.int (xs 1)]) (rest := []) ⟨hx, hb, hml, hown, hT⟩ (c_X11_draw l D cy ax ix rx (fun _ => none) (xs 1) hf hg) (cwV 1 hT (gV t_510 t_511 t_512 t_513 t_2) rfl rfl rfl (by decide +kernel) ⟨Nat.le_of_ble_eq_true rfl, Nat.le_of_ble_eq_true rfl⟩) (rP_v hPx hK (va_recv hK hPx (ci := 11) (q0 := 0) rfl rfl)) rfl rfl hl.1 rfl (lv_room (Nat.le_of_ble_eq_true rfl)) dL_law_1165 ⟨Nat.le_of_ble_eq_true rfl, Nat.le_of_ble_eq_true rfl⟩) (fun r_3 hr_3 => ?_)
  refine lv_aload_n hx hb dL_law_1168 rfl (lv_at hl 2 rfl) ?_
  refine lv_aload_n hx hb dL_law_1169 rfl (lv_at hl 0 rfl) ?_
  refine lv_iload_n hx hb dL_law_1170 rfl (lv_at hl 3 rfl) ?_
  refine lv_iconst (v := 1) hx hb dL_law_1171 (by decide) ?_
  refine lv_iadd hx hb dL_law_1172 ?_
  refine lv_topi (fun v_4 ev_4 => ?_)
  obtain rfl : v_4 = 1 := ev_4.trans (by decide)
  refine va_sld hx hb hX hbl hbA hS (vp_inI (by decide) (by decide)) dL_law_1173 ?_
  refine lv_topi (fun v_5 ev_5 => ?_)
  obtain rfl : v_5 = xs 1 := ev_5
  refine vp_callSi (W.runV (As := [.int (xs 1)]) (rest := [.int r_3]) ⟨hx, hb, hml, hown, hT⟩ (c_X12_draw l D cy am im rm lm (xs 1) hz) (cwV 1 hT (gV t_514 t_515 t_516 t_517 t_8) rfl rfl rfl (by decide +kernel) ⟨Nat.le_of_ble_eq_true rfl, Nat.le_of_ble_eq_true rfl⟩) (rP_v hPm hK (va_recv hK hPm (ci := 12) (q0 := 0) rfl rfl)) rfl rfl hl.1 rfl (lv_room (Nat.le_of_ble_eq_true rfl)) dL_law_1174 ⟨Nat.le_of_ble_eq_true rfl, Nat.le_of_ble_eq_true rfl⟩) (fun r_6 hr_6 => ?_)
  refine lv_icmp_eq (tgt := 1525) hx hb dL_law_1177 (by decide) (fun _ => ?_) (fun c9 => absurd (hr_3.trans hr_6.symm) c9)
  exact lc_end C0 hS (lv_sub hl [0, 3] rfl) (Nat.le_of_ble_eq_true rfl) (Nat.le_of_ble_eq_true rfl)
set_option maxHeartbeats 4000000 in
set_option maxRecDepth 100000 in
theorem lc_22 {p : Program} {l : Launch} {e : Env} {s : State} {m : MethodId} {below : List Frame} {meth : Method} {c : Code} {b : Nat} {xs : Nat → Int32} (C0 : lw_At p s m meth c b 7 xs) {D : va_G} {cy : Nat → ClassId} {ax : Nat → Nat} {ix : Nat → Int32} {rx : Nat → Nat → Int32} {am : Nat → Nat} {im : Nat → Int32} {rm : Nat → Nat → Int32} {lm : Nat → Int64} (hf : xZ ix) (hg : xZr rx) (hz : mZ im) (hn : nw s) (hK : va_K D vwCl (vT cy) s) {H : Heap} {locs : List Loc} (hPx : va_P D vwCl (xW cy ax ix rx (fun _ => none) (ax 20) (ax 12)) H) (hPm : va_P D vwCl (mW cy am im rm lm) H) (hDj : va_D (fun q : Nat => s.heap.size ≤ q) ((xW cy ax ix rx (fun _ => none) (ax 20) (ax 12)) ++ (mW cy am im rm lm))) (hS : va_S (fun q : Nat => s.heap.size ≤ q) s.heap H locs) {ls : Array Slot} (hl : lv_has ls 4 [(0, .ref b), (1, .ref (ax 0)), (2, .ref (am 0)), (3, .int 0)]) : W p l e room_1 s m #[Value.ref b] below meth c H locs 134 5936 (lw_Z below #[Value.ref b] s) (F0 m 1182 ls []) := by
  obtain ⟨hx, hb, hr, hml, hown, hts, hX, hbl, hlocks, hgv⟩ := id C0
  have hT : ∀ w ∈ gT, w.before _ s = true := fun w h => hts w (gT_in w h)
  have hA : ∀ q : Nat, s.heap.size ≤ q → (fun q : Nat => s.heap.size ≤ q) q := fun _ h => h
  have hbA : ¬ (fun q : Nat => s.heap.size ≤ q) b := Nat.not_le.mpr hbl
  have hDx := vaD_l hDj
  have hDm := vaD_r hDj
  refine lv_aload_n hx hb dL_law_1182 rfl (lv_at hl 1 rfl) ?_
  refine lv_aload_n hx hb dL_law_1183 rfl (lv_at hl 0 rfl) ?_
  refine lv_iload_n hx hb dL_law_1184 rfl (lv_at hl 3 rfl) ?_
  refine lv_iconst (v := 1) hx hb dL_law_1185 (by decide) ?_
  refine lv_iadd hx hb dL_law_1186 ?_
  refine lv_topi (fun v_1 ev_1 => ?_)
  obtain rfl : v_1 = 1 := ev_1.trans (by decide)
  refine va_sld hx hb hX hbl hbA hS (vp_inI (by decide) (by decide)) dL_law_1187 ?_
  refine lv_topi (fun v_2 ev_2 => ?_)
  obtain rfl : v_2 = xs 1 := ev_2
  refine lv_aload_n hx hb dL_law_1188 rfl (lv_at hl 0 rfl) ?_
  refine lv_iload_n hx hb dL_law_1189 rfl (lv_at hl 3 rfl) ?_
  refine lv_iconst (v := 2) hx hb dL_law_1190 (by decide) ?_
  refine lv_iadd hx hb dL_law_1191 ?_
  refine lv_topi (fun v_3 ev_3 => ?_)
  obtain rfl : v_3 = 2 := ev_3.trans (by decide)
  refine va_sld hx hb hX hbl hbA hS (vp_inI (by decide) (by decide)) dL_law_1192 ?_
  refine lv_topi (fun v_4 ev_4 => ?_)
  obtain rfl : v_4 = xs 2 := ev_4
  refine lv_aload_n hx hb dL_law_1193 rfl (lv_at hl 0 rfl) ?_
  refine lv_iload_n hx hb dL_law_1194 rfl (lv_at hl 3 rfl) ?_
  refine lv_iconst (v := 3) hx hb dL_law_1195 (by decide) ?_
  refine lv_iadd hx hb dL_law_1196 ?_
  refine lv_topi (fun v_5 ev_5 => ?_)
  obtain rfl : v_5 = 3 := ev_5.trans (by decide)
  refine va_sld hx hb hX hbl hbA hS (vp_inI (by decide) (by decide)) dL_law_1197 ?_
  refine lv_topi (fun v_6 ev_6 => ?_)
  obtain rfl : v_6 = xs 3 := ev_6
  refine lv_aload_n hx hb dL_law_1198 rfl (lv_at hl 0 rfl) ?_
  refine lv_iload_n hx hb dL_law_1199 rfl (lv_at hl 3 rfl) ?_
  refine lv_iconst (v := 4) hx hb dL_law_1200 (by decide) ?_
  refine lv_iadd hx hb dL_law_1201 ?_
  refine lv_topi (fun v_7 ev_7 => ?_)
  obtain rfl : v_7 = 4 := ev_7.trans (by decide)
  refine va_sld hx hb hX hbl hbA hS (vp_inI (by decide) (by decide)) dL_law_1202 ?_
  refine lv_topi (fun v_8 ev_8 => ?_)
  obtain rfl : v_8 = xs 4 := ev_8
  have hFx := rF hDx hS hA
  refine va_calli (va_runV (As := [.int (xs 1), .int (xs 2), .int (xs 3), .int (xs 4)]) (rest := []) ⟨hx, hb, hml, hown, hT⟩ (c_X11_twice l D cy ax ix rx (fun _ => none) (xs 1) (xs 2) (xs 3) (xs 4) _ hf hg) (cwV 4 hT (gV t_518 t_519 t_520 t_521 t_2) rfl rfl rfl (by decide +kernel) ⟨Nat.le_of_ble_eq_true rfl, Nat.le_of_ble_eq_true rfl⟩) (rQ_v hPx hK hDx (va_recv hK hPx (ci := 11) (q0 := 0) rfl rfl)) rfl rfl hl.1 rfl (lv_room (Nat.le_of_ble_eq_true rfl)) dL_law_1203 ⟨Nat.le_of_ble_eq_true rfl, Nat.le_of_ble_eq_true rfl⟩) hS (fun q _ h => hFx q h) hFx (fun r_9 u_10 t H1 locs ht hvm hr_9 hB hz1 hk1 hS => ?_)
  have hPm := rk hDj hPm hk1
  refine lv_aload_n hx hb dL_law_1206 rfl (lv_at hl 2 rfl) ?_
  refine lv_aload_n hx hb dL_law_1207 rfl (lv_at hl 0 rfl) ?_
  refine lv_iload_n hx hb dL_law_1208 rfl (lv_at hl 3 rfl) ?_
  refine lv_iconst (v := 1) hx hb dL_law_1209 (by decide) ?_
  refine lv_iadd hx hb dL_law_1210 ?_
  refine lv_topi (fun v_11 ev_11 => ?_)
  obtain rfl : v_11 = 1 := ev_11.trans (by decide)
  refine va_sld hx hb hX hbl hbA hS (vp_inI (by decide) (by decide)) dL_law_1211 ?_
  refine lv_topi (fun v_12 ev_12 => ?_)
  obtain rfl : v_12 = xs 1 := ev_12
  refine lv_aload_n hx hb dL_law_1212 rfl (lv_at hl 0 rfl) ?_
  refine lv_iload_n hx hb dL_law_1213 rfl (lv_at hl 3 rfl) ?_
  refine lv_iconst (v := 2) hx hb dL_law_1214 (by decide) ?_
  refine lv_iadd hx hb dL_law_1215 ?_
  refine lv_topi (fun v_13 ev_13 => ?_)
  obtain rfl : v_13 = 2 := ev_13.trans (by decide)
  refine va_sld hx hb hX hbl hbA hS (vp_inI (by decide) (by decide)) dL_law_1216 ?_
  refine lv_topi (fun v_14 ev_14 => ?_)
  obtain rfl : v_14 = xs 2 := ev_14
  refine lv_aload_n hx hb dL_law_1217 rfl (lv_at hl 0 rfl) ?_
  refine lv_iload_n hx hb dL_law_1218 rfl (lv_at hl 3 rfl) ?_
  refine lv_iconst (v := 3) hx hb dL_law_1219 (by decide) ?_
  refine lv_iadd hx hb dL_law_1220 ?_
  refine lv_topi (fun v_15 ev_15 => ?_)
  obtain rfl : v_15 = 3 := ev_15.trans (by decide)
  refine va_sld hx hb hX hbl hbA hS (vp_inI (by decide) (by decide)) dL_law_1221 ?_
  refine lv_topi (fun v_16 ev_16 => ?_)
  obtain rfl : v_16 = xs 3 := ev_16
  refine lv_aload_n hx hb dL_law_1222 rfl (lv_at hl 0 rfl) ?_
  refine lv_iload_n hx hb dL_law_1223 rfl (lv_at hl 3 rfl) ?_
  refine lv_iconst (v := 4) hx hb dL_law_1224 (by decide) ?_
  refine lv_iadd hx hb dL_law_1225 ?_
  refine lv_topi (fun v_17 ev_17 => ?_)
  obtain rfl : v_17 = 4 := ev_17.trans (by decide)
  refine va_sld hx hb hX hbl hbA hS (vp_inI (by decide) (by decide)) dL_law_1226 ?_
  refine lv_topi (fun v_18 ev_18 => ?_)
  obtain rfl : v_18 = xs 4 := ev_18
  have hFm := rF hDm hS hA
  refine va_calli (va_runV (As := [.int (xs 1), .int (xs 2), .int (xs 3), .int (xs 4)]) (rest := [.int r_9]) ⟨hx, hb, hml, hown, hT⟩ (c_X12_twice l D cy am im rm lm (xs 1) (xs 2) (xs 3) (xs 4) _ hz) (cwV 4 hT (gV t_522 t_523 t_524 t_525 t_8) rfl rfl rfl (by decide +kernel) ⟨Nat.le_of_ble_eq_true rfl, Nat.le_of_ble_eq_true rfl⟩) (rQ_v hPm hK hDm (va_recv hK hPm (ci := 12) (q0 := 0) rfl rfl)) rfl rfl hl.1 rfl (lv_room (Nat.le_of_ble_eq_true rfl)) dL_law_1227 ⟨Nat.le_of_ble_eq_true rfl, Nat.le_of_ble_eq_true rfl⟩) hS (fun q _ h => hFm q h) hFm (fun r_19 u_20 t H1 locs ht hvm hr_19 hB hz1 hk1 hS => ?_)
  refine lv_icmp_eq (tgt := 1525) hx hb dL_law_1230 (by decide) (fun _ => ?_) (fun c9 => absurd (BR_eq hr_9 hr_19) c9)
  exact lc_end C0 hS (lv_sub hl [0, 3] rfl) (Nat.le_of_ble_eq_true rfl) (Nat.le_of_ble_eq_true rfl)
set_option maxHeartbeats 4000000 in
set_option maxRecDepth 100000 in
theorem lc_23 {p : Program} {l : Launch} {e : Env} {s : State} {m : MethodId} {below : List Frame} {meth : Method} {c : Code} {b : Nat} {xs : Nat → Int32} (C0 : lw_At p s m meth c b 7 xs) {D : va_G} {cy : Nat → ClassId} {ax : Nat → Nat} {ix : Nat → Int32} {rx : Nat → Nat → Int32} {am : Nat → Nat} {im : Nat → Int32} {rm : Nat → Nat → Int32} {lm : Nat → Int64} (hf : xZ ix) (hg : xZr rx) (hz : mZ im) (hn : nw s) (hK : va_K D vwCl (vT cy) s) {H : Heap} {locs : List Loc} (hPx : va_P D vwCl (xW cy ax ix rx (fun _ => none) (ax 20) (ax 12)) H) (hPm : va_P D vwCl (mW cy am im rm lm) H) (hDj : va_D (fun q : Nat => s.heap.size ≤ q) ((xW cy ax ix rx (fun _ => none) (ax 20) (ax 12)) ++ (mW cy am im rm lm))) (hS : va_S (fun q : Nat => s.heap.size ≤ q) s.heap H locs) {ls : Array Slot} (hl : lv_has ls 4 [(0, .ref b), (1, .ref (ax 0)), (2, .ref (am 0)), (3, .int 0)]) : W p l e room_1 s m #[Value.ref b] below meth c H locs 134 5936 (lw_Z below #[Value.ref b] s) (F0 m 1235 ls []) := by
  obtain ⟨hx, hb, hr, hml, hown, hts, hX, hbl, hlocks, hgv⟩ := id C0
  have hT : ∀ w ∈ gT, w.before _ s = true := fun w h => hts w (gT_in w h)
  have hA : ∀ q : Nat, s.heap.size ≤ q → (fun q : Nat => s.heap.size ≤ q) q := fun _ h => h
  have hbA : ¬ (fun q : Nat => s.heap.size ≤ q) b := Nat.not_le.mpr hbl
  have hDx := vaD_l hDj
  have hDm := vaD_r hDj
  refine lv_aload_n hx hb dL_law_1235 rfl (lv_at hl 1 rfl) ?_
  refine lv_aload_n hx hb dL_law_1236 rfl (lv_at hl 0 rfl) ?_
  refine lv_iload_n hx hb dL_law_1237 rfl (lv_at hl 3 rfl) ?_
  refine lv_iconst (v := 1) hx hb dL_law_1238 (by decide) ?_
  refine lv_iadd hx hb dL_law_1239 ?_
  refine lv_topi (fun v_1 ev_1 => ?_)
  obtain rfl : v_1 = 1 := ev_1.trans (by decide)
  refine va_sld hx hb hX hbl hbA hS (vp_inI (by decide) (by decide)) dL_law_1240 ?_
  refine lv_topi (fun v_2 ev_2 => ?_)
  obtain rfl : v_2 = xs 1 := ev_2
  refine lv_aload_n hx hb dL_law_1241 rfl (lv_at hl 0 rfl) ?_
  refine lv_iload_n hx hb dL_law_1242 rfl (lv_at hl 3 rfl) ?_
  refine lv_iconst (v := 2) hx hb dL_law_1243 (by decide) ?_
  refine lv_iadd hx hb dL_law_1244 ?_
  refine lv_topi (fun v_3 ev_3 => ?_)
  obtain rfl : v_3 = 2 := ev_3.trans (by decide)
  refine va_sld hx hb hX hbl hbA hS (vp_inI (by decide) (by decide)) dL_law_1245 ?_
  refine lv_topi (fun v_4 ev_4 => ?_)
  obtain rfl : v_4 = xs 2 := ev_4
  refine vp_callSi (W.runV (As := [.int (xs 1), .int (xs 2)]) (rest := []) ⟨hx, hb, hml, hown, hT⟩ (c_X11_spread l D cy ax ix rx (fun _ => none) (xs 1) (xs 2) hf hg) (cwV 2 hT (gV t_526 t_527 t_528 t_529 t_2) rfl rfl rfl (by decide +kernel) ⟨Nat.le_of_ble_eq_true rfl, Nat.le_of_ble_eq_true rfl⟩) (rP_v hPx hK (va_recv hK hPx (ci := 11) (q0 := 0) rfl rfl)) rfl rfl hl.1 rfl (lv_room (Nat.le_of_ble_eq_true rfl)) dL_law_1246 ⟨Nat.le_of_ble_eq_true rfl, Nat.le_of_ble_eq_true rfl⟩) (fun r_5 hr_5 => ?_)
  refine lv_aload_n hx hb dL_law_1249 rfl (lv_at hl 2 rfl) ?_
  refine lv_aload_n hx hb dL_law_1250 rfl (lv_at hl 0 rfl) ?_
  refine lv_iload_n hx hb dL_law_1251 rfl (lv_at hl 3 rfl) ?_
  refine lv_iconst (v := 1) hx hb dL_law_1252 (by decide) ?_
  refine lv_iadd hx hb dL_law_1253 ?_
  refine lv_topi (fun v_6 ev_6 => ?_)
  obtain rfl : v_6 = 1 := ev_6.trans (by decide)
  refine va_sld hx hb hX hbl hbA hS (vp_inI (by decide) (by decide)) dL_law_1254 ?_
  refine lv_topi (fun v_7 ev_7 => ?_)
  obtain rfl : v_7 = xs 1 := ev_7
  refine lv_aload_n hx hb dL_law_1255 rfl (lv_at hl 0 rfl) ?_
  refine lv_iload_n hx hb dL_law_1256 rfl (lv_at hl 3 rfl) ?_
  refine lv_iconst (v := 2) hx hb dL_law_1257 (by decide) ?_
  refine lv_iadd hx hb dL_law_1258 ?_
  refine lv_topi (fun v_8 ev_8 => ?_)
  obtain rfl : v_8 = 2 := ev_8.trans (by decide)
  refine va_sld hx hb hX hbl hbA hS (vp_inI (by decide) (by decide)) dL_law_1259 ?_
  refine lv_topi (fun v_9 ev_9 => ?_)
  obtain rfl : v_9 = xs 2 := ev_9
  refine vp_callSi (W.runV (As := [.int (xs 1), .int (xs 2)]) (rest := [.int r_5]) ⟨hx, hb, hml, hown, hT⟩ (c_X12_spread l D cy am im rm lm (xs 1) (xs 2) hz) (cwV 2 hT (gV t_530 t_531 t_532 t_533 t_8) rfl rfl rfl (by decide +kernel) ⟨Nat.le_of_ble_eq_true rfl, Nat.le_of_ble_eq_true rfl⟩) (rP_v hPm hK (va_recv hK hPm (ci := 12) (q0 := 0) rfl rfl)) rfl rfl hl.1 rfl (lv_room (Nat.le_of_ble_eq_true rfl)) dL_law_1260 ⟨Nat.le_of_ble_eq_true rfl, Nat.le_of_ble_eq_true rfl⟩) (fun r_10 hr_10 => ?_)
  refine lv_icmp_eq (tgt := 1525) hx hb dL_law_1263 (by decide) (fun _ => ?_) (fun c9 => absurd (hr_5.trans hr_10.symm) c9)
  exact lc_end C0 hS (lv_sub hl [0, 3] rfl) (Nat.le_of_ble_eq_true rfl) (Nat.le_of_ble_eq_true rfl)
set_option maxHeartbeats 4000000 in
set_option maxRecDepth 100000 in
theorem lc_24 {p : Program} {l : Launch} {e : Env} {s : State} {m : MethodId} {below : List Frame} {meth : Method} {c : Code} {b : Nat} {xs : Nat → Int32} (C0 : lw_At p s m meth c b 7 xs) {D : va_G} {cy : Nat → ClassId} {ax : Nat → Nat} {ix : Nat → Int32} {rx : Nat → Nat → Int32} {am : Nat → Nat} {im : Nat → Int32} {rm : Nat → Nat → Int32} {lm : Nat → Int64} (hf : xZ ix) (hg : xZr rx) (hz : mZ im) (hn : nw s) (hK : va_K D vwCl (vT cy) s) {H : Heap} {locs : List Loc} (hPx : va_P D vwCl (xW cy ax ix rx (fun _ => none) (ax 20) (ax 12)) H) (hPm : va_P D vwCl (mW cy am im rm lm) H) (hDj : va_D (fun q : Nat => s.heap.size ≤ q) ((xW cy ax ix rx (fun _ => none) (ax 20) (ax 12)) ++ (mW cy am im rm lm))) (hS : va_S (fun q : Nat => s.heap.size ≤ q) s.heap H locs) {ls : Array Slot} (hl : lv_has ls 4 [(0, .ref b), (1, .ref (ax 0)), (2, .ref (am 0)), (3, .int 0)]) : W p l e room_1 s m #[Value.ref b] below meth c H locs 134 5936 (lw_Z below #[Value.ref b] s) (F0 m 1268 ls []) := by
  obtain ⟨hx, hb, hr, hml, hown, hts, hX, hbl, hlocks, hgv⟩ := id C0
  have hT : ∀ w ∈ gT, w.before _ s = true := fun w h => hts w (gT_in w h)
  have hA : ∀ q : Nat, s.heap.size ≤ q → (fun q : Nat => s.heap.size ≤ q) q := fun _ h => h
  have hbA : ¬ (fun q : Nat => s.heap.size ≤ q) b := Nat.not_le.mpr hbl
  have hDx := vaD_l hDj
  have hDm := vaD_r hDj
  refine lv_aload_n hx hb dL_law_1268 rfl (lv_at hl 1 rfl) ?_
  refine lv_aload_n hx hb dL_law_1269 rfl (lv_at hl 0 rfl) ?_
  refine lv_iload_n hx hb dL_law_1270 rfl (lv_at hl 3 rfl) ?_
  refine lv_iconst (v := 1) hx hb dL_law_1271 (by decide) ?_
  refine lv_iadd hx hb dL_law_1272 ?_
  refine lv_topi (fun v_1 ev_1 => ?_)
  obtain rfl : v_1 = 1 := ev_1.trans (by decide)
  refine va_sld hx hb hX hbl hbA hS (vp_inI (by decide) (by decide)) dL_law_1273 ?_
  refine lv_topi (fun v_2 ev_2 => ?_)
  obtain rfl : v_2 = xs 1 := ev_2
  refine lv_aload_n hx hb dL_law_1274 rfl (lv_at hl 0 rfl) ?_
  refine lv_iload_n hx hb dL_law_1275 rfl (lv_at hl 3 rfl) ?_
  refine lv_iconst (v := 2) hx hb dL_law_1276 (by decide) ?_
  refine lv_iadd hx hb dL_law_1277 ?_
  refine lv_topi (fun v_3 ev_3 => ?_)
  obtain rfl : v_3 = 2 := ev_3.trans (by decide)
  refine va_sld hx hb hX hbl hbA hS (vp_inI (by decide) (by decide)) dL_law_1278 ?_
  refine lv_topi (fun v_4 ev_4 => ?_)
  obtain rfl : v_4 = xs 2 := ev_4
  refine vp_callSi (W.runV (As := [.int (xs 1), .int (xs 2)]) (rest := []) ⟨hx, hb, hml, hown, hT⟩ (c_X11_like l D cy ax ix rx (fun _ => none) (xs 1) (xs 2) hf hg) (cwV 2 hT (gV t_534 t_535 t_536 t_537 t_2) rfl rfl rfl (by decide +kernel) ⟨Nat.le_of_ble_eq_true rfl, Nat.le_of_ble_eq_true rfl⟩) (rP_v hPx hK (va_recv hK hPx (ci := 11) (q0 := 0) rfl rfl)) rfl rfl hl.1 rfl (lv_room (Nat.le_of_ble_eq_true rfl)) dL_law_1279 ⟨Nat.le_of_ble_eq_true rfl, Nat.le_of_ble_eq_true rfl⟩) (fun r_5 hr_5 => ?_)
  refine lv_aload_n hx hb dL_law_1282 rfl (lv_at hl 2 rfl) ?_
  refine lv_aload_n hx hb dL_law_1283 rfl (lv_at hl 0 rfl) ?_
  refine lv_iload_n hx hb dL_law_1284 rfl (lv_at hl 3 rfl) ?_
  refine lv_iconst (v := 1) hx hb dL_law_1285 (by decide) ?_
  refine lv_iadd hx hb dL_law_1286 ?_
  refine lv_topi (fun v_6 ev_6 => ?_)
  obtain rfl : v_6 = 1 := ev_6.trans (by decide)
  refine va_sld hx hb hX hbl hbA hS (vp_inI (by decide) (by decide)) dL_law_1287 ?_
  refine lv_topi (fun v_7 ev_7 => ?_)
  obtain rfl : v_7 = xs 1 := ev_7
  refine lv_aload_n hx hb dL_law_1288 rfl (lv_at hl 0 rfl) ?_
  refine lv_iload_n hx hb dL_law_1289 rfl (lv_at hl 3 rfl) ?_
  refine lv_iconst (v := 2) hx hb dL_law_1290 (by decide) ?_
  refine lv_iadd hx hb dL_law_1291 ?_
  refine lv_topi (fun v_8 ev_8 => ?_)
  obtain rfl : v_8 = 2 := ev_8.trans (by decide)
  refine va_sld hx hb hX hbl hbA hS (vp_inI (by decide) (by decide)) dL_law_1292 ?_
  refine lv_topi (fun v_9 ev_9 => ?_)
  obtain rfl : v_9 = xs 2 := ev_9
  refine vp_callSi (W.runV (As := [.int (xs 1), .int (xs 2)]) (rest := [.int r_5]) ⟨hx, hb, hml, hown, hT⟩ (c_X12_like l D cy am im rm lm (xs 1) (xs 2) hz) (cwV 2 hT (gV t_538 t_539 t_540 t_541 t_8) rfl rfl rfl (by decide +kernel) ⟨Nat.le_of_ble_eq_true rfl, Nat.le_of_ble_eq_true rfl⟩) (rP_v hPm hK (va_recv hK hPm (ci := 12) (q0 := 0) rfl rfl)) rfl rfl hl.1 rfl (lv_room (Nat.le_of_ble_eq_true rfl)) dL_law_1293 ⟨Nat.le_of_ble_eq_true rfl, Nat.le_of_ble_eq_true rfl⟩) (fun r_10 hr_10 => ?_)
  refine lv_icmp_eq (tgt := 1525) hx hb dL_law_1296 (by decide) (fun _ => ?_) (fun c9 => absurd (hr_5.trans hr_10.symm) c9)
  exact lc_end C0 hS (lv_sub hl [0, 3] rfl) (Nat.le_of_ble_eq_true rfl) (Nat.le_of_ble_eq_true rfl)
set_option maxHeartbeats 4000000 in
set_option maxRecDepth 100000 in
theorem lc_25 {p : Program} {l : Launch} {e : Env} {s : State} {m : MethodId} {below : List Frame} {meth : Method} {c : Code} {b : Nat} {xs : Nat → Int32} (C0 : lw_At p s m meth c b 7 xs) {D : va_G} {cy : Nat → ClassId} {ax : Nat → Nat} {ix : Nat → Int32} {rx : Nat → Nat → Int32} {am : Nat → Nat} {im : Nat → Int32} {rm : Nat → Nat → Int32} {lm : Nat → Int64} (hf : xZ ix) (hg : xZr rx) (hz : mZ im) (hn : nw s) (hK : va_K D vwCl (vT cy) s) {H : Heap} {locs : List Loc} (hPx : va_P D vwCl (xW cy ax ix rx (fun _ => none) (ax 20) (ax 12)) H) (hPm : va_P D vwCl (mW cy am im rm lm) H) (hDj : va_D (fun q : Nat => s.heap.size ≤ q) ((xW cy ax ix rx (fun _ => none) (ax 20) (ax 12)) ++ (mW cy am im rm lm))) (hS : va_S (fun q : Nat => s.heap.size ≤ q) s.heap H locs) {ls : Array Slot} (hl : lv_has ls 4 [(0, .ref b), (1, .ref (ax 0)), (2, .ref (am 0)), (3, .int 0)]) : W p l e room_1 s m #[Value.ref b] below meth c H locs 134 5936 (lw_Z below #[Value.ref b] s) (F0 m 1301 ls []) := by
  obtain ⟨hx, hb, hr, hml, hown, hts, hX, hbl, hlocks, hgv⟩ := id C0
  have hT : ∀ w ∈ gT, w.before _ s = true := fun w h => hts w (gT_in w h)
  have hA : ∀ q : Nat, s.heap.size ≤ q → (fun q : Nat => s.heap.size ≤ q) q := fun _ h => h
  have hbA : ¬ (fun q : Nat => s.heap.size ≤ q) b := Nat.not_le.mpr hbl
  have hDx := vaD_l hDj
  have hDm := vaD_r hDj
  refine lv_aload_n hx hb dL_law_1301 rfl (lv_at hl 1 rfl) ?_
  refine lv_aload_n hx hb dL_law_1302 rfl (lv_at hl 0 rfl) ?_
  refine lv_iload_n hx hb dL_law_1303 rfl (lv_at hl 3 rfl) ?_
  refine lv_iconst (v := 1) hx hb dL_law_1304 (by decide) ?_
  refine lv_iadd hx hb dL_law_1305 ?_
  refine lv_topi (fun v_1 ev_1 => ?_)
  obtain rfl : v_1 = 1 := ev_1.trans (by decide)
  refine va_sld hx hb hX hbl hbA hS (vp_inI (by decide) (by decide)) dL_law_1306 ?_
  refine lv_topi (fun v_2 ev_2 => ?_)
  obtain rfl : v_2 = xs 1 := ev_2
  refine lv_aload_n hx hb dL_law_1307 rfl (lv_at hl 0 rfl) ?_
  refine lv_iload_n hx hb dL_law_1308 rfl (lv_at hl 3 rfl) ?_
  refine lv_iconst (v := 2) hx hb dL_law_1309 (by decide) ?_
  refine lv_iadd hx hb dL_law_1310 ?_
  refine lv_topi (fun v_3 ev_3 => ?_)
  obtain rfl : v_3 = 2 := ev_3.trans (by decide)
  refine va_sld hx hb hX hbl hbA hS (vp_inI (by decide) (by decide)) dL_law_1311 ?_
  refine lv_topi (fun v_4 ev_4 => ?_)
  obtain rfl : v_4 = xs 2 := ev_4
  refine lv_aload_n hx hb dL_law_1312 rfl (lv_at hl 0 rfl) ?_
  refine lv_iload_n hx hb dL_law_1313 rfl (lv_at hl 3 rfl) ?_
  refine lv_iconst (v := 3) hx hb dL_law_1314 (by decide) ?_
  refine lv_iadd hx hb dL_law_1315 ?_
  refine lv_topi (fun v_5 ev_5 => ?_)
  obtain rfl : v_5 = 3 := ev_5.trans (by decide)
  refine va_sld hx hb hX hbl hbA hS (vp_inI (by decide) (by decide)) dL_law_1316 ?_
  refine lv_topi (fun v_6 ev_6 => ?_)
  obtain rfl : v_6 = xs 3 := ev_6
  have hFx := rF hDx hS hA
  refine va_calli (va_runV (As := [.int (xs 1), .int (xs 2), .int (xs 3)]) (rest := []) ⟨hx, hb, hml, hown, hT⟩ (c_X11_fact l D cy ax ix rx (fun _ => none) (xs 1) (xs 2) (xs 3) _ hf hg) (cwV 3 hT (gV t_542 t_543 t_544 t_545 t_2) rfl rfl rfl (by decide +kernel) ⟨Nat.le_of_ble_eq_true rfl, Nat.le_of_ble_eq_true rfl⟩) (rQ_v hPx hK hDx (va_recv hK hPx (ci := 11) (q0 := 0) rfl rfl)) rfl rfl hl.1 rfl (lv_room (Nat.le_of_ble_eq_true rfl)) dL_law_1317 ⟨Nat.le_of_ble_eq_true rfl, Nat.le_of_ble_eq_true rfl⟩) hS (fun q _ h => hFx q h) hFx (fun r_7 u_8 t H1 locs ht hvm hr_7 hB hz1 hk1 hS => ?_)
  have hPm := rk hDj hPm hk1
  refine lv_aload_n hx hb dL_law_1320 rfl (lv_at hl 2 rfl) ?_
  refine lv_aload_n hx hb dL_law_1321 rfl (lv_at hl 0 rfl) ?_
  refine lv_iload_n hx hb dL_law_1322 rfl (lv_at hl 3 rfl) ?_
  refine lv_iconst (v := 1) hx hb dL_law_1323 (by decide) ?_
  refine lv_iadd hx hb dL_law_1324 ?_
  refine lv_topi (fun v_9 ev_9 => ?_)
  obtain rfl : v_9 = 1 := ev_9.trans (by decide)
  refine va_sld hx hb hX hbl hbA hS (vp_inI (by decide) (by decide)) dL_law_1325 ?_
  refine lv_topi (fun v_10 ev_10 => ?_)
  obtain rfl : v_10 = xs 1 := ev_10
  refine lv_aload_n hx hb dL_law_1326 rfl (lv_at hl 0 rfl) ?_
  refine lv_iload_n hx hb dL_law_1327 rfl (lv_at hl 3 rfl) ?_
  refine lv_iconst (v := 2) hx hb dL_law_1328 (by decide) ?_
  refine lv_iadd hx hb dL_law_1329 ?_
  refine lv_topi (fun v_11 ev_11 => ?_)
  obtain rfl : v_11 = 2 := ev_11.trans (by decide)
  refine va_sld hx hb hX hbl hbA hS (vp_inI (by decide) (by decide)) dL_law_1330 ?_
  refine lv_topi (fun v_12 ev_12 => ?_)
  obtain rfl : v_12 = xs 2 := ev_12
  refine lv_aload_n hx hb dL_law_1331 rfl (lv_at hl 0 rfl) ?_
  refine lv_iload_n hx hb dL_law_1332 rfl (lv_at hl 3 rfl) ?_
  refine lv_iconst (v := 3) hx hb dL_law_1333 (by decide) ?_
  refine lv_iadd hx hb dL_law_1334 ?_
  refine lv_topi (fun v_13 ev_13 => ?_)
  obtain rfl : v_13 = 3 := ev_13.trans (by decide)
  refine va_sld hx hb hX hbl hbA hS (vp_inI (by decide) (by decide)) dL_law_1335 ?_
  refine lv_topi (fun v_14 ev_14 => ?_)
  obtain rfl : v_14 = xs 3 := ev_14
  have hFm := rF hDm hS hA
  refine va_calli (va_runV (As := [.int (xs 1), .int (xs 2), .int (xs 3)]) (rest := [.int r_7]) ⟨hx, hb, hml, hown, hT⟩ (c_X12_fact l D cy am im rm lm (xs 1) (xs 2) (xs 3) _ hz) (cwV 3 hT (gV t_546 t_547 t_548 t_549 t_8) rfl rfl rfl (by decide +kernel) ⟨Nat.le_of_ble_eq_true rfl, Nat.le_of_ble_eq_true rfl⟩) (rQ_v hPm hK hDm (va_recv hK hPm (ci := 12) (q0 := 0) rfl rfl)) rfl rfl hl.1 rfl (lv_room (Nat.le_of_ble_eq_true rfl)) dL_law_1336 ⟨Nat.le_of_ble_eq_true rfl, Nat.le_of_ble_eq_true rfl⟩) hS (fun q _ h => hFm q h) hFm (fun r_15 u_16 t H1 locs ht hvm hr_15 hB hz1 hk1 hS => ?_)
  refine lv_icmp_eq (tgt := 1525) hx hb dL_law_1339 (by decide) (fun _ => ?_) (fun c9 => absurd (BR_eq hr_7 hr_15) c9)
  exact lc_end C0 hS (lv_sub hl [0, 3] rfl) (Nat.le_of_ble_eq_true rfl) (Nat.le_of_ble_eq_true rfl)
set_option maxHeartbeats 4000000 in
set_option maxRecDepth 100000 in
theorem lc_26 {p : Program} {l : Launch} {e : Env} {s : State} {m : MethodId} {below : List Frame} {meth : Method} {c : Code} {b : Nat} {xs : Nat → Int32} (C0 : lw_At p s m meth c b 7 xs) {D : va_G} {cy : Nat → ClassId} {ax : Nat → Nat} {ix : Nat → Int32} {rx : Nat → Nat → Int32} {am : Nat → Nat} {im : Nat → Int32} {rm : Nat → Nat → Int32} {lm : Nat → Int64} (hf : xZ ix) (hg : xZr rx) (hz : mZ im) (hn : nw s) (hK : va_K D vwCl (vT cy) s) {H : Heap} {locs : List Loc} (hPx : va_P D vwCl (xW cy ax ix rx (fun _ => none) (ax 20) (ax 12)) H) (hPm : va_P D vwCl (mW cy am im rm lm) H) (hDj : va_D (fun q : Nat => s.heap.size ≤ q) ((xW cy ax ix rx (fun _ => none) (ax 20) (ax 12)) ++ (mW cy am im rm lm))) (hS : va_S (fun q : Nat => s.heap.size ≤ q) s.heap H locs) {ls : Array Slot} (hl : lv_has ls 4 [(0, .ref b), (1, .ref (ax 0)), (2, .ref (am 0)), (3, .int 0)]) : W p l e room_1 s m #[Value.ref b] below meth c H locs 134 5936 (lw_Z below #[Value.ref b] s) (F0 m 1344 ls []) := by
  obtain ⟨hx, hb, hr, hml, hown, hts, hX, hbl, hlocks, hgv⟩ := id C0
  have hT : ∀ w ∈ gT, w.before _ s = true := fun w h => hts w (gT_in w h)
  have hA : ∀ q : Nat, s.heap.size ≤ q → (fun q : Nat => s.heap.size ≤ q) q := fun _ h => h
  have hbA : ¬ (fun q : Nat => s.heap.size ≤ q) b := Nat.not_le.mpr hbl
  have hDx := vaD_l hDj
  have hDm := vaD_r hDj
  refine lv_aload_n hx hb dL_law_1344 rfl (lv_at hl 1 rfl) ?_
  refine lv_aload_n hx hb dL_law_1345 rfl (lv_at hl 0 rfl) ?_
  refine lv_iload_n hx hb dL_law_1346 rfl (lv_at hl 3 rfl) ?_
  refine lv_iconst (v := 1) hx hb dL_law_1347 (by decide) ?_
  refine lv_iadd hx hb dL_law_1348 ?_
  refine lv_topi (fun v_1 ev_1 => ?_)
  obtain rfl : v_1 = 1 := ev_1.trans (by decide)
  refine va_sld hx hb hX hbl hbA hS (vp_inI (by decide) (by decide)) dL_law_1349 ?_
  refine lv_topi (fun v_2 ev_2 => ?_)
  obtain rfl : v_2 = xs 1 := ev_2
  refine lv_aload_n hx hb dL_law_1350 rfl (lv_at hl 0 rfl) ?_
  refine lv_iload_n hx hb dL_law_1351 rfl (lv_at hl 3 rfl) ?_
  refine lv_iconst (v := 2) hx hb dL_law_1352 (by decide) ?_
  refine lv_iadd hx hb dL_law_1353 ?_
  refine lv_topi (fun v_3 ev_3 => ?_)
  obtain rfl : v_3 = 2 := ev_3.trans (by decide)
  refine va_sld hx hb hX hbl hbA hS (vp_inI (by decide) (by decide)) dL_law_1354 ?_
  refine lv_topi (fun v_4 ev_4 => ?_)
  obtain rfl : v_4 = xs 2 := ev_4
  refine vp_callSi (W.runV (As := [.int (xs 1), .int (xs 2)]) (rest := []) ⟨hx, hb, hml, hown, hT⟩ (c_X11_dated l D cy ax ix rx (fun _ => none) (xs 1) (xs 2) hf hg) (cwV 2 hT (gV t_550 t_551 t_552 t_553 t_2) rfl rfl rfl (by decide +kernel) ⟨Nat.le_of_ble_eq_true rfl, Nat.le_of_ble_eq_true rfl⟩) (rP_v hPx hK (va_recv hK hPx (ci := 11) (q0 := 0) rfl rfl)) rfl rfl hl.1 rfl (lv_room (Nat.le_of_ble_eq_true rfl)) dL_law_1355 ⟨Nat.le_of_ble_eq_true rfl, Nat.le_of_ble_eq_true rfl⟩) (fun r_5 hr_5 => ?_)
  refine lv_aload_n hx hb dL_law_1358 rfl (lv_at hl 2 rfl) ?_
  refine lv_aload_n hx hb dL_law_1359 rfl (lv_at hl 0 rfl) ?_
  refine lv_iload_n hx hb dL_law_1360 rfl (lv_at hl 3 rfl) ?_
  refine lv_iconst (v := 1) hx hb dL_law_1361 (by decide) ?_
  refine lv_iadd hx hb dL_law_1362 ?_
  refine lv_topi (fun v_6 ev_6 => ?_)
  obtain rfl : v_6 = 1 := ev_6.trans (by decide)
  refine va_sld hx hb hX hbl hbA hS (vp_inI (by decide) (by decide)) dL_law_1363 ?_
  refine lv_topi (fun v_7 ev_7 => ?_)
  obtain rfl : v_7 = xs 1 := ev_7
  refine lv_aload_n hx hb dL_law_1364 rfl (lv_at hl 0 rfl) ?_
  refine lv_iload_n hx hb dL_law_1365 rfl (lv_at hl 3 rfl) ?_
  refine lv_iconst (v := 2) hx hb dL_law_1366 (by decide) ?_
  refine lv_iadd hx hb dL_law_1367 ?_
  refine lv_topi (fun v_8 ev_8 => ?_)
  obtain rfl : v_8 = 2 := ev_8.trans (by decide)
  refine va_sld hx hb hX hbl hbA hS (vp_inI (by decide) (by decide)) dL_law_1368 ?_
  refine lv_topi (fun v_9 ev_9 => ?_)
  obtain rfl : v_9 = xs 2 := ev_9
  have hFm := rF hDm hS hA
  refine va_calli (va_runV (As := [.int (xs 1), .int (xs 2)]) (rest := [.int r_5]) ⟨hx, hb, hml, hown, hT⟩ (c_X12_dated l D cy am im rm lm (xs 1) (xs 2) _ hz) (cwV 2 hT (gV t_554 t_555 t_556 t_557 t_8) rfl rfl rfl (by decide +kernel) ⟨Nat.le_of_ble_eq_true rfl, Nat.le_of_ble_eq_true rfl⟩) (rQ_v hPm hK hDm (va_recv hK hPm (ci := 12) (q0 := 0) rfl rfl)) rfl rfl hl.1 rfl (lv_room (Nat.le_of_ble_eq_true rfl)) dL_law_1369 ⟨Nat.le_of_ble_eq_true rfl, Nat.le_of_ble_eq_true rfl⟩) hS (fun q _ h => hFm q h) hFm (fun r_10 u_11 t H1 locs ht hvm hr_10 hB hz1 hk1 hS => ?_)
  refine lv_icmp_eq (tgt := 1525) hx hb dL_law_1372 (by decide) (fun _ => ?_) (fun c9 => absurd (hr_5.trans hr_10.symm) c9)
  exact lc_end C0 hS (lv_sub hl [0, 3] rfl) (Nat.le_of_ble_eq_true rfl) (Nat.le_of_ble_eq_true rfl)
set_option maxHeartbeats 4000000 in
set_option maxRecDepth 100000 in
theorem lc_27 {p : Program} {l : Launch} {e : Env} {s : State} {m : MethodId} {below : List Frame} {meth : Method} {c : Code} {b : Nat} {xs : Nat → Int32} (C0 : lw_At p s m meth c b 7 xs) {D : va_G} {cy : Nat → ClassId} {ax : Nat → Nat} {ix : Nat → Int32} {rx : Nat → Nat → Int32} {am : Nat → Nat} {im : Nat → Int32} {rm : Nat → Nat → Int32} {lm : Nat → Int64} (hf : xZ ix) (hg : xZr rx) (hz : mZ im) (hn : nw s) (hK : va_K D vwCl (vT cy) s) {H : Heap} {locs : List Loc} (hPx : va_P D vwCl (xW cy ax ix rx (fun _ => none) (ax 20) (ax 12)) H) (hPm : va_P D vwCl (mW cy am im rm lm) H) (hDj : va_D (fun q : Nat => s.heap.size ≤ q) ((xW cy ax ix rx (fun _ => none) (ax 20) (ax 12)) ++ (mW cy am im rm lm))) (hS : va_S (fun q : Nat => s.heap.size ≤ q) s.heap H locs) {ls : Array Slot} (hl : lv_has ls 4 [(0, .ref b), (1, .ref (ax 0)), (2, .ref (am 0)), (3, .int 0)]) : W p l e room_1 s m #[Value.ref b] below meth c H locs 134 5936 (lw_Z below #[Value.ref b] s) (F0 m 1377 ls []) := by
  obtain ⟨hx, hb, hr, hml, hown, hts, hX, hbl, hlocks, hgv⟩ := id C0
  have hT : ∀ w ∈ gT, w.before _ s = true := fun w h => hts w (gT_in w h)
  have hA : ∀ q : Nat, s.heap.size ≤ q → (fun q : Nat => s.heap.size ≤ q) q := fun _ h => h
  have hbA : ¬ (fun q : Nat => s.heap.size ≤ q) b := Nat.not_le.mpr hbl
  have hDx := vaD_l hDj
  have hDm := vaD_r hDj
  refine lv_aload_n hx hb dL_law_1377 rfl (lv_at hl 1 rfl) ?_
  refine lv_aload_n hx hb dL_law_1378 rfl (lv_at hl 0 rfl) ?_
  refine lv_iload_n hx hb dL_law_1379 rfl (lv_at hl 3 rfl) ?_
  refine lv_iconst (v := 1) hx hb dL_law_1380 (by decide) ?_
  refine lv_iadd hx hb dL_law_1381 ?_
  refine lv_topi (fun v_1 ev_1 => ?_)
  obtain rfl : v_1 = 1 := ev_1.trans (by decide)
  refine va_sld hx hb hX hbl hbA hS (vp_inI (by decide) (by decide)) dL_law_1382 ?_
  refine lv_topi (fun v_2 ev_2 => ?_)
  obtain rfl : v_2 = xs 1 := ev_2
  refine vp_callSi (W.runV (As := [.int (xs 1)]) (rest := []) ⟨hx, hb, hml, hown, hT⟩ (c_X11_wrong l D cy ax ix rx (fun _ => none) (xs 1) hf hg) (cwV 1 hT (gV t_558 t_559 t_560 t_561 t_2) rfl rfl rfl (by decide +kernel) ⟨Nat.le_of_ble_eq_true rfl, Nat.le_of_ble_eq_true rfl⟩) (rP_v hPx hK (va_recv hK hPx (ci := 11) (q0 := 0) rfl rfl)) rfl rfl hl.1 rfl (lv_room (Nat.le_of_ble_eq_true rfl)) dL_law_1383 ⟨Nat.le_of_ble_eq_true rfl, Nat.le_of_ble_eq_true rfl⟩) (fun r_3 hr_3 => ?_)
  refine lv_aload_n hx hb dL_law_1386 rfl (lv_at hl 2 rfl) ?_
  refine lv_aload_n hx hb dL_law_1387 rfl (lv_at hl 0 rfl) ?_
  refine lv_iload_n hx hb dL_law_1388 rfl (lv_at hl 3 rfl) ?_
  refine lv_iconst (v := 1) hx hb dL_law_1389 (by decide) ?_
  refine lv_iadd hx hb dL_law_1390 ?_
  refine lv_topi (fun v_4 ev_4 => ?_)
  obtain rfl : v_4 = 1 := ev_4.trans (by decide)
  refine va_sld hx hb hX hbl hbA hS (vp_inI (by decide) (by decide)) dL_law_1391 ?_
  refine lv_topi (fun v_5 ev_5 => ?_)
  obtain rfl : v_5 = xs 1 := ev_5
  have hFm := rF hDm hS hA
  refine va_calli (va_runV (As := [.int (xs 1)]) (rest := [.int r_3]) ⟨hx, hb, hml, hown, hT⟩ (c_X12_wrong l D cy am im rm lm (xs 1) _ hz) (cwV 1 hT (gV t_562 t_563 t_564 t_565 t_8) rfl rfl rfl (by decide +kernel) ⟨Nat.le_of_ble_eq_true rfl, Nat.le_of_ble_eq_true rfl⟩) (rQ_v hPm hK hDm (va_recv hK hPm (ci := 12) (q0 := 0) rfl rfl)) rfl rfl hl.1 rfl (lv_room (Nat.le_of_ble_eq_true rfl)) dL_law_1392 ⟨Nat.le_of_ble_eq_true rfl, Nat.le_of_ble_eq_true rfl⟩) hS (fun q _ h => hFm q h) hFm (fun r_6 u_7 t H1 locs ht hvm hr_6 hB hz1 hk1 hS => ?_)
  refine lv_icmp_eq (tgt := 1525) hx hb dL_law_1395 (by decide) (fun _ => ?_) (fun c9 => absurd (BR_eq hr_3 hr_6) c9)
  exact lc_end C0 hS (lv_sub hl [0, 3] rfl) (Nat.le_of_ble_eq_true rfl) (Nat.le_of_ble_eq_true rfl)
set_option maxHeartbeats 4000000 in
set_option maxRecDepth 100000 in
theorem lc_28 {p : Program} {l : Launch} {e : Env} {s : State} {m : MethodId} {below : List Frame} {meth : Method} {c : Code} {b : Nat} {xs : Nat → Int32} (C0 : lw_At p s m meth c b 7 xs) {D : va_G} {cy : Nat → ClassId} {ax : Nat → Nat} {ix : Nat → Int32} {rx : Nat → Nat → Int32} {am : Nat → Nat} {im : Nat → Int32} {rm : Nat → Nat → Int32} {lm : Nat → Int64} (hf : xZ ix) (hg : xZr rx) (hz : mZ im) (hn : nw s) (hK : va_K D vwCl (vT cy) s) {H : Heap} {locs : List Loc} (hPx : va_P D vwCl (xW cy ax ix rx (fun _ => none) (ax 20) (ax 12)) H) (hPm : va_P D vwCl (mW cy am im rm lm) H) (hDj : va_D (fun q : Nat => s.heap.size ≤ q) ((xW cy ax ix rx (fun _ => none) (ax 20) (ax 12)) ++ (mW cy am im rm lm))) (hS : va_S (fun q : Nat => s.heap.size ≤ q) s.heap H locs) {ls : Array Slot} (hl : lv_has ls 4 [(0, .ref b), (1, .ref (ax 0)), (2, .ref (am 0)), (3, .int 0)]) : W p l e room_1 s m #[Value.ref b] below meth c H locs 134 5936 (lw_Z below #[Value.ref b] s) (F0 m 1400 ls []) := by
  obtain ⟨hx, hb, hr, hml, hown, hts, hX, hbl, hlocks, hgv⟩ := id C0
  have hT : ∀ w ∈ gT, w.before _ s = true := fun w h => hts w (gT_in w h)
  have hA : ∀ q : Nat, s.heap.size ≤ q → (fun q : Nat => s.heap.size ≤ q) q := fun _ h => h
  have hbA : ¬ (fun q : Nat => s.heap.size ≤ q) b := Nat.not_le.mpr hbl
  have hDx := vaD_l hDj
  have hDm := vaD_r hDj
  refine lv_aload_n hx hb dL_law_1400 rfl (lv_at hl 1 rfl) ?_
  refine lv_aload_n hx hb dL_law_1401 rfl (lv_at hl 0 rfl) ?_
  refine lv_iload_n hx hb dL_law_1402 rfl (lv_at hl 3 rfl) ?_
  refine lv_iconst (v := 1) hx hb dL_law_1403 (by decide) ?_
  refine lv_iadd hx hb dL_law_1404 ?_
  refine lv_topi (fun v_1 ev_1 => ?_)
  obtain rfl : v_1 = 1 := ev_1.trans (by decide)
  refine va_sld hx hb hX hbl hbA hS (vp_inI (by decide) (by decide)) dL_law_1405 ?_
  refine lv_topi (fun v_2 ev_2 => ?_)
  obtain rfl : v_2 = xs 1 := ev_2
  refine lv_aload_n hx hb dL_law_1406 rfl (lv_at hl 0 rfl) ?_
  refine lv_iload_n hx hb dL_law_1407 rfl (lv_at hl 3 rfl) ?_
  refine lv_iconst (v := 2) hx hb dL_law_1408 (by decide) ?_
  refine lv_iadd hx hb dL_law_1409 ?_
  refine lv_topi (fun v_3 ev_3 => ?_)
  obtain rfl : v_3 = 2 := ev_3.trans (by decide)
  refine va_sld hx hb hX hbl hbA hS (vp_inI (by decide) (by decide)) dL_law_1410 ?_
  refine lv_topi (fun v_4 ev_4 => ?_)
  obtain rfl : v_4 = xs 2 := ev_4
  refine vp_callSi (W.runV (As := [.int (xs 1), .int (xs 2)]) (rest := []) ⟨hx, hb, hml, hown, hT⟩ (c_X11_byKind l D cy ax ix rx (fun _ => none) (xs 1) (xs 2) hf hg) (cwV 2 hT (gV t_566 t_567 t_568 t_569 t_2) rfl rfl rfl (by decide +kernel) ⟨Nat.le_of_ble_eq_true rfl, Nat.le_of_ble_eq_true rfl⟩) (rP_v hPx hK (va_recv hK hPx (ci := 11) (q0 := 0) rfl rfl)) rfl rfl hl.1 rfl (lv_room (Nat.le_of_ble_eq_true rfl)) dL_law_1411 ⟨Nat.le_of_ble_eq_true rfl, Nat.le_of_ble_eq_true rfl⟩) (fun r_5 hr_5 => ?_)
  refine lv_aload_n hx hb dL_law_1414 rfl (lv_at hl 2 rfl) ?_
  refine lv_aload_n hx hb dL_law_1415 rfl (lv_at hl 0 rfl) ?_
  refine lv_iload_n hx hb dL_law_1416 rfl (lv_at hl 3 rfl) ?_
  refine lv_iconst (v := 1) hx hb dL_law_1417 (by decide) ?_
  refine lv_iadd hx hb dL_law_1418 ?_
  refine lv_topi (fun v_6 ev_6 => ?_)
  obtain rfl : v_6 = 1 := ev_6.trans (by decide)
  refine va_sld hx hb hX hbl hbA hS (vp_inI (by decide) (by decide)) dL_law_1419 ?_
  refine lv_topi (fun v_7 ev_7 => ?_)
  obtain rfl : v_7 = xs 1 := ev_7
  refine lv_aload_n hx hb dL_law_1420 rfl (lv_at hl 0 rfl) ?_
  refine lv_iload_n hx hb dL_law_1421 rfl (lv_at hl 3 rfl) ?_
  refine lv_iconst (v := 2) hx hb dL_law_1422 (by decide) ?_
  refine lv_iadd hx hb dL_law_1423 ?_
  refine lv_topi (fun v_8 ev_8 => ?_)
  obtain rfl : v_8 = 2 := ev_8.trans (by decide)
  refine va_sld hx hb hX hbl hbA hS (vp_inI (by decide) (by decide)) dL_law_1424 ?_
  refine lv_topi (fun v_9 ev_9 => ?_)
  obtain rfl : v_9 = xs 2 := ev_9
  refine vp_callSi (W.runV (As := [.int (xs 1), .int (xs 2)]) (rest := [.int r_5]) ⟨hx, hb, hml, hown, hT⟩ (c_X12_byKind l D cy am im rm lm (xs 1) (xs 2) hz) (cwV 2 hT (gV t_570 t_571 t_572 t_573 t_8) rfl rfl rfl (by decide +kernel) ⟨Nat.le_of_ble_eq_true rfl, Nat.le_of_ble_eq_true rfl⟩) (rP_v hPm hK (va_recv hK hPm (ci := 12) (q0 := 0) rfl rfl)) rfl rfl hl.1 rfl (lv_room (Nat.le_of_ble_eq_true rfl)) dL_law_1425 ⟨Nat.le_of_ble_eq_true rfl, Nat.le_of_ble_eq_true rfl⟩) (fun r_10 hr_10 => ?_)
  refine lv_icmp_eq (tgt := 1525) hx hb dL_law_1428 (by decide) (fun _ => ?_) (fun c9 => absurd (BR_eq hr_5 hr_10) c9)
  exact lc_end C0 hS (lv_sub hl [0, 3] rfl) (Nat.le_of_ble_eq_true rfl) (Nat.le_of_ble_eq_true rfl)
set_option maxHeartbeats 4000000 in
set_option maxRecDepth 100000 in
theorem lc_29 {p : Program} {l : Launch} {e : Env} {s : State} {m : MethodId} {below : List Frame} {meth : Method} {c : Code} {b : Nat} {xs : Nat → Int32} (C0 : lw_At p s m meth c b 7 xs) {D : va_G} {cy : Nat → ClassId} {ax : Nat → Nat} {ix : Nat → Int32} {rx : Nat → Nat → Int32} {am : Nat → Nat} {im : Nat → Int32} {rm : Nat → Nat → Int32} {lm : Nat → Int64} (hf : xZ ix) (hg : xZr rx) (hz : mZ im) (hn : nw s) (hK : va_K D vwCl (vT cy) s) {H : Heap} {locs : List Loc} (hPx : va_P D vwCl (xW cy ax ix rx (fun _ => none) (ax 20) (ax 12)) H) (hPm : va_P D vwCl (mW cy am im rm lm) H) (hDj : va_D (fun q : Nat => s.heap.size ≤ q) ((xW cy ax ix rx (fun _ => none) (ax 20) (ax 12)) ++ (mW cy am im rm lm))) (hS : va_S (fun q : Nat => s.heap.size ≤ q) s.heap H locs) {ls : Array Slot} (hl : lv_has ls 4 [(0, .ref b), (1, .ref (ax 0)), (2, .ref (am 0)), (3, .int 0)]) : W p l e room_1 s m #[Value.ref b] below meth c H locs 134 5936 (lw_Z below #[Value.ref b] s) (F0 m 1433 ls []) := by
  obtain ⟨hx, hb, hr, hml, hown, hts, hX, hbl, hlocks, hgv⟩ := id C0
  have hT : ∀ w ∈ gT, w.before _ s = true := fun w h => hts w (gT_in w h)
  have hA : ∀ q : Nat, s.heap.size ≤ q → (fun q : Nat => s.heap.size ≤ q) q := fun _ h => h
  have hbA : ¬ (fun q : Nat => s.heap.size ≤ q) b := Nat.not_le.mpr hbl
  have hDx := vaD_l hDj
  have hDm := vaD_r hDj
  refine lv_aload_n hx hb dL_law_1433 rfl (lv_at hl 1 rfl) ?_
  have hFx := rF hDx hS hA
  refine va_calli (va_runV (As := []) (rest := []) ⟨hx, hb, hml, hown, hT⟩ (c_X11_keep l D cy ax ix rx (fun _ => none) _ hf hg) (cwV 0 hT (gV t_574 t_575 t_576 t_577 t_2) rfl rfl rfl (by decide +kernel) ⟨Nat.le_of_ble_eq_true rfl, Nat.le_of_ble_eq_true rfl⟩) (rQ_v hPx hK hDx (va_recv hK hPx (ci := 11) (q0 := 0) rfl rfl)) rfl rfl hl.1 rfl (lv_room (Nat.le_of_ble_eq_true rfl)) dL_law_1434 ⟨Nat.le_of_ble_eq_true rfl, Nat.le_of_ble_eq_true rfl⟩) hS (fun q _ h => hFx q h) hFx (fun r_1 u_2 t H1 locs ht hvm hr_1 hB hz1 hk1 hS => ?_)
  have hPm := rk hDj hPm hk1
  refine lv_aload_n hx hb dL_law_1437 rfl (lv_at hl 2 rfl) ?_
  have hFm := rF hDm hS hA
  refine va_calli (va_runV (As := []) (rest := [.int r_1]) ⟨hx, hb, hml, hown, hT⟩ (c_X12_keep l D cy am im rm lm _ hz) (cwV 0 hT (gV t_578 t_579 t_580 t_581 t_8) rfl rfl rfl (by decide +kernel) ⟨Nat.le_of_ble_eq_true rfl, Nat.le_of_ble_eq_true rfl⟩) (rQ_v hPm hK hDm (va_recv hK hPm (ci := 12) (q0 := 0) rfl rfl)) rfl rfl hl.1 rfl (lv_room (Nat.le_of_ble_eq_true rfl)) dL_law_1438 ⟨Nat.le_of_ble_eq_true rfl, Nat.le_of_ble_eq_true rfl⟩) hS (fun q _ h => hFm q h) hFm (fun r_3 u_4 t H1 locs ht hvm hr_3 hB hz1 hk1 hS => ?_)
  refine lv_icmp_eq (tgt := 1525) hx hb dL_law_1441 (by decide) (fun _ => ?_) (fun c9 => absurd (hr_1.trans hr_3.symm) c9)
  exact lc_end C0 hS (lv_sub hl [0, 3] rfl) (Nat.le_of_ble_eq_true rfl) (Nat.le_of_ble_eq_true rfl)
set_option maxHeartbeats 4000000 in
set_option maxRecDepth 100000 in
theorem lc_30 {p : Program} {l : Launch} {e : Env} {s : State} {m : MethodId} {below : List Frame} {meth : Method} {c : Code} {b : Nat} {xs : Nat → Int32} (C0 : lw_At p s m meth c b 7 xs) {D : va_G} {cy : Nat → ClassId} {ax : Nat → Nat} {ix : Nat → Int32} {rx : Nat → Nat → Int32} {am : Nat → Nat} {im : Nat → Int32} {rm : Nat → Nat → Int32} {lm : Nat → Int64} (hf : xZ ix) (hg : xZr rx) (hz : mZ im) (hn : nw s) (hK : va_K D vwCl (vT cy) s) {H : Heap} {locs : List Loc} (hPx : va_P D vwCl (xW cy ax ix rx (fun _ => none) (ax 20) (ax 12)) H) (hPm : va_P D vwCl (mW cy am im rm lm) H) (hDj : va_D (fun q : Nat => s.heap.size ≤ q) ((xW cy ax ix rx (fun _ => none) (ax 20) (ax 12)) ++ (mW cy am im rm lm))) (hS : va_S (fun q : Nat => s.heap.size ≤ q) s.heap H locs) {ls : Array Slot} (hl : lv_has ls 4 [(0, .ref b), (1, .ref (ax 0)), (2, .ref (am 0)), (3, .int 0)]) : W p l e room_1 s m #[Value.ref b] below meth c H locs 134 5936 (lw_Z below #[Value.ref b] s) (F0 m 1446 ls []) := by
  obtain ⟨hx, hb, hr, hml, hown, hts, hX, hbl, hlocks, hgv⟩ := id C0
  have hT : ∀ w ∈ gT, w.before _ s = true := fun w h => hts w (gT_in w h)
  have hA : ∀ q : Nat, s.heap.size ≤ q → (fun q : Nat => s.heap.size ≤ q) q := fun _ h => h
  have hbA : ¬ (fun q : Nat => s.heap.size ≤ q) b := Nat.not_le.mpr hbl
  have hDx := vaD_l hDj
  have hDm := vaD_r hDj
  refine lv_aload_n hx hb dL_law_1446 rfl (lv_at hl 1 rfl) ?_
  refine vp_callSi (W.runV (As := []) (rest := []) ⟨hx, hb, hml, hown, hT⟩ (c_X11_undo l D cy ax ix rx (fun _ => none) hf hg) (cwV 0 hT (gV t_582 t_583 t_584 t_585 t_2) rfl rfl rfl (by decide +kernel) ⟨Nat.le_of_ble_eq_true rfl, Nat.le_of_ble_eq_true rfl⟩) (rP_v hPx hK (va_recv hK hPx (ci := 11) (q0 := 0) rfl rfl)) rfl rfl hl.1 rfl (lv_room (Nat.le_of_ble_eq_true rfl)) dL_law_1447 ⟨Nat.le_of_ble_eq_true rfl, Nat.le_of_ble_eq_true rfl⟩) (fun r_1 hr_1 => ?_)
  refine lv_aload_n hx hb dL_law_1450 rfl (lv_at hl 2 rfl) ?_
  refine vp_callSi (W.runV (As := []) (rest := [.int r_1]) ⟨hx, hb, hml, hown, hT⟩ (c_X12_undo l D cy am im rm lm hz) (cwV 0 hT (gV t_586 t_587 t_588 t_589 t_8) rfl rfl rfl (by decide +kernel) ⟨Nat.le_of_ble_eq_true rfl, Nat.le_of_ble_eq_true rfl⟩) (rP_v hPm hK (va_recv hK hPm (ci := 12) (q0 := 0) rfl rfl)) rfl rfl hl.1 rfl (lv_room (Nat.le_of_ble_eq_true rfl)) dL_law_1451 ⟨Nat.le_of_ble_eq_true rfl, Nat.le_of_ble_eq_true rfl⟩) (fun r_2 hr_2 => ?_)
  refine lv_icmp_eq (tgt := 1525) hx hb dL_law_1454 (by decide) (fun _ => ?_) (fun c9 => absurd (hr_1.trans hr_2.symm) c9)
  exact lc_end C0 hS (lv_sub hl [0, 3] rfl) (Nat.le_of_ble_eq_true rfl) (Nat.le_of_ble_eq_true rfl)
set_option maxHeartbeats 4000000 in
set_option maxRecDepth 100000 in
theorem lc_31 {p : Program} {l : Launch} {e : Env} {s : State} {m : MethodId} {below : List Frame} {meth : Method} {c : Code} {b : Nat} {xs : Nat → Int32} (C0 : lw_At p s m meth c b 7 xs) {D : va_G} {cy : Nat → ClassId} {ax : Nat → Nat} {ix : Nat → Int32} {rx : Nat → Nat → Int32} {am : Nat → Nat} {im : Nat → Int32} {rm : Nat → Nat → Int32} {lm : Nat → Int64} (hf : xZ ix) (hg : xZr rx) (hz : mZ im) (hn : nw s) (hK : va_K D vwCl (vT cy) s) {H : Heap} {locs : List Loc} (hPx : va_P D vwCl (xW cy ax ix rx (fun _ => none) (ax 20) (ax 12)) H) (hPm : va_P D vwCl (mW cy am im rm lm) H) (hDj : va_D (fun q : Nat => s.heap.size ≤ q) ((xW cy ax ix rx (fun _ => none) (ax 20) (ax 12)) ++ (mW cy am im rm lm))) (hS : va_S (fun q : Nat => s.heap.size ≤ q) s.heap H locs) {ls : Array Slot} (hl : lv_has ls 4 [(0, .ref b), (1, .ref (ax 0)), (2, .ref (am 0)), (3, .int 0)]) : W p l e room_1 s m #[Value.ref b] below meth c H locs 134 5936 (lw_Z below #[Value.ref b] s) (F0 m 1459 ls []) := by
  obtain ⟨hx, hb, hr, hml, hown, hts, hX, hbl, hlocks, hgv⟩ := id C0
  have hT : ∀ w ∈ gT, w.before _ s = true := fun w h => hts w (gT_in w h)
  have hA : ∀ q : Nat, s.heap.size ≤ q → (fun q : Nat => s.heap.size ≤ q) q := fun _ h => h
  have hbA : ¬ (fun q : Nat => s.heap.size ≤ q) b := Nat.not_le.mpr hbl
  have hDx := vaD_l hDj
  have hDm := vaD_r hDj
  refine lv_aload_n hx hb dL_law_1459 rfl (lv_at hl 1 rfl) ?_
  refine lv_aload_n hx hb dL_law_1460 rfl (lv_at hl 0 rfl) ?_
  refine lv_iload_n hx hb dL_law_1461 rfl (lv_at hl 3 rfl) ?_
  refine lv_iconst (v := 1) hx hb dL_law_1462 (by decide) ?_
  refine lv_iadd hx hb dL_law_1463 ?_
  refine lv_topi (fun v_1 ev_1 => ?_)
  obtain rfl : v_1 = 1 := ev_1.trans (by decide)
  refine va_sld hx hb hX hbl hbA hS (vp_inI (by decide) (by decide)) dL_law_1464 ?_
  refine lv_topi (fun v_2 ev_2 => ?_)
  obtain rfl : v_2 = xs 1 := ev_2
  refine lv_aload_n hx hb dL_law_1465 rfl (lv_at hl 0 rfl) ?_
  refine lv_iload_n hx hb dL_law_1466 rfl (lv_at hl 3 rfl) ?_
  refine lv_iconst (v := 2) hx hb dL_law_1467 (by decide) ?_
  refine lv_iadd hx hb dL_law_1468 ?_
  refine lv_topi (fun v_3 ev_3 => ?_)
  obtain rfl : v_3 = 2 := ev_3.trans (by decide)
  refine va_sld hx hb hX hbl hbA hS (vp_inI (by decide) (by decide)) dL_law_1469 ?_
  refine lv_topi (fun v_4 ev_4 => ?_)
  obtain rfl : v_4 = xs 2 := ev_4
  refine lv_aload_n hx hb dL_law_1470 rfl (lv_at hl 0 rfl) ?_
  refine lv_iload_n hx hb dL_law_1471 rfl (lv_at hl 3 rfl) ?_
  refine lv_iconst (v := 3) hx hb dL_law_1472 (by decide) ?_
  refine lv_iadd hx hb dL_law_1473 ?_
  refine lv_topi (fun v_5 ev_5 => ?_)
  obtain rfl : v_5 = 3 := ev_5.trans (by decide)
  refine va_sld hx hb hX hbl hbA hS (vp_inI (by decide) (by decide)) dL_law_1474 ?_
  refine lv_topi (fun v_6 ev_6 => ?_)
  obtain rfl : v_6 = xs 3 := ev_6
  refine vp_callSi (W.runV (As := [.int (xs 1), .int (xs 2), .int (xs 3)]) (rest := []) ⟨hx, hb, hml, hown, hT⟩ (c_X11_check l D cy ax ix rx (fun _ => none) (xs 1) (xs 2) (xs 3) hf hg) (cwV 3 hT (gV t_590 t_591 t_592 t_593 t_2) rfl rfl rfl (by decide +kernel) ⟨Nat.le_of_ble_eq_true rfl, Nat.le_of_ble_eq_true rfl⟩) (rP_v hPx hK (va_recv hK hPx (ci := 11) (q0 := 0) rfl rfl)) rfl rfl hl.1 rfl (lv_room (Nat.le_of_ble_eq_true rfl)) dL_law_1475 ⟨Nat.le_of_ble_eq_true rfl, Nat.le_of_ble_eq_true rfl⟩) (fun r_7 hr_7 => ?_)
  refine lv_aload_n hx hb dL_law_1478 rfl (lv_at hl 2 rfl) ?_
  refine lv_aload_n hx hb dL_law_1479 rfl (lv_at hl 0 rfl) ?_
  refine lv_iload_n hx hb dL_law_1480 rfl (lv_at hl 3 rfl) ?_
  refine lv_iconst (v := 1) hx hb dL_law_1481 (by decide) ?_
  refine lv_iadd hx hb dL_law_1482 ?_
  refine lv_topi (fun v_8 ev_8 => ?_)
  obtain rfl : v_8 = 1 := ev_8.trans (by decide)
  refine va_sld hx hb hX hbl hbA hS (vp_inI (by decide) (by decide)) dL_law_1483 ?_
  refine lv_topi (fun v_9 ev_9 => ?_)
  obtain rfl : v_9 = xs 1 := ev_9
  refine lv_aload_n hx hb dL_law_1484 rfl (lv_at hl 0 rfl) ?_
  refine lv_iload_n hx hb dL_law_1485 rfl (lv_at hl 3 rfl) ?_
  refine lv_iconst (v := 2) hx hb dL_law_1486 (by decide) ?_
  refine lv_iadd hx hb dL_law_1487 ?_
  refine lv_topi (fun v_10 ev_10 => ?_)
  obtain rfl : v_10 = 2 := ev_10.trans (by decide)
  refine va_sld hx hb hX hbl hbA hS (vp_inI (by decide) (by decide)) dL_law_1488 ?_
  refine lv_topi (fun v_11 ev_11 => ?_)
  obtain rfl : v_11 = xs 2 := ev_11
  refine lv_aload_n hx hb dL_law_1489 rfl (lv_at hl 0 rfl) ?_
  refine lv_iload_n hx hb dL_law_1490 rfl (lv_at hl 3 rfl) ?_
  refine lv_iconst (v := 3) hx hb dL_law_1491 (by decide) ?_
  refine lv_iadd hx hb dL_law_1492 ?_
  refine lv_topi (fun v_12 ev_12 => ?_)
  obtain rfl : v_12 = 3 := ev_12.trans (by decide)
  refine va_sld hx hb hX hbl hbA hS (vp_inI (by decide) (by decide)) dL_law_1493 ?_
  refine lv_topi (fun v_13 ev_13 => ?_)
  obtain rfl : v_13 = xs 3 := ev_13
  refine vp_callSi (W.runV (As := [.int (xs 1), .int (xs 2), .int (xs 3)]) (rest := [.int r_7]) ⟨hx, hb, hml, hown, hT⟩ (c_X12_check l D cy am im rm lm (xs 1) (xs 2) (xs 3) hz) (cwV 3 hT (gV t_594 t_595 t_596 t_597 t_8) rfl rfl rfl (by decide +kernel) ⟨Nat.le_of_ble_eq_true rfl, Nat.le_of_ble_eq_true rfl⟩) (rP_v hPm hK (va_recv hK hPm (ci := 12) (q0 := 0) rfl rfl)) rfl rfl hl.1 rfl (lv_room (Nat.le_of_ble_eq_true rfl)) dL_law_1494 ⟨Nat.le_of_ble_eq_true rfl, Nat.le_of_ble_eq_true rfl⟩) (fun r_14 hr_14 => ?_)
  refine lv_icmp_eq (tgt := 1525) hx hb dL_law_1497 (by decide) (fun _ => ?_) (fun c9 => absurd (hr_7.trans hr_14.symm) c9)
  exact lc_end C0 hS (lv_sub hl [0, 3] rfl) (Nat.le_of_ble_eq_true rfl) (Nat.le_of_ble_eq_true rfl)
set_option maxHeartbeats 4000000 in
set_option maxRecDepth 100000 in
theorem lc_32 {p : Program} {l : Launch} {e : Env} {s : State} {m : MethodId} {below : List Frame} {meth : Method} {c : Code} {b : Nat} {xs : Nat → Int32} (C0 : lw_At p s m meth c b 7 xs) {D : va_G} {cy : Nat → ClassId} {ax : Nat → Nat} {ix : Nat → Int32} {rx : Nat → Nat → Int32} {am : Nat → Nat} {im : Nat → Int32} {rm : Nat → Nat → Int32} {lm : Nat → Int64} (hf : xZ ix) (hg : xZr rx) (hz : mZ im) (hn : nw s) (hK : va_K D vwCl (vT cy) s) {H : Heap} {locs : List Loc} (hPx : va_P D vwCl (xW cy ax ix rx (fun _ => none) (ax 20) (ax 12)) H) (hPm : va_P D vwCl (mW cy am im rm lm) H) (hDj : va_D (fun q : Nat => s.heap.size ≤ q) ((xW cy ax ix rx (fun _ => none) (ax 20) (ax 12)) ++ (mW cy am im rm lm))) (hS : va_S (fun q : Nat => s.heap.size ≤ q) s.heap H locs) {ls : Array Slot} (hl : lv_has ls 4 [(0, .ref b), (1, .ref (ax 0)), (2, .ref (am 0)), (3, .int 0)]) : W p l e room_1 s m #[Value.ref b] below meth c H locs 134 5936 (lw_Z below #[Value.ref b] s) (F0 m 1502 ls []) := by
  obtain ⟨hx, hb, hr, hml, hown, hts, hX, hbl, hlocks, hgv⟩ := id C0
  have hT : ∀ w ∈ gT, w.before _ s = true := fun w h => hts w (gT_in w h)
  have hA : ∀ q : Nat, s.heap.size ≤ q → (fun q : Nat => s.heap.size ≤ q) q := fun _ h => h
  have hbA : ¬ (fun q : Nat => s.heap.size ≤ q) b := Nat.not_le.mpr hbl
  have hDx := vaD_l hDj
  have hDm := vaD_r hDj
  refine lv_aload_n hx hb dL_law_1502 rfl (lv_at hl 1 rfl) ?_
  refine lv_aload_n hx hb dL_law_1503 rfl (lv_at hl 0 rfl) ?_
  refine lv_iload_n hx hb dL_law_1504 rfl (lv_at hl 3 rfl) ?_
  refine lv_iconst (v := 1) hx hb dL_law_1505 (by decide) ?_
  refine lv_iadd hx hb dL_law_1506 ?_
  refine lv_topi (fun v_1 ev_1 => ?_)
  obtain rfl : v_1 = 1 := ev_1.trans (by decide)
  refine va_sld hx hb hX hbl hbA hS (vp_inI (by decide) (by decide)) dL_law_1507 ?_
  refine lv_topi (fun v_2 ev_2 => ?_)
  obtain rfl : v_2 = xs 1 := ev_2
  refine vp_callSi (W.runV (As := [.int (xs 1)]) (rest := []) ⟨hx, hb, hml, hown, hT⟩ (c_X11_count l D cy ax ix rx (fun _ => none) (xs 1) hf hg) (cwV 1 hT (gV t_598 t_599 t_600 t_601 t_2) rfl rfl rfl (by decide +kernel) ⟨Nat.le_of_ble_eq_true rfl, Nat.le_of_ble_eq_true rfl⟩) (rP_v hPx hK (va_recv hK hPx (ci := 11) (q0 := 0) rfl rfl)) rfl rfl hl.1 rfl (lv_room (Nat.le_of_ble_eq_true rfl)) dL_law_1508 ⟨Nat.le_of_ble_eq_true rfl, Nat.le_of_ble_eq_true rfl⟩) (fun r_3 hr_3 => ?_)
  refine lv_aload_n hx hb dL_law_1511 rfl (lv_at hl 2 rfl) ?_
  refine lv_aload_n hx hb dL_law_1512 rfl (lv_at hl 0 rfl) ?_
  refine lv_iload_n hx hb dL_law_1513 rfl (lv_at hl 3 rfl) ?_
  refine lv_iconst (v := 1) hx hb dL_law_1514 (by decide) ?_
  refine lv_iadd hx hb dL_law_1515 ?_
  refine lv_topi (fun v_4 ev_4 => ?_)
  obtain rfl : v_4 = 1 := ev_4.trans (by decide)
  refine va_sld hx hb hX hbl hbA hS (vp_inI (by decide) (by decide)) dL_law_1516 ?_
  refine lv_topi (fun v_5 ev_5 => ?_)
  obtain rfl : v_5 = xs 1 := ev_5
  refine vp_callSi (W.runV (As := [.int (xs 1)]) (rest := [.int r_3]) ⟨hx, hb, hml, hown, hT⟩ (c_X12_count l D cy am im rm lm (xs 1) hz) (cwV 1 hT (gV t_602 t_603 t_604 t_605 t_8) rfl rfl rfl (by decide +kernel) ⟨Nat.le_of_ble_eq_true rfl, Nat.le_of_ble_eq_true rfl⟩) (rP_v hPm hK (va_recv hK hPm (ci := 12) (q0 := 0) rfl rfl)) rfl rfl hl.1 rfl (lv_room (Nat.le_of_ble_eq_true rfl)) dL_law_1517 ⟨Nat.le_of_ble_eq_true rfl, Nat.le_of_ble_eq_true rfl⟩) (fun r_6 hr_6 => ?_)
  refine lv_icmp_eq (tgt := 1525) hx hb dL_law_1520 (by decide) (fun _ => ?_) (fun c9 => absurd (CNT_eq hr_3 hr_6) c9)
  exact lc_end C0 hS (lv_sub hl [0, 3] rfl) (Nat.le_of_ble_eq_true rfl) (Nat.le_of_ble_eq_true rfl)
