set_option maxRecDepth 100000 in
theorem t_933 : Cond.code yX12_part cX12_part 4 (some .boolean) ∈ gT := tm (tb6 (List.mem_of_getElem? (i := 18) (by rfl))) (by decide +kernel)
set_option maxRecDepth 100000 in
theorem t_934 : Cond.methodLink RL 31 yX12_part ∈ gT := tm (tb6 (List.mem_of_getElem? (i := 15) (by rfl))) (by decide +kernel)
set_option maxRecDepth 100000 in
theorem t_935 : Cond.instanceMethod yX12_part ∈ gT := tm (tb6 (List.mem_of_getElem? (i := 16) (by rfl))) (by decide +kernel)
set_option maxRecDepth 100000 in
theorem t_936 : Cond.selects RX12 yX12_part yX12_part ∈ gT := tm (tb6 (List.mem_of_getElem? (i := 17) (by rfl))) (by decide +kernel)
set_option maxRecDepth 100000 in
theorem t_937 : Cond.code yX11_part cX11_part 5 (some .boolean) ∈ gT := tm (tb2 (List.mem_of_getElem? (i := 165) (by rfl))) (by decide +kernel)
set_option maxRecDepth 100000 in
theorem t_938 : Cond.methodLink RL 28 yX11_part ∈ gT := tm (tb2 (List.mem_of_getElem? (i := 162) (by rfl))) (by decide +kernel)
set_option maxRecDepth 100000 in
theorem t_939 : Cond.instanceMethod yX11_part ∈ gT := tm (tb2 (List.mem_of_getElem? (i := 163) (by rfl))) (by decide +kernel)
set_option maxRecDepth 100000 in
theorem t_940 : Cond.selects RX11 yX11_part yX11_part ∈ gT := tm (tb2 (List.mem_of_getElem? (i := 164) (by rfl))) (by decide +kernel)
set_option maxRecDepth 100000 in
theorem t_941 : Cond.code yX12_owes cX12_owes 4 (some .boolean) ∈ gT := tm (tb6 (List.mem_of_getElem? (i := 26) (by rfl))) (by decide +kernel)
set_option maxRecDepth 100000 in
theorem t_942 : Cond.methodLink RL 35 yX12_owes ∈ gT := tm (tb6 (List.mem_of_getElem? (i := 23) (by rfl))) (by decide +kernel)
set_option maxRecDepth 100000 in
theorem t_943 : Cond.instanceMethod yX12_owes ∈ gT := tm (tb6 (List.mem_of_getElem? (i := 24) (by rfl))) (by decide +kernel)
set_option maxRecDepth 100000 in
theorem t_944 : Cond.selects RX12 yX12_owes yX12_owes ∈ gT := tm (tb6 (List.mem_of_getElem? (i := 25) (by rfl))) (by decide +kernel)
set_option maxRecDepth 100000 in
theorem t_945 : Cond.code yX11_owes cX11_owes 5 (some .boolean) ∈ gT := tm (tb2 (List.mem_of_getElem? (i := 173) (by rfl))) (by decide +kernel)
set_option maxRecDepth 100000 in
theorem t_946 : Cond.methodLink RL 32 yX11_owes ∈ gT := tm (tb2 (List.mem_of_getElem? (i := 170) (by rfl))) (by decide +kernel)
set_option maxRecDepth 100000 in
theorem t_947 : Cond.instanceMethod yX11_owes ∈ gT := tm (tb2 (List.mem_of_getElem? (i := 171) (by rfl))) (by decide +kernel)
set_option maxRecDepth 100000 in
theorem t_948 : Cond.selects RX11 yX11_owes yX11_owes ∈ gT := tm (tb2 (List.mem_of_getElem? (i := 172) (by rfl))) (by decide +kernel)
set_option maxRecDepth 100000 in
theorem t_949 : Cond.code yX12_first cX12_first 7 (some .int) ∈ gT := tm (tb6 (List.mem_of_getElem? (i := 30) (by rfl))) (by decide +kernel)
set_option maxRecDepth 100000 in
theorem t_950 : Cond.methodLink RL 40 yX12_first ∈ gT := tm (tb6 (List.mem_of_getElem? (i := 27) (by rfl))) (by decide +kernel)
set_option maxRecDepth 100000 in
theorem t_951 : Cond.instanceMethod yX12_first ∈ gT := tm (tb6 (List.mem_of_getElem? (i := 28) (by rfl))) (by decide +kernel)
set_option maxRecDepth 100000 in
theorem t_952 : Cond.selects RX12 yX12_first yX12_first ∈ gT := tm (tb6 (List.mem_of_getElem? (i := 29) (by rfl))) (by decide +kernel)
set_option maxRecDepth 100000 in
theorem t_953 : Cond.code yX11_first cX11_first 7 (some .int) ∈ gT := tm (tb2 (List.mem_of_getElem? (i := 177) (by rfl))) (by decide +kernel)
set_option maxRecDepth 100000 in
theorem t_954 : Cond.methodLink RL 36 yX11_first ∈ gT := tm (tb2 (List.mem_of_getElem? (i := 174) (by rfl))) (by decide +kernel)
set_option maxRecDepth 100000 in
theorem t_955 : Cond.instanceMethod yX11_first ∈ gT := tm (tb2 (List.mem_of_getElem? (i := 175) (by rfl))) (by decide +kernel)
set_option maxRecDepth 100000 in
theorem t_956 : Cond.selects RX11 yX11_first yX11_first ∈ gT := tm (tb2 (List.mem_of_getElem? (i := 176) (by rfl))) (by decide +kernel)
set_option maxRecDepth 100000 in
theorem t_957 : Cond.code yX12_last cX12_last 6 (some .int) ∈ gT := tm (tb6 (List.mem_of_getElem? (i := 37) (by rfl))) (by decide +kernel)
set_option maxRecDepth 100000 in
theorem t_958 : Cond.methodLink RL 45 yX12_last ∈ gT := tm (tb6 (List.mem_of_getElem? (i := 34) (by rfl))) (by decide +kernel)
set_option maxRecDepth 100000 in
theorem t_959 : Cond.instanceMethod yX12_last ∈ gT := tm (tb6 (List.mem_of_getElem? (i := 35) (by rfl))) (by decide +kernel)
set_option maxRecDepth 100000 in
theorem t_960 : Cond.selects RX12 yX12_last yX12_last ∈ gT := tm (tb6 (List.mem_of_getElem? (i := 36) (by rfl))) (by decide +kernel)
set_option maxRecDepth 100000 in
theorem t_961 : Cond.code yX11_last cX11_last 6 (some .int) ∈ gT := tm (tb2 (List.mem_of_getElem? (i := 216) (by rfl))) (by decide +kernel)
set_option maxRecDepth 100000 in
theorem t_962 : Cond.methodLink RL 41 yX11_last ∈ gT := tm (tb2 (List.mem_of_getElem? (i := 213) (by rfl))) (by decide +kernel)
set_option maxRecDepth 100000 in
theorem t_963 : Cond.instanceMethod yX11_last ∈ gT := tm (tb2 (List.mem_of_getElem? (i := 214) (by rfl))) (by decide +kernel)
set_option maxRecDepth 100000 in
theorem t_964 : Cond.selects RX11 yX11_last yX11_last ∈ gT := tm (tb2 (List.mem_of_getElem? (i := 215) (by rfl))) (by decide +kernel)
set_option maxRecDepth 100000 in
theorem t_965 : Cond.code yX11_feed cX11_feed 6 (some .int) ∈ gT := tm (tb2 (List.mem_of_getElem? (i := 220) (by rfl))) (by decide +kernel)
set_option maxRecDepth 100000 in
theorem t_966 : Cond.methodLink RL 46 yX11_feed ∈ gT := tm (tb2 (List.mem_of_getElem? (i := 217) (by rfl))) (by decide +kernel)
set_option maxRecDepth 100000 in
theorem t_967 : Cond.instanceMethod yX11_feed ∈ gT := tm (tb2 (List.mem_of_getElem? (i := 218) (by rfl))) (by decide +kernel)
set_option maxRecDepth 100000 in
theorem t_968 : Cond.selects RX11 yX11_feed yX11_feed ∈ gT := tm (tb2 (List.mem_of_getElem? (i := 219) (by rfl))) (by decide +kernel)
set_option maxRecDepth 100000 in
theorem t_969 : Cond.code yX12_feed cX12_feed 6 (some .int) ∈ gT := tm (tb6 (List.mem_of_getElem? (i := 41) (by rfl))) (by decide +kernel)
set_option maxRecDepth 100000 in
theorem t_970 : Cond.methodLink RL 49 yX12_feed ∈ gT := tm (tb6 (List.mem_of_getElem? (i := 38) (by rfl))) (by decide +kernel)
set_option maxRecDepth 100000 in
theorem t_971 : Cond.instanceMethod yX12_feed ∈ gT := tm (tb6 (List.mem_of_getElem? (i := 39) (by rfl))) (by decide +kernel)
set_option maxRecDepth 100000 in
theorem t_972 : Cond.selects RX12 yX12_feed yX12_feed ∈ gT := tm (tb6 (List.mem_of_getElem? (i := 40) (by rfl))) (by decide +kernel)
set_option maxRecDepth 100000 in
theorem t_973 : Cond.code yX12_thing cX12_thing 4 (some .int) ∈ gT := tm (tb6 (List.mem_of_getElem? (i := 132) (by rfl))) (by decide +kernel)
set_option maxRecDepth 100000 in
theorem t_974 : Cond.methodLink RL 59 yX12_thing ∈ gT := tm (tb6 (List.mem_of_getElem? (i := 129) (by rfl))) (by decide +kernel)
set_option maxRecDepth 100000 in
theorem t_975 : Cond.instanceMethod yX12_thing ∈ gT := tm (tb6 (List.mem_of_getElem? (i := 130) (by rfl))) (by decide +kernel)
set_option maxRecDepth 100000 in
theorem t_976 : Cond.selects RX12 yX12_thing yX12_thing ∈ gT := tm (tb6 (List.mem_of_getElem? (i := 131) (by rfl))) (by decide +kernel)
set_option maxRecDepth 100000 in
theorem t_977 : Cond.code yX11_thing cX11_thing 5 (some .int) ∈ gT := tm (tb3 (List.mem_of_getElem? (i := 157) (by rfl))) (by decide +kernel)
set_option maxRecDepth 100000 in
theorem t_978 : Cond.methodLink RL 55 yX11_thing ∈ gT := tm (tb3 (List.mem_of_getElem? (i := 154) (by rfl))) (by decide +kernel)
set_option maxRecDepth 100000 in
theorem t_979 : Cond.instanceMethod yX11_thing ∈ gT := tm (tb3 (List.mem_of_getElem? (i := 155) (by rfl))) (by decide +kernel)
set_option maxRecDepth 100000 in
theorem t_980 : Cond.selects RX11 yX11_thing yX11_thing ∈ gT := tm (tb3 (List.mem_of_getElem? (i := 156) (by rfl))) (by decide +kernel)
set_option maxRecDepth 100000 in
theorem t_981 : Cond.code yX12_isNew cX12_isNew 3 (some .int) ∈ gT := tm (tb6 (List.mem_of_getElem? (i := 211) (by rfl))) (by decide +kernel)
set_option maxRecDepth 100000 in
theorem t_982 : Cond.methodLink RL 64 yX12_isNew ∈ gT := tm (tb6 (List.mem_of_getElem? (i := 208) (by rfl))) (by decide +kernel)
set_option maxRecDepth 100000 in
theorem t_983 : Cond.instanceMethod yX12_isNew ∈ gT := tm (tb6 (List.mem_of_getElem? (i := 209) (by rfl))) (by decide +kernel)
set_option maxRecDepth 100000 in
theorem t_984 : Cond.selects RX12 yX12_isNew yX12_isNew ∈ gT := tm (tb6 (List.mem_of_getElem? (i := 210) (by rfl))) (by decide +kernel)
set_option maxRecDepth 100000 in
theorem t_985 : Cond.code yX11_isNew cX11_isNew 4 (some .int) ∈ gT := tm (tb3 (List.mem_of_getElem? (i := 217) (by rfl))) (by decide +kernel)
set_option maxRecDepth 100000 in
theorem t_986 : Cond.methodLink RL 60 yX11_isNew ∈ gT := tm (tb3 (List.mem_of_getElem? (i := 214) (by rfl))) (by decide +kernel)
set_option maxRecDepth 100000 in
theorem t_987 : Cond.instanceMethod yX11_isNew ∈ gT := tm (tb3 (List.mem_of_getElem? (i := 215) (by rfl))) (by decide +kernel)
set_option maxRecDepth 100000 in
theorem t_988 : Cond.selects RX11 yX11_isNew yX11_isNew ∈ gT := tm (tb3 (List.mem_of_getElem? (i := 216) (by rfl))) (by decide +kernel)
set_option maxRecDepth 100000 in
theorem t_989 : Cond.code yX12_led cX12_led 4 (some .int) ∈ gT := tm (tb6 (List.mem_of_getElem? (i := 215) (by rfl))) (by decide +kernel)
set_option maxRecDepth 100000 in
theorem t_990 : Cond.methodLink RL 68 yX12_led ∈ gT := tm (tb6 (List.mem_of_getElem? (i := 212) (by rfl))) (by decide +kernel)
set_option maxRecDepth 100000 in
theorem t_991 : Cond.instanceMethod yX12_led ∈ gT := tm (tb6 (List.mem_of_getElem? (i := 213) (by rfl))) (by decide +kernel)
set_option maxRecDepth 100000 in
theorem t_992 : Cond.selects RX12 yX12_led yX12_led ∈ gT := tm (tb6 (List.mem_of_getElem? (i := 214) (by rfl))) (by decide +kernel)
set_option maxRecDepth 100000 in
theorem t_993 : Cond.code yX11_led cX11_led 5 (some .int) ∈ gT := tm (tb3 (List.mem_of_getElem? (i := 225) (by rfl))) (by decide +kernel)
set_option maxRecDepth 100000 in
theorem t_994 : Cond.methodLink RL 65 yX11_led ∈ gT := tm (tb3 (List.mem_of_getElem? (i := 222) (by rfl))) (by decide +kernel)
set_option maxRecDepth 100000 in
theorem t_995 : Cond.instanceMethod yX11_led ∈ gT := tm (tb3 (List.mem_of_getElem? (i := 223) (by rfl))) (by decide +kernel)
set_option maxRecDepth 100000 in
theorem t_996 : Cond.selects RX11 yX11_led yX11_led ∈ gT := tm (tb3 (List.mem_of_getElem? (i := 224) (by rfl))) (by decide +kernel)
set_option maxRecDepth 100000 in
theorem t_997 : Cond.code yX12_claim cX12_claim 7 (some .int) ∈ gT := tm (tb6 (List.mem_of_getElem? (i := 219) (by rfl))) (by decide +kernel)
set_option maxRecDepth 100000 in
theorem t_998 : Cond.methodLink RL 72 yX12_claim ∈ gT := tm (tb6 (List.mem_of_getElem? (i := 216) (by rfl))) (by decide +kernel)
set_option maxRecDepth 100000 in
theorem t_999 : Cond.instanceMethod yX12_claim ∈ gT := tm (tb6 (List.mem_of_getElem? (i := 217) (by rfl))) (by decide +kernel)
set_option maxRecDepth 100000 in
theorem t_1000 : Cond.selects RX12 yX12_claim yX12_claim ∈ gT := tm (tb6 (List.mem_of_getElem? (i := 218) (by rfl))) (by decide +kernel)
set_option maxRecDepth 100000 in
theorem t_1001 : Cond.code yX11_claim cX11_claim 7 (some .int) ∈ gT := tm (tb3 (List.mem_of_getElem? (i := 229) (by rfl))) (by decide +kernel)
set_option maxRecDepth 100000 in
theorem t_1002 : Cond.methodLink RL 69 yX11_claim ∈ gT := tm (tb3 (List.mem_of_getElem? (i := 226) (by rfl))) (by decide +kernel)
set_option maxRecDepth 100000 in
theorem t_1003 : Cond.instanceMethod yX11_claim ∈ gT := tm (tb3 (List.mem_of_getElem? (i := 227) (by rfl))) (by decide +kernel)
set_option maxRecDepth 100000 in
theorem t_1004 : Cond.selects RX11 yX11_claim yX11_claim ∈ gT := tm (tb3 (List.mem_of_getElem? (i := 228) (by rfl))) (by decide +kernel)
set_option maxRecDepth 100000 in
theorem t_1005 : Cond.code yX11_agree cX11_agree 3 (some .boolean) ∈ gT := tm (tb4 (List.mem_of_getElem? (i := 4) (by rfl))) (by decide +kernel)
set_option maxRecDepth 100000 in
theorem t_1006 : Cond.methodLink RL 73 yX11_agree ∈ gT := tm (tb4 (List.mem_of_getElem? (i := 1) (by rfl))) (by decide +kernel)
set_option maxRecDepth 100000 in
theorem t_1007 : Cond.instanceMethod yX11_agree ∈ gT := tm (tb4 (List.mem_of_getElem? (i := 2) (by rfl))) (by decide +kernel)
set_option maxRecDepth 100000 in
theorem t_1008 : Cond.selects RX11 yX11_agree yX11_agree ∈ gT := tm (tb4 (List.mem_of_getElem? (i := 3) (by rfl))) (by decide +kernel)
set_option maxRecDepth 100000 in
theorem t_1009 : Cond.code yX12_agree cX12_agree 3 (some .boolean) ∈ gT := tm (tb6 (List.mem_of_getElem? (i := 226) (by rfl))) (by decide +kernel)
set_option maxRecDepth 100000 in
theorem t_1010 : Cond.methodLink RL 76 yX12_agree ∈ gT := tm (tb6 (List.mem_of_getElem? (i := 223) (by rfl))) (by decide +kernel)
set_option maxRecDepth 100000 in
theorem t_1011 : Cond.instanceMethod yX12_agree ∈ gT := tm (tb6 (List.mem_of_getElem? (i := 224) (by rfl))) (by decide +kernel)
set_option maxRecDepth 100000 in
theorem t_1012 : Cond.selects RX12 yX12_agree yX12_agree ∈ gT := tm (tb6 (List.mem_of_getElem? (i := 225) (by rfl))) (by decide +kernel)
def dl_549 : List (Nat × (Instr × Nat)) := [(347, (.aload_n 1, 1)), (348, (.aload_n 0, 1)), (349, (.iload_n 3, 1)), (350, (.iconst 1, 1)), (351, (.iadd, 1)), (352, (.iaload, 1)), (353, (.aload_n 0, 1)), (354, (.iload_n 3, 1)), (355, (.iconst 2, 1)), (356, (.iadd, 1)), (357, (.iaload, 1)), (358, (.aload_n 0, 1)), (359, (.iload_n 3, 1)), (360, (.iconst 3, 1)), (361, (.iadd, 1)), (362, (.iaload, 1)), (363, (.invokevirtual 28, 3)), (366, (.pop, 1)), (367, (.aload_n 2, 1)), (368, (.aload_n 0, 1))]
theorem dh_549 : dchk cL_law dl_549 = true := by decide +kernel
theorem dL_law_347 : decode cL_law 347 = .ok (.aload_n 1, 1) := dget dh_549 (k := 0) rfl
theorem dL_law_348 : decode cL_law 348 = .ok (.aload_n 0, 1) := dget dh_549 (k := 1) rfl
theorem dL_law_349 : decode cL_law 349 = .ok (.iload_n 3, 1) := dget dh_549 (k := 2) rfl
theorem dL_law_350 : decode cL_law 350 = .ok (.iconst 1, 1) := dget dh_549 (k := 3) rfl
theorem dL_law_351 : decode cL_law 351 = .ok (.iadd, 1) := dget dh_549 (k := 4) rfl
theorem dL_law_352 : decode cL_law 352 = .ok (.iaload, 1) := dget dh_549 (k := 5) rfl
theorem dL_law_353 : decode cL_law 353 = .ok (.aload_n 0, 1) := dget dh_549 (k := 6) rfl
theorem dL_law_354 : decode cL_law 354 = .ok (.iload_n 3, 1) := dget dh_549 (k := 7) rfl
theorem dL_law_355 : decode cL_law 355 = .ok (.iconst 2, 1) := dget dh_549 (k := 8) rfl
theorem dL_law_356 : decode cL_law 356 = .ok (.iadd, 1) := dget dh_549 (k := 9) rfl
theorem dL_law_357 : decode cL_law 357 = .ok (.iaload, 1) := dget dh_549 (k := 10) rfl
theorem dL_law_358 : decode cL_law 358 = .ok (.aload_n 0, 1) := dget dh_549 (k := 11) rfl
theorem dL_law_359 : decode cL_law 359 = .ok (.iload_n 3, 1) := dget dh_549 (k := 12) rfl
theorem dL_law_360 : decode cL_law 360 = .ok (.iconst 3, 1) := dget dh_549 (k := 13) rfl
theorem dL_law_361 : decode cL_law 361 = .ok (.iadd, 1) := dget dh_549 (k := 14) rfl
theorem dL_law_362 : decode cL_law 362 = .ok (.iaload, 1) := dget dh_549 (k := 15) rfl
theorem dL_law_363 : decode cL_law 363 = .ok (.invokevirtual 28, 3) := dget dh_549 (k := 16) rfl
theorem dL_law_366 : decode cL_law 366 = .ok (.pop, 1) := dget dh_549 (k := 17) rfl
theorem dL_law_367 : decode cL_law 367 = .ok (.aload_n 2, 1) := dget dh_549 (k := 18) rfl
theorem dL_law_368 : decode cL_law 368 = .ok (.aload_n 0, 1) := dget dh_549 (k := 19) rfl
def dl_550 : List (Nat × (Instr × Nat)) := [(369, (.iload_n 3, 1)), (370, (.iconst 1, 1)), (371, (.iadd, 1)), (372, (.iaload, 1)), (373, (.aload_n 0, 1)), (374, (.iload_n 3, 1)), (375, (.iconst 2, 1)), (376, (.iadd, 1)), (377, (.iaload, 1)), (378, (.aload_n 0, 1)), (379, (.iload_n 3, 1)), (380, (.iconst 3, 1)), (381, (.iadd, 1)), (382, (.iaload, 1)), (383, (.invokevirtual 31, 3)), (386, (.pop, 1)), (387, (.goto 1138, 3)), (390, (.aload_n 1, 1)), (391, (.aload_n 0, 1)), (392, (.iload_n 3, 1))]
theorem dh_550 : dchk cL_law dl_550 = true := by decide +kernel
theorem dL_law_369 : decode cL_law 369 = .ok (.iload_n 3, 1) := dget dh_550 (k := 0) rfl
theorem dL_law_370 : decode cL_law 370 = .ok (.iconst 1, 1) := dget dh_550 (k := 1) rfl
theorem dL_law_371 : decode cL_law 371 = .ok (.iadd, 1) := dget dh_550 (k := 2) rfl
theorem dL_law_372 : decode cL_law 372 = .ok (.iaload, 1) := dget dh_550 (k := 3) rfl
theorem dL_law_373 : decode cL_law 373 = .ok (.aload_n 0, 1) := dget dh_550 (k := 4) rfl
theorem dL_law_374 : decode cL_law 374 = .ok (.iload_n 3, 1) := dget dh_550 (k := 5) rfl
theorem dL_law_375 : decode cL_law 375 = .ok (.iconst 2, 1) := dget dh_550 (k := 6) rfl
theorem dL_law_376 : decode cL_law 376 = .ok (.iadd, 1) := dget dh_550 (k := 7) rfl
theorem dL_law_377 : decode cL_law 377 = .ok (.iaload, 1) := dget dh_550 (k := 8) rfl
theorem dL_law_378 : decode cL_law 378 = .ok (.aload_n 0, 1) := dget dh_550 (k := 9) rfl
theorem dL_law_379 : decode cL_law 379 = .ok (.iload_n 3, 1) := dget dh_550 (k := 10) rfl
theorem dL_law_380 : decode cL_law 380 = .ok (.iconst 3, 1) := dget dh_550 (k := 11) rfl
theorem dL_law_381 : decode cL_law 381 = .ok (.iadd, 1) := dget dh_550 (k := 12) rfl
theorem dL_law_382 : decode cL_law 382 = .ok (.iaload, 1) := dget dh_550 (k := 13) rfl
theorem dL_law_383 : decode cL_law 383 = .ok (.invokevirtual 31, 3) := dget dh_550 (k := 14) rfl
theorem dL_law_386 : decode cL_law 386 = .ok (.pop, 1) := dget dh_550 (k := 15) rfl
theorem dL_law_387 : decode cL_law 387 = .ok (.goto 1138, 3) := dget dh_550 (k := 16) rfl
theorem dL_law_390 : decode cL_law 390 = .ok (.aload_n 1, 1) := dget dh_550 (k := 17) rfl
theorem dL_law_391 : decode cL_law 391 = .ok (.aload_n 0, 1) := dget dh_550 (k := 18) rfl
theorem dL_law_392 : decode cL_law 392 = .ok (.iload_n 3, 1) := dget dh_550 (k := 19) rfl
def dl_551 : List (Nat × (Instr × Nat)) := [(393, (.iconst 1, 1)), (394, (.iadd, 1)), (395, (.iaload, 1)), (396, (.aload_n 0, 1)), (397, (.iload_n 3, 1)), (398, (.iconst 2, 1)), (399, (.iadd, 1)), (400, (.iaload, 1)), (401, (.aload_n 0, 1)), (402, (.iload_n 3, 1)), (403, (.iconst 3, 1)), (404, (.iadd, 1)), (405, (.iaload, 1)), (406, (.invokevirtual 32, 3)), (409, (.pop, 1)), (410, (.aload_n 2, 1)), (411, (.aload_n 0, 1)), (412, (.iload_n 3, 1)), (413, (.iconst 1, 1)), (414, (.iadd, 1))]
theorem dh_551 : dchk cL_law dl_551 = true := by decide +kernel
theorem dL_law_393 : decode cL_law 393 = .ok (.iconst 1, 1) := dget dh_551 (k := 0) rfl
theorem dL_law_394 : decode cL_law 394 = .ok (.iadd, 1) := dget dh_551 (k := 1) rfl
theorem dL_law_395 : decode cL_law 395 = .ok (.iaload, 1) := dget dh_551 (k := 2) rfl
theorem dL_law_396 : decode cL_law 396 = .ok (.aload_n 0, 1) := dget dh_551 (k := 3) rfl
theorem dL_law_397 : decode cL_law 397 = .ok (.iload_n 3, 1) := dget dh_551 (k := 4) rfl
theorem dL_law_398 : decode cL_law 398 = .ok (.iconst 2, 1) := dget dh_551 (k := 5) rfl
theorem dL_law_399 : decode cL_law 399 = .ok (.iadd, 1) := dget dh_551 (k := 6) rfl
theorem dL_law_400 : decode cL_law 400 = .ok (.iaload, 1) := dget dh_551 (k := 7) rfl
theorem dL_law_401 : decode cL_law 401 = .ok (.aload_n 0, 1) := dget dh_551 (k := 8) rfl
theorem dL_law_402 : decode cL_law 402 = .ok (.iload_n 3, 1) := dget dh_551 (k := 9) rfl
theorem dL_law_403 : decode cL_law 403 = .ok (.iconst 3, 1) := dget dh_551 (k := 10) rfl
theorem dL_law_404 : decode cL_law 404 = .ok (.iadd, 1) := dget dh_551 (k := 11) rfl
theorem dL_law_405 : decode cL_law 405 = .ok (.iaload, 1) := dget dh_551 (k := 12) rfl
theorem dL_law_406 : decode cL_law 406 = .ok (.invokevirtual 32, 3) := dget dh_551 (k := 13) rfl
theorem dL_law_409 : decode cL_law 409 = .ok (.pop, 1) := dget dh_551 (k := 14) rfl
theorem dL_law_410 : decode cL_law 410 = .ok (.aload_n 2, 1) := dget dh_551 (k := 15) rfl
theorem dL_law_411 : decode cL_law 411 = .ok (.aload_n 0, 1) := dget dh_551 (k := 16) rfl
theorem dL_law_412 : decode cL_law 412 = .ok (.iload_n 3, 1) := dget dh_551 (k := 17) rfl
theorem dL_law_413 : decode cL_law 413 = .ok (.iconst 1, 1) := dget dh_551 (k := 18) rfl
theorem dL_law_414 : decode cL_law 414 = .ok (.iadd, 1) := dget dh_551 (k := 19) rfl
def dl_552 : List (Nat × (Instr × Nat)) := [(415, (.iaload, 1)), (416, (.aload_n 0, 1)), (417, (.iload_n 3, 1)), (418, (.iconst 2, 1)), (419, (.iadd, 1)), (420, (.iaload, 1)), (421, (.aload_n 0, 1)), (422, (.iload_n 3, 1)), (423, (.iconst 3, 1)), (424, (.iadd, 1)), (425, (.iaload, 1)), (426, (.invokevirtual 35, 3)), (429, (.pop, 1)), (430, (.goto 1095, 3)), (433, (.aload_n 1, 1)), (434, (.aload_n 0, 1)), (435, (.iload_n 3, 1)), (436, (.iconst 1, 1)), (437, (.iadd, 1)), (438, (.iaload, 1))]
theorem dh_552 : dchk cL_law dl_552 = true := by decide +kernel
theorem dL_law_415 : decode cL_law 415 = .ok (.iaload, 1) := dget dh_552 (k := 0) rfl
theorem dL_law_416 : decode cL_law 416 = .ok (.aload_n 0, 1) := dget dh_552 (k := 1) rfl
theorem dL_law_417 : decode cL_law 417 = .ok (.iload_n 3, 1) := dget dh_552 (k := 2) rfl
theorem dL_law_418 : decode cL_law 418 = .ok (.iconst 2, 1) := dget dh_552 (k := 3) rfl
theorem dL_law_419 : decode cL_law 419 = .ok (.iadd, 1) := dget dh_552 (k := 4) rfl
theorem dL_law_420 : decode cL_law 420 = .ok (.iaload, 1) := dget dh_552 (k := 5) rfl
theorem dL_law_421 : decode cL_law 421 = .ok (.aload_n 0, 1) := dget dh_552 (k := 6) rfl
theorem dL_law_422 : decode cL_law 422 = .ok (.iload_n 3, 1) := dget dh_552 (k := 7) rfl
theorem dL_law_423 : decode cL_law 423 = .ok (.iconst 3, 1) := dget dh_552 (k := 8) rfl
theorem dL_law_424 : decode cL_law 424 = .ok (.iadd, 1) := dget dh_552 (k := 9) rfl
theorem dL_law_425 : decode cL_law 425 = .ok (.iaload, 1) := dget dh_552 (k := 10) rfl
theorem dL_law_426 : decode cL_law 426 = .ok (.invokevirtual 35, 3) := dget dh_552 (k := 11) rfl
theorem dL_law_429 : decode cL_law 429 = .ok (.pop, 1) := dget dh_552 (k := 12) rfl
theorem dL_law_430 : decode cL_law 430 = .ok (.goto 1095, 3) := dget dh_552 (k := 13) rfl
theorem dL_law_433 : decode cL_law 433 = .ok (.aload_n 1, 1) := dget dh_552 (k := 14) rfl
theorem dL_law_434 : decode cL_law 434 = .ok (.aload_n 0, 1) := dget dh_552 (k := 15) rfl
theorem dL_law_435 : decode cL_law 435 = .ok (.iload_n 3, 1) := dget dh_552 (k := 16) rfl
theorem dL_law_436 : decode cL_law 436 = .ok (.iconst 1, 1) := dget dh_552 (k := 17) rfl
theorem dL_law_437 : decode cL_law 437 = .ok (.iadd, 1) := dget dh_552 (k := 18) rfl
theorem dL_law_438 : decode cL_law 438 = .ok (.iaload, 1) := dget dh_552 (k := 19) rfl
def dl_553 : List (Nat × (Instr × Nat)) := [(439, (.aload_n 0, 1)), (440, (.iload_n 3, 1)), (441, (.iconst 2, 1)), (442, (.iadd, 1)), (443, (.iaload, 1)), (444, (.aload_n 0, 1)), (445, (.iload_n 3, 1)), (446, (.iconst 3, 1)), (447, (.iadd, 1)), (448, (.iaload, 1)), (449, (.aload_n 0, 1)), (450, (.iload_n 3, 1)), (451, (.iconst 4, 1)), (452, (.iadd, 1)), (453, (.iaload, 1)), (454, (.aload_n 0, 1)), (455, (.iload_n 3, 1)), (456, (.iconst 5, 1)), (457, (.iadd, 1)), (458, (.iaload, 1))]
theorem dh_553 : dchk cL_law dl_553 = true := by decide +kernel
theorem dL_law_439 : decode cL_law 439 = .ok (.aload_n 0, 1) := dget dh_553 (k := 0) rfl
theorem dL_law_440 : decode cL_law 440 = .ok (.iload_n 3, 1) := dget dh_553 (k := 1) rfl
theorem dL_law_441 : decode cL_law 441 = .ok (.iconst 2, 1) := dget dh_553 (k := 2) rfl
theorem dL_law_442 : decode cL_law 442 = .ok (.iadd, 1) := dget dh_553 (k := 3) rfl
theorem dL_law_443 : decode cL_law 443 = .ok (.iaload, 1) := dget dh_553 (k := 4) rfl
theorem dL_law_444 : decode cL_law 444 = .ok (.aload_n 0, 1) := dget dh_553 (k := 5) rfl
theorem dL_law_445 : decode cL_law 445 = .ok (.iload_n 3, 1) := dget dh_553 (k := 6) rfl
theorem dL_law_446 : decode cL_law 446 = .ok (.iconst 3, 1) := dget dh_553 (k := 7) rfl
theorem dL_law_447 : decode cL_law 447 = .ok (.iadd, 1) := dget dh_553 (k := 8) rfl
theorem dL_law_448 : decode cL_law 448 = .ok (.iaload, 1) := dget dh_553 (k := 9) rfl
theorem dL_law_449 : decode cL_law 449 = .ok (.aload_n 0, 1) := dget dh_553 (k := 10) rfl
theorem dL_law_450 : decode cL_law 450 = .ok (.iload_n 3, 1) := dget dh_553 (k := 11) rfl
theorem dL_law_451 : decode cL_law 451 = .ok (.iconst 4, 1) := dget dh_553 (k := 12) rfl
theorem dL_law_452 : decode cL_law 452 = .ok (.iadd, 1) := dget dh_553 (k := 13) rfl
theorem dL_law_453 : decode cL_law 453 = .ok (.iaload, 1) := dget dh_553 (k := 14) rfl
theorem dL_law_454 : decode cL_law 454 = .ok (.aload_n 0, 1) := dget dh_553 (k := 15) rfl
theorem dL_law_455 : decode cL_law 455 = .ok (.iload_n 3, 1) := dget dh_553 (k := 16) rfl
theorem dL_law_456 : decode cL_law 456 = .ok (.iconst 5, 1) := dget dh_553 (k := 17) rfl
theorem dL_law_457 : decode cL_law 457 = .ok (.iadd, 1) := dget dh_553 (k := 18) rfl
theorem dL_law_458 : decode cL_law 458 = .ok (.iaload, 1) := dget dh_553 (k := 19) rfl
def dl_554 : List (Nat × (Instr × Nat)) := [(459, (.invokevirtual 36, 3)), (462, (.pop, 1)), (463, (.aload_n 2, 1)), (464, (.aload_n 0, 1)), (465, (.iload_n 3, 1)), (466, (.iconst 1, 1)), (467, (.iadd, 1)), (468, (.iaload, 1)), (469, (.aload_n 0, 1)), (470, (.iload_n 3, 1)), (471, (.iconst 2, 1)), (472, (.iadd, 1)), (473, (.iaload, 1)), (474, (.aload_n 0, 1)), (475, (.iload_n 3, 1)), (476, (.iconst 3, 1)), (477, (.iadd, 1)), (478, (.iaload, 1)), (479, (.aload_n 0, 1)), (480, (.iload_n 3, 1))]
theorem dh_554 : dchk cL_law dl_554 = true := by decide +kernel
theorem dL_law_459 : decode cL_law 459 = .ok (.invokevirtual 36, 3) := dget dh_554 (k := 0) rfl
theorem dL_law_462 : decode cL_law 462 = .ok (.pop, 1) := dget dh_554 (k := 1) rfl
theorem dL_law_463 : decode cL_law 463 = .ok (.aload_n 2, 1) := dget dh_554 (k := 2) rfl
theorem dL_law_464 : decode cL_law 464 = .ok (.aload_n 0, 1) := dget dh_554 (k := 3) rfl
theorem dL_law_465 : decode cL_law 465 = .ok (.iload_n 3, 1) := dget dh_554 (k := 4) rfl
theorem dL_law_466 : decode cL_law 466 = .ok (.iconst 1, 1) := dget dh_554 (k := 5) rfl
theorem dL_law_467 : decode cL_law 467 = .ok (.iadd, 1) := dget dh_554 (k := 6) rfl
theorem dL_law_468 : decode cL_law 468 = .ok (.iaload, 1) := dget dh_554 (k := 7) rfl
theorem dL_law_469 : decode cL_law 469 = .ok (.aload_n 0, 1) := dget dh_554 (k := 8) rfl
theorem dL_law_470 : decode cL_law 470 = .ok (.iload_n 3, 1) := dget dh_554 (k := 9) rfl
theorem dL_law_471 : decode cL_law 471 = .ok (.iconst 2, 1) := dget dh_554 (k := 10) rfl
theorem dL_law_472 : decode cL_law 472 = .ok (.iadd, 1) := dget dh_554 (k := 11) rfl
theorem dL_law_473 : decode cL_law 473 = .ok (.iaload, 1) := dget dh_554 (k := 12) rfl
theorem dL_law_474 : decode cL_law 474 = .ok (.aload_n 0, 1) := dget dh_554 (k := 13) rfl
theorem dL_law_475 : decode cL_law 475 = .ok (.iload_n 3, 1) := dget dh_554 (k := 14) rfl
theorem dL_law_476 : decode cL_law 476 = .ok (.iconst 3, 1) := dget dh_554 (k := 15) rfl
theorem dL_law_477 : decode cL_law 477 = .ok (.iadd, 1) := dget dh_554 (k := 16) rfl
theorem dL_law_478 : decode cL_law 478 = .ok (.iaload, 1) := dget dh_554 (k := 17) rfl
theorem dL_law_479 : decode cL_law 479 = .ok (.aload_n 0, 1) := dget dh_554 (k := 18) rfl
theorem dL_law_480 : decode cL_law 480 = .ok (.iload_n 3, 1) := dget dh_554 (k := 19) rfl
def dl_555 : List (Nat × (Instr × Nat)) := [(481, (.iconst 4, 1)), (482, (.iadd, 1)), (483, (.iaload, 1)), (484, (.aload_n 0, 1)), (485, (.iload_n 3, 1)), (486, (.iconst 5, 1)), (487, (.iadd, 1)), (488, (.iaload, 1)), (489, (.invokevirtual 40, 3)), (492, (.pop, 1)), (493, (.goto 1032, 3)), (496, (.aload_n 1, 1)), (497, (.aload_n 0, 1)), (498, (.iload_n 3, 1)), (499, (.iconst 1, 1)), (500, (.iadd, 1)), (501, (.iaload, 1)), (502, (.aload_n 0, 1)), (503, (.iload_n 3, 1)), (504, (.iconst 2, 1))]
theorem dh_555 : dchk cL_law dl_555 = true := by decide +kernel
theorem dL_law_481 : decode cL_law 481 = .ok (.iconst 4, 1) := dget dh_555 (k := 0) rfl
theorem dL_law_482 : decode cL_law 482 = .ok (.iadd, 1) := dget dh_555 (k := 1) rfl
theorem dL_law_483 : decode cL_law 483 = .ok (.iaload, 1) := dget dh_555 (k := 2) rfl
theorem dL_law_484 : decode cL_law 484 = .ok (.aload_n 0, 1) := dget dh_555 (k := 3) rfl
theorem dL_law_485 : decode cL_law 485 = .ok (.iload_n 3, 1) := dget dh_555 (k := 4) rfl
theorem dL_law_486 : decode cL_law 486 = .ok (.iconst 5, 1) := dget dh_555 (k := 5) rfl
theorem dL_law_487 : decode cL_law 487 = .ok (.iadd, 1) := dget dh_555 (k := 6) rfl
theorem dL_law_488 : decode cL_law 488 = .ok (.iaload, 1) := dget dh_555 (k := 7) rfl
theorem dL_law_489 : decode cL_law 489 = .ok (.invokevirtual 40, 3) := dget dh_555 (k := 8) rfl
theorem dL_law_492 : decode cL_law 492 = .ok (.pop, 1) := dget dh_555 (k := 9) rfl
theorem dL_law_493 : decode cL_law 493 = .ok (.goto 1032, 3) := dget dh_555 (k := 10) rfl
theorem dL_law_496 : decode cL_law 496 = .ok (.aload_n 1, 1) := dget dh_555 (k := 11) rfl
theorem dL_law_497 : decode cL_law 497 = .ok (.aload_n 0, 1) := dget dh_555 (k := 12) rfl
theorem dL_law_498 : decode cL_law 498 = .ok (.iload_n 3, 1) := dget dh_555 (k := 13) rfl
theorem dL_law_499 : decode cL_law 499 = .ok (.iconst 1, 1) := dget dh_555 (k := 14) rfl
theorem dL_law_500 : decode cL_law 500 = .ok (.iadd, 1) := dget dh_555 (k := 15) rfl
theorem dL_law_501 : decode cL_law 501 = .ok (.iaload, 1) := dget dh_555 (k := 16) rfl
theorem dL_law_502 : decode cL_law 502 = .ok (.aload_n 0, 1) := dget dh_555 (k := 17) rfl
theorem dL_law_503 : decode cL_law 503 = .ok (.iload_n 3, 1) := dget dh_555 (k := 18) rfl
theorem dL_law_504 : decode cL_law 504 = .ok (.iconst 2, 1) := dget dh_555 (k := 19) rfl
def dl_556 : List (Nat × (Instr × Nat)) := [(505, (.iadd, 1)), (506, (.iaload, 1)), (507, (.aload_n 0, 1)), (508, (.iload_n 3, 1)), (509, (.iconst 3, 1)), (510, (.iadd, 1)), (511, (.iaload, 1)), (512, (.aload_n 0, 1)), (513, (.iload_n 3, 1)), (514, (.iconst 4, 1)), (515, (.iadd, 1)), (516, (.iaload, 1)), (517, (.invokevirtual 41, 3)), (520, (.pop, 1)), (521, (.aload_n 2, 1)), (522, (.aload_n 0, 1)), (523, (.iload_n 3, 1)), (524, (.iconst 1, 1)), (525, (.iadd, 1)), (526, (.iaload, 1))]
theorem dh_556 : dchk cL_law dl_556 = true := by decide +kernel
theorem dL_law_505 : decode cL_law 505 = .ok (.iadd, 1) := dget dh_556 (k := 0) rfl
theorem dL_law_506 : decode cL_law 506 = .ok (.iaload, 1) := dget dh_556 (k := 1) rfl
theorem dL_law_507 : decode cL_law 507 = .ok (.aload_n 0, 1) := dget dh_556 (k := 2) rfl
theorem dL_law_508 : decode cL_law 508 = .ok (.iload_n 3, 1) := dget dh_556 (k := 3) rfl
theorem dL_law_509 : decode cL_law 509 = .ok (.iconst 3, 1) := dget dh_556 (k := 4) rfl
theorem dL_law_510 : decode cL_law 510 = .ok (.iadd, 1) := dget dh_556 (k := 5) rfl
theorem dL_law_511 : decode cL_law 511 = .ok (.iaload, 1) := dget dh_556 (k := 6) rfl
theorem dL_law_512 : decode cL_law 512 = .ok (.aload_n 0, 1) := dget dh_556 (k := 7) rfl
theorem dL_law_513 : decode cL_law 513 = .ok (.iload_n 3, 1) := dget dh_556 (k := 8) rfl
theorem dL_law_514 : decode cL_law 514 = .ok (.iconst 4, 1) := dget dh_556 (k := 9) rfl
theorem dL_law_515 : decode cL_law 515 = .ok (.iadd, 1) := dget dh_556 (k := 10) rfl
theorem dL_law_516 : decode cL_law 516 = .ok (.iaload, 1) := dget dh_556 (k := 11) rfl
theorem dL_law_517 : decode cL_law 517 = .ok (.invokevirtual 41, 3) := dget dh_556 (k := 12) rfl
theorem dL_law_520 : decode cL_law 520 = .ok (.pop, 1) := dget dh_556 (k := 13) rfl
theorem dL_law_521 : decode cL_law 521 = .ok (.aload_n 2, 1) := dget dh_556 (k := 14) rfl
theorem dL_law_522 : decode cL_law 522 = .ok (.aload_n 0, 1) := dget dh_556 (k := 15) rfl
theorem dL_law_523 : decode cL_law 523 = .ok (.iload_n 3, 1) := dget dh_556 (k := 16) rfl
theorem dL_law_524 : decode cL_law 524 = .ok (.iconst 1, 1) := dget dh_556 (k := 17) rfl
theorem dL_law_525 : decode cL_law 525 = .ok (.iadd, 1) := dget dh_556 (k := 18) rfl
theorem dL_law_526 : decode cL_law 526 = .ok (.iaload, 1) := dget dh_556 (k := 19) rfl
def dl_557 : List (Nat × (Instr × Nat)) := [(527, (.aload_n 0, 1)), (528, (.iload_n 3, 1)), (529, (.iconst 2, 1)), (530, (.iadd, 1)), (531, (.iaload, 1)), (532, (.aload_n 0, 1)), (533, (.iload_n 3, 1)), (534, (.iconst 3, 1)), (535, (.iadd, 1)), (536, (.iaload, 1)), (537, (.aload_n 0, 1)), (538, (.iload_n 3, 1)), (539, (.iconst 4, 1)), (540, (.iadd, 1)), (541, (.iaload, 1)), (542, (.invokevirtual 45, 3)), (545, (.pop, 1)), (546, (.goto 979, 3)), (549, (.aload_n 1, 1)), (550, (.aload_n 0, 1))]
theorem dh_557 : dchk cL_law dl_557 = true := by decide +kernel
theorem dL_law_527 : decode cL_law 527 = .ok (.aload_n 0, 1) := dget dh_557 (k := 0) rfl
theorem dL_law_528 : decode cL_law 528 = .ok (.iload_n 3, 1) := dget dh_557 (k := 1) rfl
theorem dL_law_529 : decode cL_law 529 = .ok (.iconst 2, 1) := dget dh_557 (k := 2) rfl
theorem dL_law_530 : decode cL_law 530 = .ok (.iadd, 1) := dget dh_557 (k := 3) rfl
theorem dL_law_531 : decode cL_law 531 = .ok (.iaload, 1) := dget dh_557 (k := 4) rfl
theorem dL_law_532 : decode cL_law 532 = .ok (.aload_n 0, 1) := dget dh_557 (k := 5) rfl
theorem dL_law_533 : decode cL_law 533 = .ok (.iload_n 3, 1) := dget dh_557 (k := 6) rfl
theorem dL_law_534 : decode cL_law 534 = .ok (.iconst 3, 1) := dget dh_557 (k := 7) rfl
theorem dL_law_535 : decode cL_law 535 = .ok (.iadd, 1) := dget dh_557 (k := 8) rfl
theorem dL_law_536 : decode cL_law 536 = .ok (.iaload, 1) := dget dh_557 (k := 9) rfl
theorem dL_law_537 : decode cL_law 537 = .ok (.aload_n 0, 1) := dget dh_557 (k := 10) rfl
theorem dL_law_538 : decode cL_law 538 = .ok (.iload_n 3, 1) := dget dh_557 (k := 11) rfl
theorem dL_law_539 : decode cL_law 539 = .ok (.iconst 4, 1) := dget dh_557 (k := 12) rfl
theorem dL_law_540 : decode cL_law 540 = .ok (.iadd, 1) := dget dh_557 (k := 13) rfl
theorem dL_law_541 : decode cL_law 541 = .ok (.iaload, 1) := dget dh_557 (k := 14) rfl
theorem dL_law_542 : decode cL_law 542 = .ok (.invokevirtual 45, 3) := dget dh_557 (k := 15) rfl
theorem dL_law_545 : decode cL_law 545 = .ok (.pop, 1) := dget dh_557 (k := 16) rfl
theorem dL_law_546 : decode cL_law 546 = .ok (.goto 979, 3) := dget dh_557 (k := 17) rfl
theorem dL_law_549 : decode cL_law 549 = .ok (.aload_n 1, 1) := dget dh_557 (k := 18) rfl
theorem dL_law_550 : decode cL_law 550 = .ok (.aload_n 0, 1) := dget dh_557 (k := 19) rfl
def dl_558 : List (Nat × (Instr × Nat)) := [(551, (.iload_n 3, 1)), (552, (.iconst 1, 1)), (553, (.iadd, 1)), (554, (.iaload, 1)), (555, (.aload_n 0, 1)), (556, (.iload_n 3, 1)), (557, (.iconst 2, 1)), (558, (.iadd, 1)), (559, (.iaload, 1)), (560, (.aload_n 0, 1)), (561, (.iload_n 3, 1)), (562, (.iconst 3, 1)), (563, (.iadd, 1)), (564, (.iaload, 1)), (565, (.aload_n 0, 1)), (566, (.iload_n 3, 1)), (567, (.iconst 4, 1)), (568, (.iadd, 1)), (569, (.iaload, 1)), (570, (.aload_n 0, 1))]
theorem dh_558 : dchk cL_law dl_558 = true := by decide +kernel
theorem dL_law_551 : decode cL_law 551 = .ok (.iload_n 3, 1) := dget dh_558 (k := 0) rfl
theorem dL_law_552 : decode cL_law 552 = .ok (.iconst 1, 1) := dget dh_558 (k := 1) rfl
theorem dL_law_553 : decode cL_law 553 = .ok (.iadd, 1) := dget dh_558 (k := 2) rfl
theorem dL_law_554 : decode cL_law 554 = .ok (.iaload, 1) := dget dh_558 (k := 3) rfl
theorem dL_law_555 : decode cL_law 555 = .ok (.aload_n 0, 1) := dget dh_558 (k := 4) rfl
theorem dL_law_556 : decode cL_law 556 = .ok (.iload_n 3, 1) := dget dh_558 (k := 5) rfl
theorem dL_law_557 : decode cL_law 557 = .ok (.iconst 2, 1) := dget dh_558 (k := 6) rfl
theorem dL_law_558 : decode cL_law 558 = .ok (.iadd, 1) := dget dh_558 (k := 7) rfl
theorem dL_law_559 : decode cL_law 559 = .ok (.iaload, 1) := dget dh_558 (k := 8) rfl
theorem dL_law_560 : decode cL_law 560 = .ok (.aload_n 0, 1) := dget dh_558 (k := 9) rfl
theorem dL_law_561 : decode cL_law 561 = .ok (.iload_n 3, 1) := dget dh_558 (k := 10) rfl
theorem dL_law_562 : decode cL_law 562 = .ok (.iconst 3, 1) := dget dh_558 (k := 11) rfl
theorem dL_law_563 : decode cL_law 563 = .ok (.iadd, 1) := dget dh_558 (k := 12) rfl
theorem dL_law_564 : decode cL_law 564 = .ok (.iaload, 1) := dget dh_558 (k := 13) rfl
theorem dL_law_565 : decode cL_law 565 = .ok (.aload_n 0, 1) := dget dh_558 (k := 14) rfl
theorem dL_law_566 : decode cL_law 566 = .ok (.iload_n 3, 1) := dget dh_558 (k := 15) rfl
theorem dL_law_567 : decode cL_law 567 = .ok (.iconst 4, 1) := dget dh_558 (k := 16) rfl
theorem dL_law_568 : decode cL_law 568 = .ok (.iadd, 1) := dget dh_558 (k := 17) rfl
theorem dL_law_569 : decode cL_law 569 = .ok (.iaload, 1) := dget dh_558 (k := 18) rfl
theorem dL_law_570 : decode cL_law 570 = .ok (.aload_n 0, 1) := dget dh_558 (k := 19) rfl
def dl_559 : List (Nat × (Instr × Nat)) := [(571, (.iload_n 3, 1)), (572, (.iconst 5, 1)), (573, (.iadd, 1)), (574, (.iaload, 1)), (575, (.invokevirtual 46, 3)), (578, (.pop, 1)), (579, (.aload_n 2, 1)), (580, (.aload_n 0, 1)), (581, (.iload_n 3, 1)), (582, (.iconst 1, 1)), (583, (.iadd, 1)), (584, (.iaload, 1)), (585, (.aload_n 0, 1)), (586, (.iload_n 3, 1)), (587, (.iconst 2, 1)), (588, (.iadd, 1)), (589, (.iaload, 1)), (590, (.aload_n 0, 1)), (591, (.iload_n 3, 1)), (592, (.iconst 3, 1))]
theorem dh_559 : dchk cL_law dl_559 = true := by decide +kernel
theorem dL_law_571 : decode cL_law 571 = .ok (.iload_n 3, 1) := dget dh_559 (k := 0) rfl
theorem dL_law_572 : decode cL_law 572 = .ok (.iconst 5, 1) := dget dh_559 (k := 1) rfl
theorem dL_law_573 : decode cL_law 573 = .ok (.iadd, 1) := dget dh_559 (k := 2) rfl
theorem dL_law_574 : decode cL_law 574 = .ok (.iaload, 1) := dget dh_559 (k := 3) rfl
theorem dL_law_575 : decode cL_law 575 = .ok (.invokevirtual 46, 3) := dget dh_559 (k := 4) rfl
theorem dL_law_578 : decode cL_law 578 = .ok (.pop, 1) := dget dh_559 (k := 5) rfl
theorem dL_law_579 : decode cL_law 579 = .ok (.aload_n 2, 1) := dget dh_559 (k := 6) rfl
theorem dL_law_580 : decode cL_law 580 = .ok (.aload_n 0, 1) := dget dh_559 (k := 7) rfl
theorem dL_law_581 : decode cL_law 581 = .ok (.iload_n 3, 1) := dget dh_559 (k := 8) rfl
theorem dL_law_582 : decode cL_law 582 = .ok (.iconst 1, 1) := dget dh_559 (k := 9) rfl
theorem dL_law_583 : decode cL_law 583 = .ok (.iadd, 1) := dget dh_559 (k := 10) rfl
theorem dL_law_584 : decode cL_law 584 = .ok (.iaload, 1) := dget dh_559 (k := 11) rfl
theorem dL_law_585 : decode cL_law 585 = .ok (.aload_n 0, 1) := dget dh_559 (k := 12) rfl
theorem dL_law_586 : decode cL_law 586 = .ok (.iload_n 3, 1) := dget dh_559 (k := 13) rfl
theorem dL_law_587 : decode cL_law 587 = .ok (.iconst 2, 1) := dget dh_559 (k := 14) rfl
theorem dL_law_588 : decode cL_law 588 = .ok (.iadd, 1) := dget dh_559 (k := 15) rfl
theorem dL_law_589 : decode cL_law 589 = .ok (.iaload, 1) := dget dh_559 (k := 16) rfl
theorem dL_law_590 : decode cL_law 590 = .ok (.aload_n 0, 1) := dget dh_559 (k := 17) rfl
theorem dL_law_591 : decode cL_law 591 = .ok (.iload_n 3, 1) := dget dh_559 (k := 18) rfl
theorem dL_law_592 : decode cL_law 592 = .ok (.iconst 3, 1) := dget dh_559 (k := 19) rfl
def dl_560 : List (Nat × (Instr × Nat)) := [(593, (.iadd, 1)), (594, (.iaload, 1)), (595, (.aload_n 0, 1)), (596, (.iload_n 3, 1)), (597, (.iconst 4, 1)), (598, (.iadd, 1)), (599, (.iaload, 1)), (600, (.aload_n 0, 1)), (601, (.iload_n 3, 1)), (602, (.iconst 5, 1)), (603, (.iadd, 1)), (604, (.iaload, 1)), (605, (.invokevirtual 49, 3)), (608, (.pop, 1)), (609, (.goto 916, 3)), (635, (.aload_n 1, 1)), (636, (.aload_n 0, 1)), (637, (.iload_n 3, 1)), (638, (.iconst 1, 1)), (639, (.iadd, 1))]
theorem dh_560 : dchk cL_law dl_560 = true := by decide +kernel
theorem dL_law_593 : decode cL_law 593 = .ok (.iadd, 1) := dget dh_560 (k := 0) rfl
theorem dL_law_594 : decode cL_law 594 = .ok (.iaload, 1) := dget dh_560 (k := 1) rfl
theorem dL_law_595 : decode cL_law 595 = .ok (.aload_n 0, 1) := dget dh_560 (k := 2) rfl
theorem dL_law_596 : decode cL_law 596 = .ok (.iload_n 3, 1) := dget dh_560 (k := 3) rfl
theorem dL_law_597 : decode cL_law 597 = .ok (.iconst 4, 1) := dget dh_560 (k := 4) rfl
theorem dL_law_598 : decode cL_law 598 = .ok (.iadd, 1) := dget dh_560 (k := 5) rfl
theorem dL_law_599 : decode cL_law 599 = .ok (.iaload, 1) := dget dh_560 (k := 6) rfl
theorem dL_law_600 : decode cL_law 600 = .ok (.aload_n 0, 1) := dget dh_560 (k := 7) rfl
theorem dL_law_601 : decode cL_law 601 = .ok (.iload_n 3, 1) := dget dh_560 (k := 8) rfl
theorem dL_law_602 : decode cL_law 602 = .ok (.iconst 5, 1) := dget dh_560 (k := 9) rfl
theorem dL_law_603 : decode cL_law 603 = .ok (.iadd, 1) := dget dh_560 (k := 10) rfl
theorem dL_law_604 : decode cL_law 604 = .ok (.iaload, 1) := dget dh_560 (k := 11) rfl
theorem dL_law_605 : decode cL_law 605 = .ok (.invokevirtual 49, 3) := dget dh_560 (k := 12) rfl
theorem dL_law_608 : decode cL_law 608 = .ok (.pop, 1) := dget dh_560 (k := 13) rfl
theorem dL_law_609 : decode cL_law 609 = .ok (.goto 916, 3) := dget dh_560 (k := 14) rfl
theorem dL_law_635 : decode cL_law 635 = .ok (.aload_n 1, 1) := dget dh_560 (k := 15) rfl
theorem dL_law_636 : decode cL_law 636 = .ok (.aload_n 0, 1) := dget dh_560 (k := 16) rfl
theorem dL_law_637 : decode cL_law 637 = .ok (.iload_n 3, 1) := dget dh_560 (k := 17) rfl
theorem dL_law_638 : decode cL_law 638 = .ok (.iconst 1, 1) := dget dh_560 (k := 18) rfl
theorem dL_law_639 : decode cL_law 639 = .ok (.iadd, 1) := dget dh_560 (k := 19) rfl
def dl_561 : List (Nat × (Instr × Nat)) := [(640, (.iaload, 1)), (641, (.aload_n 0, 1)), (642, (.iload_n 3, 1)), (643, (.iconst 2, 1)), (644, (.iadd, 1)), (645, (.iaload, 1)), (646, (.aload_n 0, 1)), (647, (.iload_n 3, 1)), (648, (.iconst 3, 1)), (649, (.iadd, 1)), (650, (.iaload, 1)), (651, (.invokevirtual 55, 3)), (654, (.pop, 1)), (655, (.aload_n 2, 1)), (656, (.aload_n 0, 1)), (657, (.iload_n 3, 1)), (658, (.iconst 1, 1)), (659, (.iadd, 1)), (660, (.iaload, 1)), (661, (.aload_n 0, 1))]
theorem dh_561 : dchk cL_law dl_561 = true := by decide +kernel
theorem dL_law_640 : decode cL_law 640 = .ok (.iaload, 1) := dget dh_561 (k := 0) rfl
theorem dL_law_641 : decode cL_law 641 = .ok (.aload_n 0, 1) := dget dh_561 (k := 1) rfl
theorem dL_law_642 : decode cL_law 642 = .ok (.iload_n 3, 1) := dget dh_561 (k := 2) rfl
theorem dL_law_643 : decode cL_law 643 = .ok (.iconst 2, 1) := dget dh_561 (k := 3) rfl
theorem dL_law_644 : decode cL_law 644 = .ok (.iadd, 1) := dget dh_561 (k := 4) rfl
theorem dL_law_645 : decode cL_law 645 = .ok (.iaload, 1) := dget dh_561 (k := 5) rfl
theorem dL_law_646 : decode cL_law 646 = .ok (.aload_n 0, 1) := dget dh_561 (k := 6) rfl
theorem dL_law_647 : decode cL_law 647 = .ok (.iload_n 3, 1) := dget dh_561 (k := 7) rfl
theorem dL_law_648 : decode cL_law 648 = .ok (.iconst 3, 1) := dget dh_561 (k := 8) rfl
theorem dL_law_649 : decode cL_law 649 = .ok (.iadd, 1) := dget dh_561 (k := 9) rfl
theorem dL_law_650 : decode cL_law 650 = .ok (.iaload, 1) := dget dh_561 (k := 10) rfl
theorem dL_law_651 : decode cL_law 651 = .ok (.invokevirtual 55, 3) := dget dh_561 (k := 11) rfl
theorem dL_law_654 : decode cL_law 654 = .ok (.pop, 1) := dget dh_561 (k := 12) rfl
theorem dL_law_655 : decode cL_law 655 = .ok (.aload_n 2, 1) := dget dh_561 (k := 13) rfl
theorem dL_law_656 : decode cL_law 656 = .ok (.aload_n 0, 1) := dget dh_561 (k := 14) rfl
theorem dL_law_657 : decode cL_law 657 = .ok (.iload_n 3, 1) := dget dh_561 (k := 15) rfl
theorem dL_law_658 : decode cL_law 658 = .ok (.iconst 1, 1) := dget dh_561 (k := 16) rfl
theorem dL_law_659 : decode cL_law 659 = .ok (.iadd, 1) := dget dh_561 (k := 17) rfl
theorem dL_law_660 : decode cL_law 660 = .ok (.iaload, 1) := dget dh_561 (k := 18) rfl
theorem dL_law_661 : decode cL_law 661 = .ok (.aload_n 0, 1) := dget dh_561 (k := 19) rfl
def dl_562 : List (Nat × (Instr × Nat)) := [(662, (.iload_n 3, 1)), (663, (.iconst 2, 1)), (664, (.iadd, 1)), (665, (.iaload, 1)), (666, (.aload_n 0, 1)), (667, (.iload_n 3, 1)), (668, (.iconst 3, 1)), (669, (.iadd, 1)), (670, (.iaload, 1)), (671, (.invokevirtual 59, 3)), (674, (.pop, 1)), (675, (.goto 850, 3)), (678, (.aload_n 1, 1)), (679, (.aload_n 0, 1)), (680, (.iload_n 3, 1)), (681, (.iconst 1, 1)), (682, (.iadd, 1)), (683, (.iaload, 1)), (684, (.aload_n 0, 1)), (685, (.iload_n 3, 1))]
theorem dh_562 : dchk cL_law dl_562 = true := by decide +kernel
theorem dL_law_662 : decode cL_law 662 = .ok (.iload_n 3, 1) := dget dh_562 (k := 0) rfl
theorem dL_law_663 : decode cL_law 663 = .ok (.iconst 2, 1) := dget dh_562 (k := 1) rfl
theorem dL_law_664 : decode cL_law 664 = .ok (.iadd, 1) := dget dh_562 (k := 2) rfl
theorem dL_law_665 : decode cL_law 665 = .ok (.iaload, 1) := dget dh_562 (k := 3) rfl
theorem dL_law_666 : decode cL_law 666 = .ok (.aload_n 0, 1) := dget dh_562 (k := 4) rfl
theorem dL_law_667 : decode cL_law 667 = .ok (.iload_n 3, 1) := dget dh_562 (k := 5) rfl
theorem dL_law_668 : decode cL_law 668 = .ok (.iconst 3, 1) := dget dh_562 (k := 6) rfl
theorem dL_law_669 : decode cL_law 669 = .ok (.iadd, 1) := dget dh_562 (k := 7) rfl
theorem dL_law_670 : decode cL_law 670 = .ok (.iaload, 1) := dget dh_562 (k := 8) rfl
theorem dL_law_671 : decode cL_law 671 = .ok (.invokevirtual 59, 3) := dget dh_562 (k := 9) rfl
theorem dL_law_674 : decode cL_law 674 = .ok (.pop, 1) := dget dh_562 (k := 10) rfl
theorem dL_law_675 : decode cL_law 675 = .ok (.goto 850, 3) := dget dh_562 (k := 11) rfl
theorem dL_law_678 : decode cL_law 678 = .ok (.aload_n 1, 1) := dget dh_562 (k := 12) rfl
theorem dL_law_679 : decode cL_law 679 = .ok (.aload_n 0, 1) := dget dh_562 (k := 13) rfl
theorem dL_law_680 : decode cL_law 680 = .ok (.iload_n 3, 1) := dget dh_562 (k := 14) rfl
theorem dL_law_681 : decode cL_law 681 = .ok (.iconst 1, 1) := dget dh_562 (k := 15) rfl
theorem dL_law_682 : decode cL_law 682 = .ok (.iadd, 1) := dget dh_562 (k := 16) rfl
theorem dL_law_683 : decode cL_law 683 = .ok (.iaload, 1) := dget dh_562 (k := 17) rfl
theorem dL_law_684 : decode cL_law 684 = .ok (.aload_n 0, 1) := dget dh_562 (k := 18) rfl
theorem dL_law_685 : decode cL_law 685 = .ok (.iload_n 3, 1) := dget dh_562 (k := 19) rfl
def dl_563 : List (Nat × (Instr × Nat)) := [(686, (.iconst 2, 1)), (687, (.iadd, 1)), (688, (.iaload, 1)), (689, (.invokevirtual 60, 3)), (692, (.pop, 1)), (693, (.aload_n 2, 1)), (694, (.aload_n 0, 1)), (695, (.iload_n 3, 1)), (696, (.iconst 1, 1)), (697, (.iadd, 1)), (698, (.iaload, 1)), (699, (.aload_n 0, 1)), (700, (.iload_n 3, 1)), (701, (.iconst 2, 1)), (702, (.iadd, 1)), (703, (.iaload, 1)), (704, (.invokevirtual 64, 3)), (707, (.pop, 1)), (708, (.goto 817, 3)), (711, (.aload_n 1, 1))]
theorem dh_563 : dchk cL_law dl_563 = true := by decide +kernel
theorem dL_law_686 : decode cL_law 686 = .ok (.iconst 2, 1) := dget dh_563 (k := 0) rfl
theorem dL_law_687 : decode cL_law 687 = .ok (.iadd, 1) := dget dh_563 (k := 1) rfl
theorem dL_law_688 : decode cL_law 688 = .ok (.iaload, 1) := dget dh_563 (k := 2) rfl
theorem dL_law_689 : decode cL_law 689 = .ok (.invokevirtual 60, 3) := dget dh_563 (k := 3) rfl
theorem dL_law_692 : decode cL_law 692 = .ok (.pop, 1) := dget dh_563 (k := 4) rfl
theorem dL_law_693 : decode cL_law 693 = .ok (.aload_n 2, 1) := dget dh_563 (k := 5) rfl
theorem dL_law_694 : decode cL_law 694 = .ok (.aload_n 0, 1) := dget dh_563 (k := 6) rfl
theorem dL_law_695 : decode cL_law 695 = .ok (.iload_n 3, 1) := dget dh_563 (k := 7) rfl
theorem dL_law_696 : decode cL_law 696 = .ok (.iconst 1, 1) := dget dh_563 (k := 8) rfl
theorem dL_law_697 : decode cL_law 697 = .ok (.iadd, 1) := dget dh_563 (k := 9) rfl
theorem dL_law_698 : decode cL_law 698 = .ok (.iaload, 1) := dget dh_563 (k := 10) rfl
theorem dL_law_699 : decode cL_law 699 = .ok (.aload_n 0, 1) := dget dh_563 (k := 11) rfl
theorem dL_law_700 : decode cL_law 700 = .ok (.iload_n 3, 1) := dget dh_563 (k := 12) rfl
theorem dL_law_701 : decode cL_law 701 = .ok (.iconst 2, 1) := dget dh_563 (k := 13) rfl
theorem dL_law_702 : decode cL_law 702 = .ok (.iadd, 1) := dget dh_563 (k := 14) rfl
theorem dL_law_703 : decode cL_law 703 = .ok (.iaload, 1) := dget dh_563 (k := 15) rfl
theorem dL_law_704 : decode cL_law 704 = .ok (.invokevirtual 64, 3) := dget dh_563 (k := 16) rfl
theorem dL_law_707 : decode cL_law 707 = .ok (.pop, 1) := dget dh_563 (k := 17) rfl
theorem dL_law_708 : decode cL_law 708 = .ok (.goto 817, 3) := dget dh_563 (k := 18) rfl
theorem dL_law_711 : decode cL_law 711 = .ok (.aload_n 1, 1) := dget dh_563 (k := 19) rfl
def dl_564 : List (Nat × (Instr × Nat)) := [(712, (.aload_n 0, 1)), (713, (.iload_n 3, 1)), (714, (.iconst 1, 1)), (715, (.iadd, 1)), (716, (.iaload, 1)), (717, (.aload_n 0, 1)), (718, (.iload_n 3, 1)), (719, (.iconst 2, 1)), (720, (.iadd, 1)), (721, (.iaload, 1)), (722, (.aload_n 0, 1)), (723, (.iload_n 3, 1)), (724, (.iconst 3, 1)), (725, (.iadd, 1)), (726, (.iaload, 1)), (727, (.invokevirtual 65, 3)), (730, (.pop, 1)), (731, (.aload_n 2, 1)), (732, (.aload_n 0, 1)), (733, (.iload_n 3, 1))]
theorem dh_564 : dchk cL_law dl_564 = true := by decide +kernel
theorem dL_law_712 : decode cL_law 712 = .ok (.aload_n 0, 1) := dget dh_564 (k := 0) rfl
theorem dL_law_713 : decode cL_law 713 = .ok (.iload_n 3, 1) := dget dh_564 (k := 1) rfl
theorem dL_law_714 : decode cL_law 714 = .ok (.iconst 1, 1) := dget dh_564 (k := 2) rfl
theorem dL_law_715 : decode cL_law 715 = .ok (.iadd, 1) := dget dh_564 (k := 3) rfl
theorem dL_law_716 : decode cL_law 716 = .ok (.iaload, 1) := dget dh_564 (k := 4) rfl
theorem dL_law_717 : decode cL_law 717 = .ok (.aload_n 0, 1) := dget dh_564 (k := 5) rfl
theorem dL_law_718 : decode cL_law 718 = .ok (.iload_n 3, 1) := dget dh_564 (k := 6) rfl
theorem dL_law_719 : decode cL_law 719 = .ok (.iconst 2, 1) := dget dh_564 (k := 7) rfl
theorem dL_law_720 : decode cL_law 720 = .ok (.iadd, 1) := dget dh_564 (k := 8) rfl
theorem dL_law_721 : decode cL_law 721 = .ok (.iaload, 1) := dget dh_564 (k := 9) rfl
theorem dL_law_722 : decode cL_law 722 = .ok (.aload_n 0, 1) := dget dh_564 (k := 10) rfl
theorem dL_law_723 : decode cL_law 723 = .ok (.iload_n 3, 1) := dget dh_564 (k := 11) rfl
theorem dL_law_724 : decode cL_law 724 = .ok (.iconst 3, 1) := dget dh_564 (k := 12) rfl
theorem dL_law_725 : decode cL_law 725 = .ok (.iadd, 1) := dget dh_564 (k := 13) rfl
theorem dL_law_726 : decode cL_law 726 = .ok (.iaload, 1) := dget dh_564 (k := 14) rfl
theorem dL_law_727 : decode cL_law 727 = .ok (.invokevirtual 65, 3) := dget dh_564 (k := 15) rfl
theorem dL_law_730 : decode cL_law 730 = .ok (.pop, 1) := dget dh_564 (k := 16) rfl
theorem dL_law_731 : decode cL_law 731 = .ok (.aload_n 2, 1) := dget dh_564 (k := 17) rfl
theorem dL_law_732 : decode cL_law 732 = .ok (.aload_n 0, 1) := dget dh_564 (k := 18) rfl
theorem dL_law_733 : decode cL_law 733 = .ok (.iload_n 3, 1) := dget dh_564 (k := 19) rfl
def dl_565 : List (Nat × (Instr × Nat)) := [(734, (.iconst 1, 1)), (735, (.iadd, 1)), (736, (.iaload, 1)), (737, (.aload_n 0, 1)), (738, (.iload_n 3, 1)), (739, (.iconst 2, 1)), (740, (.iadd, 1)), (741, (.iaload, 1)), (742, (.aload_n 0, 1)), (743, (.iload_n 3, 1)), (744, (.iconst 3, 1)), (745, (.iadd, 1)), (746, (.iaload, 1)), (747, (.invokevirtual 68, 3)), (750, (.pop, 1)), (751, (.goto 774, 3)), (754, (.aload_n 1, 1)), (755, (.aload_n 0, 1)), (756, (.iload_n 3, 1)), (757, (.iconst 1, 1))]
theorem dh_565 : dchk cL_law dl_565 = true := by decide +kernel
theorem dL_law_734 : decode cL_law 734 = .ok (.iconst 1, 1) := dget dh_565 (k := 0) rfl
theorem dL_law_735 : decode cL_law 735 = .ok (.iadd, 1) := dget dh_565 (k := 1) rfl
theorem dL_law_736 : decode cL_law 736 = .ok (.iaload, 1) := dget dh_565 (k := 2) rfl
theorem dL_law_737 : decode cL_law 737 = .ok (.aload_n 0, 1) := dget dh_565 (k := 3) rfl
theorem dL_law_738 : decode cL_law 738 = .ok (.iload_n 3, 1) := dget dh_565 (k := 4) rfl
theorem dL_law_739 : decode cL_law 739 = .ok (.iconst 2, 1) := dget dh_565 (k := 5) rfl
theorem dL_law_740 : decode cL_law 740 = .ok (.iadd, 1) := dget dh_565 (k := 6) rfl
theorem dL_law_741 : decode cL_law 741 = .ok (.iaload, 1) := dget dh_565 (k := 7) rfl
theorem dL_law_742 : decode cL_law 742 = .ok (.aload_n 0, 1) := dget dh_565 (k := 8) rfl
theorem dL_law_743 : decode cL_law 743 = .ok (.iload_n 3, 1) := dget dh_565 (k := 9) rfl
theorem dL_law_744 : decode cL_law 744 = .ok (.iconst 3, 1) := dget dh_565 (k := 10) rfl
theorem dL_law_745 : decode cL_law 745 = .ok (.iadd, 1) := dget dh_565 (k := 11) rfl
theorem dL_law_746 : decode cL_law 746 = .ok (.iaload, 1) := dget dh_565 (k := 12) rfl
theorem dL_law_747 : decode cL_law 747 = .ok (.invokevirtual 68, 3) := dget dh_565 (k := 13) rfl
theorem dL_law_750 : decode cL_law 750 = .ok (.pop, 1) := dget dh_565 (k := 14) rfl
theorem dL_law_751 : decode cL_law 751 = .ok (.goto 774, 3) := dget dh_565 (k := 15) rfl
theorem dL_law_754 : decode cL_law 754 = .ok (.aload_n 1, 1) := dget dh_565 (k := 16) rfl
theorem dL_law_755 : decode cL_law 755 = .ok (.aload_n 0, 1) := dget dh_565 (k := 17) rfl
theorem dL_law_756 : decode cL_law 756 = .ok (.iload_n 3, 1) := dget dh_565 (k := 18) rfl
theorem dL_law_757 : decode cL_law 757 = .ok (.iconst 1, 1) := dget dh_565 (k := 19) rfl
def dl_566 : List (Nat × (Instr × Nat)) := [(758, (.iadd, 1)), (759, (.iaload, 1)), (760, (.aload_n 0, 1)), (761, (.iload_n 3, 1)), (762, (.iconst 2, 1)), (763, (.iadd, 1)), (764, (.iaload, 1)), (765, (.aload_n 0, 1)), (766, (.iload_n 3, 1)), (767, (.iconst 3, 1)), (768, (.iadd, 1)), (769, (.iaload, 1)), (770, (.aload_n 0, 1)), (771, (.iload_n 3, 1)), (772, (.iconst 4, 1)), (773, (.iadd, 1)), (774, (.iaload, 1)), (775, (.aload_n 0, 1)), (776, (.iload_n 3, 1)), (777, (.iconst 5, 1))]
theorem dh_566 : dchk cL_law dl_566 = true := by decide +kernel
theorem dL_law_758 : decode cL_law 758 = .ok (.iadd, 1) := dget dh_566 (k := 0) rfl
theorem dL_law_759 : decode cL_law 759 = .ok (.iaload, 1) := dget dh_566 (k := 1) rfl
theorem dL_law_760 : decode cL_law 760 = .ok (.aload_n 0, 1) := dget dh_566 (k := 2) rfl
theorem dL_law_761 : decode cL_law 761 = .ok (.iload_n 3, 1) := dget dh_566 (k := 3) rfl
theorem dL_law_762 : decode cL_law 762 = .ok (.iconst 2, 1) := dget dh_566 (k := 4) rfl
theorem dL_law_763 : decode cL_law 763 = .ok (.iadd, 1) := dget dh_566 (k := 5) rfl
theorem dL_law_764 : decode cL_law 764 = .ok (.iaload, 1) := dget dh_566 (k := 6) rfl
theorem dL_law_765 : decode cL_law 765 = .ok (.aload_n 0, 1) := dget dh_566 (k := 7) rfl
theorem dL_law_766 : decode cL_law 766 = .ok (.iload_n 3, 1) := dget dh_566 (k := 8) rfl
theorem dL_law_767 : decode cL_law 767 = .ok (.iconst 3, 1) := dget dh_566 (k := 9) rfl
theorem dL_law_768 : decode cL_law 768 = .ok (.iadd, 1) := dget dh_566 (k := 10) rfl
theorem dL_law_769 : decode cL_law 769 = .ok (.iaload, 1) := dget dh_566 (k := 11) rfl
theorem dL_law_770 : decode cL_law 770 = .ok (.aload_n 0, 1) := dget dh_566 (k := 12) rfl
theorem dL_law_771 : decode cL_law 771 = .ok (.iload_n 3, 1) := dget dh_566 (k := 13) rfl
theorem dL_law_772 : decode cL_law 772 = .ok (.iconst 4, 1) := dget dh_566 (k := 14) rfl
theorem dL_law_773 : decode cL_law 773 = .ok (.iadd, 1) := dget dh_566 (k := 15) rfl
theorem dL_law_774 : decode cL_law 774 = .ok (.iaload, 1) := dget dh_566 (k := 16) rfl
theorem dL_law_775 : decode cL_law 775 = .ok (.aload_n 0, 1) := dget dh_566 (k := 17) rfl
theorem dL_law_776 : decode cL_law 776 = .ok (.iload_n 3, 1) := dget dh_566 (k := 18) rfl
theorem dL_law_777 : decode cL_law 777 = .ok (.iconst 5, 1) := dget dh_566 (k := 19) rfl
def dl_567 : List (Nat × (Instr × Nat)) := [(778, (.iadd, 1)), (779, (.iaload, 1)), (780, (.invokevirtual 69, 3)), (783, (.pop, 1)), (784, (.aload_n 2, 1)), (785, (.aload_n 0, 1)), (786, (.iload_n 3, 1)), (787, (.iconst 1, 1)), (788, (.iadd, 1)), (789, (.iaload, 1)), (790, (.aload_n 0, 1)), (791, (.iload_n 3, 1)), (792, (.iconst 2, 1)), (793, (.iadd, 1)), (794, (.iaload, 1)), (795, (.aload_n 0, 1)), (796, (.iload_n 3, 1)), (797, (.iconst 3, 1)), (798, (.iadd, 1)), (799, (.iaload, 1))]
theorem dh_567 : dchk cL_law dl_567 = true := by decide +kernel
theorem dL_law_778 : decode cL_law 778 = .ok (.iadd, 1) := dget dh_567 (k := 0) rfl
theorem dL_law_779 : decode cL_law 779 = .ok (.iaload, 1) := dget dh_567 (k := 1) rfl
theorem dL_law_780 : decode cL_law 780 = .ok (.invokevirtual 69, 3) := dget dh_567 (k := 2) rfl
theorem dL_law_783 : decode cL_law 783 = .ok (.pop, 1) := dget dh_567 (k := 3) rfl
theorem dL_law_784 : decode cL_law 784 = .ok (.aload_n 2, 1) := dget dh_567 (k := 4) rfl
theorem dL_law_785 : decode cL_law 785 = .ok (.aload_n 0, 1) := dget dh_567 (k := 5) rfl
theorem dL_law_786 : decode cL_law 786 = .ok (.iload_n 3, 1) := dget dh_567 (k := 6) rfl
theorem dL_law_787 : decode cL_law 787 = .ok (.iconst 1, 1) := dget dh_567 (k := 7) rfl
theorem dL_law_788 : decode cL_law 788 = .ok (.iadd, 1) := dget dh_567 (k := 8) rfl
theorem dL_law_789 : decode cL_law 789 = .ok (.iaload, 1) := dget dh_567 (k := 9) rfl
theorem dL_law_790 : decode cL_law 790 = .ok (.aload_n 0, 1) := dget dh_567 (k := 10) rfl
theorem dL_law_791 : decode cL_law 791 = .ok (.iload_n 3, 1) := dget dh_567 (k := 11) rfl
theorem dL_law_792 : decode cL_law 792 = .ok (.iconst 2, 1) := dget dh_567 (k := 12) rfl
theorem dL_law_793 : decode cL_law 793 = .ok (.iadd, 1) := dget dh_567 (k := 13) rfl
theorem dL_law_794 : decode cL_law 794 = .ok (.iaload, 1) := dget dh_567 (k := 14) rfl
theorem dL_law_795 : decode cL_law 795 = .ok (.aload_n 0, 1) := dget dh_567 (k := 15) rfl
theorem dL_law_796 : decode cL_law 796 = .ok (.iload_n 3, 1) := dget dh_567 (k := 16) rfl
theorem dL_law_797 : decode cL_law 797 = .ok (.iconst 3, 1) := dget dh_567 (k := 17) rfl
theorem dL_law_798 : decode cL_law 798 = .ok (.iadd, 1) := dget dh_567 (k := 18) rfl
theorem dL_law_799 : decode cL_law 799 = .ok (.iaload, 1) := dget dh_567 (k := 19) rfl
def dl_568 : List (Nat × (Instr × Nat)) := [(800, (.aload_n 0, 1)), (801, (.iload_n 3, 1)), (802, (.iconst 4, 1)), (803, (.iadd, 1)), (804, (.iaload, 1)), (805, (.aload_n 0, 1)), (806, (.iload_n 3, 1)), (807, (.iconst 5, 1)), (808, (.iadd, 1)), (809, (.iaload, 1)), (810, (.invokevirtual 72, 3)), (813, (.pop, 1)), (814, (.goto 711, 3)), (817, (.aload_n 1, 1)), (818, (.aload_n 0, 1)), (819, (.iload_n 3, 1)), (820, (.iconst 1, 1)), (821, (.iadd, 1)), (822, (.iaload, 1)), (823, (.aload_n 0, 1))]
theorem dh_568 : dchk cL_law dl_568 = true := by decide +kernel
theorem dL_law_800 : decode cL_law 800 = .ok (.aload_n 0, 1) := dget dh_568 (k := 0) rfl
theorem dL_law_801 : decode cL_law 801 = .ok (.iload_n 3, 1) := dget dh_568 (k := 1) rfl
theorem dL_law_802 : decode cL_law 802 = .ok (.iconst 4, 1) := dget dh_568 (k := 2) rfl
theorem dL_law_803 : decode cL_law 803 = .ok (.iadd, 1) := dget dh_568 (k := 3) rfl
theorem dL_law_804 : decode cL_law 804 = .ok (.iaload, 1) := dget dh_568 (k := 4) rfl
theorem dL_law_805 : decode cL_law 805 = .ok (.aload_n 0, 1) := dget dh_568 (k := 5) rfl
theorem dL_law_806 : decode cL_law 806 = .ok (.iload_n 3, 1) := dget dh_568 (k := 6) rfl
theorem dL_law_807 : decode cL_law 807 = .ok (.iconst 5, 1) := dget dh_568 (k := 7) rfl
theorem dL_law_808 : decode cL_law 808 = .ok (.iadd, 1) := dget dh_568 (k := 8) rfl
theorem dL_law_809 : decode cL_law 809 = .ok (.iaload, 1) := dget dh_568 (k := 9) rfl
theorem dL_law_810 : decode cL_law 810 = .ok (.invokevirtual 72, 3) := dget dh_568 (k := 10) rfl
theorem dL_law_813 : decode cL_law 813 = .ok (.pop, 1) := dget dh_568 (k := 11) rfl
theorem dL_law_814 : decode cL_law 814 = .ok (.goto 711, 3) := dget dh_568 (k := 12) rfl
theorem dL_law_817 : decode cL_law 817 = .ok (.aload_n 1, 1) := dget dh_568 (k := 13) rfl
theorem dL_law_818 : decode cL_law 818 = .ok (.aload_n 0, 1) := dget dh_568 (k := 14) rfl
theorem dL_law_819 : decode cL_law 819 = .ok (.iload_n 3, 1) := dget dh_568 (k := 15) rfl
theorem dL_law_820 : decode cL_law 820 = .ok (.iconst 1, 1) := dget dh_568 (k := 16) rfl
theorem dL_law_821 : decode cL_law 821 = .ok (.iadd, 1) := dget dh_568 (k := 17) rfl
theorem dL_law_822 : decode cL_law 822 = .ok (.iaload, 1) := dget dh_568 (k := 18) rfl
theorem dL_law_823 : decode cL_law 823 = .ok (.aload_n 0, 1) := dget dh_568 (k := 19) rfl
def dl_569 : List (Nat × (Instr × Nat)) := [(824, (.iload_n 3, 1)), (825, (.iconst 2, 1)), (826, (.iadd, 1)), (827, (.iaload, 1)), (828, (.invokevirtual 73, 3)), (831, (.pop, 1)), (832, (.aload_n 2, 1)), (833, (.aload_n 0, 1)), (834, (.iload_n 3, 1)), (835, (.iconst 1, 1)), (836, (.iadd, 1)), (837, (.iaload, 1)), (838, (.aload_n 0, 1)), (839, (.iload_n 3, 1)), (840, (.iconst 2, 1)), (841, (.iadd, 1)), (842, (.iaload, 1)), (843, (.invokevirtual 76, 3)), (846, (.pop, 1)), (847, (.goto 678, 3))]
theorem dh_569 : dchk cL_law dl_569 = true := by decide +kernel
theorem dL_law_824 : decode cL_law 824 = .ok (.iload_n 3, 1) := dget dh_569 (k := 0) rfl
theorem dL_law_825 : decode cL_law 825 = .ok (.iconst 2, 1) := dget dh_569 (k := 1) rfl
theorem dL_law_826 : decode cL_law 826 = .ok (.iadd, 1) := dget dh_569 (k := 2) rfl
theorem dL_law_827 : decode cL_law 827 = .ok (.iaload, 1) := dget dh_569 (k := 3) rfl
theorem dL_law_828 : decode cL_law 828 = .ok (.invokevirtual 73, 3) := dget dh_569 (k := 4) rfl
theorem dL_law_831 : decode cL_law 831 = .ok (.pop, 1) := dget dh_569 (k := 5) rfl
theorem dL_law_832 : decode cL_law 832 = .ok (.aload_n 2, 1) := dget dh_569 (k := 6) rfl
theorem dL_law_833 : decode cL_law 833 = .ok (.aload_n 0, 1) := dget dh_569 (k := 7) rfl
theorem dL_law_834 : decode cL_law 834 = .ok (.iload_n 3, 1) := dget dh_569 (k := 8) rfl
theorem dL_law_835 : decode cL_law 835 = .ok (.iconst 1, 1) := dget dh_569 (k := 9) rfl
theorem dL_law_836 : decode cL_law 836 = .ok (.iadd, 1) := dget dh_569 (k := 10) rfl
theorem dL_law_837 : decode cL_law 837 = .ok (.iaload, 1) := dget dh_569 (k := 11) rfl
theorem dL_law_838 : decode cL_law 838 = .ok (.aload_n 0, 1) := dget dh_569 (k := 12) rfl
theorem dL_law_839 : decode cL_law 839 = .ok (.iload_n 3, 1) := dget dh_569 (k := 13) rfl
theorem dL_law_840 : decode cL_law 840 = .ok (.iconst 2, 1) := dget dh_569 (k := 14) rfl
theorem dL_law_841 : decode cL_law 841 = .ok (.iadd, 1) := dget dh_569 (k := 15) rfl
theorem dL_law_842 : decode cL_law 842 = .ok (.iaload, 1) := dget dh_569 (k := 16) rfl
theorem dL_law_843 : decode cL_law 843 = .ok (.invokevirtual 76, 3) := dget dh_569 (k := 17) rfl
theorem dL_law_846 : decode cL_law 846 = .ok (.pop, 1) := dget dh_569 (k := 18) rfl
theorem dL_law_847 : decode cL_law 847 = .ok (.goto 678, 3) := dget dh_569 (k := 19) rfl
theorem kix_inj {K J : Nat} (hK : K < 6) : ∀ g j, g < 6 → j < 6 → kix g j = kix K J → g = K ∧ j = J := by
  intro g j hg hj e
  unfold kix at e
  omega
set_option maxHeartbeats 4000000 in
set_option maxRecDepth 100000 in
theorem lc_3 {p : Program} {l : Launch} {e : Env} {s : State} {m : MethodId} {below : List Frame} {meth : Method} {c : Code} {b L : Nat} {xs : Nat → Int32} (C0 : lw_At p s m meth c b L xs) {D : va_G} {cy : Nat → ClassId} {kq vq : Nat} {A : Nat → Prop} (hA : ∀ q, s.heap.size ≤ q → A q) (hbA : ¬ A b) (hK : va_K D vwCl (vT cy) s) (hn : nw s) (hm0 : nm s) (hsk : vk_R RX6 101 "krsoamngcv" kq s ∧ sA kq vq A s s.heap) {a : Nat → Nat} {i : Nat → Int32} {r : Nat → Nat → Int32} {q : Nat → Option Nat} {gb : Nat → Nat → Nat} {gi : Nat → Nat → Int32} {gr : Nat → Nat → Nat → Int32} {nh : Nat} {am : Nat → Nat} {im : Nat → Int32} {rm : Nat → Nat → Int32} {lm : Nat → Int64} (hLX : LX i r q gb gi gr nh) (hLM : LM im rm) (hLR : LR i r gi gr nh im rm) {H : Heap} {locs : List Loc} (hP : va_P D vwCl (xW cy a i r q (a 20) (a 12) ++ (HL cy gb gi gr nh ++ (mW cy am im rm lm))) H) (hD : va_D A (xW cy a i r q (a 20) (a 12) ++ (HL cy gb gi gr nh ++ (mW cy am im rm lm)))) (hS : va_S A s.heap H locs) {ls : Array Slot} {x : Int32} (hl : lv_has ls 4 [(0, .ref b), (1, .ref (a 0)), (2, .ref (am 0)), (3, .int x)]) {j : Nat} (hj : 7 * j + 7 ≤ L) (hL : L ≤ 3584) (hxj : x = nI (7 * j)) {ce sl : Nat} (hce : ce + 15 ≤ 600000) (hsl : sl + 215 ≤ 7302250) (kk : ∀ (a2 : Nat → Nat) (i2 : Nat → Int32) (r2 : Nat → Nat → Int32) (q2 : Nat → Option Nat) (gb2 : Nat → Nat → Nat) (gi2 : Nat → Nat → Int32) (gr2 : Nat → Nat → Nat → Int32) (nh2 : Nat) (im2 : Nat → Int32) (rm2 : Nat → Nat → Int32) (lm2 : Nat → Int64) (H2 : Heap) (locs2 : List Loc) (ls2 : Array Slot), a2 0 = a 0 → LX i2 r2 q2 gb2 gi2 gr2 nh2 → LM im2 rm2 → LR i2 r2 gi2 gr2 nh2 im2 rm2 → va_P D vwCl (xW cy a2 i2 r2 q2 (a2 20) (a2 12) ++ (HL cy gb2 gi2 gr2 nh2 ++ (mW cy am im2 rm2 lm2))) H2 → va_D A (xW cy a2 i2 r2 q2 (a2 20) (a2 12) ++ (HL cy gb2 gi2 gr2 nh2 ++ (mW cy am im2 rm2 lm2))) → va_S A s.heap H2 locs2 → lv_has ls2 4 [(0, .ref b), (1, .ref (a 0)), (2, .ref (am 0)), (3, .int x)] → W p l e room_1 s m #[Value.ref b] below meth c H2 locs2 (ce + 15) (sl + 215) (lw_Z below #[Value.ref b] s) (F0 m 1525 ls2 [])) : W p l e room_1 s m #[Value.ref b] below meth c H locs ce sl (lw_Z below #[Value.ref b] s) (F0 m 347 ls []) := by
  obtain ⟨hx, hb, hr, hml, hown, hts, hX, hbl, hlocks, hgv⟩ := id C0
  have hT : ∀ w ∈ gT, w.before _ s = true := fun w h => hts w (gT_in w h)
  have hx0 : x.toInt = ((7 * j : Nat) : Int) := by rw [hxj]; exact nI_toInt (by omega)
  have hLX0 := hLX
  have hLM0 := hLM
  refine lv_aload_n hx hb dL_law_347 rfl (lv_at hl 1 rfl) ?_
  refine lv_aload_n hx hb dL_law_348 rfl (lv_at hl 0 rfl) ?_
  refine lv_iload_n hx hb dL_law_349 rfl (lv_at hl 3 rfl) ?_
  refine lv_iconst (v := 1) hx hb dL_law_350 (by decide) ?_
  refine lv_iadd hx hb dL_law_351 ?_
  refine lv_topi (fun v_1 ev_1 => ?_)
  have hv_1 : v_1.toInt = x.toInt + 1 := by rw [ev_1]; have := b_rg x; exact i_add (a := x.toInt) (b := 1) rfl rfl (by omega) (by omega)
  refine va_sld hx hb hX hbl hbA hS (vp_inI (by omega) (by omega)) dL_law_352 ?_
  refine lv_topi (fun v_2 ev_2 => ?_)
  obtain rfl : v_2 = xs (7 * j + 1) := ev_2.trans (congrArg xs (nI_ix hxj (by omega) (by omega)))
  refine lv_aload_n hx hb dL_law_353 rfl (lv_at hl 0 rfl) ?_
  refine lv_iload_n hx hb dL_law_354 rfl (lv_at hl 3 rfl) ?_
  refine lv_iconst (v := 2) hx hb dL_law_355 (by decide) ?_
  refine lv_iadd hx hb dL_law_356 ?_
  refine lv_topi (fun v_3 ev_3 => ?_)
  have hv_3 : v_3.toInt = x.toInt + 2 := by rw [ev_3]; have := b_rg x; exact i_add (a := x.toInt) (b := 2) rfl rfl (by omega) (by omega)
  refine va_sld hx hb hX hbl hbA hS (vp_inI (by omega) (by omega)) dL_law_357 ?_
  refine lv_topi (fun v_4 ev_4 => ?_)
  obtain rfl : v_4 = xs (7 * j + 2) := ev_4.trans (congrArg xs (nI_ix hxj (by omega) (by omega)))
  refine lv_aload_n hx hb dL_law_358 rfl (lv_at hl 0 rfl) ?_
  refine lv_iload_n hx hb dL_law_359 rfl (lv_at hl 3 rfl) ?_
  refine lv_iconst (v := 3) hx hb dL_law_360 (by decide) ?_
  refine lv_iadd hx hb dL_law_361 ?_
  refine lv_topi (fun v_5 ev_5 => ?_)
  have hv_5 : v_5.toInt = x.toInt + 3 := by rw [ev_5]; have := b_rg x; exact i_add (a := x.toInt) (b := 3) rfl rfl (by omega) (by omega)
  refine va_sld hx hb hX hbl hbA hS (vp_inI (by omega) (by omega)) dL_law_362 ?_
  refine lv_topi (fun v_6 ev_6 => ?_)
  obtain rfl : v_6 = xs (7 * j + 3) := ev_6.trans (congrArg xs (nI_ix hxj (by omega) (by omega)))
  have kx : ∀ (z9 : Int32) (i9 : Nat → Int32) (r9 : Nat → Nat → Int32) (gi9 : Nat → Nat → Int32) (gr9 : Nat → Nat → Nat → Int32) (H9 : Heap) (locs9 : List Loc), LX i9 r9 q gb gi9 gr9 nh → CX [] [62] nh i r gi gr i9 r9 gi9 gr9 → va_P D vwCl (xW cy a i9 r9 q (a 20) (a 12) ++ (HL cy gb gi9 gr9 nh ++ (mW cy am im rm lm))) H9 → va_D A (xW cy a i9 r9 q (a 20) (a 12) ++ (HL cy gb gi9 gr9 nh ++ (mW cy am im rm lm))) → va_S A s.heap H9 locs9 → W p l e room_1 s m #[Value.ref b] below meth c H9 locs9 ce sl (lw_Z below #[Value.ref b] s) (F0 m 366 ls [.int z9]) := by
    intro z9 i9 r9 gi9 gr9 H locs hLX hCX hP hD hS
    refine lv_pop hx hb dL_law_366 rfl ?_
    refine lv_aload_n hx hb dL_law_367 rfl (lv_at hl 2 rfl) ?_
    refine lv_aload_n hx hb dL_law_368 rfl (lv_at hl 0 rfl) ?_
    refine lv_iload_n hx hb dL_law_369 rfl (lv_at hl 3 rfl) ?_
    refine lv_iconst (v := 1) hx hb dL_law_370 (by decide) ?_
    refine lv_iadd hx hb dL_law_371 ?_
    refine lv_topi (fun v_7 ev_7 => ?_)
    have hv_7 : v_7.toInt = x.toInt + 1 := by rw [ev_7]; have := b_rg x; exact i_add (a := x.toInt) (b := 1) rfl rfl (by omega) (by omega)
    refine va_sld hx hb hX hbl hbA hS (vp_inI (by omega) (by omega)) dL_law_372 ?_
    refine lv_topi (fun v_8 ev_8 => ?_)
    obtain rfl : v_8 = xs (7 * j + 1) := ev_8.trans (congrArg xs (nI_ix hxj (by omega) (by omega)))
    refine lv_aload_n hx hb dL_law_373 rfl (lv_at hl 0 rfl) ?_
    refine lv_iload_n hx hb dL_law_374 rfl (lv_at hl 3 rfl) ?_
    refine lv_iconst (v := 2) hx hb dL_law_375 (by decide) ?_
    refine lv_iadd hx hb dL_law_376 ?_
    refine lv_topi (fun v_9 ev_9 => ?_)
    have hv_9 : v_9.toInt = x.toInt + 2 := by rw [ev_9]; have := b_rg x; exact i_add (a := x.toInt) (b := 2) rfl rfl (by omega) (by omega)
    refine va_sld hx hb hX hbl hbA hS (vp_inI (by omega) (by omega)) dL_law_377 ?_
    refine lv_topi (fun v_10 ev_10 => ?_)
    obtain rfl : v_10 = xs (7 * j + 2) := ev_10.trans (congrArg xs (nI_ix hxj (by omega) (by omega)))
    refine lv_aload_n hx hb dL_law_378 rfl (lv_at hl 0 rfl) ?_
    refine lv_iload_n hx hb dL_law_379 rfl (lv_at hl 3 rfl) ?_
    refine lv_iconst (v := 3) hx hb dL_law_380 (by decide) ?_
    refine lv_iadd hx hb dL_law_381 ?_
    refine lv_topi (fun v_11 ev_11 => ?_)
    have hv_11 : v_11.toInt = x.toInt + 3 := by rw [ev_11]; have := b_rg x; exact i_add (a := x.toInt) (b := 3) rfl rfl (by omega) (by omega)
    refine va_sld hx hb hX hbl hbA hS (vp_inI (by omega) (by omega)) dL_law_382 ?_
    refine lv_topi (fun v_12 ev_12 => ?_)
    obtain rfl : v_12 = xs (7 * j + 3) := ev_12.trans (congrArg xs (nI_ix hxj (by omega) (by omega)))
    have hPa := hP
    have hDa := hD
    have hP := vaP_r (vaP_r hPa)
    have hD := vaD_r (vaD_r hDa)
    have hRi := hLM.1
    have hRr := hLM.2.1
    have hE := hLM.2.2
    have hF_13 := rF hD hS hA
    refine va_calli (va_runV (As := [.int (xs (7 * j + 1)), .int (xs (7 * j + 2)), .int (xs (7 * j + 3))]) (rest := []) ⟨hx, hb, hml, hown, hT⟩ (c_X12_part l D cy am im rm lm (xs (7 * j + 1)) (xs (7 * j + 2)) (xs (7 * j + 3)) _ hRi hRr) (cwV 3 hT (gV t_933 t_934 t_935 t_936 t_6) rfl rfl rfl (by decide +kernel) ⟨Nat.le_of_ble_eq_true rfl, Nat.le_of_ble_eq_true rfl⟩) (rQ_v hP hK hD (va_recv hK hP (ci := 12) (q0 := 0) rfl rfl)) rfl rfl hl.1 rfl (lv_room (Nat.le_of_ble_eq_true rfl)) dL_law_383 ⟨by show _ ≤ (600000 : Nat); omega, by show _ ≤ (7302250 : Nat); omega⟩) hS (fun q _ h => hF_13 q h) hF_13 (fun r_14 u_15 t H1 locs ht hvm hr_14 hB hz1 hk1 hS => ?_)
    obtain ⟨r15, rfl⟩ : ∃ z, z = u_15 := ⟨_, rfl⟩
    obtain ⟨hP, hK1, hD1⟩ := hB
    rw [ht] at hP
    have hD := hD1.weaken (fun k q _ h => hF_13 q.1 h)
    have hP : va_P D vwCl (mW cy am im r15 lm) H1 := hP
    have hD : va_D A (mW cy am im r15 lm) := hD
    obtain ⟨hRr, hE2, hr_14⟩ := hr_14
    have hRr : mRr r15 := hRr
    obtain ⟨hP, hD⟩ := joinM hPa hDa hk1 hP rfl
    have hLM : LM im r15 := ⟨hRi, hRr, (mE_same (Ei_rf (T := [])) hE2 (by decide) (by decide) hE)⟩
    have hMI : mEi [] im im := Ei_rf
    have hMR : mEr [8] rm r15 := hE2
    obtain ⟨hL1, hL2, hL3⟩ := id hLR
    obtain ⟨kH, kK, kN, kX, kY, _⟩ := id hL1
    have hLR : LR i9 r9 gi9 gr9 nh im r15 := ⟨LR1_same hL1 hMI hMR hCX (by decide) (by decide) (by decide) (by decide), LR2_same hL2 hMI hMR hCX (by decide) (by decide) (by decide) (by decide), LR3_same hL3 hMI hMR hCX (by decide) (by decide) (by decide) (by decide)⟩
    refine lv_pop hx hb dL_law_386 rfl ?_
    refine lv_goto (tgt := 1525) hx hb dL_law_387 (by decide) ?_
    refine W.widen (k := ce + 15) (n := sl + 215) (by omega) (by omega) ?_
    exact kk a _ _ _ _ _ _ _ _ _ _ _ _ _ rfl hLX hLM hLR hP hD hS (lv_sub hl [0, 1, 2, 3] rfl)
  by_cases hv : 0 ≤ (xs (7 * j + 1)).toInt ∧ (xs (7 * j + 1)).toInt < (i 0).toInt
  · have hlt : (xs (7 * j + 1)).toNatClampNeg < nh := by have h9 : (xs (7 * j + 1)).toNatClampNeg = (xs (7 * j + 1)).toInt.toNat := rfl; have h8 := hLX.2.1; omega
    have hP0 := hP
    have hD0 := hD
    have hn6 : nh ≤ 6 := by have h8 := hLX.2.1; have h7 : (i 0).toInt ≤ 6 := (hLX.1.1 0).2; omega
    have hz := zoom (cy := cy) (a := a) (i := i) (r := r) (q := q) (hb := gb) (hi := gi) (hr := gr) (tl := (mW cy am im rm lm)) hlt
    have hP := vaP_perm hz hP
    have hD := vaD_perm hz hD
    have hRi := mix_Ri hLX.1.1 (hLX.2.2 _ hlt).2.1
    have hRr := mix_Rr hLX.1.2 (hLX.2.2 _ hlt).2.2
    obtain ⟨A2, hA2⟩ : ∃ z, z = mixA a (gb ((xs (7 * j + 1)).toNatClampNeg)) := ⟨_, rfl⟩
    obtain ⟨I2, hI2⟩ : ∃ z, z = mixI i (gi ((xs (7 * j + 1)).toNatClampNeg)) := ⟨_, rfl⟩
    obtain ⟨R2, hR2⟩ : ∃ z, z = mixR r (gr ((xs (7 * j + 1)).toNatClampNeg)) := ⟨_, rfl⟩
    rw [← hA2, ← hI2, ← hR2] at hP hD
    rw [← hI2] at hRi
    rw [← hR2] at hRr
    have h0 : I2 0 = i 0 := by rw [hI2]; rfl
    have h61 : A2 61 = gb ((xs (7 * j + 1)).toNatClampNeg) 61 := by rw [hA2]; rfl
    have ha0 : A2 0 = a 0 := by rw [hA2]; rfl
    rw [← ha0]
    have hF_16 := rF hD hS hA
    refine va_calli (va_runV (As := [.int (xs (7 * j + 1)), .int (xs (7 * j + 2)), .int (xs (7 * j + 3))]) (rest := []) ⟨hx, hb, hml, hown, hT⟩ (c_X11_part.y l D cy A2 I2 R2 q (HX cy gb gi gr ((xs (7 * j + 1)).toNatClampNeg) nh ++ (mW cy am im rm lm)) (xs (7 * j + 1)) (xs (7 * j + 2)) (xs (7 * j + 3)) _ hRi hRr (by rw [h0]; exact hv) (by rw [h61]; exact (hLX.2.2 _ hlt).1)) (cwV 3 hT (gV t_937 t_938 t_939 t_940 t_2) rfl rfl rfl (by decide +kernel) ⟨Nat.le_of_ble_eq_true rfl, Nat.le_of_ble_eq_true rfl⟩) (rQ_v hP hK hD (va_recv hK hP (ci := 11) (q0 := 0) rfl rfl)) rfl rfl hl.1 rfl (lv_room (Nat.le_of_ble_eq_true rfl)) dL_law_363 ⟨by show _ ≤ (600000 : Nat); omega, by show _ ≤ (7302250 : Nat); omega⟩) hS (fun q _ h => hF_16 q h) hF_16 (fun r_17 u_18 t H1 locs ht hvm hr_17 hB hz1 hk1 hS => ?_)
    obtain ⟨r18, rfl⟩ : ∃ z, z = u_18 := ⟨_, rfl⟩
    obtain ⟨hP, hK1, hD1⟩ := hB
    rw [ht] at hP
    have hD := hD1.weaken (fun k q _ h => hF_16 q.1 h)
    obtain ⟨hRr, hE2, hr_17⟩ := hr_17
    have hRr : yRr r18 := hRr
    have hE2 : mEr [62] R2 r18 := hE2
    have hP : va_P D vwCl (xW cy A2 I2 r18 q (A2 20) (A2 12) ++ (hW cy A2 I2 r18 ++ (HX cy gb gi gr ((xs (7 * j + 1)).toNatClampNeg) nh ++ (mW cy am im rm lm)))) H1 := hP
    have hD : va_D A (xW cy A2 I2 r18 q (A2 20) (A2 12) ++ (hW cy A2 I2 r18 ++ (HX cy gb gi gr ((xs (7 * j + 1)).toNatClampNeg) nh ++ (mW cy am im rm lm)))) := hD
    rw [hA2] at hP hD
    have hP := vaP_perm (unzoom (i := I2) (r := R2) hlt) hP
    have hD := vaD_perm (unzoom (i := I2) (r := R2) hlt) hD
    have hLX := LX_y (K := (xs (7 * j + 1)).toNatClampNeg) hLX hRi hRr h0
    have hE2x := hE2
    have hCX := CX_y (nh := nh) (i := i) (r := r) (gi := gi) (gr := gr) (K := (xs (7 * j + 1)).toNatClampNeg) hI2 hR2 (Ei_rf (T := [])) hE2
    exact kx _ _ _ _ _ _ _ hLX hCX hP hD hS
  · skip
    have hRi := hLX.1.1
    have hRr := hLX.1.2
    refine vp_callSi (W.runV (As := [.int (xs (7 * j + 1)), .int (xs (7 * j + 2)), .int (xs (7 * j + 3))]) (rest := []) ⟨hx, hb, hml, hown, hT⟩ (c_X11_part.b l D cy a i r q (HL cy gb gi gr nh ++ (mW cy am im rm lm)) (xs (7 * j + 1)) (xs (7 * j + 2)) (xs (7 * j + 3)) hRi hRr hv) (cwV 3 hT (gV t_937 t_938 t_939 t_940 t_2) rfl rfl rfl (by decide +kernel) ⟨Nat.le_of_ble_eq_true rfl, Nat.le_of_ble_eq_true rfl⟩) (rP_v hP hK (va_recv hK hP (ci := 11) (q0 := 0) rfl rfl)) rfl rfl hl.1 rfl (lv_room (Nat.le_of_ble_eq_true rfl)) dL_law_363 ⟨by show _ ≤ (600000 : Nat); omega, by show _ ≤ (7302250 : Nat); omega⟩) (fun r_19 hr_19 => ?_)
    have hCX := CX_rf (i := i) (r := r) (gi := gi) (gr := gr) (nh := nh)
    exact kx _ _ _ _ _ _ _ hLX CX_rfT hP hD hS
set_option maxHeartbeats 4000000 in
set_option maxRecDepth 100000 in
theorem lc_4 {p : Program} {l : Launch} {e : Env} {s : State} {m : MethodId} {below : List Frame} {meth : Method} {c : Code} {b L : Nat} {xs : Nat → Int32} (C0 : lw_At p s m meth c b L xs) {D : va_G} {cy : Nat → ClassId} {kq vq : Nat} {A : Nat → Prop} (hA : ∀ q, s.heap.size ≤ q → A q) (hbA : ¬ A b) (hK : va_K D vwCl (vT cy) s) (hn : nw s) (hm0 : nm s) (hsk : vk_R RX6 101 "krsoamngcv" kq s ∧ sA kq vq A s s.heap) {a : Nat → Nat} {i : Nat → Int32} {r : Nat → Nat → Int32} {q : Nat → Option Nat} {gb : Nat → Nat → Nat} {gi : Nat → Nat → Int32} {gr : Nat → Nat → Nat → Int32} {nh : Nat} {am : Nat → Nat} {im : Nat → Int32} {rm : Nat → Nat → Int32} {lm : Nat → Int64} (hLX : LX i r q gb gi gr nh) (hLM : LM im rm) (hLR : LR i r gi gr nh im rm) {H : Heap} {locs : List Loc} (hP : va_P D vwCl (xW cy a i r q (a 20) (a 12) ++ (HL cy gb gi gr nh ++ (mW cy am im rm lm))) H) (hD : va_D A (xW cy a i r q (a 20) (a 12) ++ (HL cy gb gi gr nh ++ (mW cy am im rm lm)))) (hS : va_S A s.heap H locs) {ls : Array Slot} {x : Int32} (hl : lv_has ls 4 [(0, .ref b), (1, .ref (a 0)), (2, .ref (am 0)), (3, .int x)]) {j : Nat} (hj : 7 * j + 7 ≤ L) (hL : L ≤ 3584) (hxj : x = nI (7 * j)) {ce sl : Nat} (hce : ce + 15 ≤ 600000) (hsl : sl + 215 ≤ 7302250) (kk : ∀ (a2 : Nat → Nat) (i2 : Nat → Int32) (r2 : Nat → Nat → Int32) (q2 : Nat → Option Nat) (gb2 : Nat → Nat → Nat) (gi2 : Nat → Nat → Int32) (gr2 : Nat → Nat → Nat → Int32) (nh2 : Nat) (im2 : Nat → Int32) (rm2 : Nat → Nat → Int32) (lm2 : Nat → Int64) (H2 : Heap) (locs2 : List Loc) (ls2 : Array Slot), a2 0 = a 0 → LX i2 r2 q2 gb2 gi2 gr2 nh2 → LM im2 rm2 → LR i2 r2 gi2 gr2 nh2 im2 rm2 → va_P D vwCl (xW cy a2 i2 r2 q2 (a2 20) (a2 12) ++ (HL cy gb2 gi2 gr2 nh2 ++ (mW cy am im2 rm2 lm2))) H2 → va_D A (xW cy a2 i2 r2 q2 (a2 20) (a2 12) ++ (HL cy gb2 gi2 gr2 nh2 ++ (mW cy am im2 rm2 lm2))) → va_S A s.heap H2 locs2 → lv_has ls2 4 [(0, .ref b), (1, .ref (a 0)), (2, .ref (am 0)), (3, .int x)] → W p l e room_1 s m #[Value.ref b] below meth c H2 locs2 (ce + 15) (sl + 215) (lw_Z below #[Value.ref b] s) (F0 m 1525 ls2 [])) : W p l e room_1 s m #[Value.ref b] below meth c H locs ce sl (lw_Z below #[Value.ref b] s) (F0 m 390 ls []) := by
  obtain ⟨hx, hb, hr, hml, hown, hts, hX, hbl, hlocks, hgv⟩ := id C0
  have hT : ∀ w ∈ gT, w.before _ s = true := fun w h => hts w (gT_in w h)
  have hx0 : x.toInt = ((7 * j : Nat) : Int) := by rw [hxj]; exact nI_toInt (by omega)
  have hLX0 := hLX
  have hLM0 := hLM
  refine lv_aload_n hx hb dL_law_390 rfl (lv_at hl 1 rfl) ?_
  refine lv_aload_n hx hb dL_law_391 rfl (lv_at hl 0 rfl) ?_
  refine lv_iload_n hx hb dL_law_392 rfl (lv_at hl 3 rfl) ?_
  refine lv_iconst (v := 1) hx hb dL_law_393 (by decide) ?_
  refine lv_iadd hx hb dL_law_394 ?_
  refine lv_topi (fun v_1 ev_1 => ?_)
  have hv_1 : v_1.toInt = x.toInt + 1 := by rw [ev_1]; have := b_rg x; exact i_add (a := x.toInt) (b := 1) rfl rfl (by omega) (by omega)
  refine va_sld hx hb hX hbl hbA hS (vp_inI (by omega) (by omega)) dL_law_395 ?_
  refine lv_topi (fun v_2 ev_2 => ?_)
  obtain rfl : v_2 = xs (7 * j + 1) := ev_2.trans (congrArg xs (nI_ix hxj (by omega) (by omega)))
  refine lv_aload_n hx hb dL_law_396 rfl (lv_at hl 0 rfl) ?_
  refine lv_iload_n hx hb dL_law_397 rfl (lv_at hl 3 rfl) ?_
  refine lv_iconst (v := 2) hx hb dL_law_398 (by decide) ?_
  refine lv_iadd hx hb dL_law_399 ?_
  refine lv_topi (fun v_3 ev_3 => ?_)
  have hv_3 : v_3.toInt = x.toInt + 2 := by rw [ev_3]; have := b_rg x; exact i_add (a := x.toInt) (b := 2) rfl rfl (by omega) (by omega)
  refine va_sld hx hb hX hbl hbA hS (vp_inI (by omega) (by omega)) dL_law_400 ?_
  refine lv_topi (fun v_4 ev_4 => ?_)
  obtain rfl : v_4 = xs (7 * j + 2) := ev_4.trans (congrArg xs (nI_ix hxj (by omega) (by omega)))
  refine lv_aload_n hx hb dL_law_401 rfl (lv_at hl 0 rfl) ?_
  refine lv_iload_n hx hb dL_law_402 rfl (lv_at hl 3 rfl) ?_
  refine lv_iconst (v := 3) hx hb dL_law_403 (by decide) ?_
  refine lv_iadd hx hb dL_law_404 ?_
  refine lv_topi (fun v_5 ev_5 => ?_)
  have hv_5 : v_5.toInt = x.toInt + 3 := by rw [ev_5]; have := b_rg x; exact i_add (a := x.toInt) (b := 3) rfl rfl (by omega) (by omega)
  refine va_sld hx hb hX hbl hbA hS (vp_inI (by omega) (by omega)) dL_law_405 ?_
  refine lv_topi (fun v_6 ev_6 => ?_)
  obtain rfl : v_6 = xs (7 * j + 3) := ev_6.trans (congrArg xs (nI_ix hxj (by omega) (by omega)))
  have kx : ∀ (z9 : Int32) (i9 : Nat → Int32) (r9 : Nat → Nat → Int32) (gi9 : Nat → Nat → Int32) (gr9 : Nat → Nat → Nat → Int32) (H9 : Heap) (locs9 : List Loc), LX i9 r9 q gb gi9 gr9 nh → CX [] [63] nh i r gi gr i9 r9 gi9 gr9 → va_P D vwCl (xW cy a i9 r9 q (a 20) (a 12) ++ (HL cy gb gi9 gr9 nh ++ (mW cy am im rm lm))) H9 → va_D A (xW cy a i9 r9 q (a 20) (a 12) ++ (HL cy gb gi9 gr9 nh ++ (mW cy am im rm lm))) → va_S A s.heap H9 locs9 → W p l e room_1 s m #[Value.ref b] below meth c H9 locs9 ce sl (lw_Z below #[Value.ref b] s) (F0 m 409 ls [.int z9]) := by
    intro z9 i9 r9 gi9 gr9 H locs hLX hCX hP hD hS
    refine lv_pop hx hb dL_law_409 rfl ?_
    refine lv_aload_n hx hb dL_law_410 rfl (lv_at hl 2 rfl) ?_
    refine lv_aload_n hx hb dL_law_411 rfl (lv_at hl 0 rfl) ?_
    refine lv_iload_n hx hb dL_law_412 rfl (lv_at hl 3 rfl) ?_
    refine lv_iconst (v := 1) hx hb dL_law_413 (by decide) ?_
    refine lv_iadd hx hb dL_law_414 ?_
    refine lv_topi (fun v_7 ev_7 => ?_)
    have hv_7 : v_7.toInt = x.toInt + 1 := by rw [ev_7]; have := b_rg x; exact i_add (a := x.toInt) (b := 1) rfl rfl (by omega) (by omega)
    refine va_sld hx hb hX hbl hbA hS (vp_inI (by omega) (by omega)) dL_law_415 ?_
    refine lv_topi (fun v_8 ev_8 => ?_)
    obtain rfl : v_8 = xs (7 * j + 1) := ev_8.trans (congrArg xs (nI_ix hxj (by omega) (by omega)))
    refine lv_aload_n hx hb dL_law_416 rfl (lv_at hl 0 rfl) ?_
    refine lv_iload_n hx hb dL_law_417 rfl (lv_at hl 3 rfl) ?_
    refine lv_iconst (v := 2) hx hb dL_law_418 (by decide) ?_
    refine lv_iadd hx hb dL_law_419 ?_
    refine lv_topi (fun v_9 ev_9 => ?_)
    have hv_9 : v_9.toInt = x.toInt + 2 := by rw [ev_9]; have := b_rg x; exact i_add (a := x.toInt) (b := 2) rfl rfl (by omega) (by omega)
    refine va_sld hx hb hX hbl hbA hS (vp_inI (by omega) (by omega)) dL_law_420 ?_
    refine lv_topi (fun v_10 ev_10 => ?_)
    obtain rfl : v_10 = xs (7 * j + 2) := ev_10.trans (congrArg xs (nI_ix hxj (by omega) (by omega)))
    refine lv_aload_n hx hb dL_law_421 rfl (lv_at hl 0 rfl) ?_
    refine lv_iload_n hx hb dL_law_422 rfl (lv_at hl 3 rfl) ?_
    refine lv_iconst (v := 3) hx hb dL_law_423 (by decide) ?_
    refine lv_iadd hx hb dL_law_424 ?_
    refine lv_topi (fun v_11 ev_11 => ?_)
    have hv_11 : v_11.toInt = x.toInt + 3 := by rw [ev_11]; have := b_rg x; exact i_add (a := x.toInt) (b := 3) rfl rfl (by omega) (by omega)
    refine va_sld hx hb hX hbl hbA hS (vp_inI (by omega) (by omega)) dL_law_425 ?_
    refine lv_topi (fun v_12 ev_12 => ?_)
    obtain rfl : v_12 = xs (7 * j + 3) := ev_12.trans (congrArg xs (nI_ix hxj (by omega) (by omega)))
    have hPa := hP
    have hDa := hD
    have hP := vaP_r (vaP_r hPa)
    have hD := vaD_r (vaD_r hDa)
    have hRi := hLM.1
    have hRr := hLM.2.1
    have hE := hLM.2.2
    have hF_13 := rF hD hS hA
    refine va_calli (va_runV (As := [.int (xs (7 * j + 1)), .int (xs (7 * j + 2)), .int (xs (7 * j + 3))]) (rest := []) ⟨hx, hb, hml, hown, hT⟩ (c_X12_owes l D cy am im rm lm (xs (7 * j + 1)) (xs (7 * j + 2)) (xs (7 * j + 3)) _ hRi hRr) (cwV 3 hT (gV t_941 t_942 t_943 t_944 t_6) rfl rfl rfl (by decide +kernel) ⟨Nat.le_of_ble_eq_true rfl, Nat.le_of_ble_eq_true rfl⟩) (rQ_v hP hK hD (va_recv hK hP (ci := 12) (q0 := 0) rfl rfl)) rfl rfl hl.1 rfl (lv_room (Nat.le_of_ble_eq_true rfl)) dL_law_426 ⟨by show _ ≤ (600000 : Nat); omega, by show _ ≤ (7302250 : Nat); omega⟩) hS (fun q _ h => hF_13 q h) hF_13 (fun r_14 u_15 t H1 locs ht hvm hr_14 hB hz1 hk1 hS => ?_)
    obtain ⟨r15, rfl⟩ : ∃ z, z = u_15 := ⟨_, rfl⟩
    obtain ⟨hP, hK1, hD1⟩ := hB
    rw [ht] at hP
    have hD := hD1.weaken (fun k q _ h => hF_13 q.1 h)
    have hP : va_P D vwCl (mW cy am im r15 lm) H1 := hP
    have hD : va_D A (mW cy am im r15 lm) := hD
    obtain ⟨hRr, hE2, hr_14⟩ := hr_14
    have hRr : mRr r15 := hRr
    obtain ⟨hP, hD⟩ := joinM hPa hDa hk1 hP rfl
    have hLM : LM im r15 := ⟨hRi, hRr, (mE_same (Ei_rf (T := [])) hE2 (by decide) (by decide) hE)⟩
    have hMI : mEi [] im im := Ei_rf
    have hMR : mEr [9] rm r15 := hE2
    obtain ⟨hL1, hL2, hL3⟩ := id hLR
    obtain ⟨kH, kK, kN, kX, kY, _⟩ := id hL1
    have hLR : LR i9 r9 gi9 gr9 nh im r15 := ⟨LR1_same hL1 hMI hMR hCX (by decide) (by decide) (by decide) (by decide), LR2_same hL2 hMI hMR hCX (by decide) (by decide) (by decide) (by decide), LR3_same hL3 hMI hMR hCX (by decide) (by decide) (by decide) (by decide)⟩
    refine lv_pop hx hb dL_law_429 rfl ?_
    refine lv_goto (tgt := 1525) hx hb dL_law_430 (by decide) ?_
    refine W.widen (k := ce + 15) (n := sl + 215) (by omega) (by omega) ?_
    exact kk a _ _ _ _ _ _ _ _ _ _ _ _ _ rfl hLX hLM hLR hP hD hS (lv_sub hl [0, 1, 2, 3] rfl)
  by_cases hv : 0 ≤ (xs (7 * j + 1)).toInt ∧ (xs (7 * j + 1)).toInt < (i 0).toInt
  · have hlt : (xs (7 * j + 1)).toNatClampNeg < nh := by have h9 : (xs (7 * j + 1)).toNatClampNeg = (xs (7 * j + 1)).toInt.toNat := rfl; have h8 := hLX.2.1; omega
    have hP0 := hP
    have hD0 := hD
    have hn6 : nh ≤ 6 := by have h8 := hLX.2.1; have h7 : (i 0).toInt ≤ 6 := (hLX.1.1 0).2; omega
    have hz := zoom (cy := cy) (a := a) (i := i) (r := r) (q := q) (hb := gb) (hi := gi) (hr := gr) (tl := (mW cy am im rm lm)) hlt
    have hP := vaP_perm hz hP
    have hD := vaD_perm hz hD
    have hRi := mix_Ri hLX.1.1 (hLX.2.2 _ hlt).2.1
    have hRr := mix_Rr hLX.1.2 (hLX.2.2 _ hlt).2.2
    obtain ⟨A2, hA2⟩ : ∃ z, z = mixA a (gb ((xs (7 * j + 1)).toNatClampNeg)) := ⟨_, rfl⟩
    obtain ⟨I2, hI2⟩ : ∃ z, z = mixI i (gi ((xs (7 * j + 1)).toNatClampNeg)) := ⟨_, rfl⟩
    obtain ⟨R2, hR2⟩ : ∃ z, z = mixR r (gr ((xs (7 * j + 1)).toNatClampNeg)) := ⟨_, rfl⟩
    rw [← hA2, ← hI2, ← hR2] at hP hD
    rw [← hI2] at hRi
    rw [← hR2] at hRr
    have h0 : I2 0 = i 0 := by rw [hI2]; rfl
    have h61 : A2 61 = gb ((xs (7 * j + 1)).toNatClampNeg) 61 := by rw [hA2]; rfl
    have ha0 : A2 0 = a 0 := by rw [hA2]; rfl
    rw [← ha0]
    have hF_16 := rF hD hS hA
    refine va_calli (va_runV (As := [.int (xs (7 * j + 1)), .int (xs (7 * j + 2)), .int (xs (7 * j + 3))]) (rest := []) ⟨hx, hb, hml, hown, hT⟩ (c_X11_owes.y l D cy A2 I2 R2 q (HX cy gb gi gr ((xs (7 * j + 1)).toNatClampNeg) nh ++ (mW cy am im rm lm)) (xs (7 * j + 1)) (xs (7 * j + 2)) (xs (7 * j + 3)) _ hRi hRr (by rw [h0]; exact hv) (by rw [h61]; exact (hLX.2.2 _ hlt).1)) (cwV 3 hT (gV t_945 t_946 t_947 t_948 t_2) rfl rfl rfl (by decide +kernel) ⟨Nat.le_of_ble_eq_true rfl, Nat.le_of_ble_eq_true rfl⟩) (rQ_v hP hK hD (va_recv hK hP (ci := 11) (q0 := 0) rfl rfl)) rfl rfl hl.1 rfl (lv_room (Nat.le_of_ble_eq_true rfl)) dL_law_406 ⟨by show _ ≤ (600000 : Nat); omega, by show _ ≤ (7302250 : Nat); omega⟩) hS (fun q _ h => hF_16 q h) hF_16 (fun r_17 u_18 t H1 locs ht hvm hr_17 hB hz1 hk1 hS => ?_)
    obtain ⟨r18, rfl⟩ : ∃ z, z = u_18 := ⟨_, rfl⟩
    obtain ⟨hP, hK1, hD1⟩ := hB
    rw [ht] at hP
    have hD := hD1.weaken (fun k q _ h => hF_16 q.1 h)
    obtain ⟨hRr, hE2, hr_17⟩ := hr_17
    have hRr : yRr r18 := hRr
    have hE2 : mEr [63] R2 r18 := hE2
    have hP : va_P D vwCl (xW cy A2 I2 r18 q (A2 20) (A2 12) ++ (hW cy A2 I2 r18 ++ (HX cy gb gi gr ((xs (7 * j + 1)).toNatClampNeg) nh ++ (mW cy am im rm lm)))) H1 := hP
    have hD : va_D A (xW cy A2 I2 r18 q (A2 20) (A2 12) ++ (hW cy A2 I2 r18 ++ (HX cy gb gi gr ((xs (7 * j + 1)).toNatClampNeg) nh ++ (mW cy am im rm lm)))) := hD
    rw [hA2] at hP hD
    have hP := vaP_perm (unzoom (i := I2) (r := R2) hlt) hP
    have hD := vaD_perm (unzoom (i := I2) (r := R2) hlt) hD
    have hLX := LX_y (K := (xs (7 * j + 1)).toNatClampNeg) hLX hRi hRr h0
    have hE2x := hE2
    have hCX := CX_y (nh := nh) (i := i) (r := r) (gi := gi) (gr := gr) (K := (xs (7 * j + 1)).toNatClampNeg) hI2 hR2 (Ei_rf (T := [])) hE2
    exact kx _ _ _ _ _ _ _ hLX hCX hP hD hS
  · skip
    have hRi := hLX.1.1
    have hRr := hLX.1.2
    refine vp_callSi (W.runV (As := [.int (xs (7 * j + 1)), .int (xs (7 * j + 2)), .int (xs (7 * j + 3))]) (rest := []) ⟨hx, hb, hml, hown, hT⟩ (c_X11_owes.b l D cy a i r q (HL cy gb gi gr nh ++ (mW cy am im rm lm)) (xs (7 * j + 1)) (xs (7 * j + 2)) (xs (7 * j + 3)) hRi hRr hv) (cwV 3 hT (gV t_945 t_946 t_947 t_948 t_2) rfl rfl rfl (by decide +kernel) ⟨Nat.le_of_ble_eq_true rfl, Nat.le_of_ble_eq_true rfl⟩) (rP_v hP hK (va_recv hK hP (ci := 11) (q0 := 0) rfl rfl)) rfl rfl hl.1 rfl (lv_room (Nat.le_of_ble_eq_true rfl)) dL_law_406 ⟨by show _ ≤ (600000 : Nat); omega, by show _ ≤ (7302250 : Nat); omega⟩) (fun r_19 hr_19 => ?_)
    have hCX := CX_rf (i := i) (r := r) (gi := gi) (gr := gr) (nh := nh)
    exact kx _ _ _ _ _ _ _ hLX CX_rfT hP hD hS
set_option maxHeartbeats 4000000 in
set_option maxRecDepth 100000 in
theorem lc_5 {p : Program} {l : Launch} {e : Env} {s : State} {m : MethodId} {below : List Frame} {meth : Method} {c : Code} {b L : Nat} {xs : Nat → Int32} (C0 : lw_At p s m meth c b L xs) {D : va_G} {cy : Nat → ClassId} {kq vq : Nat} {A : Nat → Prop} (hA : ∀ q, s.heap.size ≤ q → A q) (hbA : ¬ A b) (hK : va_K D vwCl (vT cy) s) (hn : nw s) (hm0 : nm s) (hsk : vk_R RX6 101 "krsoamngcv" kq s ∧ sA kq vq A s s.heap) {a : Nat → Nat} {i : Nat → Int32} {r : Nat → Nat → Int32} {q : Nat → Option Nat} {gb : Nat → Nat → Nat} {gi : Nat → Nat → Int32} {gr : Nat → Nat → Nat → Int32} {nh : Nat} {am : Nat → Nat} {im : Nat → Int32} {rm : Nat → Nat → Int32} {lm : Nat → Int64} (hLX : LX i r q gb gi gr nh) (hLM : LM im rm) (hLR : LR i r gi gr nh im rm) {H : Heap} {locs : List Loc} (hP : va_P D vwCl (xW cy a i r q (a 20) (a 12) ++ (HL cy gb gi gr nh ++ (mW cy am im rm lm))) H) (hD : va_D A (xW cy a i r q (a 20) (a 12) ++ (HL cy gb gi gr nh ++ (mW cy am im rm lm)))) (hS : va_S A s.heap H locs) {ls : Array Slot} {x : Int32} (hl : lv_has ls 4 [(0, .ref b), (1, .ref (a 0)), (2, .ref (am 0)), (3, .int x)]) {j : Nat} (hj : 7 * j + 7 ≤ L) (hL : L ≤ 3584) (hxj : x = nI (7 * j)) {ce sl : Nat} (hce : ce + 15 ≤ 600000) (hsl : sl + 215 ≤ 7302250) (kk : ∀ (a2 : Nat → Nat) (i2 : Nat → Int32) (r2 : Nat → Nat → Int32) (q2 : Nat → Option Nat) (gb2 : Nat → Nat → Nat) (gi2 : Nat → Nat → Int32) (gr2 : Nat → Nat → Nat → Int32) (nh2 : Nat) (im2 : Nat → Int32) (rm2 : Nat → Nat → Int32) (lm2 : Nat → Int64) (H2 : Heap) (locs2 : List Loc) (ls2 : Array Slot), a2 0 = a 0 → LX i2 r2 q2 gb2 gi2 gr2 nh2 → LM im2 rm2 → LR i2 r2 gi2 gr2 nh2 im2 rm2 → va_P D vwCl (xW cy a2 i2 r2 q2 (a2 20) (a2 12) ++ (HL cy gb2 gi2 gr2 nh2 ++ (mW cy am im2 rm2 lm2))) H2 → va_D A (xW cy a2 i2 r2 q2 (a2 20) (a2 12) ++ (HL cy gb2 gi2 gr2 nh2 ++ (mW cy am im2 rm2 lm2))) → va_S A s.heap H2 locs2 → lv_has ls2 4 [(0, .ref b), (1, .ref (a 0)), (2, .ref (am 0)), (3, .int x)] → W p l e room_1 s m #[Value.ref b] below meth c H2 locs2 (ce + 15) (sl + 215) (lw_Z below #[Value.ref b] s) (F0 m 1525 ls2 [])) : W p l e room_1 s m #[Value.ref b] below meth c H locs ce sl (lw_Z below #[Value.ref b] s) (F0 m 433 ls []) := by
  obtain ⟨hx, hb, hr, hml, hown, hts, hX, hbl, hlocks, hgv⟩ := id C0
  have hT : ∀ w ∈ gT, w.before _ s = true := fun w h => hts w (gT_in w h)
  have hx0 : x.toInt = ((7 * j : Nat) : Int) := by rw [hxj]; exact nI_toInt (by omega)
  have hLX0 := hLX
  have hLM0 := hLM
  refine lv_aload_n hx hb dL_law_433 rfl (lv_at hl 1 rfl) ?_
  refine lv_aload_n hx hb dL_law_434 rfl (lv_at hl 0 rfl) ?_
  refine lv_iload_n hx hb dL_law_435 rfl (lv_at hl 3 rfl) ?_
  refine lv_iconst (v := 1) hx hb dL_law_436 (by decide) ?_
  refine lv_iadd hx hb dL_law_437 ?_
  refine lv_topi (fun v_1 ev_1 => ?_)
  have hv_1 : v_1.toInt = x.toInt + 1 := by rw [ev_1]; have := b_rg x; exact i_add (a := x.toInt) (b := 1) rfl rfl (by omega) (by omega)
  refine va_sld hx hb hX hbl hbA hS (vp_inI (by omega) (by omega)) dL_law_438 ?_
  refine lv_topi (fun v_2 ev_2 => ?_)
  obtain rfl : v_2 = xs (7 * j + 1) := ev_2.trans (congrArg xs (nI_ix hxj (by omega) (by omega)))
  refine lv_aload_n hx hb dL_law_439 rfl (lv_at hl 0 rfl) ?_
  refine lv_iload_n hx hb dL_law_440 rfl (lv_at hl 3 rfl) ?_
  refine lv_iconst (v := 2) hx hb dL_law_441 (by decide) ?_
  refine lv_iadd hx hb dL_law_442 ?_
  refine lv_topi (fun v_3 ev_3 => ?_)
  have hv_3 : v_3.toInt = x.toInt + 2 := by rw [ev_3]; have := b_rg x; exact i_add (a := x.toInt) (b := 2) rfl rfl (by omega) (by omega)
  refine va_sld hx hb hX hbl hbA hS (vp_inI (by omega) (by omega)) dL_law_443 ?_
  refine lv_topi (fun v_4 ev_4 => ?_)
  obtain rfl : v_4 = xs (7 * j + 2) := ev_4.trans (congrArg xs (nI_ix hxj (by omega) (by omega)))
  refine lv_aload_n hx hb dL_law_444 rfl (lv_at hl 0 rfl) ?_
  refine lv_iload_n hx hb dL_law_445 rfl (lv_at hl 3 rfl) ?_
  refine lv_iconst (v := 3) hx hb dL_law_446 (by decide) ?_
  refine lv_iadd hx hb dL_law_447 ?_
  refine lv_topi (fun v_5 ev_5 => ?_)
  have hv_5 : v_5.toInt = x.toInt + 3 := by rw [ev_5]; have := b_rg x; exact i_add (a := x.toInt) (b := 3) rfl rfl (by omega) (by omega)
  refine va_sld hx hb hX hbl hbA hS (vp_inI (by omega) (by omega)) dL_law_448 ?_
  refine lv_topi (fun v_6 ev_6 => ?_)
  obtain rfl : v_6 = xs (7 * j + 3) := ev_6.trans (congrArg xs (nI_ix hxj (by omega) (by omega)))
  refine lv_aload_n hx hb dL_law_449 rfl (lv_at hl 0 rfl) ?_
  refine lv_iload_n hx hb dL_law_450 rfl (lv_at hl 3 rfl) ?_
  refine lv_iconst (v := 4) hx hb dL_law_451 (by decide) ?_
  refine lv_iadd hx hb dL_law_452 ?_
  refine lv_topi (fun v_7 ev_7 => ?_)
  have hv_7 : v_7.toInt = x.toInt + 4 := by rw [ev_7]; have := b_rg x; exact i_add (a := x.toInt) (b := 4) rfl rfl (by omega) (by omega)
  refine va_sld hx hb hX hbl hbA hS (vp_inI (by omega) (by omega)) dL_law_453 ?_
  refine lv_topi (fun v_8 ev_8 => ?_)
  obtain rfl : v_8 = xs (7 * j + 4) := ev_8.trans (congrArg xs (nI_ix hxj (by omega) (by omega)))
  refine lv_aload_n hx hb dL_law_454 rfl (lv_at hl 0 rfl) ?_
  refine lv_iload_n hx hb dL_law_455 rfl (lv_at hl 3 rfl) ?_
  refine lv_iconst (v := 5) hx hb dL_law_456 (by decide) ?_
  refine lv_iadd hx hb dL_law_457 ?_
  refine lv_topi (fun v_9 ev_9 => ?_)
  have hv_9 : v_9.toInt = x.toInt + 5 := by rw [ev_9]; have := b_rg x; exact i_add (a := x.toInt) (b := 5) rfl rfl (by omega) (by omega)
  refine va_sld hx hb hX hbl hbA hS (vp_inI (by omega) (by omega)) dL_law_458 ?_
  refine lv_topi (fun v_10 ev_10 => ?_)
  obtain rfl : v_10 = xs (7 * j + 5) := ev_10.trans (congrArg xs (nI_ix hxj (by omega) (by omega)))
  have kx : ∀ (z9 : Int32) (i9 : Nat → Int32) (r9 : Nat → Nat → Int32) (gi9 : Nat → Nat → Int32) (gr9 : Nat → Nat → Nat → Int32) (H9 : Heap) (locs9 : List Loc), LX i9 r9 q gb gi9 gr9 nh → CX [23] [6, 7, 66, 67, 68, 69, 75] nh i r gi gr i9 r9 gi9 gr9 → va_P D vwCl (xW cy a i9 r9 q (a 20) (a 12) ++ (HL cy gb gi9 gr9 nh ++ (mW cy am im rm lm))) H9 → va_D A (xW cy a i9 r9 q (a 20) (a 12) ++ (HL cy gb gi9 gr9 nh ++ (mW cy am im rm lm))) → va_S A s.heap H9 locs9 → W p l e room_1 s m #[Value.ref b] below meth c H9 locs9 ce sl (lw_Z below #[Value.ref b] s) (F0 m 462 ls [.int z9]) := by
    intro z9 i9 r9 gi9 gr9 H locs hLX hCX hP hD hS
    refine lv_pop hx hb dL_law_462 rfl ?_
    refine lv_aload_n hx hb dL_law_463 rfl (lv_at hl 2 rfl) ?_
    refine lv_aload_n hx hb dL_law_464 rfl (lv_at hl 0 rfl) ?_
    refine lv_iload_n hx hb dL_law_465 rfl (lv_at hl 3 rfl) ?_
    refine lv_iconst (v := 1) hx hb dL_law_466 (by decide) ?_
    refine lv_iadd hx hb dL_law_467 ?_
    refine lv_topi (fun v_11 ev_11 => ?_)
    have hv_11 : v_11.toInt = x.toInt + 1 := by rw [ev_11]; have := b_rg x; exact i_add (a := x.toInt) (b := 1) rfl rfl (by omega) (by omega)
    refine va_sld hx hb hX hbl hbA hS (vp_inI (by omega) (by omega)) dL_law_468 ?_
    refine lv_topi (fun v_12 ev_12 => ?_)
    obtain rfl : v_12 = xs (7 * j + 1) := ev_12.trans (congrArg xs (nI_ix hxj (by omega) (by omega)))
    refine lv_aload_n hx hb dL_law_469 rfl (lv_at hl 0 rfl) ?_
    refine lv_iload_n hx hb dL_law_470 rfl (lv_at hl 3 rfl) ?_
    refine lv_iconst (v := 2) hx hb dL_law_471 (by decide) ?_
    refine lv_iadd hx hb dL_law_472 ?_
    refine lv_topi (fun v_13 ev_13 => ?_)
    have hv_13 : v_13.toInt = x.toInt + 2 := by rw [ev_13]; have := b_rg x; exact i_add (a := x.toInt) (b := 2) rfl rfl (by omega) (by omega)
    refine va_sld hx hb hX hbl hbA hS (vp_inI (by omega) (by omega)) dL_law_473 ?_
    refine lv_topi (fun v_14 ev_14 => ?_)
    obtain rfl : v_14 = xs (7 * j + 2) := ev_14.trans (congrArg xs (nI_ix hxj (by omega) (by omega)))
    refine lv_aload_n hx hb dL_law_474 rfl (lv_at hl 0 rfl) ?_
    refine lv_iload_n hx hb dL_law_475 rfl (lv_at hl 3 rfl) ?_
    refine lv_iconst (v := 3) hx hb dL_law_476 (by decide) ?_
    refine lv_iadd hx hb dL_law_477 ?_
    refine lv_topi (fun v_15 ev_15 => ?_)
    have hv_15 : v_15.toInt = x.toInt + 3 := by rw [ev_15]; have := b_rg x; exact i_add (a := x.toInt) (b := 3) rfl rfl (by omega) (by omega)
    refine va_sld hx hb hX hbl hbA hS (vp_inI (by omega) (by omega)) dL_law_478 ?_
    refine lv_topi (fun v_16 ev_16 => ?_)
    obtain rfl : v_16 = xs (7 * j + 3) := ev_16.trans (congrArg xs (nI_ix hxj (by omega) (by omega)))
    refine lv_aload_n hx hb dL_law_479 rfl (lv_at hl 0 rfl) ?_
    refine lv_iload_n hx hb dL_law_480 rfl (lv_at hl 3 rfl) ?_
    refine lv_iconst (v := 4) hx hb dL_law_481 (by decide) ?_
    refine lv_iadd hx hb dL_law_482 ?_
    refine lv_topi (fun v_17 ev_17 => ?_)
    have hv_17 : v_17.toInt = x.toInt + 4 := by rw [ev_17]; have := b_rg x; exact i_add (a := x.toInt) (b := 4) rfl rfl (by omega) (by omega)
    refine va_sld hx hb hX hbl hbA hS (vp_inI (by omega) (by omega)) dL_law_483 ?_
    refine lv_topi (fun v_18 ev_18 => ?_)
    obtain rfl : v_18 = xs (7 * j + 4) := ev_18.trans (congrArg xs (nI_ix hxj (by omega) (by omega)))
    refine lv_aload_n hx hb dL_law_484 rfl (lv_at hl 0 rfl) ?_
    refine lv_iload_n hx hb dL_law_485 rfl (lv_at hl 3 rfl) ?_
    refine lv_iconst (v := 5) hx hb dL_law_486 (by decide) ?_
    refine lv_iadd hx hb dL_law_487 ?_
    refine lv_topi (fun v_19 ev_19 => ?_)
    have hv_19 : v_19.toInt = x.toInt + 5 := by rw [ev_19]; have := b_rg x; exact i_add (a := x.toInt) (b := 5) rfl rfl (by omega) (by omega)
    refine va_sld hx hb hX hbl hbA hS (vp_inI (by omega) (by omega)) dL_law_488 ?_
    refine lv_topi (fun v_20 ev_20 => ?_)
    obtain rfl : v_20 = xs (7 * j + 5) := ev_20.trans (congrArg xs (nI_ix hxj (by omega) (by omega)))
    have hPa := hP
    have hDa := hD
    have hP := vaP_r (vaP_r hPa)
    have hD := vaD_r (vaD_r hDa)
    have hRi := hLM.1
    have hRr := hLM.2.1
    have hE := hLM.2.2
    have hF_21 := rF hD hS hA
    refine va_calli (va_runV (As := [.int (xs (7 * j + 1)), .int (xs (7 * j + 2)), .int (xs (7 * j + 3)), .int (xs (7 * j + 4)), .int (xs (7 * j + 5))]) (rest := []) ⟨hx, hb, hml, hown, hT⟩ (c_X12_first l D cy am im rm lm (xs (7 * j + 1)) (xs (7 * j + 2)) (xs (7 * j + 3)) (xs (7 * j + 4)) (xs (7 * j + 5)) _ hRi hRr hE) (cwV 5 hT (gV t_949 t_950 t_951 t_952 t_6) rfl rfl rfl (by decide +kernel) ⟨Nat.le_of_ble_eq_true rfl, Nat.le_of_ble_eq_true rfl⟩) (rQ_v hP hK hD (va_recv hK hP (ci := 12) (q0 := 0) rfl rfl)) rfl rfl hl.1 rfl (lv_room (Nat.le_of_ble_eq_true rfl)) dL_law_489 ⟨by show _ ≤ (600000 : Nat); omega, by show _ ≤ (7302250 : Nat); omega⟩) hS (fun q _ h => hF_21 q h) hF_21 (fun r_22 u_23 t H1 locs ht hvm hr_22 hB hz1 hk1 hS => ?_)
    obtain ⟨r23, rfl⟩ : ∃ z, z = u_23 := ⟨_, rfl⟩
    obtain ⟨hP, hK1, hD1⟩ := hB
    rw [ht] at hP
    have hD := hD1.weaken (fun k q _ h => hF_21 q.1 h)
    have hP : va_P D vwCl (mW cy am im r23 lm) H1 := hP
    have hD : va_D A (mW cy am im r23 lm) := hD
    obtain ⟨hRr, hE2, hr_22⟩ := hr_22
    have hRr : mRr r23 := hRr
    obtain ⟨hP, hD⟩ := joinM hPa hDa hk1 hP rfl
    have hLM : LM im r23 := ⟨hRi, hRr, hr_22⟩
    have hMI : mEi [] im im := Ei_rf
    have hMR : mEr [10, 12, 13, 14, 15] rm r23 := hE2
    obtain ⟨hL1, hL2, hL3⟩ := id hLR
    obtain ⟨kH, kK, kN, kX, kY, _⟩ := id hL1
    have hLR : LR i9 r9 gi9 gr9 nh im r23 := ⟨LR1_same hL1 hMI hMR hCX (by decide) (by decide) (by decide) (by decide), LR2_same hL2 hMI hMR hCX (by decide) (by decide) (by decide) (by decide), LR3_same hL3 hMI hMR hCX (by decide) (by decide) (by decide) (by decide)⟩
    refine lv_pop hx hb dL_law_492 rfl ?_
    refine lv_goto (tgt := 1525) hx hb dL_law_493 (by decide) ?_
    refine W.widen (k := ce + 15) (n := sl + 215) (by omega) (by omega) ?_
    exact kk a _ _ _ _ _ _ _ _ _ _ _ _ _ rfl hLX hLM hLR hP hD hS (lv_sub hl [0, 1, 2, 3] rfl)
  by_cases hv : 0 ≤ (xs (7 * j + 1)).toInt ∧ (xs (7 * j + 1)).toInt < (i 0).toInt
  · have hlt : (xs (7 * j + 1)).toNatClampNeg < nh := by have h9 : (xs (7 * j + 1)).toNatClampNeg = (xs (7 * j + 1)).toInt.toNat := rfl; have h8 := hLX.2.1; omega
    have hP0 := hP
    have hD0 := hD
    have hn6 : nh ≤ 6 := by have h8 := hLX.2.1; have h7 : (i 0).toInt ≤ 6 := (hLX.1.1 0).2; omega
    have hz := zoom (cy := cy) (a := a) (i := i) (r := r) (q := q) (hb := gb) (hi := gi) (hr := gr) (tl := (mW cy am im rm lm)) hlt
    have hP := vaP_perm hz hP
    have hD := vaD_perm hz hD
    have hRi := mix_Ri hLX.1.1 (hLX.2.2 _ hlt).2.1
    have hRr := mix_Rr hLX.1.2 (hLX.2.2 _ hlt).2.2
    obtain ⟨A2, hA2⟩ : ∃ z, z = mixA a (gb ((xs (7 * j + 1)).toNatClampNeg)) := ⟨_, rfl⟩
    obtain ⟨I2, hI2⟩ : ∃ z, z = mixI i (gi ((xs (7 * j + 1)).toNatClampNeg)) := ⟨_, rfl⟩
    obtain ⟨R2, hR2⟩ : ∃ z, z = mixR r (gr ((xs (7 * j + 1)).toNatClampNeg)) := ⟨_, rfl⟩
    rw [← hA2, ← hI2, ← hR2] at hP hD
    rw [← hI2] at hRi
    rw [← hR2] at hRr
    have h0 : I2 0 = i 0 := by rw [hI2]; rfl
    have h61 : A2 61 = gb ((xs (7 * j + 1)).toNatClampNeg) 61 := by rw [hA2]; rfl
    have ha0 : A2 0 = a 0 := by rw [hA2]; rfl
    rw [← ha0]
    have hF_24 := rF hD hS hA
    refine va_calli (va_runV (As := [.int (xs (7 * j + 1)), .int (xs (7 * j + 2)), .int (xs (7 * j + 3)), .int (xs (7 * j + 4)), .int (xs (7 * j + 5))]) (rest := []) ⟨hx, hb, hml, hown, hT⟩ (c_X11_first.y l D cy A2 I2 R2 q (HX cy gb gi gr ((xs (7 * j + 1)).toNatClampNeg) nh ++ (mW cy am im rm lm)) (xs (7 * j + 1)) (xs (7 * j + 2)) (xs (7 * j + 3)) (xs (7 * j + 4)) (xs (7 * j + 5)) _ hRi hRr (by rw [h0]; exact hv) (by rw [h61]; exact (hLX.2.2 _ hlt).1)) (cwV 5 hT (gV t_953 t_954 t_955 t_956 t_2) rfl rfl rfl (by decide +kernel) ⟨Nat.le_of_ble_eq_true rfl, Nat.le_of_ble_eq_true rfl⟩) (rQ_v hP hK hD (va_recv hK hP (ci := 11) (q0 := 0) rfl rfl)) rfl rfl hl.1 rfl (lv_room (Nat.le_of_ble_eq_true rfl)) dL_law_459 ⟨by show _ ≤ (600000 : Nat); omega, by show _ ≤ (7302250 : Nat); omega⟩) hS (fun q _ h => hF_24 q h) hF_24 (fun r_25 u_26 t H1 locs ht hvm hr_25 hB hz1 hk1 hS => ?_)
    obtain ⟨i26, r26⟩ := u_26
    obtain ⟨hP, hK1, hD1⟩ := hB
    rw [ht] at hP
    have hD := hD1.weaken (fun k q _ h => hF_24 q.1 h)
    obtain ⟨hRi, hRr, hE1, hE2, hr_25⟩ := hr_25
    have hRi : yRi i26 := hRi
    have hE1 : mEi [23] I2 i26 := hE1
    have hRr : yRr r26 := hRr
    have hE2 : mEr [6, 7, 66, 67, 68, 69, 75] R2 r26 := hE2
    have hP : va_P D vwCl (xW cy A2 i26 r26 q (A2 20) (A2 12) ++ (hW cy A2 i26 r26 ++ (HX cy gb gi gr ((xs (7 * j + 1)).toNatClampNeg) nh ++ (mW cy am im rm lm)))) H1 := hP
    have hD : va_D A (xW cy A2 i26 r26 q (A2 20) (A2 12) ++ (hW cy A2 i26 r26 ++ (HX cy gb gi gr ((xs (7 * j + 1)).toNatClampNeg) nh ++ (mW cy am im rm lm)))) := hD
    rw [hA2] at hP hD
    have hP := vaP_perm (unzoom (i := I2) (r := R2) hlt) hP
    have hD := vaD_perm (unzoom (i := I2) (r := R2) hlt) hD
    have hLX := LX_y (K := (xs (7 * j + 1)).toNatClampNeg) hLX hRi hRr ((hE1 0 (by decide)).trans h0)
    have hE2x := hE2
    have hCX := CX_y (nh := nh) (i := i) (r := r) (gi := gi) (gr := gr) (K := (xs (7 * j + 1)).toNatClampNeg) hI2 hR2 hE1 hE2
    exact kx _ _ _ _ _ _ _ hLX hCX hP hD hS
  · skip
    have hRi := hLX.1.1
    have hRr := hLX.1.2
    refine vp_callSi (W.runV (As := [.int (xs (7 * j + 1)), .int (xs (7 * j + 2)), .int (xs (7 * j + 3)), .int (xs (7 * j + 4)), .int (xs (7 * j + 5))]) (rest := []) ⟨hx, hb, hml, hown, hT⟩ (c_X11_first.b l D cy a i r q (HL cy gb gi gr nh ++ (mW cy am im rm lm)) (xs (7 * j + 1)) (xs (7 * j + 2)) (xs (7 * j + 3)) (xs (7 * j + 4)) (xs (7 * j + 5)) hRi hRr hv) (cwV 5 hT (gV t_953 t_954 t_955 t_956 t_2) rfl rfl rfl (by decide +kernel) ⟨Nat.le_of_ble_eq_true rfl, Nat.le_of_ble_eq_true rfl⟩) (rP_v hP hK (va_recv hK hP (ci := 11) (q0 := 0) rfl rfl)) rfl rfl hl.1 rfl (lv_room (Nat.le_of_ble_eq_true rfl)) dL_law_459 ⟨by show _ ≤ (600000 : Nat); omega, by show _ ≤ (7302250 : Nat); omega⟩) (fun r_27 hr_27 => ?_)
    have hCX := CX_rf (i := i) (r := r) (gi := gi) (gr := gr) (nh := nh)
    exact kx _ _ _ _ _ _ _ hLX CX_rfT hP hD hS
set_option maxHeartbeats 4000000 in
set_option maxRecDepth 100000 in
theorem lc_6 {p : Program} {l : Launch} {e : Env} {s : State} {m : MethodId} {below : List Frame} {meth : Method} {c : Code} {b L : Nat} {xs : Nat → Int32} (C0 : lw_At p s m meth c b L xs) {D : va_G} {cy : Nat → ClassId} {kq vq : Nat} {A : Nat → Prop} (hA : ∀ q, s.heap.size ≤ q → A q) (hbA : ¬ A b) (hK : va_K D vwCl (vT cy) s) (hn : nw s) (hm0 : nm s) (hsk : vk_R RX6 101 "krsoamngcv" kq s ∧ sA kq vq A s s.heap) {a : Nat → Nat} {i : Nat → Int32} {r : Nat → Nat → Int32} {q : Nat → Option Nat} {gb : Nat → Nat → Nat} {gi : Nat → Nat → Int32} {gr : Nat → Nat → Nat → Int32} {nh : Nat} {am : Nat → Nat} {im : Nat → Int32} {rm : Nat → Nat → Int32} {lm : Nat → Int64} (hLX : LX i r q gb gi gr nh) (hLM : LM im rm) (hLR : LR i r gi gr nh im rm) {H : Heap} {locs : List Loc} (hP : va_P D vwCl (xW cy a i r q (a 20) (a 12) ++ (HL cy gb gi gr nh ++ (mW cy am im rm lm))) H) (hD : va_D A (xW cy a i r q (a 20) (a 12) ++ (HL cy gb gi gr nh ++ (mW cy am im rm lm)))) (hS : va_S A s.heap H locs) {ls : Array Slot} {x : Int32} (hl : lv_has ls 4 [(0, .ref b), (1, .ref (a 0)), (2, .ref (am 0)), (3, .int x)]) {j : Nat} (hj : 7 * j + 7 ≤ L) (hL : L ≤ 3584) (hxj : x = nI (7 * j)) {ce sl : Nat} (hce : ce + 15 ≤ 600000) (hsl : sl + 215 ≤ 7302250) (kk : ∀ (a2 : Nat → Nat) (i2 : Nat → Int32) (r2 : Nat → Nat → Int32) (q2 : Nat → Option Nat) (gb2 : Nat → Nat → Nat) (gi2 : Nat → Nat → Int32) (gr2 : Nat → Nat → Nat → Int32) (nh2 : Nat) (im2 : Nat → Int32) (rm2 : Nat → Nat → Int32) (lm2 : Nat → Int64) (H2 : Heap) (locs2 : List Loc) (ls2 : Array Slot), a2 0 = a 0 → LX i2 r2 q2 gb2 gi2 gr2 nh2 → LM im2 rm2 → LR i2 r2 gi2 gr2 nh2 im2 rm2 → va_P D vwCl (xW cy a2 i2 r2 q2 (a2 20) (a2 12) ++ (HL cy gb2 gi2 gr2 nh2 ++ (mW cy am im2 rm2 lm2))) H2 → va_D A (xW cy a2 i2 r2 q2 (a2 20) (a2 12) ++ (HL cy gb2 gi2 gr2 nh2 ++ (mW cy am im2 rm2 lm2))) → va_S A s.heap H2 locs2 → lv_has ls2 4 [(0, .ref b), (1, .ref (a 0)), (2, .ref (am 0)), (3, .int x)] → W p l e room_1 s m #[Value.ref b] below meth c H2 locs2 (ce + 15) (sl + 215) (lw_Z below #[Value.ref b] s) (F0 m 1525 ls2 [])) : W p l e room_1 s m #[Value.ref b] below meth c H locs ce sl (lw_Z below #[Value.ref b] s) (F0 m 496 ls []) := by
  obtain ⟨hx, hb, hr, hml, hown, hts, hX, hbl, hlocks, hgv⟩ := id C0
  have hT : ∀ w ∈ gT, w.before _ s = true := fun w h => hts w (gT_in w h)
  have hx0 : x.toInt = ((7 * j : Nat) : Int) := by rw [hxj]; exact nI_toInt (by omega)
  have hLX0 := hLX
  have hLM0 := hLM
  refine lv_aload_n hx hb dL_law_496 rfl (lv_at hl 1 rfl) ?_
  refine lv_aload_n hx hb dL_law_497 rfl (lv_at hl 0 rfl) ?_
  refine lv_iload_n hx hb dL_law_498 rfl (lv_at hl 3 rfl) ?_
  refine lv_iconst (v := 1) hx hb dL_law_499 (by decide) ?_
  refine lv_iadd hx hb dL_law_500 ?_
  refine lv_topi (fun v_1 ev_1 => ?_)
  have hv_1 : v_1.toInt = x.toInt + 1 := by rw [ev_1]; have := b_rg x; exact i_add (a := x.toInt) (b := 1) rfl rfl (by omega) (by omega)
  refine va_sld hx hb hX hbl hbA hS (vp_inI (by omega) (by omega)) dL_law_501 ?_
  refine lv_topi (fun v_2 ev_2 => ?_)
  obtain rfl : v_2 = xs (7 * j + 1) := ev_2.trans (congrArg xs (nI_ix hxj (by omega) (by omega)))
  refine lv_aload_n hx hb dL_law_502 rfl (lv_at hl 0 rfl) ?_
  refine lv_iload_n hx hb dL_law_503 rfl (lv_at hl 3 rfl) ?_
  refine lv_iconst (v := 2) hx hb dL_law_504 (by decide) ?_
  refine lv_iadd hx hb dL_law_505 ?_
  refine lv_topi (fun v_3 ev_3 => ?_)
  have hv_3 : v_3.toInt = x.toInt + 2 := by rw [ev_3]; have := b_rg x; exact i_add (a := x.toInt) (b := 2) rfl rfl (by omega) (by omega)
  refine va_sld hx hb hX hbl hbA hS (vp_inI (by omega) (by omega)) dL_law_506 ?_
  refine lv_topi (fun v_4 ev_4 => ?_)
  obtain rfl : v_4 = xs (7 * j + 2) := ev_4.trans (congrArg xs (nI_ix hxj (by omega) (by omega)))
  refine lv_aload_n hx hb dL_law_507 rfl (lv_at hl 0 rfl) ?_
  refine lv_iload_n hx hb dL_law_508 rfl (lv_at hl 3 rfl) ?_
  refine lv_iconst (v := 3) hx hb dL_law_509 (by decide) ?_
  refine lv_iadd hx hb dL_law_510 ?_
  refine lv_topi (fun v_5 ev_5 => ?_)
  have hv_5 : v_5.toInt = x.toInt + 3 := by rw [ev_5]; have := b_rg x; exact i_add (a := x.toInt) (b := 3) rfl rfl (by omega) (by omega)
  refine va_sld hx hb hX hbl hbA hS (vp_inI (by omega) (by omega)) dL_law_511 ?_
  refine lv_topi (fun v_6 ev_6 => ?_)
  obtain rfl : v_6 = xs (7 * j + 3) := ev_6.trans (congrArg xs (nI_ix hxj (by omega) (by omega)))
  refine lv_aload_n hx hb dL_law_512 rfl (lv_at hl 0 rfl) ?_
  refine lv_iload_n hx hb dL_law_513 rfl (lv_at hl 3 rfl) ?_
  refine lv_iconst (v := 4) hx hb dL_law_514 (by decide) ?_
  refine lv_iadd hx hb dL_law_515 ?_
  refine lv_topi (fun v_7 ev_7 => ?_)
  have hv_7 : v_7.toInt = x.toInt + 4 := by rw [ev_7]; have := b_rg x; exact i_add (a := x.toInt) (b := 4) rfl rfl (by omega) (by omega)
  refine va_sld hx hb hX hbl hbA hS (vp_inI (by omega) (by omega)) dL_law_516 ?_
  refine lv_topi (fun v_8 ev_8 => ?_)
  obtain rfl : v_8 = xs (7 * j + 4) := ev_8.trans (congrArg xs (nI_ix hxj (by omega) (by omega)))
  have kx : ∀ (z9 : Int32) (i9 : Nat → Int32) (r9 : Nat → Nat → Int32) (gi9 : Nat → Nat → Int32) (gr9 : Nat → Nat → Nat → Int32) (H9 : Heap) (locs9 : List Loc), LX i9 r9 q gb gi9 gr9 nh → CX [24] [6, 7, 71, 72, 73, 74, 75] nh i r gi gr i9 r9 gi9 gr9 → va_P D vwCl (xW cy a i9 r9 q (a 20) (a 12) ++ (HL cy gb gi9 gr9 nh ++ (mW cy am im rm lm))) H9 → va_D A (xW cy a i9 r9 q (a 20) (a 12) ++ (HL cy gb gi9 gr9 nh ++ (mW cy am im rm lm))) → va_S A s.heap H9 locs9 → W p l e room_1 s m #[Value.ref b] below meth c H9 locs9 ce sl (lw_Z below #[Value.ref b] s) (F0 m 520 ls [.int z9]) := by
    intro z9 i9 r9 gi9 gr9 H locs hLX hCX hP hD hS
    refine lv_pop hx hb dL_law_520 rfl ?_
    refine lv_aload_n hx hb dL_law_521 rfl (lv_at hl 2 rfl) ?_
    refine lv_aload_n hx hb dL_law_522 rfl (lv_at hl 0 rfl) ?_
    refine lv_iload_n hx hb dL_law_523 rfl (lv_at hl 3 rfl) ?_
    refine lv_iconst (v := 1) hx hb dL_law_524 (by decide) ?_
    refine lv_iadd hx hb dL_law_525 ?_
    refine lv_topi (fun v_9 ev_9 => ?_)
    have hv_9 : v_9.toInt = x.toInt + 1 := by rw [ev_9]; have := b_rg x; exact i_add (a := x.toInt) (b := 1) rfl rfl (by omega) (by omega)
    refine va_sld hx hb hX hbl hbA hS (vp_inI (by omega) (by omega)) dL_law_526 ?_
    refine lv_topi (fun v_10 ev_10 => ?_)
    obtain rfl : v_10 = xs (7 * j + 1) := ev_10.trans (congrArg xs (nI_ix hxj (by omega) (by omega)))
    refine lv_aload_n hx hb dL_law_527 rfl (lv_at hl 0 rfl) ?_
    refine lv_iload_n hx hb dL_law_528 rfl (lv_at hl 3 rfl) ?_
    refine lv_iconst (v := 2) hx hb dL_law_529 (by decide) ?_
    refine lv_iadd hx hb dL_law_530 ?_
    refine lv_topi (fun v_11 ev_11 => ?_)
    have hv_11 : v_11.toInt = x.toInt + 2 := by rw [ev_11]; have := b_rg x; exact i_add (a := x.toInt) (b := 2) rfl rfl (by omega) (by omega)
    refine va_sld hx hb hX hbl hbA hS (vp_inI (by omega) (by omega)) dL_law_531 ?_
    refine lv_topi (fun v_12 ev_12 => ?_)
    obtain rfl : v_12 = xs (7 * j + 2) := ev_12.trans (congrArg xs (nI_ix hxj (by omega) (by omega)))
    refine lv_aload_n hx hb dL_law_532 rfl (lv_at hl 0 rfl) ?_
    refine lv_iload_n hx hb dL_law_533 rfl (lv_at hl 3 rfl) ?_
    refine lv_iconst (v := 3) hx hb dL_law_534 (by decide) ?_
    refine lv_iadd hx hb dL_law_535 ?_
    refine lv_topi (fun v_13 ev_13 => ?_)
    have hv_13 : v_13.toInt = x.toInt + 3 := by rw [ev_13]; have := b_rg x; exact i_add (a := x.toInt) (b := 3) rfl rfl (by omega) (by omega)
    refine va_sld hx hb hX hbl hbA hS (vp_inI (by omega) (by omega)) dL_law_536 ?_
    refine lv_topi (fun v_14 ev_14 => ?_)
    obtain rfl : v_14 = xs (7 * j + 3) := ev_14.trans (congrArg xs (nI_ix hxj (by omega) (by omega)))
    refine lv_aload_n hx hb dL_law_537 rfl (lv_at hl 0 rfl) ?_
    refine lv_iload_n hx hb dL_law_538 rfl (lv_at hl 3 rfl) ?_
    refine lv_iconst (v := 4) hx hb dL_law_539 (by decide) ?_
    refine lv_iadd hx hb dL_law_540 ?_
    refine lv_topi (fun v_15 ev_15 => ?_)
    have hv_15 : v_15.toInt = x.toInt + 4 := by rw [ev_15]; have := b_rg x; exact i_add (a := x.toInt) (b := 4) rfl rfl (by omega) (by omega)
    refine va_sld hx hb hX hbl hbA hS (vp_inI (by omega) (by omega)) dL_law_541 ?_
    refine lv_topi (fun v_16 ev_16 => ?_)
    obtain rfl : v_16 = xs (7 * j + 4) := ev_16.trans (congrArg xs (nI_ix hxj (by omega) (by omega)))
    have hPa := hP
    have hDa := hD
    have hP := vaP_r (vaP_r hPa)
    have hD := vaD_r (vaD_r hDa)
    have hRi := hLM.1
    have hRr := hLM.2.1
    have hE := hLM.2.2
    have hF_17 := rF hD hS hA
    refine va_calli (va_runV (As := [.int (xs (7 * j + 1)), .int (xs (7 * j + 2)), .int (xs (7 * j + 3)), .int (xs (7 * j + 4))]) (rest := []) ⟨hx, hb, hml, hown, hT⟩ (c_X12_last l D cy am im rm lm (xs (7 * j + 1)) (xs (7 * j + 2)) (xs (7 * j + 3)) (xs (7 * j + 4)) _ hRi hRr) (cwV 4 hT (gV t_957 t_958 t_959 t_960 t_6) rfl rfl rfl (by decide +kernel) ⟨Nat.le_of_ble_eq_true rfl, Nat.le_of_ble_eq_true rfl⟩) (rQ_v hP hK hD (va_recv hK hP (ci := 12) (q0 := 0) rfl rfl)) rfl rfl hl.1 rfl (lv_room (Nat.le_of_ble_eq_true rfl)) dL_law_542 ⟨by show _ ≤ (600000 : Nat); omega, by show _ ≤ (7302250 : Nat); omega⟩) hS (fun q _ h => hF_17 q h) hF_17 (fun r_18 u_19 t H1 locs ht hvm hr_18 hB hz1 hk1 hS => ?_)
    obtain ⟨r19, rfl⟩ : ∃ z, z = u_19 := ⟨_, rfl⟩
    obtain ⟨hP, hK1, hD1⟩ := hB
    rw [ht] at hP
    have hD := hD1.weaken (fun k q _ h => hF_17 q.1 h)
    have hP : va_P D vwCl (mW cy am im r19 lm) H1 := hP
    have hD : va_D A (mW cy am im r19 lm) := hD
    obtain ⟨hRr, hE2, hr_18⟩ := hr_18
    have hRr : mRr r19 := hRr
    obtain ⟨hP, hD⟩ := joinM hPa hDa hk1 hP rfl
    have hLM : LM im r19 := ⟨hRi, hRr, (mE_same (Ei_rf (T := [])) hE2 (by decide) (by decide) hE)⟩
    have hMI : mEi [] im im := Ei_rf
    have hMR : mEr [11, 16, 17, 18] rm r19 := hE2
    obtain ⟨hL1, hL2, hL3⟩ := id hLR
    obtain ⟨kH, kK, kN, kX, kY, _⟩ := id hL1
    have hLR : LR i9 r9 gi9 gr9 nh im r19 := ⟨LR1_same hL1 hMI hMR hCX (by decide) (by decide) (by decide) (by decide), LR2_same hL2 hMI hMR hCX (by decide) (by decide) (by decide) (by decide), LR3_same hL3 hMI hMR hCX (by decide) (by decide) (by decide) (by decide)⟩
    refine lv_pop hx hb dL_law_545 rfl ?_
    refine lv_goto (tgt := 1525) hx hb dL_law_546 (by decide) ?_
    refine W.widen (k := ce + 15) (n := sl + 215) (by omega) (by omega) ?_
    exact kk a _ _ _ _ _ _ _ _ _ _ _ _ _ rfl hLX hLM hLR hP hD hS (lv_sub hl [0, 1, 2, 3] rfl)
  by_cases hv : 0 ≤ (xs (7 * j + 1)).toInt ∧ (xs (7 * j + 1)).toInt < (i 0).toInt
  · have hlt : (xs (7 * j + 1)).toNatClampNeg < nh := by have h9 : (xs (7 * j + 1)).toNatClampNeg = (xs (7 * j + 1)).toInt.toNat := rfl; have h8 := hLX.2.1; omega
    have hP0 := hP
    have hD0 := hD
    have hn6 : nh ≤ 6 := by have h8 := hLX.2.1; have h7 : (i 0).toInt ≤ 6 := (hLX.1.1 0).2; omega
    have hz := zoom (cy := cy) (a := a) (i := i) (r := r) (q := q) (hb := gb) (hi := gi) (hr := gr) (tl := (mW cy am im rm lm)) hlt
    have hP := vaP_perm hz hP
    have hD := vaD_perm hz hD
    have hRi := mix_Ri hLX.1.1 (hLX.2.2 _ hlt).2.1
    have hRr := mix_Rr hLX.1.2 (hLX.2.2 _ hlt).2.2
    obtain ⟨A2, hA2⟩ : ∃ z, z = mixA a (gb ((xs (7 * j + 1)).toNatClampNeg)) := ⟨_, rfl⟩
    obtain ⟨I2, hI2⟩ : ∃ z, z = mixI i (gi ((xs (7 * j + 1)).toNatClampNeg)) := ⟨_, rfl⟩
    obtain ⟨R2, hR2⟩ : ∃ z, z = mixR r (gr ((xs (7 * j + 1)).toNatClampNeg)) := ⟨_, rfl⟩
    rw [← hA2, ← hI2, ← hR2] at hP hD
    rw [← hI2] at hRi
    rw [← hR2] at hRr
    have h0 : I2 0 = i 0 := by rw [hI2]; rfl
    have h61 : A2 61 = gb ((xs (7 * j + 1)).toNatClampNeg) 61 := by rw [hA2]; rfl
    have ha0 : A2 0 = a 0 := by rw [hA2]; rfl
    rw [← ha0]
    have hF_20 := rF hD hS hA
    refine va_calli (va_runV (As := [.int (xs (7 * j + 1)), .int (xs (7 * j + 2)), .int (xs (7 * j + 3)), .int (xs (7 * j + 4))]) (rest := []) ⟨hx, hb, hml, hown, hT⟩ (c_X11_last.y l D cy A2 I2 R2 q (HX cy gb gi gr ((xs (7 * j + 1)).toNatClampNeg) nh ++ (mW cy am im rm lm)) (xs (7 * j + 1)) (xs (7 * j + 2)) (xs (7 * j + 3)) (xs (7 * j + 4)) _ hRi hRr (by rw [h0]; exact hv) (by rw [h61]; exact (hLX.2.2 _ hlt).1)) (cwV 4 hT (gV t_961 t_962 t_963 t_964 t_2) rfl rfl rfl (by decide +kernel) ⟨Nat.le_of_ble_eq_true rfl, Nat.le_of_ble_eq_true rfl⟩) (rQ_v hP hK hD (va_recv hK hP (ci := 11) (q0 := 0) rfl rfl)) rfl rfl hl.1 rfl (lv_room (Nat.le_of_ble_eq_true rfl)) dL_law_517 ⟨by show _ ≤ (600000 : Nat); omega, by show _ ≤ (7302250 : Nat); omega⟩) hS (fun q _ h => hF_20 q h) hF_20 (fun r_21 u_22 t H1 locs ht hvm hr_21 hB hz1 hk1 hS => ?_)
    obtain ⟨i22, r22⟩ := u_22
    obtain ⟨hP, hK1, hD1⟩ := hB
    rw [ht] at hP
    have hD := hD1.weaken (fun k q _ h => hF_20 q.1 h)
    obtain ⟨hRi, hRr, hE1, hE2, hr_21⟩ := hr_21
    have hRi : yRi i22 := hRi
    have hE1 : mEi [24] I2 i22 := hE1
    have hRr : yRr r22 := hRr
    have hE2 : mEr [6, 7, 71, 72, 73, 74, 75] R2 r22 := hE2
    have hP : va_P D vwCl (xW cy A2 i22 r22 q (A2 20) (A2 12) ++ (hW cy A2 i22 r22 ++ (HX cy gb gi gr ((xs (7 * j + 1)).toNatClampNeg) nh ++ (mW cy am im rm lm)))) H1 := hP
    have hD : va_D A (xW cy A2 i22 r22 q (A2 20) (A2 12) ++ (hW cy A2 i22 r22 ++ (HX cy gb gi gr ((xs (7 * j + 1)).toNatClampNeg) nh ++ (mW cy am im rm lm)))) := hD
    rw [hA2] at hP hD
    have hP := vaP_perm (unzoom (i := I2) (r := R2) hlt) hP
    have hD := vaD_perm (unzoom (i := I2) (r := R2) hlt) hD
    have hLX := LX_y (K := (xs (7 * j + 1)).toNatClampNeg) hLX hRi hRr ((hE1 0 (by decide)).trans h0)
    have hE2x := hE2
    have hCX := CX_y (nh := nh) (i := i) (r := r) (gi := gi) (gr := gr) (K := (xs (7 * j + 1)).toNatClampNeg) hI2 hR2 hE1 hE2
    exact kx _ _ _ _ _ _ _ hLX hCX hP hD hS
  · skip
    have hRi := hLX.1.1
    have hRr := hLX.1.2
    refine vp_callSi (W.runV (As := [.int (xs (7 * j + 1)), .int (xs (7 * j + 2)), .int (xs (7 * j + 3)), .int (xs (7 * j + 4))]) (rest := []) ⟨hx, hb, hml, hown, hT⟩ (c_X11_last.b l D cy a i r q (HL cy gb gi gr nh ++ (mW cy am im rm lm)) (xs (7 * j + 1)) (xs (7 * j + 2)) (xs (7 * j + 3)) (xs (7 * j + 4)) hRi hRr hv) (cwV 4 hT (gV t_961 t_962 t_963 t_964 t_2) rfl rfl rfl (by decide +kernel) ⟨Nat.le_of_ble_eq_true rfl, Nat.le_of_ble_eq_true rfl⟩) (rP_v hP hK (va_recv hK hP (ci := 11) (q0 := 0) rfl rfl)) rfl rfl hl.1 rfl (lv_room (Nat.le_of_ble_eq_true rfl)) dL_law_517 ⟨by show _ ≤ (600000 : Nat); omega, by show _ ≤ (7302250 : Nat); omega⟩) (fun r_23 hr_23 => ?_)
    have hCX := CX_rf (i := i) (r := r) (gi := gi) (gr := gr) (nh := nh)
    exact kx _ _ _ _ _ _ _ hLX CX_rfT hP hD hS
set_option maxHeartbeats 4000000 in
set_option maxRecDepth 100000 in
theorem lc_7 {p : Program} {l : Launch} {e : Env} {s : State} {m : MethodId} {below : List Frame} {meth : Method} {c : Code} {b L : Nat} {xs : Nat → Int32} (C0 : lw_At p s m meth c b L xs) {D : va_G} {cy : Nat → ClassId} {kq vq : Nat} {A : Nat → Prop} (hA : ∀ q, s.heap.size ≤ q → A q) (hbA : ¬ A b) (hK : va_K D vwCl (vT cy) s) (hn : nw s) (hm0 : nm s) (hsk : vk_R RX6 101 "krsoamngcv" kq s ∧ sA kq vq A s s.heap) {a : Nat → Nat} {i : Nat → Int32} {r : Nat → Nat → Int32} {q : Nat → Option Nat} {gb : Nat → Nat → Nat} {gi : Nat → Nat → Int32} {gr : Nat → Nat → Nat → Int32} {nh : Nat} {am : Nat → Nat} {im : Nat → Int32} {rm : Nat → Nat → Int32} {lm : Nat → Int64} (hLX : LX i r q gb gi gr nh) (hLM : LM im rm) (hLR : LR i r gi gr nh im rm) {H : Heap} {locs : List Loc} (hP : va_P D vwCl (xW cy a i r q (a 20) (a 12) ++ (HL cy gb gi gr nh ++ (mW cy am im rm lm))) H) (hD : va_D A (xW cy a i r q (a 20) (a 12) ++ (HL cy gb gi gr nh ++ (mW cy am im rm lm)))) (hS : va_S A s.heap H locs) {ls : Array Slot} {x : Int32} (hl : lv_has ls 4 [(0, .ref b), (1, .ref (a 0)), (2, .ref (am 0)), (3, .int x)]) {j : Nat} (hj : 7 * j + 7 ≤ L) (hL : L ≤ 3584) (hxj : x = nI (7 * j)) {ce sl : Nat} (hce : ce + 15 ≤ 600000) (hsl : sl + 215 ≤ 7302250) (kk : ∀ (a2 : Nat → Nat) (i2 : Nat → Int32) (r2 : Nat → Nat → Int32) (q2 : Nat → Option Nat) (gb2 : Nat → Nat → Nat) (gi2 : Nat → Nat → Int32) (gr2 : Nat → Nat → Nat → Int32) (nh2 : Nat) (im2 : Nat → Int32) (rm2 : Nat → Nat → Int32) (lm2 : Nat → Int64) (H2 : Heap) (locs2 : List Loc) (ls2 : Array Slot), a2 0 = a 0 → LX i2 r2 q2 gb2 gi2 gr2 nh2 → LM im2 rm2 → LR i2 r2 gi2 gr2 nh2 im2 rm2 → va_P D vwCl (xW cy a2 i2 r2 q2 (a2 20) (a2 12) ++ (HL cy gb2 gi2 gr2 nh2 ++ (mW cy am im2 rm2 lm2))) H2 → va_D A (xW cy a2 i2 r2 q2 (a2 20) (a2 12) ++ (HL cy gb2 gi2 gr2 nh2 ++ (mW cy am im2 rm2 lm2))) → va_S A s.heap H2 locs2 → lv_has ls2 4 [(0, .ref b), (1, .ref (a 0)), (2, .ref (am 0)), (3, .int x)] → W p l e room_1 s m #[Value.ref b] below meth c H2 locs2 (ce + 15) (sl + 215) (lw_Z below #[Value.ref b] s) (F0 m 1525 ls2 [])) : W p l e room_1 s m #[Value.ref b] below meth c H locs ce sl (lw_Z below #[Value.ref b] s) (F0 m 549 ls []) := by
  obtain ⟨hx, hb, hr, hml, hown, hts, hX, hbl, hlocks, hgv⟩ := id C0
  have hT : ∀ w ∈ gT, w.before _ s = true := fun w h => hts w (gT_in w h)
  have hx0 : x.toInt = ((7 * j : Nat) : Int) := by rw [hxj]; exact nI_toInt (by omega)
  have hLX0 := hLX
  have hLM0 := hLM
  refine lv_aload_n hx hb dL_law_549 rfl (lv_at hl 1 rfl) ?_
  refine lv_aload_n hx hb dL_law_550 rfl (lv_at hl 0 rfl) ?_
  refine lv_iload_n hx hb dL_law_551 rfl (lv_at hl 3 rfl) ?_
  refine lv_iconst (v := 1) hx hb dL_law_552 (by decide) ?_
  refine lv_iadd hx hb dL_law_553 ?_
  refine lv_topi (fun v_1 ev_1 => ?_)
  have hv_1 : v_1.toInt = x.toInt + 1 := by rw [ev_1]; have := b_rg x; exact i_add (a := x.toInt) (b := 1) rfl rfl (by omega) (by omega)
  refine va_sld hx hb hX hbl hbA hS (vp_inI (by omega) (by omega)) dL_law_554 ?_
  refine lv_topi (fun v_2 ev_2 => ?_)
  obtain rfl : v_2 = xs (7 * j + 1) := ev_2.trans (congrArg xs (nI_ix hxj (by omega) (by omega)))
  refine lv_aload_n hx hb dL_law_555 rfl (lv_at hl 0 rfl) ?_
  refine lv_iload_n hx hb dL_law_556 rfl (lv_at hl 3 rfl) ?_
  refine lv_iconst (v := 2) hx hb dL_law_557 (by decide) ?_
  refine lv_iadd hx hb dL_law_558 ?_
  refine lv_topi (fun v_3 ev_3 => ?_)
  have hv_3 : v_3.toInt = x.toInt + 2 := by rw [ev_3]; have := b_rg x; exact i_add (a := x.toInt) (b := 2) rfl rfl (by omega) (by omega)
  refine va_sld hx hb hX hbl hbA hS (vp_inI (by omega) (by omega)) dL_law_559 ?_
  refine lv_topi (fun v_4 ev_4 => ?_)
  obtain rfl : v_4 = xs (7 * j + 2) := ev_4.trans (congrArg xs (nI_ix hxj (by omega) (by omega)))
  refine lv_aload_n hx hb dL_law_560 rfl (lv_at hl 0 rfl) ?_
  refine lv_iload_n hx hb dL_law_561 rfl (lv_at hl 3 rfl) ?_
  refine lv_iconst (v := 3) hx hb dL_law_562 (by decide) ?_
  refine lv_iadd hx hb dL_law_563 ?_
  refine lv_topi (fun v_5 ev_5 => ?_)
  have hv_5 : v_5.toInt = x.toInt + 3 := by rw [ev_5]; have := b_rg x; exact i_add (a := x.toInt) (b := 3) rfl rfl (by omega) (by omega)
  refine va_sld hx hb hX hbl hbA hS (vp_inI (by omega) (by omega)) dL_law_564 ?_
  refine lv_topi (fun v_6 ev_6 => ?_)
  obtain rfl : v_6 = xs (7 * j + 3) := ev_6.trans (congrArg xs (nI_ix hxj (by omega) (by omega)))
  refine lv_aload_n hx hb dL_law_565 rfl (lv_at hl 0 rfl) ?_
  refine lv_iload_n hx hb dL_law_566 rfl (lv_at hl 3 rfl) ?_
  refine lv_iconst (v := 4) hx hb dL_law_567 (by decide) ?_
  refine lv_iadd hx hb dL_law_568 ?_
  refine lv_topi (fun v_7 ev_7 => ?_)
  have hv_7 : v_7.toInt = x.toInt + 4 := by rw [ev_7]; have := b_rg x; exact i_add (a := x.toInt) (b := 4) rfl rfl (by omega) (by omega)
  refine va_sld hx hb hX hbl hbA hS (vp_inI (by omega) (by omega)) dL_law_569 ?_
  refine lv_topi (fun v_8 ev_8 => ?_)
  obtain rfl : v_8 = xs (7 * j + 4) := ev_8.trans (congrArg xs (nI_ix hxj (by omega) (by omega)))
  refine lv_aload_n hx hb dL_law_570 rfl (lv_at hl 0 rfl) ?_
  refine lv_iload_n hx hb dL_law_571 rfl (lv_at hl 3 rfl) ?_
  refine lv_iconst (v := 5) hx hb dL_law_572 (by decide) ?_
  refine lv_iadd hx hb dL_law_573 ?_
  refine lv_topi (fun v_9 ev_9 => ?_)
  have hv_9 : v_9.toInt = x.toInt + 5 := by rw [ev_9]; have := b_rg x; exact i_add (a := x.toInt) (b := 5) rfl rfl (by omega) (by omega)
  refine va_sld hx hb hX hbl hbA hS (vp_inI (by omega) (by omega)) dL_law_574 ?_
  refine lv_topi (fun v_10 ev_10 => ?_)
  obtain rfl : v_10 = xs (7 * j + 5) := ev_10.trans (congrArg xs (nI_ix hxj (by omega) (by omega)))
  have hRi := hLX.1.1
  have hRr := hLX.1.2
  have hF_11 := rF hD hS hA
  refine va_calli (va_runV (As := [.int (xs (7 * j + 1)), .int (xs (7 * j + 2)), .int (xs (7 * j + 3)), .int (xs (7 * j + 4)), .int (xs (7 * j + 5))]) (rest := []) ⟨hx, hb, hml, hown, hT⟩ (c_X11_feed l D cy a i r q (HL cy gb gi gr nh ++ (mW cy am im rm lm)) (xs (7 * j + 1)) (xs (7 * j + 2)) (xs (7 * j + 3)) (xs (7 * j + 4)) (xs (7 * j + 5)) _ hRi hRr) (cwV 5 hT (gV t_965 t_966 t_967 t_968 t_2) rfl rfl rfl (by decide +kernel) ⟨Nat.le_of_ble_eq_true rfl, Nat.le_of_ble_eq_true rfl⟩) (rQ_v hP hK hD (va_recv hK hP (ci := 11) (q0 := 0) rfl rfl)) rfl rfl hl.1 rfl (lv_room (Nat.le_of_ble_eq_true rfl)) dL_law_575 ⟨by show _ ≤ (600000 : Nat); omega, by show _ ≤ (7302250 : Nat); omega⟩) hS (fun q _ h => hF_11 q h) hF_11 (fun r_12 u_13 t H1 locs ht hvm hr_12 hB hz1 hk1 hS => ?_)
  obtain ⟨i13, r13⟩ := u_13
  obtain ⟨hP, hK1, hD1⟩ := hB
  rw [ht] at hP
  have hD := hD1.weaken (fun k q _ h => hF_11 q.1 h)
  obtain ⟨hRi, hRr, hE1, hE2, hr_12⟩ := hr_12
  have hRi : yRi i13 := hRi
  have hE1 : mEi [2] i i13 := hE1
  have hRr : yRr r13 := hRr
  have hE2 : mEr [9] r r13 := hE2
  have hP : va_P D vwCl (xW cy a i13 r13 q (a 20) (a 12) ++ (HL cy gb gi gr nh ++ (mW cy am im rm lm))) H1 := hP
  have hD : va_D A (xW cy a i13 r13 q (a 20) (a 12) ++ (HL cy gb gi gr nh ++ (mW cy am im rm lm))) := hD
  have hLX := LX_x hLX hRi hRr (hE1 0 (by decide))
  have hCX := CX_x (gi := gi) (gr := gr) (nh := nh) hE1 hE2
  refine lv_pop hx hb dL_law_578 rfl ?_
  refine lv_aload_n hx hb dL_law_579 rfl (lv_at hl 2 rfl) ?_
  refine lv_aload_n hx hb dL_law_580 rfl (lv_at hl 0 rfl) ?_
  refine lv_iload_n hx hb dL_law_581 rfl (lv_at hl 3 rfl) ?_
  refine lv_iconst (v := 1) hx hb dL_law_582 (by decide) ?_
  refine lv_iadd hx hb dL_law_583 ?_
  refine lv_topi (fun v_14 ev_14 => ?_)
  have hv_14 : v_14.toInt = x.toInt + 1 := by rw [ev_14]; have := b_rg x; exact i_add (a := x.toInt) (b := 1) rfl rfl (by omega) (by omega)
  refine va_sld hx hb hX hbl hbA hS (vp_inI (by omega) (by omega)) dL_law_584 ?_
  refine lv_topi (fun v_15 ev_15 => ?_)
  obtain rfl : v_15 = xs (7 * j + 1) := ev_15.trans (congrArg xs (nI_ix hxj (by omega) (by omega)))
  refine lv_aload_n hx hb dL_law_585 rfl (lv_at hl 0 rfl) ?_
  refine lv_iload_n hx hb dL_law_586 rfl (lv_at hl 3 rfl) ?_
  refine lv_iconst (v := 2) hx hb dL_law_587 (by decide) ?_
  refine lv_iadd hx hb dL_law_588 ?_
  refine lv_topi (fun v_16 ev_16 => ?_)
  have hv_16 : v_16.toInt = x.toInt + 2 := by rw [ev_16]; have := b_rg x; exact i_add (a := x.toInt) (b := 2) rfl rfl (by omega) (by omega)
  refine va_sld hx hb hX hbl hbA hS (vp_inI (by omega) (by omega)) dL_law_589 ?_
  refine lv_topi (fun v_17 ev_17 => ?_)
  obtain rfl : v_17 = xs (7 * j + 2) := ev_17.trans (congrArg xs (nI_ix hxj (by omega) (by omega)))
  refine lv_aload_n hx hb dL_law_590 rfl (lv_at hl 0 rfl) ?_
  refine lv_iload_n hx hb dL_law_591 rfl (lv_at hl 3 rfl) ?_
  refine lv_iconst (v := 3) hx hb dL_law_592 (by decide) ?_
  refine lv_iadd hx hb dL_law_593 ?_
  refine lv_topi (fun v_18 ev_18 => ?_)
  have hv_18 : v_18.toInt = x.toInt + 3 := by rw [ev_18]; have := b_rg x; exact i_add (a := x.toInt) (b := 3) rfl rfl (by omega) (by omega)
  refine va_sld hx hb hX hbl hbA hS (vp_inI (by omega) (by omega)) dL_law_594 ?_
  refine lv_topi (fun v_19 ev_19 => ?_)
  obtain rfl : v_19 = xs (7 * j + 3) := ev_19.trans (congrArg xs (nI_ix hxj (by omega) (by omega)))
  refine lv_aload_n hx hb dL_law_595 rfl (lv_at hl 0 rfl) ?_
  refine lv_iload_n hx hb dL_law_596 rfl (lv_at hl 3 rfl) ?_
  refine lv_iconst (v := 4) hx hb dL_law_597 (by decide) ?_
  refine lv_iadd hx hb dL_law_598 ?_
  refine lv_topi (fun v_20 ev_20 => ?_)
  have hv_20 : v_20.toInt = x.toInt + 4 := by rw [ev_20]; have := b_rg x; exact i_add (a := x.toInt) (b := 4) rfl rfl (by omega) (by omega)
  refine va_sld hx hb hX hbl hbA hS (vp_inI (by omega) (by omega)) dL_law_599 ?_
  refine lv_topi (fun v_21 ev_21 => ?_)
  obtain rfl : v_21 = xs (7 * j + 4) := ev_21.trans (congrArg xs (nI_ix hxj (by omega) (by omega)))
  refine lv_aload_n hx hb dL_law_600 rfl (lv_at hl 0 rfl) ?_
  refine lv_iload_n hx hb dL_law_601 rfl (lv_at hl 3 rfl) ?_
  refine lv_iconst (v := 5) hx hb dL_law_602 (by decide) ?_
  refine lv_iadd hx hb dL_law_603 ?_
  refine lv_topi (fun v_22 ev_22 => ?_)
  have hv_22 : v_22.toInt = x.toInt + 5 := by rw [ev_22]; have := b_rg x; exact i_add (a := x.toInt) (b := 5) rfl rfl (by omega) (by omega)
  refine va_sld hx hb hX hbl hbA hS (vp_inI (by omega) (by omega)) dL_law_604 ?_
  refine lv_topi (fun v_23 ev_23 => ?_)
  obtain rfl : v_23 = xs (7 * j + 5) := ev_23.trans (congrArg xs (nI_ix hxj (by omega) (by omega)))
  have hPa := hP
  have hDa := hD
  have hP := vaP_r (vaP_r hPa)
  have hD := vaD_r (vaD_r hDa)
  have hRi := hLM.1
  have hRr := hLM.2.1
  have hE := hLM.2.2
  have hF_24 := rF hD hS hA
  refine va_calli (va_runV (As := [.int (xs (7 * j + 1)), .int (xs (7 * j + 2)), .int (xs (7 * j + 3)), .int (xs (7 * j + 4)), .int (xs (7 * j + 5))]) (rest := []) ⟨hx, hb, hml, hown, hT⟩ (c_X12_feed l D cy am im rm lm (xs (7 * j + 1)) (xs (7 * j + 2)) (xs (7 * j + 3)) (xs (7 * j + 4)) (xs (7 * j + 5)) _ hRi hRr) (cwV 5 hT (gV t_969 t_970 t_971 t_972 t_6) rfl rfl rfl (by decide +kernel) ⟨Nat.le_of_ble_eq_true rfl, Nat.le_of_ble_eq_true rfl⟩) (rQ_v hP hK hD (va_recv hK hP (ci := 12) (q0 := 0) rfl rfl)) rfl rfl hl.1 rfl (lv_room (Nat.le_of_ble_eq_true rfl)) dL_law_605 ⟨by show _ ≤ (600000 : Nat); omega, by show _ ≤ (7302250 : Nat); omega⟩) hS (fun q _ h => hF_24 q h) hF_24 (fun r_25 u_26 t H1 locs ht hvm hr_25 hB hz1 hk1 hS => ?_)
  obtain ⟨i26, r26⟩ := u_26
  obtain ⟨hP, hK1, hD1⟩ := hB
  rw [ht] at hP
  have hD := hD1.weaken (fun k q _ h => hF_24 q.1 h)
  have hP : va_P D vwCl (mW cy am i26 r26 lm) H1 := hP
  have hD : va_D A (mW cy am i26 r26 lm) := hD
  obtain ⟨hRi, hRr, hE1, hE2, hr_25⟩ := hr_25
  have hRi : mRi i26 := hRi
  have hRr : mRr r26 := hRr
  obtain ⟨hP, hD⟩ := joinM hPa hDa hk1 hP rfl
  have hLM : LM i26 r26 := ⟨hRi, hRr, (mE_same hE1 hE2 (by decide) (by decide) hE)⟩
  have hMI : mEi [22] im i26 := hE1
  have hMR : mEr [20] rm r26 := hE2
  obtain ⟨hL1, hL2, hL3⟩ := id hLR
  obtain ⟨kH, kK, kN, kX, kY, _⟩ := id hL1
  have hLR : LR i13 r13 gi gr nh i26 r26 := ⟨LR1_same hL1 hMI hMR hCX (by decide) (by decide) (by decide) (by decide), LR2_same hL2 hMI hMR hCX (by decide) (by decide) (by decide) (by decide), LR3_same hL3 hMI hMR hCX (by decide) (by decide) (by decide) (by decide)⟩
  refine lv_pop hx hb dL_law_608 rfl ?_
  refine lv_goto (tgt := 1525) hx hb dL_law_609 (by decide) ?_
  refine W.widen (k := ce + 15) (n := sl + 215) (by omega) (by omega) ?_
  exact kk a _ _ _ _ _ _ _ _ _ _ _ _ _ rfl hLX hLM hLR hP hD hS (lv_sub hl [0, 1, 2, 3] rfl)
set_option maxHeartbeats 4000000 in
set_option maxRecDepth 100000 in
theorem lc_9 {p : Program} {l : Launch} {e : Env} {s : State} {m : MethodId} {below : List Frame} {meth : Method} {c : Code} {b L : Nat} {xs : Nat → Int32} (C0 : lw_At p s m meth c b L xs) {D : va_G} {cy : Nat → ClassId} {kq vq : Nat} {A : Nat → Prop} (hA : ∀ q, s.heap.size ≤ q → A q) (hbA : ¬ A b) (hK : va_K D vwCl (vT cy) s) (hn : nw s) (hm0 : nm s) (hsk : vk_R RX6 101 "krsoamngcv" kq s ∧ sA kq vq A s s.heap) {a : Nat → Nat} {i : Nat → Int32} {r : Nat → Nat → Int32} {q : Nat → Option Nat} {gb : Nat → Nat → Nat} {gi : Nat → Nat → Int32} {gr : Nat → Nat → Nat → Int32} {nh : Nat} {am : Nat → Nat} {im : Nat → Int32} {rm : Nat → Nat → Int32} {lm : Nat → Int64} (hLX : LX i r q gb gi gr nh) (hLM : LM im rm) (hLR : LR i r gi gr nh im rm) {H : Heap} {locs : List Loc} (hP : va_P D vwCl (xW cy a i r q (a 20) (a 12) ++ (HL cy gb gi gr nh ++ (mW cy am im rm lm))) H) (hD : va_D A (xW cy a i r q (a 20) (a 12) ++ (HL cy gb gi gr nh ++ (mW cy am im rm lm)))) (hS : va_S A s.heap H locs) {ls : Array Slot} {x : Int32} (hl : lv_has ls 4 [(0, .ref b), (1, .ref (a 0)), (2, .ref (am 0)), (3, .int x)]) {j : Nat} (hj : 7 * j + 7 ≤ L) (hL : L ≤ 3584) (hxj : x = nI (7 * j)) {ce sl : Nat} (hce : ce + 15 ≤ 600000) (hsl : sl + 215 ≤ 7302250) (kk : ∀ (a2 : Nat → Nat) (i2 : Nat → Int32) (r2 : Nat → Nat → Int32) (q2 : Nat → Option Nat) (gb2 : Nat → Nat → Nat) (gi2 : Nat → Nat → Int32) (gr2 : Nat → Nat → Nat → Int32) (nh2 : Nat) (im2 : Nat → Int32) (rm2 : Nat → Nat → Int32) (lm2 : Nat → Int64) (H2 : Heap) (locs2 : List Loc) (ls2 : Array Slot), a2 0 = a 0 → LX i2 r2 q2 gb2 gi2 gr2 nh2 → LM im2 rm2 → LR i2 r2 gi2 gr2 nh2 im2 rm2 → va_P D vwCl (xW cy a2 i2 r2 q2 (a2 20) (a2 12) ++ (HL cy gb2 gi2 gr2 nh2 ++ (mW cy am im2 rm2 lm2))) H2 → va_D A (xW cy a2 i2 r2 q2 (a2 20) (a2 12) ++ (HL cy gb2 gi2 gr2 nh2 ++ (mW cy am im2 rm2 lm2))) → va_S A s.heap H2 locs2 → lv_has ls2 4 [(0, .ref b), (1, .ref (a 0)), (2, .ref (am 0)), (3, .int x)] → W p l e room_1 s m #[Value.ref b] below meth c H2 locs2 (ce + 15) (sl + 215) (lw_Z below #[Value.ref b] s) (F0 m 1525 ls2 [])) : W p l e room_1 s m #[Value.ref b] below meth c H locs ce sl (lw_Z below #[Value.ref b] s) (F0 m 635 ls []) := by
  obtain ⟨hx, hb, hr, hml, hown, hts, hX, hbl, hlocks, hgv⟩ := id C0
  have hT : ∀ w ∈ gT, w.before _ s = true := fun w h => hts w (gT_in w h)
  have hx0 : x.toInt = ((7 * j : Nat) : Int) := by rw [hxj]; exact nI_toInt (by omega)
  have hLX0 := hLX
  have hLM0 := hLM
  refine lv_aload_n hx hb dL_law_635 rfl (lv_at hl 1 rfl) ?_
  refine lv_aload_n hx hb dL_law_636 rfl (lv_at hl 0 rfl) ?_
  refine lv_iload_n hx hb dL_law_637 rfl (lv_at hl 3 rfl) ?_
  refine lv_iconst (v := 1) hx hb dL_law_638 (by decide) ?_
  refine lv_iadd hx hb dL_law_639 ?_
  refine lv_topi (fun v_1 ev_1 => ?_)
  have hv_1 : v_1.toInt = x.toInt + 1 := by rw [ev_1]; have := b_rg x; exact i_add (a := x.toInt) (b := 1) rfl rfl (by omega) (by omega)
  refine va_sld hx hb hX hbl hbA hS (vp_inI (by omega) (by omega)) dL_law_640 ?_
  refine lv_topi (fun v_2 ev_2 => ?_)
  obtain rfl : v_2 = xs (7 * j + 1) := ev_2.trans (congrArg xs (nI_ix hxj (by omega) (by omega)))
  refine lv_aload_n hx hb dL_law_641 rfl (lv_at hl 0 rfl) ?_
  refine lv_iload_n hx hb dL_law_642 rfl (lv_at hl 3 rfl) ?_
  refine lv_iconst (v := 2) hx hb dL_law_643 (by decide) ?_
  refine lv_iadd hx hb dL_law_644 ?_
  refine lv_topi (fun v_3 ev_3 => ?_)
  have hv_3 : v_3.toInt = x.toInt + 2 := by rw [ev_3]; have := b_rg x; exact i_add (a := x.toInt) (b := 2) rfl rfl (by omega) (by omega)
  refine va_sld hx hb hX hbl hbA hS (vp_inI (by omega) (by omega)) dL_law_645 ?_
  refine lv_topi (fun v_4 ev_4 => ?_)
  obtain rfl : v_4 = xs (7 * j + 2) := ev_4.trans (congrArg xs (nI_ix hxj (by omega) (by omega)))
  refine lv_aload_n hx hb dL_law_646 rfl (lv_at hl 0 rfl) ?_
  refine lv_iload_n hx hb dL_law_647 rfl (lv_at hl 3 rfl) ?_
  refine lv_iconst (v := 3) hx hb dL_law_648 (by decide) ?_
  refine lv_iadd hx hb dL_law_649 ?_
  refine lv_topi (fun v_5 ev_5 => ?_)
  have hv_5 : v_5.toInt = x.toInt + 3 := by rw [ev_5]; have := b_rg x; exact i_add (a := x.toInt) (b := 3) rfl rfl (by omega) (by omega)
  refine va_sld hx hb hX hbl hbA hS (vp_inI (by omega) (by omega)) dL_law_650 ?_
  refine lv_topi (fun v_6 ev_6 => ?_)
  obtain rfl : v_6 = xs (7 * j + 3) := ev_6.trans (congrArg xs (nI_ix hxj (by omega) (by omega)))
  have kx : ∀ (z9 : Int32) (i9 : Nat → Int32) (r9 : Nat → Nat → Int32) (gi9 : Nat → Nat → Int32) (gr9 : Nat → Nat → Nat → Int32) (H9 : Heap) (locs9 : List Loc), LX i9 r9 q gb gi9 gr9 nh → CX [] [27, 28] nh i r gi gr i9 r9 gi9 gr9 → va_P D vwCl (xW cy a i9 r9 q (a 20) (a 12) ++ (HL cy gb gi9 gr9 nh ++ (mW cy am im rm lm))) H9 → va_D A (xW cy a i9 r9 q (a 20) (a 12) ++ (HL cy gb gi9 gr9 nh ++ (mW cy am im rm lm))) → va_S A s.heap H9 locs9 → W p l e room_1 s m #[Value.ref b] below meth c H9 locs9 ce sl (lw_Z below #[Value.ref b] s) (F0 m 654 ls [.int z9]) := by
    intro z9 i9 r9 gi9 gr9 H locs hLX hCX hP hD hS
    refine lv_pop hx hb dL_law_654 rfl ?_
    refine lv_aload_n hx hb dL_law_655 rfl (lv_at hl 2 rfl) ?_
    refine lv_aload_n hx hb dL_law_656 rfl (lv_at hl 0 rfl) ?_
    refine lv_iload_n hx hb dL_law_657 rfl (lv_at hl 3 rfl) ?_
    refine lv_iconst (v := 1) hx hb dL_law_658 (by decide) ?_
    refine lv_iadd hx hb dL_law_659 ?_
    refine lv_topi (fun v_7 ev_7 => ?_)
    have hv_7 : v_7.toInt = x.toInt + 1 := by rw [ev_7]; have := b_rg x; exact i_add (a := x.toInt) (b := 1) rfl rfl (by omega) (by omega)
    refine va_sld hx hb hX hbl hbA hS (vp_inI (by omega) (by omega)) dL_law_660 ?_
    refine lv_topi (fun v_8 ev_8 => ?_)
    obtain rfl : v_8 = xs (7 * j + 1) := ev_8.trans (congrArg xs (nI_ix hxj (by omega) (by omega)))
    refine lv_aload_n hx hb dL_law_661 rfl (lv_at hl 0 rfl) ?_
    refine lv_iload_n hx hb dL_law_662 rfl (lv_at hl 3 rfl) ?_
    refine lv_iconst (v := 2) hx hb dL_law_663 (by decide) ?_
    refine lv_iadd hx hb dL_law_664 ?_
    refine lv_topi (fun v_9 ev_9 => ?_)
    have hv_9 : v_9.toInt = x.toInt + 2 := by rw [ev_9]; have := b_rg x; exact i_add (a := x.toInt) (b := 2) rfl rfl (by omega) (by omega)
    refine va_sld hx hb hX hbl hbA hS (vp_inI (by omega) (by omega)) dL_law_665 ?_
    refine lv_topi (fun v_10 ev_10 => ?_)
    obtain rfl : v_10 = xs (7 * j + 2) := ev_10.trans (congrArg xs (nI_ix hxj (by omega) (by omega)))
    refine lv_aload_n hx hb dL_law_666 rfl (lv_at hl 0 rfl) ?_
    refine lv_iload_n hx hb dL_law_667 rfl (lv_at hl 3 rfl) ?_
    refine lv_iconst (v := 3) hx hb dL_law_668 (by decide) ?_
    refine lv_iadd hx hb dL_law_669 ?_
    refine lv_topi (fun v_11 ev_11 => ?_)
    have hv_11 : v_11.toInt = x.toInt + 3 := by rw [ev_11]; have := b_rg x; exact i_add (a := x.toInt) (b := 3) rfl rfl (by omega) (by omega)
    refine va_sld hx hb hX hbl hbA hS (vp_inI (by omega) (by omega)) dL_law_670 ?_
    refine lv_topi (fun v_12 ev_12 => ?_)
    obtain rfl : v_12 = xs (7 * j + 3) := ev_12.trans (congrArg xs (nI_ix hxj (by omega) (by omega)))
    have hPa := hP
    have hDa := hD
    have hP := vaP_r (vaP_r hPa)
    have hD := vaD_r (vaD_r hDa)
    have hRi := hLM.1
    have hRr := hLM.2.1
    have hE := hLM.2.2
    have hF_13 := rF hD hS hA
    refine va_calli (va_runV (As := [.int (xs (7 * j + 1)), .int (xs (7 * j + 2)), .int (xs (7 * j + 3))]) (rest := []) ⟨hx, hb, hml, hown, hT⟩ (c_X12_thing l D cy am im rm lm (xs (7 * j + 1)) (xs (7 * j + 2)) (xs (7 * j + 3)) _ hRi hRr hE) (cwV 3 hT (gV t_973 t_974 t_975 t_976 t_6) rfl rfl rfl (by decide +kernel) ⟨Nat.le_of_ble_eq_true rfl, Nat.le_of_ble_eq_true rfl⟩) (rQ_v hP hK hD (va_recv hK hP (ci := 12) (q0 := 0) rfl rfl)) rfl rfl hl.1 rfl (lv_room (Nat.le_of_ble_eq_true rfl)) dL_law_671 ⟨by show _ ≤ (600000 : Nat); omega, by show _ ≤ (7302250 : Nat); omega⟩) hS (fun q _ h => hF_13 q h) hF_13 (fun r_14 u_15 t H1 locs ht hvm hr_14 hB hz1 hk1 hS => ?_)
    obtain ⟨r15, rfl⟩ : ∃ z, z = u_15 := ⟨_, rfl⟩
    obtain ⟨hP, hK1, hD1⟩ := hB
    rw [ht] at hP
    have hD := hD1.weaken (fun k q _ h => hF_13 q.1 h)
    have hP : va_P D vwCl (mW cy am im r15 lm) H1 := hP
    have hD : va_D A (mW cy am im r15 lm) := hD
    obtain ⟨hRr, hE2, hr_14⟩ := hr_14
    have hRr : mRr r15 := hRr
    obtain ⟨hP, hD⟩ := joinM hPa hDa hk1 hP rfl
    have hLM : LM im r15 := ⟨hRi, hRr, (mE_same (Ei_rf (T := [])) hE2 (by decide) (by decide) hE)⟩
    have hMI : mEi [] im im := Ei_rf
    have hMR : mEr [32, 33, 34, 35, 36, 37, 38, 39] rm r15 := hE2
    obtain ⟨hL1, hL2, hL3⟩ := id hLR
    obtain ⟨kH, kK, kN, kX, kY, _⟩ := id hL1
    have hLR : LR i9 r9 gi9 gr9 nh im r15 := ⟨LR1_same hL1 hMI hMR hCX (by decide) (by decide) (by decide) (by decide), LR2_same hL2 hMI hMR hCX (by decide) (by decide) (by decide) (by decide), LR3_same hL3 hMI hMR hCX (by decide) (by decide) (by decide) (by decide)⟩
    refine lv_pop hx hb dL_law_674 rfl ?_
    refine lv_goto (tgt := 1525) hx hb dL_law_675 (by decide) ?_
    refine W.widen (k := ce + 15) (n := sl + 215) (by omega) (by omega) ?_
    exact kk a _ _ _ _ _ _ _ _ _ _ _ _ _ rfl hLX hLM hLR hP hD hS (lv_sub hl [0, 1, 2, 3] rfl)
  by_cases hv : 0 ≤ (xs (7 * j + 1)).toInt ∧ (xs (7 * j + 1)).toInt < (i 0).toInt
  · have hlt : (xs (7 * j + 1)).toNatClampNeg < nh := by have h9 : (xs (7 * j + 1)).toNatClampNeg = (xs (7 * j + 1)).toInt.toNat := rfl; have h8 := hLX.2.1; omega
    have hP0 := hP
    have hD0 := hD
    have hn6 : nh ≤ 6 := by have h8 := hLX.2.1; have h7 : (i 0).toInt ≤ 6 := (hLX.1.1 0).2; omega
    have hz := zoom (cy := cy) (a := a) (i := i) (r := r) (q := q) (hb := gb) (hi := gi) (hr := gr) (tl := (mW cy am im rm lm)) hlt
    have hP := vaP_perm hz hP
    have hD := vaD_perm hz hD
    have hRi := mix_Ri hLX.1.1 (hLX.2.2 _ hlt).2.1
    have hRr := mix_Rr hLX.1.2 (hLX.2.2 _ hlt).2.2
    obtain ⟨A2, hA2⟩ : ∃ z, z = mixA a (gb ((xs (7 * j + 1)).toNatClampNeg)) := ⟨_, rfl⟩
    obtain ⟨I2, hI2⟩ : ∃ z, z = mixI i (gi ((xs (7 * j + 1)).toNatClampNeg)) := ⟨_, rfl⟩
    obtain ⟨R2, hR2⟩ : ∃ z, z = mixR r (gr ((xs (7 * j + 1)).toNatClampNeg)) := ⟨_, rfl⟩
    rw [← hA2, ← hI2, ← hR2] at hP hD
    rw [← hI2] at hRi
    rw [← hR2] at hRr
    have h0 : I2 0 = i 0 := by rw [hI2]; rfl
    have h61 : A2 61 = gb ((xs (7 * j + 1)).toNatClampNeg) 61 := by rw [hA2]; rfl
    have ha0 : A2 0 = a 0 := by rw [hA2]; rfl
    rw [← ha0]
    have hnw := hm0
    have hF_16 := rF hD hS hA
    refine va_calli (va_runV (As := [.int (xs (7 * j + 1)), .int (xs (7 * j + 2)), .int (xs (7 * j + 3))]) (rest := []) ⟨hx, hb, hml, hown, hT⟩ (c_X11_thing.y l D cy A2 I2 R2 q (HX cy gb gi gr ((xs (7 * j + 1)).toNatClampNeg) nh ++ (mW cy am im rm lm)) (xs (7 * j + 1)) (xs (7 * j + 2)) (xs (7 * j + 3)) _ hRi hRr (by rw [h0]; exact hv) (by rw [h61]; exact (hLX.2.2 _ hlt).1)) (cwV 3 hT (gV t_977 t_978 t_979 t_980 t_2) rfl rfl rfl (by decide +kernel) ⟨Nat.le_of_ble_eq_true rfl, Nat.le_of_ble_eq_true rfl⟩) (rM_v hnw hP hK hD (va_recv hK hP (ci := 11) (q0 := 0) rfl rfl)) rfl rfl hl.1 rfl (lv_room (Nat.le_of_ble_eq_true rfl)) dL_law_651 ⟨by show _ ≤ (600000 : Nat); omega, by show _ ≤ (7302250 : Nat); omega⟩) hS (fun q _ h => hF_16 q h) hF_16 (fun r_17 u_18 t H1 locs ht hvm hr_17 hB hz1 hk1 hS => ?_)
    obtain ⟨r18, rfl⟩ : ∃ z, z = u_18 := ⟨_, rfl⟩
    obtain ⟨hP, hK1, hD1⟩ := hB
    rw [ht] at hP
    have hD := hD1.weaken (fun k q _ h => hF_16 q.1 h)
    obtain ⟨hRr, hE2, hr_17⟩ := hr_17
    have hRr : yRr r18 := hRr
    have hE2 : mEr [27, 28] R2 r18 := hE2
    have hP : va_P D vwCl (xW cy A2 I2 r18 q (A2 20) (A2 12) ++ (hW cy A2 I2 r18 ++ (HX cy gb gi gr ((xs (7 * j + 1)).toNatClampNeg) nh ++ (mW cy am im rm lm)))) H1 := hP
    have hD : va_D A (xW cy A2 I2 r18 q (A2 20) (A2 12) ++ (hW cy A2 I2 r18 ++ (HX cy gb gi gr ((xs (7 * j + 1)).toNatClampNeg) nh ++ (mW cy am im rm lm)))) := hD
    rw [hA2] at hP hD
    have hP := vaP_perm (unzoom (i := I2) (r := R2) hlt) hP
    have hD := vaD_perm (unzoom (i := I2) (r := R2) hlt) hD
    have hLX := LX_y (K := (xs (7 * j + 1)).toNatClampNeg) hLX hRi hRr h0
    have hE2x := hE2
    have hCX := CX_y (nh := nh) (i := i) (r := r) (gi := gi) (gr := gr) (K := (xs (7 * j + 1)).toNatClampNeg) hI2 hR2 (Ei_rf (T := [])) hE2
    exact kx _ _ _ _ _ _ _ hLX hCX hP hD hS
  · skip
    have hRi := hLX.1.1
    have hRr := hLX.1.2
    refine vp_callSi (W.runV (As := [.int (xs (7 * j + 1)), .int (xs (7 * j + 2)), .int (xs (7 * j + 3))]) (rest := []) ⟨hx, hb, hml, hown, hT⟩ (c_X11_thing.b l D cy a i r q (HL cy gb gi gr nh ++ (mW cy am im rm lm)) (xs (7 * j + 1)) (xs (7 * j + 2)) (xs (7 * j + 3)) hRi hRr hv) (cwV 3 hT (gV t_977 t_978 t_979 t_980 t_2) rfl rfl rfl (by decide +kernel) ⟨Nat.le_of_ble_eq_true rfl, Nat.le_of_ble_eq_true rfl⟩) (rP_v hP hK (va_recv hK hP (ci := 11) (q0 := 0) rfl rfl)) rfl rfl hl.1 rfl (lv_room (Nat.le_of_ble_eq_true rfl)) dL_law_651 ⟨by show _ ≤ (600000 : Nat); omega, by show _ ≤ (7302250 : Nat); omega⟩) (fun r_19 hr_19 => ?_)
    have hCX := CX_rf (i := i) (r := r) (gi := gi) (gr := gr) (nh := nh)
    exact kx _ _ _ _ _ _ _ hLX CX_rfT hP hD hS
set_option maxHeartbeats 4000000 in
set_option maxRecDepth 100000 in
theorem lc_10 {p : Program} {l : Launch} {e : Env} {s : State} {m : MethodId} {below : List Frame} {meth : Method} {c : Code} {b L : Nat} {xs : Nat → Int32} (C0 : lw_At p s m meth c b L xs) {D : va_G} {cy : Nat → ClassId} {kq vq : Nat} {A : Nat → Prop} (hA : ∀ q, s.heap.size ≤ q → A q) (hbA : ¬ A b) (hK : va_K D vwCl (vT cy) s) (hn : nw s) (hm0 : nm s) (hsk : vk_R RX6 101 "krsoamngcv" kq s ∧ sA kq vq A s s.heap) {a : Nat → Nat} {i : Nat → Int32} {r : Nat → Nat → Int32} {q : Nat → Option Nat} {gb : Nat → Nat → Nat} {gi : Nat → Nat → Int32} {gr : Nat → Nat → Nat → Int32} {nh : Nat} {am : Nat → Nat} {im : Nat → Int32} {rm : Nat → Nat → Int32} {lm : Nat → Int64} (hLX : LX i r q gb gi gr nh) (hLM : LM im rm) (hLR : LR i r gi gr nh im rm) {H : Heap} {locs : List Loc} (hP : va_P D vwCl (xW cy a i r q (a 20) (a 12) ++ (HL cy gb gi gr nh ++ (mW cy am im rm lm))) H) (hD : va_D A (xW cy a i r q (a 20) (a 12) ++ (HL cy gb gi gr nh ++ (mW cy am im rm lm)))) (hS : va_S A s.heap H locs) {ls : Array Slot} {x : Int32} (hl : lv_has ls 4 [(0, .ref b), (1, .ref (a 0)), (2, .ref (am 0)), (3, .int x)]) {j : Nat} (hj : 7 * j + 7 ≤ L) (hL : L ≤ 3584) (hxj : x = nI (7 * j)) {ce sl : Nat} (hce : ce + 15 ≤ 600000) (hsl : sl + 215 ≤ 7302250) (kk : ∀ (a2 : Nat → Nat) (i2 : Nat → Int32) (r2 : Nat → Nat → Int32) (q2 : Nat → Option Nat) (gb2 : Nat → Nat → Nat) (gi2 : Nat → Nat → Int32) (gr2 : Nat → Nat → Nat → Int32) (nh2 : Nat) (im2 : Nat → Int32) (rm2 : Nat → Nat → Int32) (lm2 : Nat → Int64) (H2 : Heap) (locs2 : List Loc) (ls2 : Array Slot), a2 0 = a 0 → LX i2 r2 q2 gb2 gi2 gr2 nh2 → LM im2 rm2 → LR i2 r2 gi2 gr2 nh2 im2 rm2 → va_P D vwCl (xW cy a2 i2 r2 q2 (a2 20) (a2 12) ++ (HL cy gb2 gi2 gr2 nh2 ++ (mW cy am im2 rm2 lm2))) H2 → va_D A (xW cy a2 i2 r2 q2 (a2 20) (a2 12) ++ (HL cy gb2 gi2 gr2 nh2 ++ (mW cy am im2 rm2 lm2))) → va_S A s.heap H2 locs2 → lv_has ls2 4 [(0, .ref b), (1, .ref (a 0)), (2, .ref (am 0)), (3, .int x)] → W p l e room_1 s m #[Value.ref b] below meth c H2 locs2 (ce + 15) (sl + 215) (lw_Z below #[Value.ref b] s) (F0 m 1525 ls2 [])) : W p l e room_1 s m #[Value.ref b] below meth c H locs ce sl (lw_Z below #[Value.ref b] s) (F0 m 678 ls []) := by
  obtain ⟨hx, hb, hr, hml, hown, hts, hX, hbl, hlocks, hgv⟩ := id C0
  have hT : ∀ w ∈ gT, w.before _ s = true := fun w h => hts w (gT_in w h)
  have hx0 : x.toInt = ((7 * j : Nat) : Int) := by rw [hxj]; exact nI_toInt (by omega)
  have hLX0 := hLX
  have hLM0 := hLM
  refine lv_aload_n hx hb dL_law_678 rfl (lv_at hl 1 rfl) ?_
  refine lv_aload_n hx hb dL_law_679 rfl (lv_at hl 0 rfl) ?_
  refine lv_iload_n hx hb dL_law_680 rfl (lv_at hl 3 rfl) ?_
  refine lv_iconst (v := 1) hx hb dL_law_681 (by decide) ?_
  refine lv_iadd hx hb dL_law_682 ?_
  refine lv_topi (fun v_1 ev_1 => ?_)
  have hv_1 : v_1.toInt = x.toInt + 1 := by rw [ev_1]; have := b_rg x; exact i_add (a := x.toInt) (b := 1) rfl rfl (by omega) (by omega)
  refine va_sld hx hb hX hbl hbA hS (vp_inI (by omega) (by omega)) dL_law_683 ?_
  refine lv_topi (fun v_2 ev_2 => ?_)
  obtain rfl : v_2 = xs (7 * j + 1) := ev_2.trans (congrArg xs (nI_ix hxj (by omega) (by omega)))
  refine lv_aload_n hx hb dL_law_684 rfl (lv_at hl 0 rfl) ?_
  refine lv_iload_n hx hb dL_law_685 rfl (lv_at hl 3 rfl) ?_
  refine lv_iconst (v := 2) hx hb dL_law_686 (by decide) ?_
  refine lv_iadd hx hb dL_law_687 ?_
  refine lv_topi (fun v_3 ev_3 => ?_)
  have hv_3 : v_3.toInt = x.toInt + 2 := by rw [ev_3]; have := b_rg x; exact i_add (a := x.toInt) (b := 2) rfl rfl (by omega) (by omega)
  refine va_sld hx hb hX hbl hbA hS (vp_inI (by omega) (by omega)) dL_law_688 ?_
  refine lv_topi (fun v_4 ev_4 => ?_)
  obtain rfl : v_4 = xs (7 * j + 2) := ev_4.trans (congrArg xs (nI_ix hxj (by omega) (by omega)))
  have kx : ∀ (z9 : Int32), W p l e room_1 s m #[Value.ref b] below meth c H locs ce sl (lw_Z below #[Value.ref b] s) (F0 m 692 ls [.int z9]) := by
    intro z9
    have hCX := CX_rf (i := i) (r := r) (gi := gi) (gr := gr) (nh := nh)
    refine lv_pop hx hb dL_law_692 rfl ?_
    refine lv_aload_n hx hb dL_law_693 rfl (lv_at hl 2 rfl) ?_
    refine lv_aload_n hx hb dL_law_694 rfl (lv_at hl 0 rfl) ?_
    refine lv_iload_n hx hb dL_law_695 rfl (lv_at hl 3 rfl) ?_
    refine lv_iconst (v := 1) hx hb dL_law_696 (by decide) ?_
    refine lv_iadd hx hb dL_law_697 ?_
    refine lv_topi (fun v_5 ev_5 => ?_)
    have hv_5 : v_5.toInt = x.toInt + 1 := by rw [ev_5]; have := b_rg x; exact i_add (a := x.toInt) (b := 1) rfl rfl (by omega) (by omega)
    refine va_sld hx hb hX hbl hbA hS (vp_inI (by omega) (by omega)) dL_law_698 ?_
    refine lv_topi (fun v_6 ev_6 => ?_)
    obtain rfl : v_6 = xs (7 * j + 1) := ev_6.trans (congrArg xs (nI_ix hxj (by omega) (by omega)))
    refine lv_aload_n hx hb dL_law_699 rfl (lv_at hl 0 rfl) ?_
    refine lv_iload_n hx hb dL_law_700 rfl (lv_at hl 3 rfl) ?_
    refine lv_iconst (v := 2) hx hb dL_law_701 (by decide) ?_
    refine lv_iadd hx hb dL_law_702 ?_
    refine lv_topi (fun v_7 ev_7 => ?_)
    have hv_7 : v_7.toInt = x.toInt + 2 := by rw [ev_7]; have := b_rg x; exact i_add (a := x.toInt) (b := 2) rfl rfl (by omega) (by omega)
    refine va_sld hx hb hX hbl hbA hS (vp_inI (by omega) (by omega)) dL_law_703 ?_
    refine lv_topi (fun v_8 ev_8 => ?_)
    obtain rfl : v_8 = xs (7 * j + 2) := ev_8.trans (congrArg xs (nI_ix hxj (by omega) (by omega)))
    have hPa := hP
    have hDa := hD
    have hP := vaP_r (vaP_r hPa)
    have hD := vaD_r (vaD_r hDa)
    have hRi := hLM.1
    have hRr := hLM.2.1
    have hE := hLM.2.2
    have hF_9 := rF hD hS hA
    refine va_calli (va_runV (As := [.int (xs (7 * j + 1)), .int (xs (7 * j + 2))]) (rest := []) ⟨hx, hb, hml, hown, hT⟩ (c_X12_isNew l D cy am im rm lm (xs (7 * j + 1)) (xs (7 * j + 2)) _ hRi hRr) (cwV 2 hT (gV t_981 t_982 t_983 t_984 t_6) rfl rfl rfl (by decide +kernel) ⟨Nat.le_of_ble_eq_true rfl, Nat.le_of_ble_eq_true rfl⟩) (rQ_v hP hK hD (va_recv hK hP (ci := 12) (q0 := 0) rfl rfl)) rfl rfl hl.1 rfl (lv_room (Nat.le_of_ble_eq_true rfl)) dL_law_704 ⟨by show _ ≤ (600000 : Nat); omega, by show _ ≤ (7302250 : Nat); omega⟩) hS (fun q _ h => hF_9 q h) hF_9 (fun r_10 u_11 t H1 locs ht hvm hr_10 hB hz1 hk1 hS => ?_)
    obtain ⟨r11, rfl⟩ : ∃ z, z = u_11 := ⟨_, rfl⟩
    obtain ⟨hP, hK1, hD1⟩ := hB
    rw [ht] at hP
    have hD := hD1.weaken (fun k q _ h => hF_9 q.1 h)
    have hP : va_P D vwCl (mW cy am im r11 lm) H1 := hP
    have hD : va_D A (mW cy am im r11 lm) := hD
    obtain ⟨hRr, hE2, hr_10⟩ := hr_10
    have hRr : mRr r11 := hRr
    obtain ⟨hP, hD⟩ := joinM hPa hDa hk1 hP rfl
    have hLM : LM im r11 := ⟨hRi, hRr, (mE_same (Ei_rf (T := [])) hE2 (by decide) (by decide) hE)⟩
    have hMI : mEi [] im im := Ei_rf
    have hMR : mEr [32, 33, 34, 35, 36, 37, 38, 39] rm r11 := hE2
    obtain ⟨hL1, hL2, hL3⟩ := id hLR
    obtain ⟨kH, kK, kN, kX, kY, _⟩ := id hL1
    have hLR : LR i r gi gr nh im r11 := ⟨LR1_same hL1 hMI hMR hCX (by decide) (by decide) (by decide) (by decide), LR2_same hL2 hMI hMR hCX (by decide) (by decide) (by decide) (by decide), LR3_same hL3 hMI hMR hCX (by decide) (by decide) (by decide) (by decide)⟩
    refine lv_pop hx hb dL_law_707 rfl ?_
    refine lv_goto (tgt := 1525) hx hb dL_law_708 (by decide) ?_
    refine W.widen (k := ce + 15) (n := sl + 215) (by omega) (by omega) ?_
    exact kk a _ _ _ _ _ _ _ _ _ _ _ _ _ rfl hLX hLM hLR hP hD hS (lv_sub hl [0, 1, 2, 3] rfl)
  by_cases hv : 0 ≤ (xs (7 * j + 1)).toInt ∧ (xs (7 * j + 1)).toInt < (i 0).toInt
  · have hlt : (xs (7 * j + 1)).toNatClampNeg < nh := by have h9 : (xs (7 * j + 1)).toNatClampNeg = (xs (7 * j + 1)).toInt.toNat := rfl; have h8 := hLX.2.1; omega
    have hP0 := hP
    have hD0 := hD
    have hn6 : nh ≤ 6 := by have h8 := hLX.2.1; have h7 : (i 0).toInt ≤ 6 := (hLX.1.1 0).2; omega
    have hz := zoom (cy := cy) (a := a) (i := i) (r := r) (q := q) (hb := gb) (hi := gi) (hr := gr) (tl := (mW cy am im rm lm)) hlt
    have hP := vaP_perm hz hP
    have hD := vaD_perm hz hD
    have hRi := mix_Ri hLX.1.1 (hLX.2.2 _ hlt).2.1
    have hRr := mix_Rr hLX.1.2 (hLX.2.2 _ hlt).2.2
    obtain ⟨A2, hA2⟩ : ∃ z, z = mixA a (gb ((xs (7 * j + 1)).toNatClampNeg)) := ⟨_, rfl⟩
    obtain ⟨I2, hI2⟩ : ∃ z, z = mixI i (gi ((xs (7 * j + 1)).toNatClampNeg)) := ⟨_, rfl⟩
    obtain ⟨R2, hR2⟩ : ∃ z, z = mixR r (gr ((xs (7 * j + 1)).toNatClampNeg)) := ⟨_, rfl⟩
    rw [← hA2, ← hI2, ← hR2] at hP hD
    rw [← hI2] at hRi
    rw [← hR2] at hRr
    have h0 : I2 0 = i 0 := by rw [hI2]; rfl
    have h61 : A2 61 = gb ((xs (7 * j + 1)).toNatClampNeg) 61 := by rw [hA2]; rfl
    have ha0 : A2 0 = a 0 := by rw [hA2]; rfl
    rw [← ha0]
    refine vp_callSi (W.runV (As := [.int (xs (7 * j + 1)), .int (xs (7 * j + 2))]) (rest := []) ⟨hx, hb, hml, hown, hT⟩ (c_X11_isNew.y l D cy A2 I2 R2 q (HX cy gb gi gr ((xs (7 * j + 1)).toNatClampNeg) nh ++ (mW cy am im rm lm)) (xs (7 * j + 1)) (xs (7 * j + 2)) hRi hRr (by rw [h0]; exact hv) (by rw [h61]; exact (hLX.2.2 _ hlt).1)) (cwV 2 hT (gV t_985 t_986 t_987 t_988 t_2) rfl rfl rfl (by decide +kernel) ⟨Nat.le_of_ble_eq_true rfl, Nat.le_of_ble_eq_true rfl⟩) (rP_v hP hK (va_recv hK hP (ci := 11) (q0 := 0) rfl rfl)) rfl rfl hl.1 rfl (lv_room (Nat.le_of_ble_eq_true rfl)) dL_law_689 ⟨by show _ ≤ (600000 : Nat); omega, by show _ ≤ (7302250 : Nat); omega⟩) (fun r_12 hr_12 => ?_)
    have hP := hP0
    have hD := hD0
    have hCX := CX_rf (i := i) (r := r) (gi := gi) (gr := gr) (nh := nh)
    exact kx _
  · skip
    have hRi := hLX.1.1
    have hRr := hLX.1.2
    refine vp_callSi (W.runV (As := [.int (xs (7 * j + 1)), .int (xs (7 * j + 2))]) (rest := []) ⟨hx, hb, hml, hown, hT⟩ (c_X11_isNew.b l D cy a i r q (HL cy gb gi gr nh ++ (mW cy am im rm lm)) (xs (7 * j + 1)) (xs (7 * j + 2)) hRi hRr hv) (cwV 2 hT (gV t_985 t_986 t_987 t_988 t_2) rfl rfl rfl (by decide +kernel) ⟨Nat.le_of_ble_eq_true rfl, Nat.le_of_ble_eq_true rfl⟩) (rP_v hP hK (va_recv hK hP (ci := 11) (q0 := 0) rfl rfl)) rfl rfl hl.1 rfl (lv_room (Nat.le_of_ble_eq_true rfl)) dL_law_689 ⟨by show _ ≤ (600000 : Nat); omega, by show _ ≤ (7302250 : Nat); omega⟩) (fun r_13 hr_13 => ?_)
    have hCX := CX_rf (i := i) (r := r) (gi := gi) (gr := gr) (nh := nh)
    exact kx _
set_option maxHeartbeats 4000000 in
set_option maxRecDepth 100000 in
theorem lc_11 {p : Program} {l : Launch} {e : Env} {s : State} {m : MethodId} {below : List Frame} {meth : Method} {c : Code} {b L : Nat} {xs : Nat → Int32} (C0 : lw_At p s m meth c b L xs) {D : va_G} {cy : Nat → ClassId} {kq vq : Nat} {A : Nat → Prop} (hA : ∀ q, s.heap.size ≤ q → A q) (hbA : ¬ A b) (hK : va_K D vwCl (vT cy) s) (hn : nw s) (hm0 : nm s) (hsk : vk_R RX6 101 "krsoamngcv" kq s ∧ sA kq vq A s s.heap) {a : Nat → Nat} {i : Nat → Int32} {r : Nat → Nat → Int32} {q : Nat → Option Nat} {gb : Nat → Nat → Nat} {gi : Nat → Nat → Int32} {gr : Nat → Nat → Nat → Int32} {nh : Nat} {am : Nat → Nat} {im : Nat → Int32} {rm : Nat → Nat → Int32} {lm : Nat → Int64} (hLX : LX i r q gb gi gr nh) (hLM : LM im rm) (hLR : LR i r gi gr nh im rm) {H : Heap} {locs : List Loc} (hP : va_P D vwCl (xW cy a i r q (a 20) (a 12) ++ (HL cy gb gi gr nh ++ (mW cy am im rm lm))) H) (hD : va_D A (xW cy a i r q (a 20) (a 12) ++ (HL cy gb gi gr nh ++ (mW cy am im rm lm)))) (hS : va_S A s.heap H locs) {ls : Array Slot} {x : Int32} (hl : lv_has ls 4 [(0, .ref b), (1, .ref (a 0)), (2, .ref (am 0)), (3, .int x)]) {j : Nat} (hj : 7 * j + 7 ≤ L) (hL : L ≤ 3584) (hxj : x = nI (7 * j)) {ce sl : Nat} (hce : ce + 15 ≤ 600000) (hsl : sl + 215 ≤ 7302250) (kk : ∀ (a2 : Nat → Nat) (i2 : Nat → Int32) (r2 : Nat → Nat → Int32) (q2 : Nat → Option Nat) (gb2 : Nat → Nat → Nat) (gi2 : Nat → Nat → Int32) (gr2 : Nat → Nat → Nat → Int32) (nh2 : Nat) (im2 : Nat → Int32) (rm2 : Nat → Nat → Int32) (lm2 : Nat → Int64) (H2 : Heap) (locs2 : List Loc) (ls2 : Array Slot), a2 0 = a 0 → LX i2 r2 q2 gb2 gi2 gr2 nh2 → LM im2 rm2 → LR i2 r2 gi2 gr2 nh2 im2 rm2 → va_P D vwCl (xW cy a2 i2 r2 q2 (a2 20) (a2 12) ++ (HL cy gb2 gi2 gr2 nh2 ++ (mW cy am im2 rm2 lm2))) H2 → va_D A (xW cy a2 i2 r2 q2 (a2 20) (a2 12) ++ (HL cy gb2 gi2 gr2 nh2 ++ (mW cy am im2 rm2 lm2))) → va_S A s.heap H2 locs2 → lv_has ls2 4 [(0, .ref b), (1, .ref (a 0)), (2, .ref (am 0)), (3, .int x)] → W p l e room_1 s m #[Value.ref b] below meth c H2 locs2 (ce + 15) (sl + 215) (lw_Z below #[Value.ref b] s) (F0 m 1525 ls2 [])) : W p l e room_1 s m #[Value.ref b] below meth c H locs ce sl (lw_Z below #[Value.ref b] s) (F0 m 711 ls []) := by
  obtain ⟨hx, hb, hr, hml, hown, hts, hX, hbl, hlocks, hgv⟩ := id C0
  have hT : ∀ w ∈ gT, w.before _ s = true := fun w h => hts w (gT_in w h)
  have hx0 : x.toInt = ((7 * j : Nat) : Int) := by rw [hxj]; exact nI_toInt (by omega)
  have hLX0 := hLX
  have hLM0 := hLM
  refine lv_aload_n hx hb dL_law_711 rfl (lv_at hl 1 rfl) ?_
  refine lv_aload_n hx hb dL_law_712 rfl (lv_at hl 0 rfl) ?_
  refine lv_iload_n hx hb dL_law_713 rfl (lv_at hl 3 rfl) ?_
  refine lv_iconst (v := 1) hx hb dL_law_714 (by decide) ?_
  refine lv_iadd hx hb dL_law_715 ?_
  refine lv_topi (fun v_1 ev_1 => ?_)
  have hv_1 : v_1.toInt = x.toInt + 1 := by rw [ev_1]; have := b_rg x; exact i_add (a := x.toInt) (b := 1) rfl rfl (by omega) (by omega)
  refine va_sld hx hb hX hbl hbA hS (vp_inI (by omega) (by omega)) dL_law_716 ?_
  refine lv_topi (fun v_2 ev_2 => ?_)
  obtain rfl : v_2 = xs (7 * j + 1) := ev_2.trans (congrArg xs (nI_ix hxj (by omega) (by omega)))
  refine lv_aload_n hx hb dL_law_717 rfl (lv_at hl 0 rfl) ?_
  refine lv_iload_n hx hb dL_law_718 rfl (lv_at hl 3 rfl) ?_
  refine lv_iconst (v := 2) hx hb dL_law_719 (by decide) ?_
  refine lv_iadd hx hb dL_law_720 ?_
  refine lv_topi (fun v_3 ev_3 => ?_)
  have hv_3 : v_3.toInt = x.toInt + 2 := by rw [ev_3]; have := b_rg x; exact i_add (a := x.toInt) (b := 2) rfl rfl (by omega) (by omega)
  refine va_sld hx hb hX hbl hbA hS (vp_inI (by omega) (by omega)) dL_law_721 ?_
  refine lv_topi (fun v_4 ev_4 => ?_)
  obtain rfl : v_4 = xs (7 * j + 2) := ev_4.trans (congrArg xs (nI_ix hxj (by omega) (by omega)))
  refine lv_aload_n hx hb dL_law_722 rfl (lv_at hl 0 rfl) ?_
  refine lv_iload_n hx hb dL_law_723 rfl (lv_at hl 3 rfl) ?_
  refine lv_iconst (v := 3) hx hb dL_law_724 (by decide) ?_
  refine lv_iadd hx hb dL_law_725 ?_
  refine lv_topi (fun v_5 ev_5 => ?_)
  have hv_5 : v_5.toInt = x.toInt + 3 := by rw [ev_5]; have := b_rg x; exact i_add (a := x.toInt) (b := 3) rfl rfl (by omega) (by omega)
  refine va_sld hx hb hX hbl hbA hS (vp_inI (by omega) (by omega)) dL_law_726 ?_
  refine lv_topi (fun v_6 ev_6 => ?_)
  obtain rfl : v_6 = xs (7 * j + 3) := ev_6.trans (congrArg xs (nI_ix hxj (by omega) (by omega)))
  have kx : ∀ (z9 : Int32), W p l e room_1 s m #[Value.ref b] below meth c H locs ce sl (lw_Z below #[Value.ref b] s) (F0 m 730 ls [.int z9]) := by
    intro z9
    have hCX := CX_rf (i := i) (r := r) (gi := gi) (gr := gr) (nh := nh)
    refine lv_pop hx hb dL_law_730 rfl ?_
    refine lv_aload_n hx hb dL_law_731 rfl (lv_at hl 2 rfl) ?_
    refine lv_aload_n hx hb dL_law_732 rfl (lv_at hl 0 rfl) ?_
    refine lv_iload_n hx hb dL_law_733 rfl (lv_at hl 3 rfl) ?_
    refine lv_iconst (v := 1) hx hb dL_law_734 (by decide) ?_
    refine lv_iadd hx hb dL_law_735 ?_
    refine lv_topi (fun v_7 ev_7 => ?_)
    have hv_7 : v_7.toInt = x.toInt + 1 := by rw [ev_7]; have := b_rg x; exact i_add (a := x.toInt) (b := 1) rfl rfl (by omega) (by omega)
    refine va_sld hx hb hX hbl hbA hS (vp_inI (by omega) (by omega)) dL_law_736 ?_
    refine lv_topi (fun v_8 ev_8 => ?_)
    obtain rfl : v_8 = xs (7 * j + 1) := ev_8.trans (congrArg xs (nI_ix hxj (by omega) (by omega)))
    refine lv_aload_n hx hb dL_law_737 rfl (lv_at hl 0 rfl) ?_
    refine lv_iload_n hx hb dL_law_738 rfl (lv_at hl 3 rfl) ?_
    refine lv_iconst (v := 2) hx hb dL_law_739 (by decide) ?_
    refine lv_iadd hx hb dL_law_740 ?_
    refine lv_topi (fun v_9 ev_9 => ?_)
    have hv_9 : v_9.toInt = x.toInt + 2 := by rw [ev_9]; have := b_rg x; exact i_add (a := x.toInt) (b := 2) rfl rfl (by omega) (by omega)
    refine va_sld hx hb hX hbl hbA hS (vp_inI (by omega) (by omega)) dL_law_741 ?_
    refine lv_topi (fun v_10 ev_10 => ?_)
    obtain rfl : v_10 = xs (7 * j + 2) := ev_10.trans (congrArg xs (nI_ix hxj (by omega) (by omega)))
    refine lv_aload_n hx hb dL_law_742 rfl (lv_at hl 0 rfl) ?_
    refine lv_iload_n hx hb dL_law_743 rfl (lv_at hl 3 rfl) ?_
    refine lv_iconst (v := 3) hx hb dL_law_744 (by decide) ?_
    refine lv_iadd hx hb dL_law_745 ?_
    refine lv_topi (fun v_11 ev_11 => ?_)
    have hv_11 : v_11.toInt = x.toInt + 3 := by rw [ev_11]; have := b_rg x; exact i_add (a := x.toInt) (b := 3) rfl rfl (by omega) (by omega)
    refine va_sld hx hb hX hbl hbA hS (vp_inI (by omega) (by omega)) dL_law_746 ?_
    refine lv_topi (fun v_12 ev_12 => ?_)
    obtain rfl : v_12 = xs (7 * j + 3) := ev_12.trans (congrArg xs (nI_ix hxj (by omega) (by omega)))
    have hPa := hP
    have hDa := hD
    have hP := vaP_r (vaP_r hPa)
    have hD := vaD_r (vaD_r hDa)
    have hRi := hLM.1
    have hRr := hLM.2.1
    have hE := hLM.2.2
    refine vp_callSi (W.runV (As := [.int (xs (7 * j + 1)), .int (xs (7 * j + 2)), .int (xs (7 * j + 3))]) (rest := []) ⟨hx, hb, hml, hown, hT⟩ (c_X12_led l D cy am im rm lm (xs (7 * j + 1)) (xs (7 * j + 2)) (xs (7 * j + 3)) hRi hRr) (cwV 3 hT (gV t_989 t_990 t_991 t_992 t_6) rfl rfl rfl (by decide +kernel) ⟨Nat.le_of_ble_eq_true rfl, Nat.le_of_ble_eq_true rfl⟩) (rP_v hP hK (va_recv hK hP (ci := 12) (q0 := 0) rfl rfl)) rfl rfl hl.1 rfl (lv_room (Nat.le_of_ble_eq_true rfl)) dL_law_747 ⟨by show _ ≤ (600000 : Nat); omega, by show _ ≤ (7302250 : Nat); omega⟩) (fun r_13 hr_13 => ?_)
    have hP := hPa
    have hD := hDa
    have hMI : mEi [] im im := Ei_rf
    have hMR : mEr [] rm rm := Er_rf
    obtain ⟨hL1, hL2, hL3⟩ := id hLR
    obtain ⟨kH, kK, kN, kX, kY, _⟩ := id hL1
    have hLR : LR i r gi gr nh im rm := ⟨LR1_same hL1 hMI hMR hCX (by decide) (by decide) (by decide) (by decide), LR2_same hL2 hMI hMR hCX (by decide) (by decide) (by decide) (by decide), LR3_same hL3 hMI hMR hCX (by decide) (by decide) (by decide) (by decide)⟩
    refine lv_pop hx hb dL_law_750 rfl ?_
    refine lv_goto (tgt := 1525) hx hb dL_law_751 (by decide) ?_
    refine W.widen (k := ce + 15) (n := sl + 215) (by omega) (by omega) ?_
    exact kk a _ _ _ _ _ _ _ _ _ _ _ _ _ rfl hLX hLM hLR hP hD hS (lv_sub hl [0, 1, 2, 3] rfl)
  by_cases hv : 0 ≤ (xs (7 * j + 1)).toInt ∧ (xs (7 * j + 1)).toInt < (i 0).toInt
  · have hlt : (xs (7 * j + 1)).toNatClampNeg < nh := by have h9 : (xs (7 * j + 1)).toNatClampNeg = (xs (7 * j + 1)).toInt.toNat := rfl; have h8 := hLX.2.1; omega
    have hP0 := hP
    have hD0 := hD
    have hn6 : nh ≤ 6 := by have h8 := hLX.2.1; have h7 : (i 0).toInt ≤ 6 := (hLX.1.1 0).2; omega
    have hz := zoom (cy := cy) (a := a) (i := i) (r := r) (q := q) (hb := gb) (hi := gi) (hr := gr) (tl := (mW cy am im rm lm)) hlt
    have hP := vaP_perm hz hP
    have hD := vaD_perm hz hD
    have hRi := mix_Ri hLX.1.1 (hLX.2.2 _ hlt).2.1
    have hRr := mix_Rr hLX.1.2 (hLX.2.2 _ hlt).2.2
    obtain ⟨A2, hA2⟩ : ∃ z, z = mixA a (gb ((xs (7 * j + 1)).toNatClampNeg)) := ⟨_, rfl⟩
    obtain ⟨I2, hI2⟩ : ∃ z, z = mixI i (gi ((xs (7 * j + 1)).toNatClampNeg)) := ⟨_, rfl⟩
    obtain ⟨R2, hR2⟩ : ∃ z, z = mixR r (gr ((xs (7 * j + 1)).toNatClampNeg)) := ⟨_, rfl⟩
    rw [← hA2, ← hI2, ← hR2] at hP hD
    rw [← hI2] at hRi
    rw [← hR2] at hRr
    have h0 : I2 0 = i 0 := by rw [hI2]; rfl
    have h61 : A2 61 = gb ((xs (7 * j + 1)).toNatClampNeg) 61 := by rw [hA2]; rfl
    have ha0 : A2 0 = a 0 := by rw [hA2]; rfl
    rw [← ha0]
    refine vp_callSi (W.runV (As := [.int (xs (7 * j + 1)), .int (xs (7 * j + 2)), .int (xs (7 * j + 3))]) (rest := []) ⟨hx, hb, hml, hown, hT⟩ (c_X11_led.y l D cy A2 I2 R2 q (HX cy gb gi gr ((xs (7 * j + 1)).toNatClampNeg) nh ++ (mW cy am im rm lm)) (xs (7 * j + 1)) (xs (7 * j + 2)) (xs (7 * j + 3)) hRi hRr (by rw [h0]; exact hv) (by rw [h61]; exact (hLX.2.2 _ hlt).1)) (cwV 3 hT (gV t_993 t_994 t_995 t_996 t_2) rfl rfl rfl (by decide +kernel) ⟨Nat.le_of_ble_eq_true rfl, Nat.le_of_ble_eq_true rfl⟩) (rP_v hP hK (va_recv hK hP (ci := 11) (q0 := 0) rfl rfl)) rfl rfl hl.1 rfl (lv_room (Nat.le_of_ble_eq_true rfl)) dL_law_727 ⟨by show _ ≤ (600000 : Nat); omega, by show _ ≤ (7302250 : Nat); omega⟩) (fun r_14 hr_14 => ?_)
    have hP := hP0
    have hD := hD0
    have hCX := CX_rf (i := i) (r := r) (gi := gi) (gr := gr) (nh := nh)
    exact kx _
  · skip
    have hRi := hLX.1.1
    have hRr := hLX.1.2
    refine vp_callSi (W.runV (As := [.int (xs (7 * j + 1)), .int (xs (7 * j + 2)), .int (xs (7 * j + 3))]) (rest := []) ⟨hx, hb, hml, hown, hT⟩ (c_X11_led.b l D cy a i r q (HL cy gb gi gr nh ++ (mW cy am im rm lm)) (xs (7 * j + 1)) (xs (7 * j + 2)) (xs (7 * j + 3)) hRi hRr hv) (cwV 3 hT (gV t_993 t_994 t_995 t_996 t_2) rfl rfl rfl (by decide +kernel) ⟨Nat.le_of_ble_eq_true rfl, Nat.le_of_ble_eq_true rfl⟩) (rP_v hP hK (va_recv hK hP (ci := 11) (q0 := 0) rfl rfl)) rfl rfl hl.1 rfl (lv_room (Nat.le_of_ble_eq_true rfl)) dL_law_727 ⟨by show _ ≤ (600000 : Nat); omega, by show _ ≤ (7302250 : Nat); omega⟩) (fun r_15 hr_15 => ?_)
    have hCX := CX_rf (i := i) (r := r) (gi := gi) (gr := gr) (nh := nh)
    exact kx _
set_option maxHeartbeats 4000000 in
set_option maxRecDepth 100000 in
theorem lc_12 {p : Program} {l : Launch} {e : Env} {s : State} {m : MethodId} {below : List Frame} {meth : Method} {c : Code} {b L : Nat} {xs : Nat → Int32} (C0 : lw_At p s m meth c b L xs) {D : va_G} {cy : Nat → ClassId} {kq vq : Nat} {A : Nat → Prop} (hA : ∀ q, s.heap.size ≤ q → A q) (hbA : ¬ A b) (hK : va_K D vwCl (vT cy) s) (hn : nw s) (hm0 : nm s) (hsk : vk_R RX6 101 "krsoamngcv" kq s ∧ sA kq vq A s s.heap) {a : Nat → Nat} {i : Nat → Int32} {r : Nat → Nat → Int32} {q : Nat → Option Nat} {gb : Nat → Nat → Nat} {gi : Nat → Nat → Int32} {gr : Nat → Nat → Nat → Int32} {nh : Nat} {am : Nat → Nat} {im : Nat → Int32} {rm : Nat → Nat → Int32} {lm : Nat → Int64} (hLX : LX i r q gb gi gr nh) (hLM : LM im rm) (hLR : LR i r gi gr nh im rm) {H : Heap} {locs : List Loc} (hP : va_P D vwCl (xW cy a i r q (a 20) (a 12) ++ (HL cy gb gi gr nh ++ (mW cy am im rm lm))) H) (hD : va_D A (xW cy a i r q (a 20) (a 12) ++ (HL cy gb gi gr nh ++ (mW cy am im rm lm)))) (hS : va_S A s.heap H locs) {ls : Array Slot} {x : Int32} (hl : lv_has ls 4 [(0, .ref b), (1, .ref (a 0)), (2, .ref (am 0)), (3, .int x)]) {j : Nat} (hj : 7 * j + 7 ≤ L) (hL : L ≤ 3584) (hxj : x = nI (7 * j)) {ce sl : Nat} (hce : ce + 15 ≤ 600000) (hsl : sl + 215 ≤ 7302250) (kk : ∀ (a2 : Nat → Nat) (i2 : Nat → Int32) (r2 : Nat → Nat → Int32) (q2 : Nat → Option Nat) (gb2 : Nat → Nat → Nat) (gi2 : Nat → Nat → Int32) (gr2 : Nat → Nat → Nat → Int32) (nh2 : Nat) (im2 : Nat → Int32) (rm2 : Nat → Nat → Int32) (lm2 : Nat → Int64) (H2 : Heap) (locs2 : List Loc) (ls2 : Array Slot), a2 0 = a 0 → LX i2 r2 q2 gb2 gi2 gr2 nh2 → LM im2 rm2 → LR i2 r2 gi2 gr2 nh2 im2 rm2 → va_P D vwCl (xW cy a2 i2 r2 q2 (a2 20) (a2 12) ++ (HL cy gb2 gi2 gr2 nh2 ++ (mW cy am im2 rm2 lm2))) H2 → va_D A (xW cy a2 i2 r2 q2 (a2 20) (a2 12) ++ (HL cy gb2 gi2 gr2 nh2 ++ (mW cy am im2 rm2 lm2))) → va_S A s.heap H2 locs2 → lv_has ls2 4 [(0, .ref b), (1, .ref (a 0)), (2, .ref (am 0)), (3, .int x)] → W p l e room_1 s m #[Value.ref b] below meth c H2 locs2 (ce + 15) (sl + 215) (lw_Z below #[Value.ref b] s) (F0 m 1525 ls2 [])) : W p l e room_1 s m #[Value.ref b] below meth c H locs ce sl (lw_Z below #[Value.ref b] s) (F0 m 754 ls []) := by
  obtain ⟨hx, hb, hr, hml, hown, hts, hX, hbl, hlocks, hgv⟩ := id C0
  have hT : ∀ w ∈ gT, w.before _ s = true := fun w h => hts w (gT_in w h)
  have hx0 : x.toInt = ((7 * j : Nat) : Int) := by rw [hxj]; exact nI_toInt (by omega)
  have hLX0 := hLX
  have hLM0 := hLM
  refine lv_aload_n hx hb dL_law_754 rfl (lv_at hl 1 rfl) ?_
  refine lv_aload_n hx hb dL_law_755 rfl (lv_at hl 0 rfl) ?_
  refine lv_iload_n hx hb dL_law_756 rfl (lv_at hl 3 rfl) ?_
  refine lv_iconst (v := 1) hx hb dL_law_757 (by decide) ?_
  refine lv_iadd hx hb dL_law_758 ?_
  refine lv_topi (fun v_1 ev_1 => ?_)
  have hv_1 : v_1.toInt = x.toInt + 1 := by rw [ev_1]; have := b_rg x; exact i_add (a := x.toInt) (b := 1) rfl rfl (by omega) (by omega)
  refine va_sld hx hb hX hbl hbA hS (vp_inI (by omega) (by omega)) dL_law_759 ?_
  refine lv_topi (fun v_2 ev_2 => ?_)
  obtain rfl : v_2 = xs (7 * j + 1) := ev_2.trans (congrArg xs (nI_ix hxj (by omega) (by omega)))
  refine lv_aload_n hx hb dL_law_760 rfl (lv_at hl 0 rfl) ?_
  refine lv_iload_n hx hb dL_law_761 rfl (lv_at hl 3 rfl) ?_
  refine lv_iconst (v := 2) hx hb dL_law_762 (by decide) ?_
  refine lv_iadd hx hb dL_law_763 ?_
  refine lv_topi (fun v_3 ev_3 => ?_)
  have hv_3 : v_3.toInt = x.toInt + 2 := by rw [ev_3]; have := b_rg x; exact i_add (a := x.toInt) (b := 2) rfl rfl (by omega) (by omega)
  refine va_sld hx hb hX hbl hbA hS (vp_inI (by omega) (by omega)) dL_law_764 ?_
  refine lv_topi (fun v_4 ev_4 => ?_)
  obtain rfl : v_4 = xs (7 * j + 2) := ev_4.trans (congrArg xs (nI_ix hxj (by omega) (by omega)))
  refine lv_aload_n hx hb dL_law_765 rfl (lv_at hl 0 rfl) ?_
  refine lv_iload_n hx hb dL_law_766 rfl (lv_at hl 3 rfl) ?_
  refine lv_iconst (v := 3) hx hb dL_law_767 (by decide) ?_
  refine lv_iadd hx hb dL_law_768 ?_
  refine lv_topi (fun v_5 ev_5 => ?_)
  have hv_5 : v_5.toInt = x.toInt + 3 := by rw [ev_5]; have := b_rg x; exact i_add (a := x.toInt) (b := 3) rfl rfl (by omega) (by omega)
  refine va_sld hx hb hX hbl hbA hS (vp_inI (by omega) (by omega)) dL_law_769 ?_
  refine lv_topi (fun v_6 ev_6 => ?_)
  obtain rfl : v_6 = xs (7 * j + 3) := ev_6.trans (congrArg xs (nI_ix hxj (by omega) (by omega)))
  refine lv_aload_n hx hb dL_law_770 rfl (lv_at hl 0 rfl) ?_
  refine lv_iload_n hx hb dL_law_771 rfl (lv_at hl 3 rfl) ?_
  refine lv_iconst (v := 4) hx hb dL_law_772 (by decide) ?_
  refine lv_iadd hx hb dL_law_773 ?_
  refine lv_topi (fun v_7 ev_7 => ?_)
  have hv_7 : v_7.toInt = x.toInt + 4 := by rw [ev_7]; have := b_rg x; exact i_add (a := x.toInt) (b := 4) rfl rfl (by omega) (by omega)
  refine va_sld hx hb hX hbl hbA hS (vp_inI (by omega) (by omega)) dL_law_774 ?_
  refine lv_topi (fun v_8 ev_8 => ?_)
  obtain rfl : v_8 = xs (7 * j + 4) := ev_8.trans (congrArg xs (nI_ix hxj (by omega) (by omega)))
  refine lv_aload_n hx hb dL_law_775 rfl (lv_at hl 0 rfl) ?_
  refine lv_iload_n hx hb dL_law_776 rfl (lv_at hl 3 rfl) ?_
  refine lv_iconst (v := 5) hx hb dL_law_777 (by decide) ?_
  refine lv_iadd hx hb dL_law_778 ?_
  refine lv_topi (fun v_9 ev_9 => ?_)
  have hv_9 : v_9.toInt = x.toInt + 5 := by rw [ev_9]; have := b_rg x; exact i_add (a := x.toInt) (b := 5) rfl rfl (by omega) (by omega)
  refine va_sld hx hb hX hbl hbA hS (vp_inI (by omega) (by omega)) dL_law_779 ?_
  refine lv_topi (fun v_10 ev_10 => ?_)
  obtain rfl : v_10 = xs (7 * j + 5) := ev_10.trans (congrArg xs (nI_ix hxj (by omega) (by omega)))
  have kx : ∀ (z9 : Int32) (i9 : Nat → Int32) (r9 : Nat → Nat → Int32) (gi9 : Nat → Nat → Int32) (gr9 : Nat → Nat → Nat → Int32) (H9 : Heap) (locs9 : List Loc), LX i9 r9 q gb gi9 gr9 nh → CX [10] [30, 31, 32, 33, 34, 35, 36, 37] nh i r gi gr i9 r9 gi9 gr9 → va_P D vwCl (xW cy a i9 r9 q (a 20) (a 12) ++ (HL cy gb gi9 gr9 nh ++ (mW cy am im rm lm))) H9 → va_D A (xW cy a i9 r9 q (a 20) (a 12) ++ (HL cy gb gi9 gr9 nh ++ (mW cy am im rm lm))) → va_S A s.heap H9 locs9 → W p l e room_1 s m #[Value.ref b] below meth c H9 locs9 ce sl (lw_Z below #[Value.ref b] s) (F0 m 783 ls [.int z9]) := by
    intro z9 i9 r9 gi9 gr9 H locs hLX hCX hP hD hS
    refine lv_pop hx hb dL_law_783 rfl ?_
    refine lv_aload_n hx hb dL_law_784 rfl (lv_at hl 2 rfl) ?_
    refine lv_aload_n hx hb dL_law_785 rfl (lv_at hl 0 rfl) ?_
    refine lv_iload_n hx hb dL_law_786 rfl (lv_at hl 3 rfl) ?_
    refine lv_iconst (v := 1) hx hb dL_law_787 (by decide) ?_
    refine lv_iadd hx hb dL_law_788 ?_
    refine lv_topi (fun v_11 ev_11 => ?_)
    have hv_11 : v_11.toInt = x.toInt + 1 := by rw [ev_11]; have := b_rg x; exact i_add (a := x.toInt) (b := 1) rfl rfl (by omega) (by omega)
    refine va_sld hx hb hX hbl hbA hS (vp_inI (by omega) (by omega)) dL_law_789 ?_
    refine lv_topi (fun v_12 ev_12 => ?_)
    obtain rfl : v_12 = xs (7 * j + 1) := ev_12.trans (congrArg xs (nI_ix hxj (by omega) (by omega)))
    refine lv_aload_n hx hb dL_law_790 rfl (lv_at hl 0 rfl) ?_
    refine lv_iload_n hx hb dL_law_791 rfl (lv_at hl 3 rfl) ?_
    refine lv_iconst (v := 2) hx hb dL_law_792 (by decide) ?_
    refine lv_iadd hx hb dL_law_793 ?_
    refine lv_topi (fun v_13 ev_13 => ?_)
    have hv_13 : v_13.toInt = x.toInt + 2 := by rw [ev_13]; have := b_rg x; exact i_add (a := x.toInt) (b := 2) rfl rfl (by omega) (by omega)
    refine va_sld hx hb hX hbl hbA hS (vp_inI (by omega) (by omega)) dL_law_794 ?_
    refine lv_topi (fun v_14 ev_14 => ?_)
    obtain rfl : v_14 = xs (7 * j + 2) := ev_14.trans (congrArg xs (nI_ix hxj (by omega) (by omega)))
    refine lv_aload_n hx hb dL_law_795 rfl (lv_at hl 0 rfl) ?_
    refine lv_iload_n hx hb dL_law_796 rfl (lv_at hl 3 rfl) ?_
    refine lv_iconst (v := 3) hx hb dL_law_797 (by decide) ?_
    refine lv_iadd hx hb dL_law_798 ?_
    refine lv_topi (fun v_15 ev_15 => ?_)
    have hv_15 : v_15.toInt = x.toInt + 3 := by rw [ev_15]; have := b_rg x; exact i_add (a := x.toInt) (b := 3) rfl rfl (by omega) (by omega)
    refine va_sld hx hb hX hbl hbA hS (vp_inI (by omega) (by omega)) dL_law_799 ?_
    refine lv_topi (fun v_16 ev_16 => ?_)
    obtain rfl : v_16 = xs (7 * j + 3) := ev_16.trans (congrArg xs (nI_ix hxj (by omega) (by omega)))
    refine lv_aload_n hx hb dL_law_800 rfl (lv_at hl 0 rfl) ?_
    refine lv_iload_n hx hb dL_law_801 rfl (lv_at hl 3 rfl) ?_
    refine lv_iconst (v := 4) hx hb dL_law_802 (by decide) ?_
    refine lv_iadd hx hb dL_law_803 ?_
    refine lv_topi (fun v_17 ev_17 => ?_)
    have hv_17 : v_17.toInt = x.toInt + 4 := by rw [ev_17]; have := b_rg x; exact i_add (a := x.toInt) (b := 4) rfl rfl (by omega) (by omega)
    refine va_sld hx hb hX hbl hbA hS (vp_inI (by omega) (by omega)) dL_law_804 ?_
    refine lv_topi (fun v_18 ev_18 => ?_)
    obtain rfl : v_18 = xs (7 * j + 4) := ev_18.trans (congrArg xs (nI_ix hxj (by omega) (by omega)))
    refine lv_aload_n hx hb dL_law_805 rfl (lv_at hl 0 rfl) ?_
    refine lv_iload_n hx hb dL_law_806 rfl (lv_at hl 3 rfl) ?_
    refine lv_iconst (v := 5) hx hb dL_law_807 (by decide) ?_
    refine lv_iadd hx hb dL_law_808 ?_
    refine lv_topi (fun v_19 ev_19 => ?_)
    have hv_19 : v_19.toInt = x.toInt + 5 := by rw [ev_19]; have := b_rg x; exact i_add (a := x.toInt) (b := 5) rfl rfl (by omega) (by omega)
    refine va_sld hx hb hX hbl hbA hS (vp_inI (by omega) (by omega)) dL_law_809 ?_
    refine lv_topi (fun v_20 ev_20 => ?_)
    obtain rfl : v_20 = xs (7 * j + 5) := ev_20.trans (congrArg xs (nI_ix hxj (by omega) (by omega)))
    have hPa := hP
    have hDa := hD
    have hP := vaP_r (vaP_r hPa)
    have hD := vaD_r (vaD_r hDa)
    have hRi := hLM.1
    have hRr := hLM.2.1
    have hE := hLM.2.2
    have hF_21 := rF hD hS hA
    refine va_calli (va_runV (As := [.int (xs (7 * j + 1)), .int (xs (7 * j + 2)), .int (xs (7 * j + 3)), .int (xs (7 * j + 4)), .int (xs (7 * j + 5))]) (rest := []) ⟨hx, hb, hml, hown, hT⟩ (c_X12_claim l D cy am im rm lm (xs (7 * j + 1)) (xs (7 * j + 2)) (xs (7 * j + 3)) (xs (7 * j + 4)) (xs (7 * j + 5)) _ hRi hRr hE) (cwV 5 hT (gV t_997 t_998 t_999 t_1000 t_6) rfl rfl rfl (by decide +kernel) ⟨Nat.le_of_ble_eq_true rfl, Nat.le_of_ble_eq_true rfl⟩) (rQ_v hP hK hD (va_recv hK hP (ci := 12) (q0 := 0) rfl rfl)) rfl rfl hl.1 rfl (lv_room (Nat.le_of_ble_eq_true rfl)) dL_law_810 ⟨by show _ ≤ (600000 : Nat); omega, by show _ ≤ (7302250 : Nat); omega⟩) hS (fun q _ h => hF_21 q h) hF_21 (fun r_22 u_23 t H1 locs ht hvm hr_22 hB hz1 hk1 hS => ?_)
    obtain ⟨i23, r23⟩ := u_23
    obtain ⟨hP, hK1, hD1⟩ := hB
    rw [ht] at hP
    have hD := hD1.weaken (fun k q _ h => hF_21 q.1 h)
    have hP : va_P D vwCl (mW cy am i23 r23 lm) H1 := hP
    have hD : va_D A (mW cy am i23 r23 lm) := hD
    obtain ⟨hRi, hRr, hE1, hE2, hr_22⟩ := hr_22
    have hRi : mRi i23 := hRi
    have hRr : mRr r23 := hRr
    obtain ⟨hP, hD⟩ := joinM hPa hDa hk1 hP rfl
    have hLM : LM i23 r23 := ⟨hRi, hRr, hr_22⟩
    have hMI : mEi [51] im i23 := hE1
    have hMR : mEr [40, 41, 42, 43, 44, 45, 46, 47] rm r23 := hE2
    obtain ⟨hL1, hL2, hL3⟩ := id hLR
    obtain ⟨kH, kK, kN, kX, kY, _⟩ := id hL1
    have hLR : LR i9 r9 gi9 gr9 nh i23 r23 := ⟨LR1_same hL1 hMI hMR hCX (by decide) (by decide) (by decide) (by decide), LR2_same hL2 hMI hMR hCX (by decide) (by decide) (by decide) (by decide), LR3_same hL3 hMI hMR hCX (by decide) (by decide) (by decide) (by decide)⟩
    refine lv_pop hx hb dL_law_813 rfl ?_
    refine lv_goto (tgt := 1525) hx hb dL_law_814 (by decide) ?_
    refine W.widen (k := ce + 15) (n := sl + 215) (by omega) (by omega) ?_
    exact kk a _ _ _ _ _ _ _ _ _ _ _ _ _ rfl hLX hLM hLR hP hD hS (lv_sub hl [0, 1, 2, 3] rfl)
  by_cases hv : 0 ≤ (xs (7 * j + 1)).toInt ∧ (xs (7 * j + 1)).toInt < (i 0).toInt
  · have hlt : (xs (7 * j + 1)).toNatClampNeg < nh := by have h9 : (xs (7 * j + 1)).toNatClampNeg = (xs (7 * j + 1)).toInt.toNat := rfl; have h8 := hLX.2.1; omega
    have hP0 := hP
    have hD0 := hD
    have hn6 : nh ≤ 6 := by have h8 := hLX.2.1; have h7 : (i 0).toInt ≤ 6 := (hLX.1.1 0).2; omega
    have hz := zoom (cy := cy) (a := a) (i := i) (r := r) (q := q) (hb := gb) (hi := gi) (hr := gr) (tl := (mW cy am im rm lm)) hlt
    have hP := vaP_perm hz hP
    have hD := vaD_perm hz hD
    have hRi := mix_Ri hLX.1.1 (hLX.2.2 _ hlt).2.1
    have hRr := mix_Rr hLX.1.2 (hLX.2.2 _ hlt).2.2
    obtain ⟨A2, hA2⟩ : ∃ z, z = mixA a (gb ((xs (7 * j + 1)).toNatClampNeg)) := ⟨_, rfl⟩
    obtain ⟨I2, hI2⟩ : ∃ z, z = mixI i (gi ((xs (7 * j + 1)).toNatClampNeg)) := ⟨_, rfl⟩
    obtain ⟨R2, hR2⟩ : ∃ z, z = mixR r (gr ((xs (7 * j + 1)).toNatClampNeg)) := ⟨_, rfl⟩
    rw [← hA2, ← hI2, ← hR2] at hP hD
    rw [← hI2] at hRi
    rw [← hR2] at hRr
    have h0 : I2 0 = i 0 := by rw [hI2]; rfl
    have h61 : A2 61 = gb ((xs (7 * j + 1)).toNatClampNeg) 61 := by rw [hA2]; rfl
    have ha0 : A2 0 = a 0 := by rw [hA2]; rfl
    rw [← ha0]
    have hF_24 := rF hD hS hA
    refine va_calli (va_runV (As := [.int (xs (7 * j + 1)), .int (xs (7 * j + 2)), .int (xs (7 * j + 3)), .int (xs (7 * j + 4)), .int (xs (7 * j + 5))]) (rest := []) ⟨hx, hb, hml, hown, hT⟩ (c_X11_claim.y l D cy A2 I2 R2 q (HX cy gb gi gr ((xs (7 * j + 1)).toNatClampNeg) nh ++ (mW cy am im rm lm)) (xs (7 * j + 1)) (xs (7 * j + 2)) (xs (7 * j + 3)) (xs (7 * j + 4)) (xs (7 * j + 5)) _ hRi hRr (by rw [h0]; exact hv) (by rw [h61]; exact (hLX.2.2 _ hlt).1)) (cwV 5 hT (gV t_1001 t_1002 t_1003 t_1004 t_2) rfl rfl rfl (by decide +kernel) ⟨Nat.le_of_ble_eq_true rfl, Nat.le_of_ble_eq_true rfl⟩) (rQ_v hP hK hD (va_recv hK hP (ci := 11) (q0 := 0) rfl rfl)) rfl rfl hl.1 rfl (lv_room (Nat.le_of_ble_eq_true rfl)) dL_law_780 ⟨by show _ ≤ (600000 : Nat); omega, by show _ ≤ (7302250 : Nat); omega⟩) hS (fun q _ h => hF_24 q h) hF_24 (fun r_25 u_26 t H1 locs ht hvm hr_25 hB hz1 hk1 hS => ?_)
    obtain ⟨i26, r26⟩ := u_26
    obtain ⟨hP, hK1, hD1⟩ := hB
    rw [ht] at hP
    have hD := hD1.weaken (fun k q _ h => hF_24 q.1 h)
    obtain ⟨hRi, hRr, hE1, hE2, hr_25⟩ := hr_25
    have hRi : yRi i26 := hRi
    have hE1 : mEi [10] I2 i26 := hE1
    have hRr : yRr r26 := hRr
    have hE2 : mEr [30, 31, 32, 33, 34, 35, 36, 37] R2 r26 := hE2
    have hP : va_P D vwCl (xW cy A2 i26 r26 q (A2 20) (A2 12) ++ (hW cy A2 i26 r26 ++ (HX cy gb gi gr ((xs (7 * j + 1)).toNatClampNeg) nh ++ (mW cy am im rm lm)))) H1 := hP
    have hD : va_D A (xW cy A2 i26 r26 q (A2 20) (A2 12) ++ (hW cy A2 i26 r26 ++ (HX cy gb gi gr ((xs (7 * j + 1)).toNatClampNeg) nh ++ (mW cy am im rm lm)))) := hD
    rw [hA2] at hP hD
    have hP := vaP_perm (unzoom (i := I2) (r := R2) hlt) hP
    have hD := vaD_perm (unzoom (i := I2) (r := R2) hlt) hD
    have hLX := LX_y (K := (xs (7 * j + 1)).toNatClampNeg) hLX hRi hRr ((hE1 0 (by decide)).trans h0)
    have hE2x := hE2
    have hCX := CX_y (nh := nh) (i := i) (r := r) (gi := gi) (gr := gr) (K := (xs (7 * j + 1)).toNatClampNeg) hI2 hR2 hE1 hE2
    exact kx _ _ _ _ _ _ _ hLX hCX hP hD hS
  · skip
    have hRi := hLX.1.1
    have hRr := hLX.1.2
    refine vp_callSi (W.runV (As := [.int (xs (7 * j + 1)), .int (xs (7 * j + 2)), .int (xs (7 * j + 3)), .int (xs (7 * j + 4)), .int (xs (7 * j + 5))]) (rest := []) ⟨hx, hb, hml, hown, hT⟩ (c_X11_claim.b l D cy a i r q (HL cy gb gi gr nh ++ (mW cy am im rm lm)) (xs (7 * j + 1)) (xs (7 * j + 2)) (xs (7 * j + 3)) (xs (7 * j + 4)) (xs (7 * j + 5)) hRi hRr hv) (cwV 5 hT (gV t_1001 t_1002 t_1003 t_1004 t_2) rfl rfl rfl (by decide +kernel) ⟨Nat.le_of_ble_eq_true rfl, Nat.le_of_ble_eq_true rfl⟩) (rP_v hP hK (va_recv hK hP (ci := 11) (q0 := 0) rfl rfl)) rfl rfl hl.1 rfl (lv_room (Nat.le_of_ble_eq_true rfl)) dL_law_780 ⟨by show _ ≤ (600000 : Nat); omega, by show _ ≤ (7302250 : Nat); omega⟩) (fun r_27 hr_27 => ?_)
    have hCX := CX_rf (i := i) (r := r) (gi := gi) (gr := gr) (nh := nh)
    exact kx _ _ _ _ _ _ _ hLX CX_rfT hP hD hS
set_option maxHeartbeats 4000000 in
set_option maxRecDepth 100000 in
theorem lc_13 {p : Program} {l : Launch} {e : Env} {s : State} {m : MethodId} {below : List Frame} {meth : Method} {c : Code} {b L : Nat} {xs : Nat → Int32} (C0 : lw_At p s m meth c b L xs) {D : va_G} {cy : Nat → ClassId} {kq vq : Nat} {A : Nat → Prop} (hA : ∀ q, s.heap.size ≤ q → A q) (hbA : ¬ A b) (hK : va_K D vwCl (vT cy) s) (hn : nw s) (hm0 : nm s) (hsk : vk_R RX6 101 "krsoamngcv" kq s ∧ sA kq vq A s s.heap) {a : Nat → Nat} {i : Nat → Int32} {r : Nat → Nat → Int32} {q : Nat → Option Nat} {gb : Nat → Nat → Nat} {gi : Nat → Nat → Int32} {gr : Nat → Nat → Nat → Int32} {nh : Nat} {am : Nat → Nat} {im : Nat → Int32} {rm : Nat → Nat → Int32} {lm : Nat → Int64} (hLX : LX i r q gb gi gr nh) (hLM : LM im rm) (hLR : LR i r gi gr nh im rm) {H : Heap} {locs : List Loc} (hP : va_P D vwCl (xW cy a i r q (a 20) (a 12) ++ (HL cy gb gi gr nh ++ (mW cy am im rm lm))) H) (hD : va_D A (xW cy a i r q (a 20) (a 12) ++ (HL cy gb gi gr nh ++ (mW cy am im rm lm)))) (hS : va_S A s.heap H locs) {ls : Array Slot} {x : Int32} (hl : lv_has ls 4 [(0, .ref b), (1, .ref (a 0)), (2, .ref (am 0)), (3, .int x)]) {j : Nat} (hj : 7 * j + 7 ≤ L) (hL : L ≤ 3584) (hxj : x = nI (7 * j)) {ce sl : Nat} (hce : ce + 15 ≤ 600000) (hsl : sl + 215 ≤ 7302250) (kk : ∀ (a2 : Nat → Nat) (i2 : Nat → Int32) (r2 : Nat → Nat → Int32) (q2 : Nat → Option Nat) (gb2 : Nat → Nat → Nat) (gi2 : Nat → Nat → Int32) (gr2 : Nat → Nat → Nat → Int32) (nh2 : Nat) (im2 : Nat → Int32) (rm2 : Nat → Nat → Int32) (lm2 : Nat → Int64) (H2 : Heap) (locs2 : List Loc) (ls2 : Array Slot), a2 0 = a 0 → LX i2 r2 q2 gb2 gi2 gr2 nh2 → LM im2 rm2 → LR i2 r2 gi2 gr2 nh2 im2 rm2 → va_P D vwCl (xW cy a2 i2 r2 q2 (a2 20) (a2 12) ++ (HL cy gb2 gi2 gr2 nh2 ++ (mW cy am im2 rm2 lm2))) H2 → va_D A (xW cy a2 i2 r2 q2 (a2 20) (a2 12) ++ (HL cy gb2 gi2 gr2 nh2 ++ (mW cy am im2 rm2 lm2))) → va_S A s.heap H2 locs2 → lv_has ls2 4 [(0, .ref b), (1, .ref (a 0)), (2, .ref (am 0)), (3, .int x)] → W p l e room_1 s m #[Value.ref b] below meth c H2 locs2 (ce + 15) (sl + 215) (lw_Z below #[Value.ref b] s) (F0 m 1525 ls2 [])) : W p l e room_1 s m #[Value.ref b] below meth c H locs ce sl (lw_Z below #[Value.ref b] s) (F0 m 817 ls []) := by
  obtain ⟨hx, hb, hr, hml, hown, hts, hX, hbl, hlocks, hgv⟩ := id C0
  have hT : ∀ w ∈ gT, w.before _ s = true := fun w h => hts w (gT_in w h)
  have hx0 : x.toInt = ((7 * j : Nat) : Int) := by rw [hxj]; exact nI_toInt (by omega)
  have hLX0 := hLX
  have hLM0 := hLM
  refine lv_aload_n hx hb dL_law_817 rfl (lv_at hl 1 rfl) ?_
  refine lv_aload_n hx hb dL_law_818 rfl (lv_at hl 0 rfl) ?_
  refine lv_iload_n hx hb dL_law_819 rfl (lv_at hl 3 rfl) ?_
  refine lv_iconst (v := 1) hx hb dL_law_820 (by decide) ?_
  refine lv_iadd hx hb dL_law_821 ?_
  refine lv_topi (fun v_1 ev_1 => ?_)
  have hv_1 : v_1.toInt = x.toInt + 1 := by rw [ev_1]; have := b_rg x; exact i_add (a := x.toInt) (b := 1) rfl rfl (by omega) (by omega)
  refine va_sld hx hb hX hbl hbA hS (vp_inI (by omega) (by omega)) dL_law_822 ?_
  refine lv_topi (fun v_2 ev_2 => ?_)
  obtain rfl : v_2 = xs (7 * j + 1) := ev_2.trans (congrArg xs (nI_ix hxj (by omega) (by omega)))
  refine lv_aload_n hx hb dL_law_823 rfl (lv_at hl 0 rfl) ?_
  refine lv_iload_n hx hb dL_law_824 rfl (lv_at hl 3 rfl) ?_
  refine lv_iconst (v := 2) hx hb dL_law_825 (by decide) ?_
  refine lv_iadd hx hb dL_law_826 ?_
  refine lv_topi (fun v_3 ev_3 => ?_)
  have hv_3 : v_3.toInt = x.toInt + 2 := by rw [ev_3]; have := b_rg x; exact i_add (a := x.toInt) (b := 2) rfl rfl (by omega) (by omega)
  refine va_sld hx hb hX hbl hbA hS (vp_inI (by omega) (by omega)) dL_law_827 ?_
  refine lv_topi (fun v_4 ev_4 => ?_)
  obtain rfl : v_4 = xs (7 * j + 2) := ev_4.trans (congrArg xs (nI_ix hxj (by omega) (by omega)))
  have hRi := hLX.1.1
  have hRr := hLX.1.2
  have hF_5 := rF hD hS hA
  refine va_calli (va_runV (As := [.int (xs (7 * j + 1)), .int (xs (7 * j + 2))]) (rest := []) ⟨hx, hb, hml, hown, hT⟩ (c_X11_agree l D cy a i r q (HL cy gb gi gr nh ++ (mW cy am im rm lm)) (xs (7 * j + 1)) (xs (7 * j + 2)) _ hRi hRr) (cwV 2 hT (gV t_1005 t_1006 t_1007 t_1008 t_2) rfl rfl rfl (by decide +kernel) ⟨Nat.le_of_ble_eq_true rfl, Nat.le_of_ble_eq_true rfl⟩) (rQ_v hP hK hD (va_recv hK hP (ci := 11) (q0 := 0) rfl rfl)) rfl rfl hl.1 rfl (lv_room (Nat.le_of_ble_eq_true rfl)) dL_law_828 ⟨by show _ ≤ (600000 : Nat); omega, by show _ ≤ (7302250 : Nat); omega⟩) hS (fun q _ h => hF_5 q h) hF_5 (fun r_6 u_7 t H1 locs ht hvm hr_6 hB hz1 hk1 hS => ?_)
  obtain ⟨r7, rfl⟩ : ∃ z, z = u_7 := ⟨_, rfl⟩
  obtain ⟨hP, hK1, hD1⟩ := hB
  rw [ht] at hP
  have hD := hD1.weaken (fun k q _ h => hF_5 q.1 h)
  obtain ⟨hRr, hE2, hr_6⟩ := hr_6
  have hRr : yRr r7 := hRr
  have hE2 : mEr [35] r r7 := hE2
  have hP : va_P D vwCl (xW cy a i r7 q (a 20) (a 12) ++ (HL cy gb gi gr nh ++ (mW cy am im rm lm))) H1 := hP
  have hD : va_D A (xW cy a i r7 q (a 20) (a 12) ++ (HL cy gb gi gr nh ++ (mW cy am im rm lm))) := hD
  have hLX := LX_x hLX hRi hRr rfl
  have hCX := CX_x (gi := gi) (gr := gr) (nh := nh) (Ei_rf (T := []) (i := i)) hE2
  refine lv_pop hx hb dL_law_831 rfl ?_
  refine lv_aload_n hx hb dL_law_832 rfl (lv_at hl 2 rfl) ?_
  refine lv_aload_n hx hb dL_law_833 rfl (lv_at hl 0 rfl) ?_
  refine lv_iload_n hx hb dL_law_834 rfl (lv_at hl 3 rfl) ?_
  refine lv_iconst (v := 1) hx hb dL_law_835 (by decide) ?_
  refine lv_iadd hx hb dL_law_836 ?_
  refine lv_topi (fun v_8 ev_8 => ?_)
  have hv_8 : v_8.toInt = x.toInt + 1 := by rw [ev_8]; have := b_rg x; exact i_add (a := x.toInt) (b := 1) rfl rfl (by omega) (by omega)
  refine va_sld hx hb hX hbl hbA hS (vp_inI (by omega) (by omega)) dL_law_837 ?_
  refine lv_topi (fun v_9 ev_9 => ?_)
  obtain rfl : v_9 = xs (7 * j + 1) := ev_9.trans (congrArg xs (nI_ix hxj (by omega) (by omega)))
  refine lv_aload_n hx hb dL_law_838 rfl (lv_at hl 0 rfl) ?_
  refine lv_iload_n hx hb dL_law_839 rfl (lv_at hl 3 rfl) ?_
  refine lv_iconst (v := 2) hx hb dL_law_840 (by decide) ?_
  refine lv_iadd hx hb dL_law_841 ?_
  refine lv_topi (fun v_10 ev_10 => ?_)
  have hv_10 : v_10.toInt = x.toInt + 2 := by rw [ev_10]; have := b_rg x; exact i_add (a := x.toInt) (b := 2) rfl rfl (by omega) (by omega)
  refine va_sld hx hb hX hbl hbA hS (vp_inI (by omega) (by omega)) dL_law_842 ?_
  refine lv_topi (fun v_11 ev_11 => ?_)
  obtain rfl : v_11 = xs (7 * j + 2) := ev_11.trans (congrArg xs (nI_ix hxj (by omega) (by omega)))
  have hPa := hP
  have hDa := hD
  have hP := vaP_r (vaP_r hPa)
  have hD := vaD_r (vaD_r hDa)
  have hRi := hLM.1
  have hRr := hLM.2.1
  have hE := hLM.2.2
  have hF_12 := rF hD hS hA
  refine va_calli (va_runV (As := [.int (xs (7 * j + 1)), .int (xs (7 * j + 2))]) (rest := []) ⟨hx, hb, hml, hown, hT⟩ (c_X12_agree l D cy am im rm lm (xs (7 * j + 1)) (xs (7 * j + 2)) _ hRi hRr) (cwV 2 hT (gV t_1009 t_1010 t_1011 t_1012 t_6) rfl rfl rfl (by decide +kernel) ⟨Nat.le_of_ble_eq_true rfl, Nat.le_of_ble_eq_true rfl⟩) (rQ_v hP hK hD (va_recv hK hP (ci := 12) (q0 := 0) rfl rfl)) rfl rfl hl.1 rfl (lv_room (Nat.le_of_ble_eq_true rfl)) dL_law_843 ⟨by show _ ≤ (600000 : Nat); omega, by show _ ≤ (7302250 : Nat); omega⟩) hS (fun q _ h => hF_12 q h) hF_12 (fun r_13 u_14 t H1 locs ht hvm hr_13 hB hz1 hk1 hS => ?_)
  obtain ⟨r14, rfl⟩ : ∃ z, z = u_14 := ⟨_, rfl⟩
  obtain ⟨hP, hK1, hD1⟩ := hB
  rw [ht] at hP
  have hD := hD1.weaken (fun k q _ h => hF_12 q.1 h)
  have hP : va_P D vwCl (mW cy am im r14 lm) H1 := hP
  have hD : va_D A (mW cy am im r14 lm) := hD
  obtain ⟨hRr, hE2, hr_13⟩ := hr_13
  have hRr : mRr r14 := hRr
  obtain ⟨hP, hD⟩ := joinM hPa hDa hk1 hP rfl
  have hLM : LM im r14 := ⟨hRi, hRr, (mE_same (Ei_rf (T := [])) hE2 (by decide) (by decide) hE)⟩
  have hMI : mEi [] im im := Ei_rf
  have hMR : mEr [45] rm r14 := hE2
  obtain ⟨hL1, hL2, hL3⟩ := id hLR
  obtain ⟨kH, kK, kN, kX, kY, _⟩ := id hL1
  have hLR : LR i r7 gi gr nh im r14 := ⟨LR1_same hL1 hMI hMR hCX (by decide) (by decide) (by decide) (by decide), LR2_same hL2 hMI hMR hCX (by decide) (by decide) (by decide) (by decide), LR3_same hL3 hMI hMR hCX (by decide) (by decide) (by decide) (by decide)⟩
  refine lv_pop hx hb dL_law_846 rfl ?_
  refine lv_goto (tgt := 1525) hx hb dL_law_847 (by decide) ?_
  refine W.widen (k := ce + 15) (n := sl + 215) (by omega) (by omega) ?_
  exact kk a _ _ _ _ _ _ _ _ _ _ _ _ _ rfl hLX hLM hLR hP hD hS (lv_sub hl [0, 1, 2, 3] rfl)
