set_option maxRecDepth 100000 in
theorem t_1138 : Cond.code yX11_law cX11_law 4 (some .int) ∈ gT := tm (tb2 (List.mem_of_getElem? (i := 228) (by rfl))) (by decide +kernel)
set_option maxRecDepth 100000 in
theorem t_1139 : Cond.methodLink RL 50 yX11_law ∈ gT := tm (tb2 (List.mem_of_getElem? (i := 225) (by rfl))) (by decide +kernel)
set_option maxRecDepth 100000 in
theorem t_1140 : Cond.instanceMethod yX11_law ∈ gT := tm (tb2 (List.mem_of_getElem? (i := 226) (by rfl))) (by decide +kernel)
set_option maxRecDepth 100000 in
theorem t_1141 : Cond.selects RX11 yX11_law yX11_law ∈ gT := tm (tb2 (List.mem_of_getElem? (i := 227) (by rfl))) (by decide +kernel)
set_option maxRecDepth 100000 in
theorem t_1142 : Cond.code yX12_law cX12_law 4 (some .int) ∈ gT := tm (tb6 (List.mem_of_getElem? (i := 49) (by rfl))) (by decide +kernel)
set_option maxRecDepth 100000 in
theorem t_1143 : Cond.methodLink RL 54 yX12_law ∈ gT := tm (tb6 (List.mem_of_getElem? (i := 46) (by rfl))) (by decide +kernel)
set_option maxRecDepth 100000 in
theorem t_1144 : Cond.instanceMethod yX12_law ∈ gT := tm (tb6 (List.mem_of_getElem? (i := 47) (by rfl))) (by decide +kernel)
set_option maxRecDepth 100000 in
theorem t_1145 : Cond.selects RX12 yX12_law yX12_law ∈ gT := tm (tb6 (List.mem_of_getElem? (i := 48) (by rfl))) (by decide +kernel)
set_option maxRecDepth 100000 in
theorem t_1146 : Cond.code yX11_like cX11_like 9 (some .int) ∈ gT := tm (tb4 (List.mem_of_getElem? (i := 124) (by rfl))) (by decide +kernel)
set_option maxRecDepth 100000 in
theorem t_1147 : Cond.methodLink RL 120 yX11_like ∈ gT := tm (tb4 (List.mem_of_getElem? (i := 121) (by rfl))) (by decide +kernel)
set_option maxRecDepth 100000 in
theorem t_1148 : Cond.instanceMethod yX11_like ∈ gT := tm (tb4 (List.mem_of_getElem? (i := 122) (by rfl))) (by decide +kernel)
set_option maxRecDepth 100000 in
theorem t_1149 : Cond.selects RX11 yX11_like yX11_like ∈ gT := tm (tb4 (List.mem_of_getElem? (i := 123) (by rfl))) (by decide +kernel)
set_option maxRecDepth 100000 in
theorem t_1150 : Cond.code yX12_like cX12_like 5 (some .int) ∈ gT := tm (tb7 (List.mem_of_getElem? (i := 91) (by rfl))) (by decide +kernel)
set_option maxRecDepth 100000 in
theorem t_1151 : Cond.methodLink RL 123 yX12_like ∈ gT := tm (tb7 (List.mem_of_getElem? (i := 88) (by rfl))) (by decide +kernel)
set_option maxRecDepth 100000 in
theorem t_1152 : Cond.instanceMethod yX12_like ∈ gT := tm (tb7 (List.mem_of_getElem? (i := 89) (by rfl))) (by decide +kernel)
set_option maxRecDepth 100000 in
theorem t_1153 : Cond.selects RX12 yX12_like yX12_like ∈ gT := tm (tb7 (List.mem_of_getElem? (i := 90) (by rfl))) (by decide +kernel)
set_option maxRecDepth 100000 in
theorem t_1154 : Cond.code yX11_byKind cX11_byKind 6 (some .int) ∈ gT := tm (tb4 (List.mem_of_getElem? (i := 162) (by rfl))) (by decide +kernel)
set_option maxRecDepth 100000 in
theorem t_1155 : Cond.methodLink RL 136 yX11_byKind ∈ gT := tm (tb4 (List.mem_of_getElem? (i := 159) (by rfl))) (by decide +kernel)
set_option maxRecDepth 100000 in
theorem t_1156 : Cond.instanceMethod yX11_byKind ∈ gT := tm (tb4 (List.mem_of_getElem? (i := 160) (by rfl))) (by decide +kernel)
set_option maxRecDepth 100000 in
theorem t_1157 : Cond.selects RX11 yX11_byKind yX11_byKind ∈ gT := tm (tb4 (List.mem_of_getElem? (i := 161) (by rfl))) (by decide +kernel)
set_option maxRecDepth 100000 in
theorem t_1158 : Cond.code yX12_byKind cX12_byKind 5 (some .int) ∈ gT := tm (tb7 (List.mem_of_getElem? (i := 128) (by rfl))) (by decide +kernel)
set_option maxRecDepth 100000 in
theorem t_1159 : Cond.methodLink RL 139 yX12_byKind ∈ gT := tm (tb7 (List.mem_of_getElem? (i := 125) (by rfl))) (by decide +kernel)
set_option maxRecDepth 100000 in
theorem t_1160 : Cond.instanceMethod yX12_byKind ∈ gT := tm (tb7 (List.mem_of_getElem? (i := 126) (by rfl))) (by decide +kernel)
set_option maxRecDepth 100000 in
theorem t_1161 : Cond.selects RX12 yX12_byKind yX12_byKind ∈ gT := tm (tb7 (List.mem_of_getElem? (i := 127) (by rfl))) (by decide +kernel)
set_option maxRecDepth 100000 in
theorem t_1162 : Cond.code yX11_count cX11_count 3 (some .int) ∈ gT := tm (tb4 (List.mem_of_getElem? (i := 190) (by rfl))) (by decide +kernel)
set_option maxRecDepth 100000 in
theorem t_1163 : Cond.methodLink RL 154 yX11_count ∈ gT := tm (tb4 (List.mem_of_getElem? (i := 187) (by rfl))) (by decide +kernel)
set_option maxRecDepth 100000 in
theorem t_1164 : Cond.instanceMethod yX11_count ∈ gT := tm (tb4 (List.mem_of_getElem? (i := 188) (by rfl))) (by decide +kernel)
set_option maxRecDepth 100000 in
theorem t_1165 : Cond.selects RX11 yX11_count yX11_count ∈ gT := tm (tb4 (List.mem_of_getElem? (i := 189) (by rfl))) (by decide +kernel)
set_option maxRecDepth 100000 in
theorem t_1166 : Cond.code yX12_count cX12_count 2 (some .int) ∈ gT := tm (tb7 (List.mem_of_getElem? (i := 151) (by rfl))) (by decide +kernel)
set_option maxRecDepth 100000 in
theorem t_1167 : Cond.methodLink RL 157 yX12_count ∈ gT := tm (tb7 (List.mem_of_getElem? (i := 148) (by rfl))) (by decide +kernel)
set_option maxRecDepth 100000 in
theorem t_1168 : Cond.instanceMethod yX12_count ∈ gT := tm (tb7 (List.mem_of_getElem? (i := 149) (by rfl))) (by decide +kernel)
set_option maxRecDepth 100000 in
theorem t_1169 : Cond.selects RX12 yX12_count yX12_count ∈ gT := tm (tb7 (List.mem_of_getElem? (i := 150) (by rfl))) (by decide +kernel)
def dl_594 : List (Nat × (Instr × Nat)) := [(612, (.aload_n 1, 1)), (613, (.aload_n 0, 1)), (614, (.iload_n 3, 1)), (615, (.iconst 1, 1)), (616, (.iadd, 1)), (617, (.iaload, 1)), (618, (.invokevirtual 50, 3)), (621, (.pop, 1)), (622, (.aload_n 2, 1)), (623, (.aload_n 0, 1)), (624, (.iload_n 3, 1)), (625, (.iconst 1, 1)), (626, (.iadd, 1)), (627, (.iaload, 1)), (628, (.invokevirtual 54, 3)), (631, (.pop, 1)), (632, (.goto 893, 3)), (1268, (.aload_n 1, 1)), (1269, (.aload_n 0, 1)), (1270, (.iload_n 3, 1))]
theorem dh_594 : dchk cL_law dl_594 = true := by decide +kernel
theorem dL_law_612 : decode cL_law 612 = .ok (.aload_n 1, 1) := dget dh_594 (k := 0) rfl
theorem dL_law_613 : decode cL_law 613 = .ok (.aload_n 0, 1) := dget dh_594 (k := 1) rfl
theorem dL_law_614 : decode cL_law 614 = .ok (.iload_n 3, 1) := dget dh_594 (k := 2) rfl
theorem dL_law_615 : decode cL_law 615 = .ok (.iconst 1, 1) := dget dh_594 (k := 3) rfl
theorem dL_law_616 : decode cL_law 616 = .ok (.iadd, 1) := dget dh_594 (k := 4) rfl
theorem dL_law_617 : decode cL_law 617 = .ok (.iaload, 1) := dget dh_594 (k := 5) rfl
theorem dL_law_618 : decode cL_law 618 = .ok (.invokevirtual 50, 3) := dget dh_594 (k := 6) rfl
theorem dL_law_621 : decode cL_law 621 = .ok (.pop, 1) := dget dh_594 (k := 7) rfl
theorem dL_law_622 : decode cL_law 622 = .ok (.aload_n 2, 1) := dget dh_594 (k := 8) rfl
theorem dL_law_623 : decode cL_law 623 = .ok (.aload_n 0, 1) := dget dh_594 (k := 9) rfl
theorem dL_law_624 : decode cL_law 624 = .ok (.iload_n 3, 1) := dget dh_594 (k := 10) rfl
theorem dL_law_625 : decode cL_law 625 = .ok (.iconst 1, 1) := dget dh_594 (k := 11) rfl
theorem dL_law_626 : decode cL_law 626 = .ok (.iadd, 1) := dget dh_594 (k := 12) rfl
theorem dL_law_627 : decode cL_law 627 = .ok (.iaload, 1) := dget dh_594 (k := 13) rfl
theorem dL_law_628 : decode cL_law 628 = .ok (.invokevirtual 54, 3) := dget dh_594 (k := 14) rfl
theorem dL_law_631 : decode cL_law 631 = .ok (.pop, 1) := dget dh_594 (k := 15) rfl
theorem dL_law_632 : decode cL_law 632 = .ok (.goto 893, 3) := dget dh_594 (k := 16) rfl
theorem dL_law_1268 : decode cL_law 1268 = .ok (.aload_n 1, 1) := dget dh_594 (k := 17) rfl
theorem dL_law_1269 : decode cL_law 1269 = .ok (.aload_n 0, 1) := dget dh_594 (k := 18) rfl
theorem dL_law_1270 : decode cL_law 1270 = .ok (.iload_n 3, 1) := dget dh_594 (k := 19) rfl
def dl_595 : List (Nat × (Instr × Nat)) := [(1271, (.iconst 1, 1)), (1272, (.iadd, 1)), (1273, (.iaload, 1)), (1274, (.aload_n 0, 1)), (1275, (.iload_n 3, 1)), (1276, (.iconst 2, 1)), (1277, (.iadd, 1)), (1278, (.iaload, 1)), (1279, (.invokevirtual 120, 3)), (1282, (.pop, 1)), (1283, (.aload_n 2, 1)), (1284, (.aload_n 0, 1)), (1285, (.iload_n 3, 1)), (1286, (.iconst 1, 1)), (1287, (.iadd, 1)), (1288, (.iaload, 1)), (1289, (.aload_n 0, 1)), (1290, (.iload_n 3, 1)), (1291, (.iconst 2, 1)), (1292, (.iadd, 1))]
theorem dh_595 : dchk cL_law dl_595 = true := by decide +kernel
theorem dL_law_1271 : decode cL_law 1271 = .ok (.iconst 1, 1) := dget dh_595 (k := 0) rfl
theorem dL_law_1272 : decode cL_law 1272 = .ok (.iadd, 1) := dget dh_595 (k := 1) rfl
theorem dL_law_1273 : decode cL_law 1273 = .ok (.iaload, 1) := dget dh_595 (k := 2) rfl
theorem dL_law_1274 : decode cL_law 1274 = .ok (.aload_n 0, 1) := dget dh_595 (k := 3) rfl
theorem dL_law_1275 : decode cL_law 1275 = .ok (.iload_n 3, 1) := dget dh_595 (k := 4) rfl
theorem dL_law_1276 : decode cL_law 1276 = .ok (.iconst 2, 1) := dget dh_595 (k := 5) rfl
theorem dL_law_1277 : decode cL_law 1277 = .ok (.iadd, 1) := dget dh_595 (k := 6) rfl
theorem dL_law_1278 : decode cL_law 1278 = .ok (.iaload, 1) := dget dh_595 (k := 7) rfl
theorem dL_law_1279 : decode cL_law 1279 = .ok (.invokevirtual 120, 3) := dget dh_595 (k := 8) rfl
theorem dL_law_1282 : decode cL_law 1282 = .ok (.pop, 1) := dget dh_595 (k := 9) rfl
theorem dL_law_1283 : decode cL_law 1283 = .ok (.aload_n 2, 1) := dget dh_595 (k := 10) rfl
theorem dL_law_1284 : decode cL_law 1284 = .ok (.aload_n 0, 1) := dget dh_595 (k := 11) rfl
theorem dL_law_1285 : decode cL_law 1285 = .ok (.iload_n 3, 1) := dget dh_595 (k := 12) rfl
theorem dL_law_1286 : decode cL_law 1286 = .ok (.iconst 1, 1) := dget dh_595 (k := 13) rfl
theorem dL_law_1287 : decode cL_law 1287 = .ok (.iadd, 1) := dget dh_595 (k := 14) rfl
theorem dL_law_1288 : decode cL_law 1288 = .ok (.iaload, 1) := dget dh_595 (k := 15) rfl
theorem dL_law_1289 : decode cL_law 1289 = .ok (.aload_n 0, 1) := dget dh_595 (k := 16) rfl
theorem dL_law_1290 : decode cL_law 1290 = .ok (.iload_n 3, 1) := dget dh_595 (k := 17) rfl
theorem dL_law_1291 : decode cL_law 1291 = .ok (.iconst 2, 1) := dget dh_595 (k := 18) rfl
theorem dL_law_1292 : decode cL_law 1292 = .ok (.iadd, 1) := dget dh_595 (k := 19) rfl
def dl_596 : List (Nat × (Instr × Nat)) := [(1293, (.iaload, 1)), (1294, (.invokevirtual 123, 3)), (1297, (.pop, 1)), (1298, (.goto 227, 3)), (1400, (.aload_n 1, 1)), (1401, (.aload_n 0, 1)), (1402, (.iload_n 3, 1)), (1403, (.iconst 1, 1)), (1404, (.iadd, 1)), (1405, (.iaload, 1)), (1406, (.aload_n 0, 1)), (1407, (.iload_n 3, 1)), (1408, (.iconst 2, 1)), (1409, (.iadd, 1)), (1410, (.iaload, 1)), (1411, (.invokevirtual 136, 3)), (1414, (.pop, 1)), (1415, (.aload_n 2, 1)), (1416, (.aload_n 0, 1)), (1417, (.iload_n 3, 1))]
theorem dh_596 : dchk cL_law dl_596 = true := by decide +kernel
theorem dL_law_1293 : decode cL_law 1293 = .ok (.iaload, 1) := dget dh_596 (k := 0) rfl
theorem dL_law_1294 : decode cL_law 1294 = .ok (.invokevirtual 123, 3) := dget dh_596 (k := 1) rfl
theorem dL_law_1297 : decode cL_law 1297 = .ok (.pop, 1) := dget dh_596 (k := 2) rfl
theorem dL_law_1298 : decode cL_law 1298 = .ok (.goto 227, 3) := dget dh_596 (k := 3) rfl
theorem dL_law_1400 : decode cL_law 1400 = .ok (.aload_n 1, 1) := dget dh_596 (k := 4) rfl
theorem dL_law_1401 : decode cL_law 1401 = .ok (.aload_n 0, 1) := dget dh_596 (k := 5) rfl
theorem dL_law_1402 : decode cL_law 1402 = .ok (.iload_n 3, 1) := dget dh_596 (k := 6) rfl
theorem dL_law_1403 : decode cL_law 1403 = .ok (.iconst 1, 1) := dget dh_596 (k := 7) rfl
theorem dL_law_1404 : decode cL_law 1404 = .ok (.iadd, 1) := dget dh_596 (k := 8) rfl
theorem dL_law_1405 : decode cL_law 1405 = .ok (.iaload, 1) := dget dh_596 (k := 9) rfl
theorem dL_law_1406 : decode cL_law 1406 = .ok (.aload_n 0, 1) := dget dh_596 (k := 10) rfl
theorem dL_law_1407 : decode cL_law 1407 = .ok (.iload_n 3, 1) := dget dh_596 (k := 11) rfl
theorem dL_law_1408 : decode cL_law 1408 = .ok (.iconst 2, 1) := dget dh_596 (k := 12) rfl
theorem dL_law_1409 : decode cL_law 1409 = .ok (.iadd, 1) := dget dh_596 (k := 13) rfl
theorem dL_law_1410 : decode cL_law 1410 = .ok (.iaload, 1) := dget dh_596 (k := 14) rfl
theorem dL_law_1411 : decode cL_law 1411 = .ok (.invokevirtual 136, 3) := dget dh_596 (k := 15) rfl
theorem dL_law_1414 : decode cL_law 1414 = .ok (.pop, 1) := dget dh_596 (k := 16) rfl
theorem dL_law_1415 : decode cL_law 1415 = .ok (.aload_n 2, 1) := dget dh_596 (k := 17) rfl
theorem dL_law_1416 : decode cL_law 1416 = .ok (.aload_n 0, 1) := dget dh_596 (k := 18) rfl
theorem dL_law_1417 : decode cL_law 1417 = .ok (.iload_n 3, 1) := dget dh_596 (k := 19) rfl
def dl_597 : List (Nat × (Instr × Nat)) := [(1418, (.iconst 1, 1)), (1419, (.iadd, 1)), (1420, (.iaload, 1)), (1421, (.aload_n 0, 1)), (1422, (.iload_n 3, 1)), (1423, (.iconst 2, 1)), (1424, (.iadd, 1)), (1425, (.iaload, 1)), (1426, (.invokevirtual 139, 3)), (1429, (.pop, 1)), (1430, (.goto 95, 3)), (1502, (.aload_n 1, 1)), (1503, (.aload_n 0, 1)), (1504, (.iload_n 3, 1)), (1505, (.iconst 1, 1)), (1506, (.iadd, 1)), (1507, (.iaload, 1)), (1508, (.invokevirtual 154, 3)), (1511, (.pop, 1)), (1512, (.aload_n 2, 1))]
theorem dh_597 : dchk cL_law dl_597 = true := by decide +kernel
theorem dL_law_1418 : decode cL_law 1418 = .ok (.iconst 1, 1) := dget dh_597 (k := 0) rfl
theorem dL_law_1419 : decode cL_law 1419 = .ok (.iadd, 1) := dget dh_597 (k := 1) rfl
theorem dL_law_1420 : decode cL_law 1420 = .ok (.iaload, 1) := dget dh_597 (k := 2) rfl
theorem dL_law_1421 : decode cL_law 1421 = .ok (.aload_n 0, 1) := dget dh_597 (k := 3) rfl
theorem dL_law_1422 : decode cL_law 1422 = .ok (.iload_n 3, 1) := dget dh_597 (k := 4) rfl
theorem dL_law_1423 : decode cL_law 1423 = .ok (.iconst 2, 1) := dget dh_597 (k := 5) rfl
theorem dL_law_1424 : decode cL_law 1424 = .ok (.iadd, 1) := dget dh_597 (k := 6) rfl
theorem dL_law_1425 : decode cL_law 1425 = .ok (.iaload, 1) := dget dh_597 (k := 7) rfl
theorem dL_law_1426 : decode cL_law 1426 = .ok (.invokevirtual 139, 3) := dget dh_597 (k := 8) rfl
theorem dL_law_1429 : decode cL_law 1429 = .ok (.pop, 1) := dget dh_597 (k := 9) rfl
theorem dL_law_1430 : decode cL_law 1430 = .ok (.goto 95, 3) := dget dh_597 (k := 10) rfl
theorem dL_law_1502 : decode cL_law 1502 = .ok (.aload_n 1, 1) := dget dh_597 (k := 11) rfl
theorem dL_law_1503 : decode cL_law 1503 = .ok (.aload_n 0, 1) := dget dh_597 (k := 12) rfl
theorem dL_law_1504 : decode cL_law 1504 = .ok (.iload_n 3, 1) := dget dh_597 (k := 13) rfl
theorem dL_law_1505 : decode cL_law 1505 = .ok (.iconst 1, 1) := dget dh_597 (k := 14) rfl
theorem dL_law_1506 : decode cL_law 1506 = .ok (.iadd, 1) := dget dh_597 (k := 15) rfl
theorem dL_law_1507 : decode cL_law 1507 = .ok (.iaload, 1) := dget dh_597 (k := 16) rfl
theorem dL_law_1508 : decode cL_law 1508 = .ok (.invokevirtual 154, 3) := dget dh_597 (k := 17) rfl
theorem dL_law_1511 : decode cL_law 1511 = .ok (.pop, 1) := dget dh_597 (k := 18) rfl
theorem dL_law_1512 : decode cL_law 1512 = .ok (.aload_n 2, 1) := dget dh_597 (k := 19) rfl
def dl_598 : List (Nat × (Instr × Nat)) := [(1513, (.aload_n 0, 1)), (1514, (.iload_n 3, 1)), (1515, (.iconst 1, 1)), (1516, (.iadd, 1)), (1517, (.iaload, 1)), (1518, (.invokevirtual 157, 3)), (1521, (.pop, 1)), (1522, (.goto 3, 3))]
theorem dh_598 : dchk cL_law dl_598 = true := by decide +kernel
theorem dL_law_1513 : decode cL_law 1513 = .ok (.aload_n 0, 1) := dget dh_598 (k := 0) rfl
theorem dL_law_1514 : decode cL_law 1514 = .ok (.iload_n 3, 1) := dget dh_598 (k := 1) rfl
theorem dL_law_1515 : decode cL_law 1515 = .ok (.iconst 1, 1) := dget dh_598 (k := 2) rfl
theorem dL_law_1516 : decode cL_law 1516 = .ok (.iadd, 1) := dget dh_598 (k := 3) rfl
theorem dL_law_1517 : decode cL_law 1517 = .ok (.iaload, 1) := dget dh_598 (k := 4) rfl
theorem dL_law_1518 : decode cL_law 1518 = .ok (.invokevirtual 157, 3) := dget dh_598 (k := 5) rfl
theorem dL_law_1521 : decode cL_law 1521 = .ok (.pop, 1) := dget dh_598 (k := 6) rfl
theorem dL_law_1522 : decode cL_law 1522 = .ok (.goto 3, 3) := dget dh_598 (k := 7) rfl
theorem HL_mem {cy : Nat → ClassId} {gb : Nat → Nat → Nat} {gi : Nat → Nat → Int32} {gr : Nat → Nat → Nat → Int32} {nh k : Nat} {tl : va_W} (hk : k < nh) : ∀ c ∈ hW cy (gb k) (gi k) (gr k), c ∈ HL cy gb gi gr nh ++ tl := fun c hc => List.mem_append_left _ ((HL_perm nh hk).mem_iff.mpr (List.mem_append_left _ hc))
set_option maxHeartbeats 4000000 in
set_option maxRecDepth 100000 in
theorem lc_8 {p : Program} {l : Launch} {e : Env} {s : State} {m : MethodId} {below : List Frame} {meth : Method} {c : Code} {b L : Nat} {xs : Nat → Int32} (C0 : lw_At p s m meth c b L xs) {D : va_G} {cy : Nat → ClassId} {kq vq : Nat} {A : Nat → Prop} (hA : ∀ q, s.heap.size ≤ q → A q) (hbA : ¬ A b) (hK : va_K D vwCl (vT cy) s) (hn : nw s) (hm0 : nm s) (hsk : vk_R RX6 101 "krsoamngcv" kq s ∧ sA kq vq A s s.heap) {a : Nat → Nat} {i : Nat → Int32} {r : Nat → Nat → Int32} {q : Nat → Option Nat} {gb : Nat → Nat → Nat} {gi : Nat → Nat → Int32} {gr : Nat → Nat → Nat → Int32} {nh : Nat} {am : Nat → Nat} {im : Nat → Int32} {rm : Nat → Nat → Int32} {lm : Nat → Int64} (hLX : LX i r q gb gi gr nh) (hLM : LM im rm) (hLR : LR i r gi gr nh im rm) {H : Heap} {locs : List Loc} (hP : va_P D vwCl (xW cy a i r q (a 20) (a 12) ++ (HL cy gb gi gr nh ++ (mW cy am im rm lm))) H) (hD : va_D A (xW cy a i r q (a 20) (a 12) ++ (HL cy gb gi gr nh ++ (mW cy am im rm lm)))) (hS : va_S A s.heap H locs) {ls : Array Slot} {x : Int32} (hl : lv_has ls 4 [(0, .ref b), (1, .ref (a 0)), (2, .ref (am 0)), (3, .int x)]) {j : Nat} (hj : 7 * j + 7 ≤ L) (hL : L ≤ 3584) (hxj : x = nI (7 * j)) {ce sl : Nat} (hce : ce + 15 ≤ 600000) (hsl : sl + 215 ≤ 7302250) (kk : ∀ (a2 : Nat → Nat) (i2 : Nat → Int32) (r2 : Nat → Nat → Int32) (q2 : Nat → Option Nat) (gb2 : Nat → Nat → Nat) (gi2 : Nat → Nat → Int32) (gr2 : Nat → Nat → Nat → Int32) (nh2 : Nat) (im2 : Nat → Int32) (rm2 : Nat → Nat → Int32) (lm2 : Nat → Int64) (H2 : Heap) (locs2 : List Loc) (ls2 : Array Slot), a2 0 = a 0 → LX i2 r2 q2 gb2 gi2 gr2 nh2 → LM im2 rm2 → LR i2 r2 gi2 gr2 nh2 im2 rm2 → va_P D vwCl (xW cy a2 i2 r2 q2 (a2 20) (a2 12) ++ (HL cy gb2 gi2 gr2 nh2 ++ (mW cy am im2 rm2 lm2))) H2 → va_D A (xW cy a2 i2 r2 q2 (a2 20) (a2 12) ++ (HL cy gb2 gi2 gr2 nh2 ++ (mW cy am im2 rm2 lm2))) → va_S A s.heap H2 locs2 → lv_has ls2 4 [(0, .ref b), (1, .ref (a 0)), (2, .ref (am 0)), (3, .int x)] → W p l e room_1 s m #[Value.ref b] below meth c H2 locs2 (ce + 15) (sl + 215) (lw_Z below #[Value.ref b] s) (F0 m 1525 ls2 [])) : W p l e room_1 s m #[Value.ref b] below meth c H locs ce sl (lw_Z below #[Value.ref b] s) (F0 m 612 ls []) := by
  obtain ⟨hx, hb, hr, hml, hown, hts, hX, hbl, hlocks, hgv⟩ := id C0
  have hT : ∀ w ∈ gT, w.before _ s = true := fun w h => hts w (gT_in w h)
  have hx0 : x.toInt = ((7 * j : Nat) : Int) := by rw [hxj]; exact nI_toInt (by omega)
  have hLX0 := hLX
  have hLM0 := hLM
  refine lv_aload_n hx hb dL_law_612 rfl (lv_at hl 1 rfl) ?_
  refine lv_aload_n hx hb dL_law_613 rfl (lv_at hl 0 rfl) ?_
  refine lv_iload_n hx hb dL_law_614 rfl (lv_at hl 3 rfl) ?_
  refine lv_iconst (v := 1) hx hb dL_law_615 (by decide) ?_
  refine lv_iadd hx hb dL_law_616 ?_
  refine lv_topi (fun v_1 ev_1 => ?_)
  have hv_1 : v_1.toInt = x.toInt + 1 := by rw [ev_1]; have := b_rg x; exact i_add (a := x.toInt) (b := 1) rfl rfl (by omega) (by omega)
  refine va_sld hx hb hX hbl hbA hS (vp_inI (by omega) (by omega)) dL_law_617 ?_
  refine lv_topi (fun v_2 ev_2 => ?_)
  obtain rfl : v_2 = xs (7 * j + 1) := ev_2.trans (congrArg xs (nI_ix hxj (by omega) (by omega)))
  have hRi := hLX.1.1
  have hRr := hLX.1.2
  have hF_3 := rF hD hS hA
  refine va_calli (va_runV (As := [.int (xs (7 * j + 1))]) (rest := []) ⟨hx, hb, hml, hown, hT⟩ (c_X11_law l D cy a i r q (HL cy gb gi gr nh ++ (mW cy am im rm lm)) kq vq (xs (7 * j + 1)) _ hRi hRr) (cwV 1 hT (gV t_1138 t_1139 t_1140 t_1141 t_2) rfl rfl rfl (by decide +kernel) ⟨Nat.le_of_ble_eq_true rfl, Nat.le_of_ble_eq_true rfl⟩) (rS_v hsk hS hF_3 hP hK hD (va_recv hK hP (ci := 11) (q0 := 0) rfl rfl)) rfl rfl hl.1 rfl (lv_room (Nat.le_of_ble_eq_true rfl)) dL_law_618 ⟨by show _ ≤ (600000 : Nat); omega, by show _ ≤ (7302250 : Nat); omega⟩) hS (fun q _ h => hF_3 q h) hF_3 (fun r_4 u_5 t H1 locs ht hvm hr_4 hB hz1 hk1 hS => ?_)
  obtain ⟨a5, i5, r5⟩ := u_5
  obtain ⟨hP, hK1, hD1⟩ := hB
  rw [ht] at hP
  have hD := hD1.weaken (fun k q _ h => hF_3 q.1 h)
  obtain ⟨hRi, hRr, hE1, hE2, haz⟩ := hr_4
  have haz : a5 0 = a 0 := haz 0 (Or.inl (by decide))
  have hLX := LX_x hLX hRi hRr (hE1 0 (by decide))
  have hCX := CX_x (gi := gi) (gr := gr) (nh := nh) hE1 hE2
  have hP : va_P D vwCl (xW cy a5 i5 r5 q (a5 20) (a5 12) ++ (HL cy gb gi gr nh ++ (mW cy am im rm lm))) H1 := hP
  have hD : va_D A (xW cy a5 i5 r5 q (a5 20) (a5 12) ++ (HL cy gb gi gr nh ++ (mW cy am im rm lm))) := hD
  refine lv_pop hx hb dL_law_621 rfl ?_
  refine lv_aload_n hx hb dL_law_622 rfl (lv_at hl 2 rfl) ?_
  refine lv_aload_n hx hb dL_law_623 rfl (lv_at hl 0 rfl) ?_
  refine lv_iload_n hx hb dL_law_624 rfl (lv_at hl 3 rfl) ?_
  refine lv_iconst (v := 1) hx hb dL_law_625 (by decide) ?_
  refine lv_iadd hx hb dL_law_626 ?_
  refine lv_topi (fun v_6 ev_6 => ?_)
  have hv_6 : v_6.toInt = x.toInt + 1 := by rw [ev_6]; have := b_rg x; exact i_add (a := x.toInt) (b := 1) rfl rfl (by omega) (by omega)
  refine va_sld hx hb hX hbl hbA hS (vp_inI (by omega) (by omega)) dL_law_627 ?_
  refine lv_topi (fun v_7 ev_7 => ?_)
  obtain rfl : v_7 = xs (7 * j + 1) := ev_7.trans (congrArg xs (nI_ix hxj (by omega) (by omega)))
  have hPa := hP
  have hDa := hD
  have hP := vaP_r (vaP_r hPa)
  have hD := vaD_r (vaD_r hDa)
  have hRi := hLM.1
  have hRr := hLM.2.1
  have hE := hLM.2.2
  have hF_8 := rF hD hS hA
  refine va_calli (va_runV (As := [.int (xs (7 * j + 1))]) (rest := []) ⟨hx, hb, hml, hown, hT⟩ (c_X12_law l D cy am im rm lm (xs (7 * j + 1)) _ hRi hRr hE) (cwV 1 hT (gV t_1142 t_1143 t_1144 t_1145 t_6) rfl rfl rfl (by decide +kernel) ⟨Nat.le_of_ble_eq_true rfl, Nat.le_of_ble_eq_true rfl⟩) (rQ_v hP hK hD (va_recv hK hP (ci := 12) (q0 := 0) rfl rfl)) rfl rfl hl.1 rfl (lv_room (Nat.le_of_ble_eq_true rfl)) dL_law_628 ⟨by show _ ≤ (600000 : Nat); omega, by show _ ≤ (7302250 : Nat); omega⟩) hS (fun q _ h => hF_8 q h) hF_8 (fun r_9 u_10 t H1 locs ht hvm hr_9 hB hz1 hk1 hS => ?_)
  obtain ⟨i10, r10⟩ := u_10
  obtain ⟨hP, hK1, hD1⟩ := hB
  rw [ht] at hP
  have hD := hD1.weaken (fun k q _ h => hF_8 q.1 h)
  have hP : va_P D vwCl (mW cy am i10 r10 lm) H1 := hP
  have hD : va_D A (mW cy am i10 r10 lm) := hD
  obtain ⟨hRi, hRr, hE1, hE2, hr_9⟩ := hr_9
  have hRi : mRi i10 := hRi
  have hRr : mRr r10 := hRr
  obtain ⟨hP, hD⟩ := joinM hPa hDa hk1 hP rfl
  have hLM : LM i10 r10 := ⟨hRi, hRr, hr_9⟩
  have hMI : mEi [22, 23, 24, 25, 26, 27, 28, 29, 30, 31] im i10 := hE1
  have hMR : mEr [21, 22, 23, 24, 25, 26, 27, 28, 29, 30, 31] rm r10 := hE2
  obtain ⟨hL1, hL2, hL3⟩ := id hLR
  obtain ⟨kH, kK, kN, kX, kY, _⟩ := id hL1
  have hLR : LR i5 r5 gi gr nh i10 r10 := ⟨LR1_same hL1 hMI hMR hCX (by decide) (by decide) (by decide) (by decide), LR2_same hL2 hMI hMR hCX (by decide) (by decide) (by decide) (by decide), LR3_same hL3 hMI hMR hCX (by decide) (by decide) (by decide) (by decide)⟩
  refine lv_pop hx hb dL_law_631 rfl ?_
  refine lv_goto (tgt := 1525) hx hb dL_law_632 (by decide) ?_
  refine W.widen (k := ce + 15) (n := sl + 215) (by omega) (by omega) ?_
  exact kk a5 _ _ _ _ _ _ _ _ _ _ _ _ _ haz hLX hLM hLR hP hD hS (lv_sub hl [0, 1, 2, 3] rfl)
set_option maxHeartbeats 4000000 in
set_option maxRecDepth 100000 in
theorem lc_24 {p : Program} {l : Launch} {e : Env} {s : State} {m : MethodId} {below : List Frame} {meth : Method} {c : Code} {b L : Nat} {xs : Nat → Int32} (C0 : lw_At p s m meth c b L xs) {D : va_G} {cy : Nat → ClassId} {kq vq : Nat} {A : Nat → Prop} (hA : ∀ q, s.heap.size ≤ q → A q) (hbA : ¬ A b) (hK : va_K D vwCl (vT cy) s) (hn : nw s) (hm0 : nm s) (hsk : vk_R RX6 101 "krsoamngcv" kq s ∧ sA kq vq A s s.heap) {a : Nat → Nat} {i : Nat → Int32} {r : Nat → Nat → Int32} {q : Nat → Option Nat} {gb : Nat → Nat → Nat} {gi : Nat → Nat → Int32} {gr : Nat → Nat → Nat → Int32} {nh : Nat} {am : Nat → Nat} {im : Nat → Int32} {rm : Nat → Nat → Int32} {lm : Nat → Int64} (hLX : LX i r q gb gi gr nh) (hLM : LM im rm) (hLR : LR i r gi gr nh im rm) {H : Heap} {locs : List Loc} (hP : va_P D vwCl (xW cy a i r q (a 20) (a 12) ++ (HL cy gb gi gr nh ++ (mW cy am im rm lm))) H) (hD : va_D A (xW cy a i r q (a 20) (a 12) ++ (HL cy gb gi gr nh ++ (mW cy am im rm lm)))) (hS : va_S A s.heap H locs) {ls : Array Slot} {x : Int32} (hl : lv_has ls 4 [(0, .ref b), (1, .ref (a 0)), (2, .ref (am 0)), (3, .int x)]) {j : Nat} (hj : 7 * j + 7 ≤ L) (hL : L ≤ 3584) (hxj : x = nI (7 * j)) {ce sl : Nat} (hce : ce + 15 ≤ 600000) (hsl : sl + 215 ≤ 7302250) (kk : ∀ (a2 : Nat → Nat) (i2 : Nat → Int32) (r2 : Nat → Nat → Int32) (q2 : Nat → Option Nat) (gb2 : Nat → Nat → Nat) (gi2 : Nat → Nat → Int32) (gr2 : Nat → Nat → Nat → Int32) (nh2 : Nat) (im2 : Nat → Int32) (rm2 : Nat → Nat → Int32) (lm2 : Nat → Int64) (H2 : Heap) (locs2 : List Loc) (ls2 : Array Slot), a2 0 = a 0 → LX i2 r2 q2 gb2 gi2 gr2 nh2 → LM im2 rm2 → LR i2 r2 gi2 gr2 nh2 im2 rm2 → va_P D vwCl (xW cy a2 i2 r2 q2 (a2 20) (a2 12) ++ (HL cy gb2 gi2 gr2 nh2 ++ (mW cy am im2 rm2 lm2))) H2 → va_D A (xW cy a2 i2 r2 q2 (a2 20) (a2 12) ++ (HL cy gb2 gi2 gr2 nh2 ++ (mW cy am im2 rm2 lm2))) → va_S A s.heap H2 locs2 → lv_has ls2 4 [(0, .ref b), (1, .ref (a 0)), (2, .ref (am 0)), (3, .int x)] → W p l e room_1 s m #[Value.ref b] below meth c H2 locs2 (ce + 15) (sl + 215) (lw_Z below #[Value.ref b] s) (F0 m 1525 ls2 [])) : W p l e room_1 s m #[Value.ref b] below meth c H locs ce sl (lw_Z below #[Value.ref b] s) (F0 m 1268 ls []) := by
  obtain ⟨hx, hb, hr, hml, hown, hts, hX, hbl, hlocks, hgv⟩ := id C0
  have hT : ∀ w ∈ gT, w.before _ s = true := fun w h => hts w (gT_in w h)
  have hx0 : x.toInt = ((7 * j : Nat) : Int) := by rw [hxj]; exact nI_toInt (by omega)
  have hLX0 := hLX
  have hLM0 := hLM
  refine lv_aload_n hx hb dL_law_1268 rfl (lv_at hl 1 rfl) ?_
  refine lv_aload_n hx hb dL_law_1269 rfl (lv_at hl 0 rfl) ?_
  refine lv_iload_n hx hb dL_law_1270 rfl (lv_at hl 3 rfl) ?_
  refine lv_iconst (v := 1) hx hb dL_law_1271 (by decide) ?_
  refine lv_iadd hx hb dL_law_1272 ?_
  refine lv_topi (fun v_1 ev_1 => ?_)
  have hv_1 : v_1.toInt = x.toInt + 1 := by rw [ev_1]; have := b_rg x; exact i_add (a := x.toInt) (b := 1) rfl rfl (by omega) (by omega)
  refine va_sld hx hb hX hbl hbA hS (vp_inI (by omega) (by omega)) dL_law_1273 ?_
  refine lv_topi (fun v_2 ev_2 => ?_)
  obtain rfl : v_2 = xs (7 * j + 1) := ev_2.trans (congrArg xs (nI_ix hxj (by omega) (by omega)))
  refine lv_aload_n hx hb dL_law_1274 rfl (lv_at hl 0 rfl) ?_
  refine lv_iload_n hx hb dL_law_1275 rfl (lv_at hl 3 rfl) ?_
  refine lv_iconst (v := 2) hx hb dL_law_1276 (by decide) ?_
  refine lv_iadd hx hb dL_law_1277 ?_
  refine lv_topi (fun v_3 ev_3 => ?_)
  have hv_3 : v_3.toInt = x.toInt + 2 := by rw [ev_3]; have := b_rg x; exact i_add (a := x.toInt) (b := 2) rfl rfl (by omega) (by omega)
  refine va_sld hx hb hX hbl hbA hS (vp_inI (by omega) (by omega)) dL_law_1278 ?_
  refine lv_topi (fun v_4 ev_4 => ?_)
  obtain rfl : v_4 = xs (7 * j + 2) := ev_4.trans (congrArg xs (nI_ix hxj (by omega) (by omega)))
  by_cases hv : 0 ≤ (xs (7 * j + 1)).toInt ∧ (xs (7 * j + 1)).toInt < (i 0).toInt
  · skip
    have hRi := hLX.1.1
    have hRr := hLX.1.2
    refine vp_callSi (W.runV (As := [.int (xs (7 * j + 1)), .int (xs (7 * j + 2))]) (rest := []) ⟨hx, hb, hml, hown, hT⟩ (c_X11_like.y l D cy a i r q (HL cy gb gi gr nh ++ (mW cy am im rm lm)) (xs (7 * j + 1)) (xs (7 * j + 2)) hRi hRr nh gb gi gr hLX.2.1 (fun k hk => ⟨(hLX.2.2 k hk).1, (hLX.2.2 k hk).2.1, (hLX.2.2 k hk).2.2, HL_mem hk⟩) hv) (cwV 2 hT (gV t_1146 t_1147 t_1148 t_1149 t_2) rfl rfl rfl (by decide +kernel) ⟨Nat.le_of_ble_eq_true rfl, Nat.le_of_ble_eq_true rfl⟩) (rP_v hP hK (va_recv hK hP (ci := 11) (q0 := 0) rfl rfl)) rfl rfl hl.1 rfl (lv_room (Nat.le_of_ble_eq_true rfl)) dL_law_1279 ⟨by show _ ≤ (600000 : Nat); omega, by show _ ≤ (7302250 : Nat); omega⟩) (fun r_5 hr_5 => ?_)
    have hCX := CX_rf (i := i) (r := r) (gi := gi) (gr := gr) (nh := nh)
    refine lv_pop hx hb dL_law_1282 rfl ?_
    refine lv_aload_n hx hb dL_law_1283 rfl (lv_at hl 2 rfl) ?_
    refine lv_aload_n hx hb dL_law_1284 rfl (lv_at hl 0 rfl) ?_
    refine lv_iload_n hx hb dL_law_1285 rfl (lv_at hl 3 rfl) ?_
    refine lv_iconst (v := 1) hx hb dL_law_1286 (by decide) ?_
    refine lv_iadd hx hb dL_law_1287 ?_
    refine lv_topi (fun v_6 ev_6 => ?_)
    have hv_6 : v_6.toInt = x.toInt + 1 := by rw [ev_6]; have := b_rg x; exact i_add (a := x.toInt) (b := 1) rfl rfl (by omega) (by omega)
    refine va_sld hx hb hX hbl hbA hS (vp_inI (by omega) (by omega)) dL_law_1288 ?_
    refine lv_topi (fun v_7 ev_7 => ?_)
    obtain rfl : v_7 = xs (7 * j + 1) := ev_7.trans (congrArg xs (nI_ix hxj (by omega) (by omega)))
    refine lv_aload_n hx hb dL_law_1289 rfl (lv_at hl 0 rfl) ?_
    refine lv_iload_n hx hb dL_law_1290 rfl (lv_at hl 3 rfl) ?_
    refine lv_iconst (v := 2) hx hb dL_law_1291 (by decide) ?_
    refine lv_iadd hx hb dL_law_1292 ?_
    refine lv_topi (fun v_8 ev_8 => ?_)
    have hv_8 : v_8.toInt = x.toInt + 2 := by rw [ev_8]; have := b_rg x; exact i_add (a := x.toInt) (b := 2) rfl rfl (by omega) (by omega)
    refine va_sld hx hb hX hbl hbA hS (vp_inI (by omega) (by omega)) dL_law_1293 ?_
    refine lv_topi (fun v_9 ev_9 => ?_)
    obtain rfl : v_9 = xs (7 * j + 2) := ev_9.trans (congrArg xs (nI_ix hxj (by omega) (by omega)))
    have hPa := hP
    have hDa := hD
    have hP := vaP_r (vaP_r hPa)
    have hD := vaD_r (vaD_r hDa)
    have hRi := hLM.1
    have hRr := hLM.2.1
    have hE := hLM.2.2
    have hF_10 := rF hD hS hA
    refine va_calli (va_runV (As := [.int (xs (7 * j + 1)), .int (xs (7 * j + 2))]) (rest := []) ⟨hx, hb, hml, hown, hT⟩ (c_X12_like l D cy am im rm lm (xs (7 * j + 1)) (xs (7 * j + 2)) _ hRi hRr) (cwV 2 hT (gV t_1150 t_1151 t_1152 t_1153 t_6) rfl rfl rfl (by decide +kernel) ⟨Nat.le_of_ble_eq_true rfl, Nat.le_of_ble_eq_true rfl⟩) (rQ_v hP hK hD (va_recv hK hP (ci := 12) (q0 := 0) rfl rfl)) rfl rfl hl.1 rfl (lv_room (Nat.le_of_ble_eq_true rfl)) dL_law_1294 ⟨by show _ ≤ (600000 : Nat); omega, by show _ ≤ (7302250 : Nat); omega⟩) hS (fun q _ h => hF_10 q h) hF_10 (fun r_11 u_12 t H1 locs ht hvm hr_11 hB hz1 hk1 hS => ?_)
    obtain ⟨r12, rfl⟩ : ∃ z, z = u_12 := ⟨_, rfl⟩
    obtain ⟨hP, hK1, hD1⟩ := hB
    rw [ht] at hP
    have hD := hD1.weaken (fun k q _ h => hF_10 q.1 h)
    have hP : va_P D vwCl (mW cy am im r12 lm) H1 := hP
    have hD : va_D A (mW cy am im r12 lm) := hD
    obtain ⟨hRr, hE2, hr_11⟩ := hr_11
    have hRr : mRr r12 := hRr
    obtain ⟨hP, hD⟩ := joinM hPa hDa hk1 hP rfl
    have hLM : LM im r12 := ⟨hRi, hRr, (mE_same (Ei_rf (T := [])) hE2 (by decide) (by decide) hE)⟩
    have hMI : mEi [] im im := Ei_rf
    have hMR : mEr [34, 35, 36, 37, 38, 39, 57] rm r12 := hE2
    obtain ⟨hL1, hL2, hL3⟩ := id hLR
    obtain ⟨kH, kK, kN, kX, kY, _⟩ := id hL1
    have hLR : LR i r gi gr nh im r12 := ⟨LR1_same hL1 hMI hMR hCX (by decide) (by decide) (by decide) (by decide), LR2_same hL2 hMI hMR hCX (by decide) (by decide) (by decide) (by decide), LR3_same hL3 hMI hMR hCX (by decide) (by decide) (by decide) (by decide)⟩
    refine lv_pop hx hb dL_law_1297 rfl ?_
    refine lv_goto (tgt := 1525) hx hb dL_law_1298 (by decide) ?_
    refine W.widen (k := ce + 15) (n := sl + 215) (by omega) (by omega) ?_
    exact kk a _ _ _ _ _ _ _ _ _ _ _ _ _ rfl hLX hLM hLR hP hD hS (lv_sub hl [0, 1, 2, 3] rfl)
  · skip
    have hRi := hLX.1.1
    have hRr := hLX.1.2
    refine vp_callSi (W.runV (As := [.int (xs (7 * j + 1)), .int (xs (7 * j + 2))]) (rest := []) ⟨hx, hb, hml, hown, hT⟩ (c_X11_like.b l D cy a i r q (HL cy gb gi gr nh ++ (mW cy am im rm lm)) (xs (7 * j + 1)) (xs (7 * j + 2)) hRi hRr hv) (cwV 2 hT (gV t_1146 t_1147 t_1148 t_1149 t_2) rfl rfl rfl (by decide +kernel) ⟨Nat.le_of_ble_eq_true rfl, Nat.le_of_ble_eq_true rfl⟩) (rP_v hP hK (va_recv hK hP (ci := 11) (q0 := 0) rfl rfl)) rfl rfl hl.1 rfl (lv_room (Nat.le_of_ble_eq_true rfl)) dL_law_1279 ⟨by show _ ≤ (600000 : Nat); omega, by show _ ≤ (7302250 : Nat); omega⟩) (fun r_13 hr_13 => ?_)
    have hCX := CX_rf (i := i) (r := r) (gi := gi) (gr := gr) (nh := nh)
    refine lv_pop hx hb dL_law_1282 rfl ?_
    refine lv_aload_n hx hb dL_law_1283 rfl (lv_at hl 2 rfl) ?_
    refine lv_aload_n hx hb dL_law_1284 rfl (lv_at hl 0 rfl) ?_
    refine lv_iload_n hx hb dL_law_1285 rfl (lv_at hl 3 rfl) ?_
    refine lv_iconst (v := 1) hx hb dL_law_1286 (by decide) ?_
    refine lv_iadd hx hb dL_law_1287 ?_
    refine lv_topi (fun v_14 ev_14 => ?_)
    have hv_14 : v_14.toInt = x.toInt + 1 := by rw [ev_14]; have := b_rg x; exact i_add (a := x.toInt) (b := 1) rfl rfl (by omega) (by omega)
    refine va_sld hx hb hX hbl hbA hS (vp_inI (by omega) (by omega)) dL_law_1288 ?_
    refine lv_topi (fun v_15 ev_15 => ?_)
    obtain rfl : v_15 = xs (7 * j + 1) := ev_15.trans (congrArg xs (nI_ix hxj (by omega) (by omega)))
    refine lv_aload_n hx hb dL_law_1289 rfl (lv_at hl 0 rfl) ?_
    refine lv_iload_n hx hb dL_law_1290 rfl (lv_at hl 3 rfl) ?_
    refine lv_iconst (v := 2) hx hb dL_law_1291 (by decide) ?_
    refine lv_iadd hx hb dL_law_1292 ?_
    refine lv_topi (fun v_16 ev_16 => ?_)
    have hv_16 : v_16.toInt = x.toInt + 2 := by rw [ev_16]; have := b_rg x; exact i_add (a := x.toInt) (b := 2) rfl rfl (by omega) (by omega)
    refine va_sld hx hb hX hbl hbA hS (vp_inI (by omega) (by omega)) dL_law_1293 ?_
    refine lv_topi (fun v_17 ev_17 => ?_)
    obtain rfl : v_17 = xs (7 * j + 2) := ev_17.trans (congrArg xs (nI_ix hxj (by omega) (by omega)))
    have hPa := hP
    have hDa := hD
    have hP := vaP_r (vaP_r hPa)
    have hD := vaD_r (vaD_r hDa)
    have hRi := hLM.1
    have hRr := hLM.2.1
    have hE := hLM.2.2
    have hF_18 := rF hD hS hA
    refine va_calli (va_runV (As := [.int (xs (7 * j + 1)), .int (xs (7 * j + 2))]) (rest := []) ⟨hx, hb, hml, hown, hT⟩ (c_X12_like l D cy am im rm lm (xs (7 * j + 1)) (xs (7 * j + 2)) _ hRi hRr) (cwV 2 hT (gV t_1150 t_1151 t_1152 t_1153 t_6) rfl rfl rfl (by decide +kernel) ⟨Nat.le_of_ble_eq_true rfl, Nat.le_of_ble_eq_true rfl⟩) (rQ_v hP hK hD (va_recv hK hP (ci := 12) (q0 := 0) rfl rfl)) rfl rfl hl.1 rfl (lv_room (Nat.le_of_ble_eq_true rfl)) dL_law_1294 ⟨by show _ ≤ (600000 : Nat); omega, by show _ ≤ (7302250 : Nat); omega⟩) hS (fun q _ h => hF_18 q h) hF_18 (fun r_19 u_20 t H1 locs ht hvm hr_19 hB hz1 hk1 hS => ?_)
    obtain ⟨r20, rfl⟩ : ∃ z, z = u_20 := ⟨_, rfl⟩
    obtain ⟨hP, hK1, hD1⟩ := hB
    rw [ht] at hP
    have hD := hD1.weaken (fun k q _ h => hF_18 q.1 h)
    have hP : va_P D vwCl (mW cy am im r20 lm) H1 := hP
    have hD : va_D A (mW cy am im r20 lm) := hD
    obtain ⟨hRr, hE2, hr_19⟩ := hr_19
    have hRr : mRr r20 := hRr
    obtain ⟨hP, hD⟩ := joinM hPa hDa hk1 hP rfl
    have hLM : LM im r20 := ⟨hRi, hRr, (mE_same (Ei_rf (T := [])) hE2 (by decide) (by decide) hE)⟩
    have hMI : mEi [] im im := Ei_rf
    have hMR : mEr [34, 35, 36, 37, 38, 39, 57] rm r20 := hE2
    obtain ⟨hL1, hL2, hL3⟩ := id hLR
    obtain ⟨kH, kK, kN, kX, kY, _⟩ := id hL1
    have hLR : LR i r gi gr nh im r20 := ⟨LR1_same hL1 hMI hMR hCX (by decide) (by decide) (by decide) (by decide), LR2_same hL2 hMI hMR hCX (by decide) (by decide) (by decide) (by decide), LR3_same hL3 hMI hMR hCX (by decide) (by decide) (by decide) (by decide)⟩
    refine lv_pop hx hb dL_law_1297 rfl ?_
    refine lv_goto (tgt := 1525) hx hb dL_law_1298 (by decide) ?_
    refine W.widen (k := ce + 15) (n := sl + 215) (by omega) (by omega) ?_
    exact kk a _ _ _ _ _ _ _ _ _ _ _ _ _ rfl hLX hLM hLR hP hD hS (lv_sub hl [0, 1, 2, 3] rfl)
set_option maxHeartbeats 4000000 in
set_option maxRecDepth 100000 in
theorem lc_28 {p : Program} {l : Launch} {e : Env} {s : State} {m : MethodId} {below : List Frame} {meth : Method} {c : Code} {b L : Nat} {xs : Nat → Int32} (C0 : lw_At p s m meth c b L xs) {D : va_G} {cy : Nat → ClassId} {kq vq : Nat} {A : Nat → Prop} (hA : ∀ q, s.heap.size ≤ q → A q) (hbA : ¬ A b) (hK : va_K D vwCl (vT cy) s) (hn : nw s) (hm0 : nm s) (hsk : vk_R RX6 101 "krsoamngcv" kq s ∧ sA kq vq A s s.heap) {a : Nat → Nat} {i : Nat → Int32} {r : Nat → Nat → Int32} {q : Nat → Option Nat} {gb : Nat → Nat → Nat} {gi : Nat → Nat → Int32} {gr : Nat → Nat → Nat → Int32} {nh : Nat} {am : Nat → Nat} {im : Nat → Int32} {rm : Nat → Nat → Int32} {lm : Nat → Int64} (hLX : LX i r q gb gi gr nh) (hLM : LM im rm) (hLR : LR i r gi gr nh im rm) {H : Heap} {locs : List Loc} (hP : va_P D vwCl (xW cy a i r q (a 20) (a 12) ++ (HL cy gb gi gr nh ++ (mW cy am im rm lm))) H) (hD : va_D A (xW cy a i r q (a 20) (a 12) ++ (HL cy gb gi gr nh ++ (mW cy am im rm lm)))) (hS : va_S A s.heap H locs) {ls : Array Slot} {x : Int32} (hl : lv_has ls 4 [(0, .ref b), (1, .ref (a 0)), (2, .ref (am 0)), (3, .int x)]) {j : Nat} (hj : 7 * j + 7 ≤ L) (hL : L ≤ 3584) (hxj : x = nI (7 * j)) {ce sl : Nat} (hce : ce + 15 ≤ 600000) (hsl : sl + 215 ≤ 7302250) (kk : ∀ (a2 : Nat → Nat) (i2 : Nat → Int32) (r2 : Nat → Nat → Int32) (q2 : Nat → Option Nat) (gb2 : Nat → Nat → Nat) (gi2 : Nat → Nat → Int32) (gr2 : Nat → Nat → Nat → Int32) (nh2 : Nat) (im2 : Nat → Int32) (rm2 : Nat → Nat → Int32) (lm2 : Nat → Int64) (H2 : Heap) (locs2 : List Loc) (ls2 : Array Slot), a2 0 = a 0 → LX i2 r2 q2 gb2 gi2 gr2 nh2 → LM im2 rm2 → LR i2 r2 gi2 gr2 nh2 im2 rm2 → va_P D vwCl (xW cy a2 i2 r2 q2 (a2 20) (a2 12) ++ (HL cy gb2 gi2 gr2 nh2 ++ (mW cy am im2 rm2 lm2))) H2 → va_D A (xW cy a2 i2 r2 q2 (a2 20) (a2 12) ++ (HL cy gb2 gi2 gr2 nh2 ++ (mW cy am im2 rm2 lm2))) → va_S A s.heap H2 locs2 → lv_has ls2 4 [(0, .ref b), (1, .ref (a 0)), (2, .ref (am 0)), (3, .int x)] → W p l e room_1 s m #[Value.ref b] below meth c H2 locs2 (ce + 15) (sl + 215) (lw_Z below #[Value.ref b] s) (F0 m 1525 ls2 [])) : W p l e room_1 s m #[Value.ref b] below meth c H locs ce sl (lw_Z below #[Value.ref b] s) (F0 m 1400 ls []) := by
  obtain ⟨hx, hb, hr, hml, hown, hts, hX, hbl, hlocks, hgv⟩ := id C0
  have hT : ∀ w ∈ gT, w.before _ s = true := fun w h => hts w (gT_in w h)
  have hx0 : x.toInt = ((7 * j : Nat) : Int) := by rw [hxj]; exact nI_toInt (by omega)
  have hLX0 := hLX
  have hLM0 := hLM
  refine lv_aload_n hx hb dL_law_1400 rfl (lv_at hl 1 rfl) ?_
  refine lv_aload_n hx hb dL_law_1401 rfl (lv_at hl 0 rfl) ?_
  refine lv_iload_n hx hb dL_law_1402 rfl (lv_at hl 3 rfl) ?_
  refine lv_iconst (v := 1) hx hb dL_law_1403 (by decide) ?_
  refine lv_iadd hx hb dL_law_1404 ?_
  refine lv_topi (fun v_1 ev_1 => ?_)
  have hv_1 : v_1.toInt = x.toInt + 1 := by rw [ev_1]; have := b_rg x; exact i_add (a := x.toInt) (b := 1) rfl rfl (by omega) (by omega)
  refine va_sld hx hb hX hbl hbA hS (vp_inI (by omega) (by omega)) dL_law_1405 ?_
  refine lv_topi (fun v_2 ev_2 => ?_)
  obtain rfl : v_2 = xs (7 * j + 1) := ev_2.trans (congrArg xs (nI_ix hxj (by omega) (by omega)))
  refine lv_aload_n hx hb dL_law_1406 rfl (lv_at hl 0 rfl) ?_
  refine lv_iload_n hx hb dL_law_1407 rfl (lv_at hl 3 rfl) ?_
  refine lv_iconst (v := 2) hx hb dL_law_1408 (by decide) ?_
  refine lv_iadd hx hb dL_law_1409 ?_
  refine lv_topi (fun v_3 ev_3 => ?_)
  have hv_3 : v_3.toInt = x.toInt + 2 := by rw [ev_3]; have := b_rg x; exact i_add (a := x.toInt) (b := 2) rfl rfl (by omega) (by omega)
  refine va_sld hx hb hX hbl hbA hS (vp_inI (by omega) (by omega)) dL_law_1410 ?_
  refine lv_topi (fun v_4 ev_4 => ?_)
  obtain rfl : v_4 = xs (7 * j + 2) := ev_4.trans (congrArg xs (nI_ix hxj (by omega) (by omega)))
  have hRi := hLX.1.1
  have hRr := hLX.1.2
  have hnw := hm0
  have hF_5 := rF hD hS hA
  refine va_calli (va_runV (As := [.int (xs (7 * j + 1)), .int (xs (7 * j + 2))]) (rest := []) ⟨hx, hb, hml, hown, hT⟩ (c_X11_byKind l D cy a i r q (mW cy am im rm lm) (xs (7 * j + 1)) (xs (7 * j + 2)) nh gb gi gr _ hRi hRr hLX.2.1 (fun k hk => hLX.2.2 k hk)) (cwV 2 hT (gV t_1154 t_1155 t_1156 t_1157 t_2) rfl rfl rfl (by decide +kernel) ⟨Nat.le_of_ble_eq_true rfl, Nat.le_of_ble_eq_true rfl⟩) (rM_v hnw hP hK hD (va_recv hK hP (ci := 11) (q0 := 0) rfl rfl)) rfl rfl hl.1 rfl (lv_room (Nat.le_of_ble_eq_true rfl)) dL_law_1411 ⟨by show _ ≤ (600000 : Nat); omega, by show _ ≤ (7302250 : Nat); omega⟩) hS (fun q _ h => hF_5 q h) hF_5 (fun r_6 u_7 t H1 locs ht hvm hr_6 hB hz1 hk1 hS => ?_)
  obtain ⟨r7, rfl⟩ : ∃ z, z = u_7 := ⟨_, rfl⟩
  obtain ⟨hP, hK1, hD1⟩ := hB
  rw [ht] at hP
  have hD := hD1.weaken (fun k q _ h => hF_5 q.1 h)
  obtain ⟨hRr, hE2, hr_6⟩ := hr_6
  have hRr : yRr r7 := hRr
  have hE2 : mEr [27, 28] r r7 := hE2
  have hP : va_P D vwCl (xW cy a i r7 q (a 20) (a 12) ++ (HL cy gb gi gr nh ++ (mW cy am im rm lm))) H1 := hP
  have hD : va_D A (xW cy a i r7 q (a 20) (a 12) ++ (HL cy gb gi gr nh ++ (mW cy am im rm lm))) := hD
  have hLX := LX_x hLX hLX.1.1 hRr rfl
  have hCX := CX_x (gi := gi) (gr := gr) (nh := nh) (Ei_rf (T := []) (i := i)) hE2
  refine lv_pop hx hb dL_law_1414 rfl ?_
  refine lv_aload_n hx hb dL_law_1415 rfl (lv_at hl 2 rfl) ?_
  refine lv_aload_n hx hb dL_law_1416 rfl (lv_at hl 0 rfl) ?_
  refine lv_iload_n hx hb dL_law_1417 rfl (lv_at hl 3 rfl) ?_
  refine lv_iconst (v := 1) hx hb dL_law_1418 (by decide) ?_
  refine lv_iadd hx hb dL_law_1419 ?_
  refine lv_topi (fun v_8 ev_8 => ?_)
  have hv_8 : v_8.toInt = x.toInt + 1 := by rw [ev_8]; have := b_rg x; exact i_add (a := x.toInt) (b := 1) rfl rfl (by omega) (by omega)
  refine va_sld hx hb hX hbl hbA hS (vp_inI (by omega) (by omega)) dL_law_1420 ?_
  refine lv_topi (fun v_9 ev_9 => ?_)
  obtain rfl : v_9 = xs (7 * j + 1) := ev_9.trans (congrArg xs (nI_ix hxj (by omega) (by omega)))
  refine lv_aload_n hx hb dL_law_1421 rfl (lv_at hl 0 rfl) ?_
  refine lv_iload_n hx hb dL_law_1422 rfl (lv_at hl 3 rfl) ?_
  refine lv_iconst (v := 2) hx hb dL_law_1423 (by decide) ?_
  refine lv_iadd hx hb dL_law_1424 ?_
  refine lv_topi (fun v_10 ev_10 => ?_)
  have hv_10 : v_10.toInt = x.toInt + 2 := by rw [ev_10]; have := b_rg x; exact i_add (a := x.toInt) (b := 2) rfl rfl (by omega) (by omega)
  refine va_sld hx hb hX hbl hbA hS (vp_inI (by omega) (by omega)) dL_law_1425 ?_
  refine lv_topi (fun v_11 ev_11 => ?_)
  obtain rfl : v_11 = xs (7 * j + 2) := ev_11.trans (congrArg xs (nI_ix hxj (by omega) (by omega)))
  have hPa := hP
  have hDa := hD
  have hP := vaP_r (vaP_r hPa)
  have hD := vaD_r (vaD_r hDa)
  have hRi := hLM.1
  have hRr := hLM.2.1
  have hE := hLM.2.2
  have hF_12 := rF hD hS hA
  refine va_calli (va_runV (As := [.int (xs (7 * j + 1)), .int (xs (7 * j + 2))]) (rest := []) ⟨hx, hb, hml, hown, hT⟩ (c_X12_byKind l D cy am im rm lm (xs (7 * j + 1)) (xs (7 * j + 2)) _ hRi hRr hE) (cwV 2 hT (gV t_1158 t_1159 t_1160 t_1161 t_6) rfl rfl rfl (by decide +kernel) ⟨Nat.le_of_ble_eq_true rfl, Nat.le_of_ble_eq_true rfl⟩) (rQ_v hP hK hD (va_recv hK hP (ci := 12) (q0 := 0) rfl rfl)) rfl rfl hl.1 rfl (lv_room (Nat.le_of_ble_eq_true rfl)) dL_law_1426 ⟨by show _ ≤ (600000 : Nat); omega, by show _ ≤ (7302250 : Nat); omega⟩) hS (fun q _ h => hF_12 q h) hF_12 (fun r_13 u_14 t H1 locs ht hvm hr_13 hB hz1 hk1 hS => ?_)
  obtain ⟨i14, r14⟩ := u_14
  obtain ⟨hP, hK1, hD1⟩ := hB
  rw [ht] at hP
  have hD := hD1.weaken (fun k q _ h => hF_12 q.1 h)
  have hP : va_P D vwCl (mW cy am i14 r14 lm) H1 := hP
  have hD : va_D A (mW cy am i14 r14 lm) := hD
  obtain ⟨hRi, hRr, hE1, hE2, hr_13⟩ := hr_13
  have hRi : mRi i14 := hRi
  have hRr : mRr r14 := hRr
  obtain ⟨hP, hD⟩ := joinM hPa hDa hk1 hP rfl
  have hLM : LM i14 r14 := ⟨hRi, hRr, (mE_same hE1 hE2 (by decide) (by decide) hE)⟩
  have hMI : mEi [23, 24, 25, 26, 27, 28, 29, 30, 60] im i14 := hE1
  have hMR : mEr [32, 33, 34, 35, 36, 37, 38, 39] rm r14 := hE2
  obtain ⟨hL1, hL2, hL3⟩ := id hLR
  obtain ⟨kH, kK, kN, kX, kY, _⟩ := id hL1
  have hLR : LR i r7 gi gr nh i14 r14 := ⟨LR1_same hL1 hMI hMR hCX (by decide) (by decide) (by decide) (by decide), LR2_same hL2 hMI hMR hCX (by decide) (by decide) (by decide) (by decide), LR3_same hL3 hMI hMR hCX (by decide) (by decide) (by decide) (by decide)⟩
  refine lv_pop hx hb dL_law_1429 rfl ?_
  refine lv_goto (tgt := 1525) hx hb dL_law_1430 (by decide) ?_
  refine W.widen (k := ce + 15) (n := sl + 215) (by omega) (by omega) ?_
  exact kk a _ _ _ _ _ _ _ _ _ _ _ _ _ rfl hLX hLM hLR hP hD hS (lv_sub hl [0, 1, 2, 3] rfl)
set_option maxHeartbeats 4000000 in
set_option maxRecDepth 100000 in
theorem lc_32 {p : Program} {l : Launch} {e : Env} {s : State} {m : MethodId} {below : List Frame} {meth : Method} {c : Code} {b L : Nat} {xs : Nat → Int32} (C0 : lw_At p s m meth c b L xs) {D : va_G} {cy : Nat → ClassId} {kq vq : Nat} {A : Nat → Prop} (hA : ∀ q, s.heap.size ≤ q → A q) (hbA : ¬ A b) (hK : va_K D vwCl (vT cy) s) (hn : nw s) (hm0 : nm s) (hsk : vk_R RX6 101 "krsoamngcv" kq s ∧ sA kq vq A s s.heap) {a : Nat → Nat} {i : Nat → Int32} {r : Nat → Nat → Int32} {q : Nat → Option Nat} {gb : Nat → Nat → Nat} {gi : Nat → Nat → Int32} {gr : Nat → Nat → Nat → Int32} {nh : Nat} {am : Nat → Nat} {im : Nat → Int32} {rm : Nat → Nat → Int32} {lm : Nat → Int64} (hLX : LX i r q gb gi gr nh) (hLM : LM im rm) (hLR : LR i r gi gr nh im rm) {H : Heap} {locs : List Loc} (hP : va_P D vwCl (xW cy a i r q (a 20) (a 12) ++ (HL cy gb gi gr nh ++ (mW cy am im rm lm))) H) (hD : va_D A (xW cy a i r q (a 20) (a 12) ++ (HL cy gb gi gr nh ++ (mW cy am im rm lm)))) (hS : va_S A s.heap H locs) {ls : Array Slot} {x : Int32} (hl : lv_has ls 4 [(0, .ref b), (1, .ref (a 0)), (2, .ref (am 0)), (3, .int x)]) {j : Nat} (hj : 7 * j + 7 ≤ L) (hL : L ≤ 3584) (hxj : x = nI (7 * j)) {ce sl : Nat} (hce : ce + 15 ≤ 600000) (hsl : sl + 215 ≤ 7302250) (kk : ∀ (a2 : Nat → Nat) (i2 : Nat → Int32) (r2 : Nat → Nat → Int32) (q2 : Nat → Option Nat) (gb2 : Nat → Nat → Nat) (gi2 : Nat → Nat → Int32) (gr2 : Nat → Nat → Nat → Int32) (nh2 : Nat) (im2 : Nat → Int32) (rm2 : Nat → Nat → Int32) (lm2 : Nat → Int64) (H2 : Heap) (locs2 : List Loc) (ls2 : Array Slot), a2 0 = a 0 → LX i2 r2 q2 gb2 gi2 gr2 nh2 → LM im2 rm2 → LR i2 r2 gi2 gr2 nh2 im2 rm2 → va_P D vwCl (xW cy a2 i2 r2 q2 (a2 20) (a2 12) ++ (HL cy gb2 gi2 gr2 nh2 ++ (mW cy am im2 rm2 lm2))) H2 → va_D A (xW cy a2 i2 r2 q2 (a2 20) (a2 12) ++ (HL cy gb2 gi2 gr2 nh2 ++ (mW cy am im2 rm2 lm2))) → va_S A s.heap H2 locs2 → lv_has ls2 4 [(0, .ref b), (1, .ref (a 0)), (2, .ref (am 0)), (3, .int x)] → W p l e room_1 s m #[Value.ref b] below meth c H2 locs2 (ce + 15) (sl + 215) (lw_Z below #[Value.ref b] s) (F0 m 1525 ls2 [])) : W p l e room_1 s m #[Value.ref b] below meth c H locs ce sl (lw_Z below #[Value.ref b] s) (F0 m 1502 ls []) := by
  obtain ⟨hx, hb, hr, hml, hown, hts, hX, hbl, hlocks, hgv⟩ := id C0
  have hT : ∀ w ∈ gT, w.before _ s = true := fun w h => hts w (gT_in w h)
  have hx0 : x.toInt = ((7 * j : Nat) : Int) := by rw [hxj]; exact nI_toInt (by omega)
  have hLX0 := hLX
  have hLM0 := hLM
  refine lv_aload_n hx hb dL_law_1502 rfl (lv_at hl 1 rfl) ?_
  refine lv_aload_n hx hb dL_law_1503 rfl (lv_at hl 0 rfl) ?_
  refine lv_iload_n hx hb dL_law_1504 rfl (lv_at hl 3 rfl) ?_
  refine lv_iconst (v := 1) hx hb dL_law_1505 (by decide) ?_
  refine lv_iadd hx hb dL_law_1506 ?_
  refine lv_topi (fun v_1 ev_1 => ?_)
  have hv_1 : v_1.toInt = x.toInt + 1 := by rw [ev_1]; have := b_rg x; exact i_add (a := x.toInt) (b := 1) rfl rfl (by omega) (by omega)
  refine va_sld hx hb hX hbl hbA hS (vp_inI (by omega) (by omega)) dL_law_1507 ?_
  refine lv_topi (fun v_2 ev_2 => ?_)
  obtain rfl : v_2 = xs (7 * j + 1) := ev_2.trans (congrArg xs (nI_ix hxj (by omega) (by omega)))
  rcases (show (xs (7 * j + 1)).toInt ≤ 9 ∨ 30 ≤ (xs (7 * j + 1)).toInt ∨ (10 ≤ (xs (7 * j + 1)).toInt ∧ (xs (7 * j + 1)).toInt ≤ 29) by omega) with h1 | h1 | h1
  · skip
    have hRi := hLX.1.1
    have hRr := hLX.1.2
    refine vp_callSi (W.runV (As := [.int (xs (7 * j + 1))]) (rest := []) ⟨hx, hb, hml, hown, hT⟩ (c_X11_count.lo l D cy a i r q (HL cy gb gi gr nh ++ (mW cy am im rm lm)) (xs (7 * j + 1)) hRi hRr h1) (cwV 1 hT (gV t_1162 t_1163 t_1164 t_1165 t_2) rfl rfl rfl (by decide +kernel) ⟨Nat.le_of_ble_eq_true rfl, Nat.le_of_ble_eq_true rfl⟩) (rP_v hP hK (va_recv hK hP (ci := 11) (q0 := 0) rfl rfl)) rfl rfl hl.1 rfl (lv_room (Nat.le_of_ble_eq_true rfl)) dL_law_1508 ⟨by show _ ≤ (600000 : Nat); omega, by show _ ≤ (7302250 : Nat); omega⟩) (fun r_3 hr_3 => ?_)
    have hCX := CX_rf (i := i) (r := r) (gi := gi) (gr := gr) (nh := nh)
    refine lv_pop hx hb dL_law_1511 rfl ?_
    refine lv_aload_n hx hb dL_law_1512 rfl (lv_at hl 2 rfl) ?_
    refine lv_aload_n hx hb dL_law_1513 rfl (lv_at hl 0 rfl) ?_
    refine lv_iload_n hx hb dL_law_1514 rfl (lv_at hl 3 rfl) ?_
    refine lv_iconst (v := 1) hx hb dL_law_1515 (by decide) ?_
    refine lv_iadd hx hb dL_law_1516 ?_
    refine lv_topi (fun v_4 ev_4 => ?_)
    have hv_4 : v_4.toInt = x.toInt + 1 := by rw [ev_4]; have := b_rg x; exact i_add (a := x.toInt) (b := 1) rfl rfl (by omega) (by omega)
    refine va_sld hx hb hX hbl hbA hS (vp_inI (by omega) (by omega)) dL_law_1517 ?_
    refine lv_topi (fun v_5 ev_5 => ?_)
    obtain rfl : v_5 = xs (7 * j + 1) := ev_5.trans (congrArg xs (nI_ix hxj (by omega) (by omega)))
    have hPa := hP
    have hDa := hD
    have hP := vaP_r (vaP_r hPa)
    have hD := vaD_r (vaD_r hDa)
    have hRi := hLM.1
    have hRr := hLM.2.1
    have hE := hLM.2.2
    refine vp_callSi (W.runV (As := [.int (xs (7 * j + 1))]) (rest := []) ⟨hx, hb, hml, hown, hT⟩ (c_X12_count l D cy am im rm lm (xs (7 * j + 1)) hRi hRr) (cwV 1 hT (gV t_1166 t_1167 t_1168 t_1169 t_6) rfl rfl rfl (by decide +kernel) ⟨Nat.le_of_ble_eq_true rfl, Nat.le_of_ble_eq_true rfl⟩) (rP_v hP hK (va_recv hK hP (ci := 12) (q0 := 0) rfl rfl)) rfl rfl hl.1 rfl (lv_room (Nat.le_of_ble_eq_true rfl)) dL_law_1518 ⟨by show _ ≤ (600000 : Nat); omega, by show _ ≤ (7302250 : Nat); omega⟩) (fun r_6 hr_6 => ?_)
    have hP := hPa
    have hD := hDa
    have hMI : mEi [] im im := Ei_rf
    have hMR : mEr [] rm rm := Er_rf
    obtain ⟨hL1, hL2, hL3⟩ := id hLR
    obtain ⟨kH, kK, kN, kX, kY, _⟩ := id hL1
    have hLR : LR i r gi gr nh im rm := ⟨LR1_same hL1 hMI hMR hCX (by decide) (by decide) (by decide) (by decide), LR2_same hL2 hMI hMR hCX (by decide) (by decide) (by decide) (by decide), LR3_same hL3 hMI hMR hCX (by decide) (by decide) (by decide) (by decide)⟩
    refine lv_pop hx hb dL_law_1521 rfl ?_
    refine lv_goto (tgt := 1525) hx hb dL_law_1522 (by decide) ?_
    refine W.widen (k := ce + 15) (n := sl + 215) (by omega) (by omega) ?_
    exact kk a _ _ _ _ _ _ _ _ _ _ _ _ _ rfl hLX hLM hLR hP hD hS (lv_sub hl [0, 1, 2, 3] rfl)
  · skip
    have hRi := hLX.1.1
    have hRr := hLX.1.2
    refine vp_callSi (W.runV (As := [.int (xs (7 * j + 1))]) (rest := []) ⟨hx, hb, hml, hown, hT⟩ (c_X11_count.hi l D cy a i r q (HL cy gb gi gr nh ++ (mW cy am im rm lm)) (xs (7 * j + 1)) hRi hRr h1) (cwV 1 hT (gV t_1162 t_1163 t_1164 t_1165 t_2) rfl rfl rfl (by decide +kernel) ⟨Nat.le_of_ble_eq_true rfl, Nat.le_of_ble_eq_true rfl⟩) (rP_v hP hK (va_recv hK hP (ci := 11) (q0 := 0) rfl rfl)) rfl rfl hl.1 rfl (lv_room (Nat.le_of_ble_eq_true rfl)) dL_law_1508 ⟨by show _ ≤ (600000 : Nat); omega, by show _ ≤ (7302250 : Nat); omega⟩) (fun r_7 hr_7 => ?_)
    have hCX := CX_rf (i := i) (r := r) (gi := gi) (gr := gr) (nh := nh)
    refine lv_pop hx hb dL_law_1511 rfl ?_
    refine lv_aload_n hx hb dL_law_1512 rfl (lv_at hl 2 rfl) ?_
    refine lv_aload_n hx hb dL_law_1513 rfl (lv_at hl 0 rfl) ?_
    refine lv_iload_n hx hb dL_law_1514 rfl (lv_at hl 3 rfl) ?_
    refine lv_iconst (v := 1) hx hb dL_law_1515 (by decide) ?_
    refine lv_iadd hx hb dL_law_1516 ?_
    refine lv_topi (fun v_8 ev_8 => ?_)
    have hv_8 : v_8.toInt = x.toInt + 1 := by rw [ev_8]; have := b_rg x; exact i_add (a := x.toInt) (b := 1) rfl rfl (by omega) (by omega)
    refine va_sld hx hb hX hbl hbA hS (vp_inI (by omega) (by omega)) dL_law_1517 ?_
    refine lv_topi (fun v_9 ev_9 => ?_)
    obtain rfl : v_9 = xs (7 * j + 1) := ev_9.trans (congrArg xs (nI_ix hxj (by omega) (by omega)))
    have hPa := hP
    have hDa := hD
    have hP := vaP_r (vaP_r hPa)
    have hD := vaD_r (vaD_r hDa)
    have hRi := hLM.1
    have hRr := hLM.2.1
    have hE := hLM.2.2
    refine vp_callSi (W.runV (As := [.int (xs (7 * j + 1))]) (rest := []) ⟨hx, hb, hml, hown, hT⟩ (c_X12_count l D cy am im rm lm (xs (7 * j + 1)) hRi hRr) (cwV 1 hT (gV t_1166 t_1167 t_1168 t_1169 t_6) rfl rfl rfl (by decide +kernel) ⟨Nat.le_of_ble_eq_true rfl, Nat.le_of_ble_eq_true rfl⟩) (rP_v hP hK (va_recv hK hP (ci := 12) (q0 := 0) rfl rfl)) rfl rfl hl.1 rfl (lv_room (Nat.le_of_ble_eq_true rfl)) dL_law_1518 ⟨by show _ ≤ (600000 : Nat); omega, by show _ ≤ (7302250 : Nat); omega⟩) (fun r_10 hr_10 => ?_)
    have hP := hPa
    have hD := hDa
    have hMI : mEi [] im im := Ei_rf
    have hMR : mEr [] rm rm := Er_rf
    obtain ⟨hL1, hL2, hL3⟩ := id hLR
    obtain ⟨kH, kK, kN, kX, kY, _⟩ := id hL1
    have hLR : LR i r gi gr nh im rm := ⟨LR1_same hL1 hMI hMR hCX (by decide) (by decide) (by decide) (by decide), LR2_same hL2 hMI hMR hCX (by decide) (by decide) (by decide) (by decide), LR3_same hL3 hMI hMR hCX (by decide) (by decide) (by decide) (by decide)⟩
    refine lv_pop hx hb dL_law_1521 rfl ?_
    refine lv_goto (tgt := 1525) hx hb dL_law_1522 (by decide) ?_
    refine W.widen (k := ce + 15) (n := sl + 215) (by omega) (by omega) ?_
    exact kk a _ _ _ _ _ _ _ _ _ _ _ _ _ rfl hLX hLM hLR hP hD hS (lv_sub hl [0, 1, 2, 3] rfl)
  · by_cases hv : (xs (7 * j + 1)).toInt % 10 < (i 0).toInt
    · have hlt : ((xs (7 * j + 1)).toInt % 10).toNat < nh := by have h8 := hLX.2.1; omega
      have hP0 := hP
      have hD0 := hD
      have hn6 : nh ≤ 6 := by have h8 := hLX.2.1; have h7 : (i 0).toInt ≤ 6 := (hLX.1.1 0).2; omega
      have hz := zoom (cy := cy) (a := a) (i := i) (r := r) (q := q) (hb := gb) (hi := gi) (hr := gr) (tl := (mW cy am im rm lm)) hlt
      have hP := vaP_perm hz hP
      have hD := vaD_perm hz hD
      have hRi := mix_Ri hLX.1.1 (hLX.2.2 _ hlt).2.1
      have hRr := mix_Rr hLX.1.2 (hLX.2.2 _ hlt).2.2
      obtain ⟨A2, hA2⟩ : ∃ z, z = mixA a (gb (((xs (7 * j + 1)).toInt % 10).toNat)) := ⟨_, rfl⟩
      obtain ⟨I2, hI2⟩ : ∃ z, z = mixI i (gi (((xs (7 * j + 1)).toInt % 10).toNat)) := ⟨_, rfl⟩
      obtain ⟨R2, hR2⟩ : ∃ z, z = mixR r (gr (((xs (7 * j + 1)).toInt % 10).toNat)) := ⟨_, rfl⟩
      rw [← hA2, ← hI2, ← hR2] at hP hD
      rw [← hI2] at hRi
      rw [← hR2] at hRr
      have h0 : I2 0 = i 0 := by rw [hI2]; rfl
      have h61 : A2 61 = gb (((xs (7 * j + 1)).toInt % 10).toNat) 61 := by rw [hA2]; rfl
      have ha0 : A2 0 = a 0 := by rw [hA2]; rfl
      rw [← ha0]
      refine vp_callSi (W.runV (As := [.int (xs (7 * j + 1))]) (rest := []) ⟨hx, hb, hml, hown, hT⟩ (c_X11_count.y l D cy A2 I2 R2 q (HX cy gb gi gr (((xs (7 * j + 1)).toInt % 10).toNat) nh ++ (mW cy am im rm lm)) (xs (7 * j + 1)) hRi hRr h1 (by rw [h0]; exact hv) (fun z hz => by rw [h61, show z.toNatClampNeg = ((xs (7 * j + 1)).toInt % 10).toNat from (by show z.toInt.toNat = _; rw [hz])]; exact (hLX.2.2 _ hlt).1)) (cwV 1 hT (gV t_1162 t_1163 t_1164 t_1165 t_2) rfl rfl rfl (by decide +kernel) ⟨Nat.le_of_ble_eq_true rfl, Nat.le_of_ble_eq_true rfl⟩) (rP_v hP hK (va_recv hK hP (ci := 11) (q0 := 0) rfl rfl)) rfl rfl hl.1 rfl (lv_room (Nat.le_of_ble_eq_true rfl)) dL_law_1508 ⟨by show _ ≤ (600000 : Nat); omega, by show _ ≤ (7302250 : Nat); omega⟩) (fun r_11 hr_11 => ?_)
      have hP := hP0
      have hD := hD0
      have hCX := CX_rf (i := i) (r := r) (gi := gi) (gr := gr) (nh := nh)
      refine lv_pop hx hb dL_law_1511 rfl ?_
      refine lv_aload_n hx hb dL_law_1512 rfl (lv_at hl 2 rfl) ?_
      refine lv_aload_n hx hb dL_law_1513 rfl (lv_at hl 0 rfl) ?_
      refine lv_iload_n hx hb dL_law_1514 rfl (lv_at hl 3 rfl) ?_
      refine lv_iconst (v := 1) hx hb dL_law_1515 (by decide) ?_
      refine lv_iadd hx hb dL_law_1516 ?_
      refine lv_topi (fun v_12 ev_12 => ?_)
      have hv_12 : v_12.toInt = x.toInt + 1 := by rw [ev_12]; have := b_rg x; exact i_add (a := x.toInt) (b := 1) rfl rfl (by omega) (by omega)
      refine va_sld hx hb hX hbl hbA hS (vp_inI (by omega) (by omega)) dL_law_1517 ?_
      refine lv_topi (fun v_13 ev_13 => ?_)
      obtain rfl : v_13 = xs (7 * j + 1) := ev_13.trans (congrArg xs (nI_ix hxj (by omega) (by omega)))
      have hPa := hP
      have hDa := hD
      have hP := vaP_r (vaP_r hPa)
      have hD := vaD_r (vaD_r hDa)
      have hRi := hLM.1
      have hRr := hLM.2.1
      have hE := hLM.2.2
      refine vp_callSi (W.runV (As := [.int (xs (7 * j + 1))]) (rest := []) ⟨hx, hb, hml, hown, hT⟩ (c_X12_count l D cy am im rm lm (xs (7 * j + 1)) hRi hRr) (cwV 1 hT (gV t_1166 t_1167 t_1168 t_1169 t_6) rfl rfl rfl (by decide +kernel) ⟨Nat.le_of_ble_eq_true rfl, Nat.le_of_ble_eq_true rfl⟩) (rP_v hP hK (va_recv hK hP (ci := 12) (q0 := 0) rfl rfl)) rfl rfl hl.1 rfl (lv_room (Nat.le_of_ble_eq_true rfl)) dL_law_1518 ⟨by show _ ≤ (600000 : Nat); omega, by show _ ≤ (7302250 : Nat); omega⟩) (fun r_14 hr_14 => ?_)
      have hP := hPa
      have hD := hDa
      have hMI : mEi [] im im := Ei_rf
      have hMR : mEr [] rm rm := Er_rf
      obtain ⟨hL1, hL2, hL3⟩ := id hLR
      obtain ⟨kH, kK, kN, kX, kY, _⟩ := id hL1
      have hLR : LR i r gi gr nh im rm := ⟨LR1_same hL1 hMI hMR hCX (by decide) (by decide) (by decide) (by decide), LR2_same hL2 hMI hMR hCX (by decide) (by decide) (by decide) (by decide), LR3_same hL3 hMI hMR hCX (by decide) (by decide) (by decide) (by decide)⟩
      refine lv_pop hx hb dL_law_1521 rfl ?_
      refine lv_goto (tgt := 1525) hx hb dL_law_1522 (by decide) ?_
      refine W.widen (k := ce + 15) (n := sl + 215) (by omega) (by omega) ?_
      exact kk a _ _ _ _ _ _ _ _ _ _ _ _ _ rfl hLX hLM hLR hP hD hS (lv_sub hl [0, 1, 2, 3] rfl)
    · skip
      have hRi := hLX.1.1
      have hRr := hLX.1.2
      refine vp_callSi (W.runV (As := [.int (xs (7 * j + 1))]) (rest := []) ⟨hx, hb, hml, hown, hT⟩ (c_X11_count.b l D cy a i r q (HL cy gb gi gr nh ++ (mW cy am im rm lm)) (xs (7 * j + 1)) hRi hRr h1 hv) (cwV 1 hT (gV t_1162 t_1163 t_1164 t_1165 t_2) rfl rfl rfl (by decide +kernel) ⟨Nat.le_of_ble_eq_true rfl, Nat.le_of_ble_eq_true rfl⟩) (rP_v hP hK (va_recv hK hP (ci := 11) (q0 := 0) rfl rfl)) rfl rfl hl.1 rfl (lv_room (Nat.le_of_ble_eq_true rfl)) dL_law_1508 ⟨by show _ ≤ (600000 : Nat); omega, by show _ ≤ (7302250 : Nat); omega⟩) (fun r_15 hr_15 => ?_)
      have hCX := CX_rf (i := i) (r := r) (gi := gi) (gr := gr) (nh := nh)
      refine lv_pop hx hb dL_law_1511 rfl ?_
      refine lv_aload_n hx hb dL_law_1512 rfl (lv_at hl 2 rfl) ?_
      refine lv_aload_n hx hb dL_law_1513 rfl (lv_at hl 0 rfl) ?_
      refine lv_iload_n hx hb dL_law_1514 rfl (lv_at hl 3 rfl) ?_
      refine lv_iconst (v := 1) hx hb dL_law_1515 (by decide) ?_
      refine lv_iadd hx hb dL_law_1516 ?_
      refine lv_topi (fun v_16 ev_16 => ?_)
      have hv_16 : v_16.toInt = x.toInt + 1 := by rw [ev_16]; have := b_rg x; exact i_add (a := x.toInt) (b := 1) rfl rfl (by omega) (by omega)
      refine va_sld hx hb hX hbl hbA hS (vp_inI (by omega) (by omega)) dL_law_1517 ?_
      refine lv_topi (fun v_17 ev_17 => ?_)
      obtain rfl : v_17 = xs (7 * j + 1) := ev_17.trans (congrArg xs (nI_ix hxj (by omega) (by omega)))
      have hPa := hP
      have hDa := hD
      have hP := vaP_r (vaP_r hPa)
      have hD := vaD_r (vaD_r hDa)
      have hRi := hLM.1
      have hRr := hLM.2.1
      have hE := hLM.2.2
      refine vp_callSi (W.runV (As := [.int (xs (7 * j + 1))]) (rest := []) ⟨hx, hb, hml, hown, hT⟩ (c_X12_count l D cy am im rm lm (xs (7 * j + 1)) hRi hRr) (cwV 1 hT (gV t_1166 t_1167 t_1168 t_1169 t_6) rfl rfl rfl (by decide +kernel) ⟨Nat.le_of_ble_eq_true rfl, Nat.le_of_ble_eq_true rfl⟩) (rP_v hP hK (va_recv hK hP (ci := 12) (q0 := 0) rfl rfl)) rfl rfl hl.1 rfl (lv_room (Nat.le_of_ble_eq_true rfl)) dL_law_1518 ⟨by show _ ≤ (600000 : Nat); omega, by show _ ≤ (7302250 : Nat); omega⟩) (fun r_18 hr_18 => ?_)
      have hP := hPa
      have hD := hDa
      have hMI : mEi [] im im := Ei_rf
      have hMR : mEr [] rm rm := Er_rf
      obtain ⟨hL1, hL2, hL3⟩ := id hLR
      obtain ⟨kH, kK, kN, kX, kY, _⟩ := id hL1
      have hLR : LR i r gi gr nh im rm := ⟨LR1_same hL1 hMI hMR hCX (by decide) (by decide) (by decide) (by decide), LR2_same hL2 hMI hMR hCX (by decide) (by decide) (by decide) (by decide), LR3_same hL3 hMI hMR hCX (by decide) (by decide) (by decide) (by decide)⟩
      refine lv_pop hx hb dL_law_1521 rfl ?_
      refine lv_goto (tgt := 1525) hx hb dL_law_1522 (by decide) ?_
      refine W.widen (k := ce + 15) (n := sl + 215) (by omega) (by omega) ?_
      exact kk a _ _ _ _ _ _ _ _ _ _ _ _ _ rfl hLX hLM hLR hP hD hS (lv_sub hl [0, 1, 2, 3] rfl)
