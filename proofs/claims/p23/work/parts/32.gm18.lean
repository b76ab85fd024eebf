set_option maxRecDepth 100000 in
theorem t_850 : Cond.code yX12_top cX12_top 1 (some .int) ∈ gT := tm (tb6 (List.mem_of_getElem? (i := 100) (by rfl))) (by decide +kernel)
set_option maxRecDepth 100000 in
theorem t_851 : Cond.methodLink RX12 296 yX12_top ∈ gT := tm (tb6 (List.mem_of_getElem? (i := 97) (by rfl))) (by decide +kernel)
set_option maxRecDepth 100000 in
theorem t_852 : Cond.instanceMethod yX12_top ∈ gT := tm (tb6 (List.mem_of_getElem? (i := 99) (by rfl))) (by decide +kernel)
theorem t_853 : Cond.selects RX12 yX12_top yX12_top ∈ gT := tmp (List.mem_of_getElem? (i := 44) (by decide +kernel)) (by decide +kernel)
set_option maxRecDepth 100000 in
theorem t_854 : Cond.code yX12_notes cX12_notes 3 none ∈ gT := tm (tb6 (List.mem_of_getElem? (i := 86) (by rfl))) (by decide +kernel)
set_option maxRecDepth 100000 in
theorem t_855 : Cond.methodLink RX12 299 yX12_notes ∈ gT := tm (tb6 (List.mem_of_getElem? (i := 83) (by rfl))) (by decide +kernel)
set_option maxRecDepth 100000 in
theorem t_856 : Cond.instanceMethod yX12_notes ∈ gT := tm (tb6 (List.mem_of_getElem? (i := 85) (by rfl))) (by decide +kernel)
theorem t_857 : Cond.selects RX12 yX12_notes yX12_notes ∈ gT := tmp (List.mem_of_getElem? (i := 42) (by decide +kernel)) (by decide +kernel)
set_option maxRecDepth 100000 in
theorem t_858 : Cond.code yX12_readsNumber cX12_readsNumber 2 (some .boolean) ∈ gT := tm (tb6 (List.mem_of_getElem? (i := 82) (by rfl))) (by decide +kernel)
set_option maxRecDepth 100000 in
theorem t_859 : Cond.methodLink RX12 306 yX12_readsNumber ∈ gT := tm (tb6 (List.mem_of_getElem? (i := 79) (by rfl))) (by decide +kernel)
set_option maxRecDepth 100000 in
theorem t_860 : Cond.instanceMethod yX12_readsNumber ∈ gT := tm (tb6 (List.mem_of_getElem? (i := 81) (by rfl))) (by decide +kernel)
theorem t_861 : Cond.selects RX12 yX12_readsNumber yX12_readsNumber ∈ gT := tmp (List.mem_of_getElem? (i := 41) (by decide +kernel)) (by decide +kernel)
set_option maxRecDepth 100000 in
theorem t_862 : Cond.code yX12_factOf cX12_factOf 1 (some .int) ∈ gT := tm (tb6 (List.mem_of_getElem? (i := 89) (by rfl))) (by decide +kernel)
set_option maxRecDepth 100000 in
theorem t_863 : Cond.methodLink RX12 309 yX12_factOf ∈ gT := tm (tb6 (List.mem_of_getElem? (i := 87) (by rfl))) (by decide +kernel)
set_option maxRecDepth 100000 in
theorem t_864 : Cond.static yX12_factOf ∈ gT := tm (tb6 (List.mem_of_getElem? (i := 88) (by rfl))) (by decide +kernel)
set_option maxRecDepth 100000 in
theorem t_865 : Cond.code yX12_opens cX12_opens 2 (some .boolean) ∈ gT := tm (tb6 (List.mem_of_getElem? (i := 73) (by rfl))) (by decide +kernel)
set_option maxRecDepth 100000 in
theorem t_866 : Cond.methodLink RX12 303 yX12_opens ∈ gT := tm (tb6 (List.mem_of_getElem? (i := 70) (by rfl))) (by decide +kernel)
set_option maxRecDepth 100000 in
theorem t_867 : Cond.instanceMethod yX12_opens ∈ gT := tm (tb6 (List.mem_of_getElem? (i := 72) (by rfl))) (by decide +kernel)
theorem t_868 : Cond.selects RX12 yX12_opens yX12_opens ∈ gT := tmp (List.mem_of_getElem? (i := 39) (by decide +kernel)) (by decide +kernel)
def dl_508 : List (Nat × (Instr × Nat)) := [(0, (.aload_n 0, 1)), (1, (.invokevirtual 296, 3)), (4, (.iconst 4, 1)), (5, (.if_icmp .lt 12, 3)), (8, (.aload_n 0, 1)), (9, (.invokevirtual 296, 3)), (12, (.bipush 6, 2)), (14, (.if_icmp .le 23, 3)), (17, (.iload_n 1, 1)), (18, (.ifCond .eq 41, 3)), (21, (.aload_n 0, 1)), (22, (.invokevirtual 296, 3)), (25, (.iconst 2, 1)), (26, (.if_icmp .eq 11, 3)), (29, (.aload_n 0, 1)), (30, (.invokevirtual 296, 3)), (33, (.iconst 3, 1)), (34, (.if_icmp .ne 25, 3)), (37, (.aload_n 0, 1)), (38, (.aload_n 0, 1))]
theorem dh_508 : dchk cX12_closesSums dl_508 = true := by decide +kernel
theorem dX12_closesSums_0 : decode cX12_closesSums 0 = .ok (.aload_n 0, 1) := dget dh_508 (k := 0) rfl
theorem dX12_closesSums_1 : decode cX12_closesSums 1 = .ok (.invokevirtual 296, 3) := dget dh_508 (k := 1) rfl
theorem dX12_closesSums_4 : decode cX12_closesSums 4 = .ok (.iconst 4, 1) := dget dh_508 (k := 2) rfl
theorem dX12_closesSums_5 : decode cX12_closesSums 5 = .ok (.if_icmp .lt 12, 3) := dget dh_508 (k := 3) rfl
theorem dX12_closesSums_8 : decode cX12_closesSums 8 = .ok (.aload_n 0, 1) := dget dh_508 (k := 4) rfl
theorem dX12_closesSums_9 : decode cX12_closesSums 9 = .ok (.invokevirtual 296, 3) := dget dh_508 (k := 5) rfl
theorem dX12_closesSums_12 : decode cX12_closesSums 12 = .ok (.bipush 6, 2) := dget dh_508 (k := 6) rfl
theorem dX12_closesSums_14 : decode cX12_closesSums 14 = .ok (.if_icmp .le 23, 3) := dget dh_508 (k := 7) rfl
theorem dX12_closesSums_17 : decode cX12_closesSums 17 = .ok (.iload_n 1, 1) := dget dh_508 (k := 8) rfl
theorem dX12_closesSums_18 : decode cX12_closesSums 18 = .ok (.ifCond .eq 41, 3) := dget dh_508 (k := 9) rfl
theorem dX12_closesSums_21 : decode cX12_closesSums 21 = .ok (.aload_n 0, 1) := dget dh_508 (k := 10) rfl
theorem dX12_closesSums_22 : decode cX12_closesSums 22 = .ok (.invokevirtual 296, 3) := dget dh_508 (k := 11) rfl
theorem dX12_closesSums_25 : decode cX12_closesSums 25 = .ok (.iconst 2, 1) := dget dh_508 (k := 12) rfl
theorem dX12_closesSums_26 : decode cX12_closesSums 26 = .ok (.if_icmp .eq 11, 3) := dget dh_508 (k := 13) rfl
theorem dX12_closesSums_29 : decode cX12_closesSums 29 = .ok (.aload_n 0, 1) := dget dh_508 (k := 14) rfl
theorem dX12_closesSums_30 : decode cX12_closesSums 30 = .ok (.invokevirtual 296, 3) := dget dh_508 (k := 15) rfl
theorem dX12_closesSums_33 : decode cX12_closesSums 33 = .ok (.iconst 3, 1) := dget dh_508 (k := 16) rfl
theorem dX12_closesSums_34 : decode cX12_closesSums 34 = .ok (.if_icmp .ne 25, 3) := dget dh_508 (k := 17) rfl
theorem dX12_closesSums_37 : decode cX12_closesSums 37 = .ok (.aload_n 0, 1) := dget dh_508 (k := 18) rfl
theorem dX12_closesSums_38 : decode cX12_closesSums 38 = .ok (.aload_n 0, 1) := dget dh_508 (k := 19) rfl
def dl_509 : List (Nat × (Instr × Nat)) := [(39, (.invokevirtual 296, 3)), (42, (.iconst 0, 1)), (43, (.invokevirtual 299, 3)), (46, (.aload_n 0, 1)), (47, (.aload_n 0, 1)), (48, (.getfield 293, 3)), (51, (.iconst 1, 1)), (52, (.isub, 1)), (53, (.putfield 293, 3)), (56, (.goto (-56), 3)), (59, (.return_, 1))]
theorem dh_509 : dchk cX12_closesSums dl_509 = true := by decide +kernel
theorem dX12_closesSums_39 : decode cX12_closesSums 39 = .ok (.invokevirtual 296, 3) := dget dh_509 (k := 0) rfl
theorem dX12_closesSums_42 : decode cX12_closesSums 42 = .ok (.iconst 0, 1) := dget dh_509 (k := 1) rfl
theorem dX12_closesSums_43 : decode cX12_closesSums 43 = .ok (.invokevirtual 299, 3) := dget dh_509 (k := 2) rfl
theorem dX12_closesSums_46 : decode cX12_closesSums 46 = .ok (.aload_n 0, 1) := dget dh_509 (k := 3) rfl
theorem dX12_closesSums_47 : decode cX12_closesSums 47 = .ok (.aload_n 0, 1) := dget dh_509 (k := 4) rfl
theorem dX12_closesSums_48 : decode cX12_closesSums 48 = .ok (.getfield 293, 3) := dget dh_509 (k := 5) rfl
theorem dX12_closesSums_51 : decode cX12_closesSums 51 = .ok (.iconst 1, 1) := dget dh_509 (k := 6) rfl
theorem dX12_closesSums_52 : decode cX12_closesSums 52 = .ok (.isub, 1) := dget dh_509 (k := 7) rfl
theorem dX12_closesSums_53 : decode cX12_closesSums 53 = .ok (.putfield 293, 3) := dget dh_509 (k := 8) rfl
theorem dX12_closesSums_56 : decode cX12_closesSums 56 = .ok (.goto (-56), 3) := dget dh_509 (k := 9) rfl
theorem dX12_closesSums_59 : decode cX12_closesSums 59 = .ok (.return_, 1) := dget dh_509 (k := 10) rfl
def dl_510 : List (Nat × (Instr × Nat)) := [(0, (.aload_n 0, 1)), (1, (.invokevirtual 296, 3)), (4, (.bipush 10, 2)), (6, (.if_icmp .ne 33, 3)), (9, (.aload_n 0, 1)), (10, (.bipush 10, 2)), (12, (.iconst 0, 1)), (13, (.invokevirtual 299, 3)), (16, (.aload_n 0, 1)), (17, (.aload_n 0, 1)), (18, (.getfield 293, 3)), (21, (.iconst 1, 1)), (22, (.isub, 1)), (23, (.putfield 293, 3)), (26, (.aload_n 0, 1)), (27, (.aload_n 0, 1)), (28, (.getfield 290, 3)), (31, (.iconst 1, 1)), (32, (.isub, 1)), (33, (.putfield 290, 3))]
theorem dh_510 : dchk cX12_endsPiece dl_510 = true := by decide +kernel
theorem dX12_endsPiece_0 : decode cX12_endsPiece 0 = .ok (.aload_n 0, 1) := dget dh_510 (k := 0) rfl
theorem dX12_endsPiece_1 : decode cX12_endsPiece 1 = .ok (.invokevirtual 296, 3) := dget dh_510 (k := 1) rfl
theorem dX12_endsPiece_4 : decode cX12_endsPiece 4 = .ok (.bipush 10, 2) := dget dh_510 (k := 2) rfl
theorem dX12_endsPiece_6 : decode cX12_endsPiece 6 = .ok (.if_icmp .ne 33, 3) := dget dh_510 (k := 3) rfl
theorem dX12_endsPiece_9 : decode cX12_endsPiece 9 = .ok (.aload_n 0, 1) := dget dh_510 (k := 4) rfl
theorem dX12_endsPiece_10 : decode cX12_endsPiece 10 = .ok (.bipush 10, 2) := dget dh_510 (k := 5) rfl
theorem dX12_endsPiece_12 : decode cX12_endsPiece 12 = .ok (.iconst 0, 1) := dget dh_510 (k := 6) rfl
theorem dX12_endsPiece_13 : decode cX12_endsPiece 13 = .ok (.invokevirtual 299, 3) := dget dh_510 (k := 7) rfl
theorem dX12_endsPiece_16 : decode cX12_endsPiece 16 = .ok (.aload_n 0, 1) := dget dh_510 (k := 8) rfl
theorem dX12_endsPiece_17 : decode cX12_endsPiece 17 = .ok (.aload_n 0, 1) := dget dh_510 (k := 9) rfl
theorem dX12_endsPiece_18 : decode cX12_endsPiece 18 = .ok (.getfield 293, 3) := dget dh_510 (k := 10) rfl
theorem dX12_endsPiece_21 : decode cX12_endsPiece 21 = .ok (.iconst 1, 1) := dget dh_510 (k := 11) rfl
theorem dX12_endsPiece_22 : decode cX12_endsPiece 22 = .ok (.isub, 1) := dget dh_510 (k := 12) rfl
theorem dX12_endsPiece_23 : decode cX12_endsPiece 23 = .ok (.putfield 293, 3) := dget dh_510 (k := 13) rfl
theorem dX12_endsPiece_26 : decode cX12_endsPiece 26 = .ok (.aload_n 0, 1) := dget dh_510 (k := 14) rfl
theorem dX12_endsPiece_27 : decode cX12_endsPiece 27 = .ok (.aload_n 0, 1) := dget dh_510 (k := 15) rfl
theorem dX12_endsPiece_28 : decode cX12_endsPiece 28 = .ok (.getfield 290, 3) := dget dh_510 (k := 16) rfl
theorem dX12_endsPiece_31 : decode cX12_endsPiece 31 = .ok (.iconst 1, 1) := dget dh_510 (k := 17) rfl
theorem dX12_endsPiece_32 : decode cX12_endsPiece 32 = .ok (.isub, 1) := dget dh_510 (k := 18) rfl
theorem dX12_endsPiece_33 : decode cX12_endsPiece 33 = .ok (.putfield 290, 3) := dget dh_510 (k := 19) rfl
def dl_511 : List (Nat × (Instr × Nat)) := [(36, (.goto (-36), 3)), (39, (.return_, 1))]
theorem dh_511 : dchk cX12_endsPiece dl_511 = true := by decide +kernel
theorem dX12_endsPiece_36 : decode cX12_endsPiece 36 = .ok (.goto (-36), 3) := dget dh_511 (k := 0) rfl
theorem dX12_endsPiece_39 : decode cX12_endsPiece 39 = .ok (.return_, 1) := dget dh_511 (k := 1) rfl
def dl_512 : List (Nat × (Instr × Nat)) := [(0, (.aload_n 0, 1)), (1, (.getfield 75, 3)), (4, (.aload_n 0, 1)), (5, (.getfield 293, 3)), (8, (.ldc_w 289, 3)), (11, (.iload_n 1, 1)), (12, (.imul, 1)), (13, (.aload_n 0, 1)), (14, (.getfield 286, 3)), (17, (.iadd, 1)), (18, (.iastore, 1)), (19, (.aload_n 0, 1)), (20, (.aload_n 0, 1)), (21, (.getfield 293, 3)), (24, (.iconst 1, 1)), (25, (.iadd, 1)), (26, (.putfield 293, 3)), (29, (.aload_n 0, 1)), (30, (.iload_n 1, 1)), (31, (.iconst 0, 1))]
theorem dh_512 : dchk cX12_jumps dl_512 = true := by decide +kernel
theorem dX12_jumps_0 : decode cX12_jumps 0 = .ok (.aload_n 0, 1) := dget dh_512 (k := 0) rfl
theorem dX12_jumps_1 : decode cX12_jumps 1 = .ok (.getfield 75, 3) := dget dh_512 (k := 1) rfl
theorem dX12_jumps_4 : decode cX12_jumps 4 = .ok (.aload_n 0, 1) := dget dh_512 (k := 2) rfl
theorem dX12_jumps_5 : decode cX12_jumps 5 = .ok (.getfield 293, 3) := dget dh_512 (k := 3) rfl
theorem dX12_jumps_8 : decode cX12_jumps 8 = .ok (.ldc_w 289, 3) := dget dh_512 (k := 4) rfl
theorem dX12_jumps_11 : decode cX12_jumps 11 = .ok (.iload_n 1, 1) := dget dh_512 (k := 5) rfl
theorem dX12_jumps_12 : decode cX12_jumps 12 = .ok (.imul, 1) := dget dh_512 (k := 6) rfl
theorem dX12_jumps_13 : decode cX12_jumps 13 = .ok (.aload_n 0, 1) := dget dh_512 (k := 7) rfl
theorem dX12_jumps_14 : decode cX12_jumps 14 = .ok (.getfield 286, 3) := dget dh_512 (k := 8) rfl
theorem dX12_jumps_17 : decode cX12_jumps 17 = .ok (.iadd, 1) := dget dh_512 (k := 9) rfl
theorem dX12_jumps_18 : decode cX12_jumps 18 = .ok (.iastore, 1) := dget dh_512 (k := 10) rfl
theorem dX12_jumps_19 : decode cX12_jumps 19 = .ok (.aload_n 0, 1) := dget dh_512 (k := 11) rfl
theorem dX12_jumps_20 : decode cX12_jumps 20 = .ok (.aload_n 0, 1) := dget dh_512 (k := 12) rfl
theorem dX12_jumps_21 : decode cX12_jumps 21 = .ok (.getfield 293, 3) := dget dh_512 (k := 13) rfl
theorem dX12_jumps_24 : decode cX12_jumps 24 = .ok (.iconst 1, 1) := dget dh_512 (k := 14) rfl
theorem dX12_jumps_25 : decode cX12_jumps 25 = .ok (.iadd, 1) := dget dh_512 (k := 15) rfl
theorem dX12_jumps_26 : decode cX12_jumps 26 = .ok (.putfield 293, 3) := dget dh_512 (k := 16) rfl
theorem dX12_jumps_29 : decode cX12_jumps 29 = .ok (.aload_n 0, 1) := dget dh_512 (k := 17) rfl
theorem dX12_jumps_30 : decode cX12_jumps 30 = .ok (.iload_n 1, 1) := dget dh_512 (k := 18) rfl
theorem dX12_jumps_31 : decode cX12_jumps 31 = .ok (.iconst 0, 1) := dget dh_512 (k := 19) rfl
def dl_513 : List (Nat × (Instr × Nat)) := [(32, (.invokevirtual 299, 3)), (35, (.aload_n 0, 1)), (36, (.aload_n 0, 1)), (37, (.getfield 262, 3)), (40, (.iconst 1, 1)), (41, (.iadd, 1)), (42, (.putfield 262, 3)), (45, (.return_, 1))]
theorem dh_513 : dchk cX12_jumps dl_513 = true := by decide +kernel
theorem dX12_jumps_32 : decode cX12_jumps 32 = .ok (.invokevirtual 299, 3) := dget dh_513 (k := 0) rfl
theorem dX12_jumps_35 : decode cX12_jumps 35 = .ok (.aload_n 0, 1) := dget dh_513 (k := 1) rfl
theorem dX12_jumps_36 : decode cX12_jumps 36 = .ok (.aload_n 0, 1) := dget dh_513 (k := 2) rfl
theorem dX12_jumps_37 : decode cX12_jumps 37 = .ok (.getfield 262, 3) := dget dh_513 (k := 3) rfl
theorem dX12_jumps_40 : decode cX12_jumps 40 = .ok (.iconst 1, 1) := dget dh_513 (k := 4) rfl
theorem dX12_jumps_41 : decode cX12_jumps 41 = .ok (.iadd, 1) := dget dh_513 (k := 5) rfl
theorem dX12_jumps_42 : decode cX12_jumps 42 = .ok (.putfield 262, 3) := dget dh_513 (k := 6) rfl
theorem dX12_jumps_45 : decode cX12_jumps 45 = .ok (.return_, 1) := dget dh_513 (k := 7) rfl
def dl_514 : List (Nat × (Instr × Nat)) := [(0, (.aload_n 0, 1)), (1, (.invokevirtual 296, 3)), (4, (.bipush 11, 2)), (6, (.if_icmp .eq 16, 3)), (9, (.iload_n 1, 1)), (10, (.ifCond .eq 66, 3)), (13, (.aload_n 0, 1)), (14, (.invokevirtual 296, 3)), (17, (.bipush 12, 2)), (19, (.if_icmp .ne 57, 3)), (22, (.aload_n 0, 1)), (23, (.getfield 75, 3)), (26, (.aload_n 0, 1)), (27, (.getfield 293, 3)), (30, (.iconst 1, 1)), (31, (.isub, 1)), (32, (.iaload, 1)), (33, (.ldc_w 289, 3)), (36, (.irem, 1)), (37, (.istore_n 2, 1))]
theorem dh_514 : dchk cX12_lands dl_514 = true := by decide +kernel
theorem dX12_lands_0 : decode cX12_lands 0 = .ok (.aload_n 0, 1) := dget dh_514 (k := 0) rfl
theorem dX12_lands_1 : decode cX12_lands 1 = .ok (.invokevirtual 296, 3) := dget dh_514 (k := 1) rfl
theorem dX12_lands_4 : decode cX12_lands 4 = .ok (.bipush 11, 2) := dget dh_514 (k := 2) rfl
theorem dX12_lands_6 : decode cX12_lands 6 = .ok (.if_icmp .eq 16, 3) := dget dh_514 (k := 3) rfl
theorem dX12_lands_9 : decode cX12_lands 9 = .ok (.iload_n 1, 1) := dget dh_514 (k := 4) rfl
theorem dX12_lands_10 : decode cX12_lands 10 = .ok (.ifCond .eq 66, 3) := dget dh_514 (k := 5) rfl
theorem dX12_lands_13 : decode cX12_lands 13 = .ok (.aload_n 0, 1) := dget dh_514 (k := 6) rfl
theorem dX12_lands_14 : decode cX12_lands 14 = .ok (.invokevirtual 296, 3) := dget dh_514 (k := 7) rfl
theorem dX12_lands_17 : decode cX12_lands 17 = .ok (.bipush 12, 2) := dget dh_514 (k := 8) rfl
theorem dX12_lands_19 : decode cX12_lands 19 = .ok (.if_icmp .ne 57, 3) := dget dh_514 (k := 9) rfl
theorem dX12_lands_22 : decode cX12_lands 22 = .ok (.aload_n 0, 1) := dget dh_514 (k := 10) rfl
theorem dX12_lands_23 : decode cX12_lands 23 = .ok (.getfield 75, 3) := dget dh_514 (k := 11) rfl
theorem dX12_lands_26 : decode cX12_lands 26 = .ok (.aload_n 0, 1) := dget dh_514 (k := 12) rfl
theorem dX12_lands_27 : decode cX12_lands 27 = .ok (.getfield 293, 3) := dget dh_514 (k := 13) rfl
theorem dX12_lands_30 : decode cX12_lands 30 = .ok (.iconst 1, 1) := dget dh_514 (k := 14) rfl
theorem dX12_lands_31 : decode cX12_lands 31 = .ok (.isub, 1) := dget dh_514 (k := 15) rfl
theorem dX12_lands_32 : decode cX12_lands 32 = .ok (.iaload, 1) := dget dh_514 (k := 16) rfl
theorem dX12_lands_33 : decode cX12_lands 33 = .ok (.ldc_w 289, 3) := dget dh_514 (k := 17) rfl
theorem dX12_lands_36 : decode cX12_lands 36 = .ok (.irem, 1) := dget dh_514 (k := 18) rfl
theorem dX12_lands_37 : decode cX12_lands 37 = .ok (.istore_n 2, 1) := dget dh_514 (k := 19) rfl
def dl_515 : List (Nat × (Instr × Nat)) := [(38, (.aload_n 0, 1)), (39, (.getfield 72, 3)), (42, (.iload_n 2, 1)), (43, (.ldc_w 289, 3)), (46, (.aload_n 0, 1)), (47, (.getfield 72, 3)), (50, (.iload_n 2, 1)), (51, (.iaload, 1)), (52, (.ldc_w 289, 3)), (55, (.idiv, 1)), (56, (.imul, 1)), (57, (.aload_n 0, 1)), (58, (.getfield 286, 3)), (61, (.iadd, 1)), (62, (.iastore, 1)), (63, (.aload_n 0, 1)), (64, (.aload_n 0, 1)), (65, (.getfield 293, 3)), (68, (.iconst 1, 1)), (69, (.isub, 1))]
theorem dh_515 : dchk cX12_lands dl_515 = true := by decide +kernel
theorem dX12_lands_38 : decode cX12_lands 38 = .ok (.aload_n 0, 1) := dget dh_515 (k := 0) rfl
theorem dX12_lands_39 : decode cX12_lands 39 = .ok (.getfield 72, 3) := dget dh_515 (k := 1) rfl
theorem dX12_lands_42 : decode cX12_lands 42 = .ok (.iload_n 2, 1) := dget dh_515 (k := 2) rfl
theorem dX12_lands_43 : decode cX12_lands 43 = .ok (.ldc_w 289, 3) := dget dh_515 (k := 3) rfl
theorem dX12_lands_46 : decode cX12_lands 46 = .ok (.aload_n 0, 1) := dget dh_515 (k := 4) rfl
theorem dX12_lands_47 : decode cX12_lands 47 = .ok (.getfield 72, 3) := dget dh_515 (k := 5) rfl
theorem dX12_lands_50 : decode cX12_lands 50 = .ok (.iload_n 2, 1) := dget dh_515 (k := 6) rfl
theorem dX12_lands_51 : decode cX12_lands 51 = .ok (.iaload, 1) := dget dh_515 (k := 7) rfl
theorem dX12_lands_52 : decode cX12_lands 52 = .ok (.ldc_w 289, 3) := dget dh_515 (k := 8) rfl
theorem dX12_lands_55 : decode cX12_lands 55 = .ok (.idiv, 1) := dget dh_515 (k := 9) rfl
theorem dX12_lands_56 : decode cX12_lands 56 = .ok (.imul, 1) := dget dh_515 (k := 10) rfl
theorem dX12_lands_57 : decode cX12_lands 57 = .ok (.aload_n 0, 1) := dget dh_515 (k := 11) rfl
theorem dX12_lands_58 : decode cX12_lands 58 = .ok (.getfield 286, 3) := dget dh_515 (k := 12) rfl
theorem dX12_lands_61 : decode cX12_lands 61 = .ok (.iadd, 1) := dget dh_515 (k := 13) rfl
theorem dX12_lands_62 : decode cX12_lands 62 = .ok (.iastore, 1) := dget dh_515 (k := 14) rfl
theorem dX12_lands_63 : decode cX12_lands 63 = .ok (.aload_n 0, 1) := dget dh_515 (k := 15) rfl
theorem dX12_lands_64 : decode cX12_lands 64 = .ok (.aload_n 0, 1) := dget dh_515 (k := 16) rfl
theorem dX12_lands_65 : decode cX12_lands 65 = .ok (.getfield 293, 3) := dget dh_515 (k := 17) rfl
theorem dX12_lands_68 : decode cX12_lands 68 = .ok (.iconst 1, 1) := dget dh_515 (k := 18) rfl
theorem dX12_lands_69 : decode cX12_lands 69 = .ok (.isub, 1) := dget dh_515 (k := 19) rfl
def dl_516 : List (Nat × (Instr × Nat)) := [(70, (.putfield 293, 3)), (73, (.goto (-73), 3)), (76, (.return_, 1))]
theorem dh_516 : dchk cX12_lands dl_516 = true := by decide +kernel
theorem dX12_lands_70 : decode cX12_lands 70 = .ok (.putfield 293, 3) := dget dh_516 (k := 0) rfl
theorem dX12_lands_73 : decode cX12_lands 73 = .ok (.goto (-73), 3) := dget dh_516 (k := 1) rfl
theorem dX12_lands_76 : decode cX12_lands 76 = .ok (.return_, 1) := dget dh_516 (k := 2) rfl
def dl_517 : List (Nat × (Instr × Nat)) := [(0, (.aload_n 0, 1)), (1, (.invokevirtual 268, 3)), (4, (.bipush 91, 2)), (6, (.if_icmp .ne 14, 3)), (9, (.aload_n 0, 1)), (10, (.bipush 14, 2)), (12, (.invokevirtual 303, 3)), (15, (.ifCond .ne (-15), 3)), (18, (.iconst 0, 1)), (19, (.ireturn, 1)), (20, (.aload_n 0, 1)), (21, (.invokevirtual 282, 3)), (24, (.ifCond .eq 23, 3)), (27, (.aload_n 0, 1)), (28, (.invokevirtual 306, 3)), (31, (.ifCond .ne 5, 3)), (34, (.iconst 0, 1)), (35, (.ireturn, 1)), (36, (.aload_n 0, 1)), (37, (.iconst 0, 1))]
theorem dh_517 : dchk cX12_readsFactor dl_517 = true := by decide +kernel
theorem dX12_readsFactor_0 : decode cX12_readsFactor 0 = .ok (.aload_n 0, 1) := dget dh_517 (k := 0) rfl
theorem dX12_readsFactor_1 : decode cX12_readsFactor 1 = .ok (.invokevirtual 268, 3) := dget dh_517 (k := 1) rfl
theorem dX12_readsFactor_4 : decode cX12_readsFactor 4 = .ok (.bipush 91, 2) := dget dh_517 (k := 2) rfl
theorem dX12_readsFactor_6 : decode cX12_readsFactor 6 = .ok (.if_icmp .ne 14, 3) := dget dh_517 (k := 3) rfl
theorem dX12_readsFactor_9 : decode cX12_readsFactor 9 = .ok (.aload_n 0, 1) := dget dh_517 (k := 4) rfl
theorem dX12_readsFactor_10 : decode cX12_readsFactor 10 = .ok (.bipush 14, 2) := dget dh_517 (k := 5) rfl
theorem dX12_readsFactor_12 : decode cX12_readsFactor 12 = .ok (.invokevirtual 303, 3) := dget dh_517 (k := 6) rfl
theorem dX12_readsFactor_15 : decode cX12_readsFactor 15 = .ok (.ifCond .ne (-15), 3) := dget dh_517 (k := 7) rfl
theorem dX12_readsFactor_18 : decode cX12_readsFactor 18 = .ok (.iconst 0, 1) := dget dh_517 (k := 8) rfl
theorem dX12_readsFactor_19 : decode cX12_readsFactor 19 = .ok (.ireturn, 1) := dget dh_517 (k := 9) rfl
theorem dX12_readsFactor_20 : decode cX12_readsFactor 20 = .ok (.aload_n 0, 1) := dget dh_517 (k := 10) rfl
theorem dX12_readsFactor_21 : decode cX12_readsFactor 21 = .ok (.invokevirtual 282, 3) := dget dh_517 (k := 11) rfl
theorem dX12_readsFactor_24 : decode cX12_readsFactor 24 = .ok (.ifCond .eq 23, 3) := dget dh_517 (k := 12) rfl
theorem dX12_readsFactor_27 : decode cX12_readsFactor 27 = .ok (.aload_n 0, 1) := dget dh_517 (k := 13) rfl
theorem dX12_readsFactor_28 : decode cX12_readsFactor 28 = .ok (.invokevirtual 306, 3) := dget dh_517 (k := 14) rfl
theorem dX12_readsFactor_31 : decode cX12_readsFactor 31 = .ok (.ifCond .ne 5, 3) := dget dh_517 (k := 15) rfl
theorem dX12_readsFactor_34 : decode cX12_readsFactor 34 = .ok (.iconst 0, 1) := dget dh_517 (k := 16) rfl
theorem dX12_readsFactor_35 : decode cX12_readsFactor 35 = .ok (.ireturn, 1) := dget dh_517 (k := 17) rfl
theorem dX12_readsFactor_36 : decode cX12_readsFactor 36 = .ok (.aload_n 0, 1) := dget dh_517 (k := 18) rfl
theorem dX12_readsFactor_37 : decode cX12_readsFactor 37 = .ok (.iconst 0, 1) := dget dh_517 (k := 19) rfl
def dl_518 : List (Nat × (Instr × Nat)) := [(38, (.aload_n 0, 1)), (39, (.getfield 279, 3)), (42, (.invokevirtual 299, 3)), (45, (.iconst 1, 1)), (46, (.ireturn, 1)), (47, (.aload_n 0, 1)), (48, (.invokevirtual 268, 3)), (51, (.invokestatic 309, 3)), (54, (.istore_n 1, 1)), (55, (.iload_n 1, 1)), (56, (.iconst (-1), 1)), (57, (.if_icmp .ne 13, 3)), (60, (.aload_n 0, 1)), (61, (.iconst 1, 1)), (62, (.aload_n 0, 1)), (63, (.getfield 262, 3)), (66, (.invokevirtual 275, 3)), (69, (.ireturn, 1)), (70, (.aload_n 0, 1)), (71, (.iconst 1, 1))]
theorem dh_518 : dchk cX12_readsFactor dl_518 = true := by decide +kernel
theorem dX12_readsFactor_38 : decode cX12_readsFactor 38 = .ok (.aload_n 0, 1) := dget dh_518 (k := 0) rfl
theorem dX12_readsFactor_39 : decode cX12_readsFactor 39 = .ok (.getfield 279, 3) := dget dh_518 (k := 1) rfl
theorem dX12_readsFactor_42 : decode cX12_readsFactor 42 = .ok (.invokevirtual 299, 3) := dget dh_518 (k := 2) rfl
theorem dX12_readsFactor_45 : decode cX12_readsFactor 45 = .ok (.iconst 1, 1) := dget dh_518 (k := 3) rfl
theorem dX12_readsFactor_46 : decode cX12_readsFactor 46 = .ok (.ireturn, 1) := dget dh_518 (k := 4) rfl
theorem dX12_readsFactor_47 : decode cX12_readsFactor 47 = .ok (.aload_n 0, 1) := dget dh_518 (k := 5) rfl
theorem dX12_readsFactor_48 : decode cX12_readsFactor 48 = .ok (.invokevirtual 268, 3) := dget dh_518 (k := 6) rfl
theorem dX12_readsFactor_51 : decode cX12_readsFactor 51 = .ok (.invokestatic 309, 3) := dget dh_518 (k := 7) rfl
theorem dX12_readsFactor_54 : decode cX12_readsFactor 54 = .ok (.istore_n 1, 1) := dget dh_518 (k := 8) rfl
theorem dX12_readsFactor_55 : decode cX12_readsFactor 55 = .ok (.iload_n 1, 1) := dget dh_518 (k := 9) rfl
theorem dX12_readsFactor_56 : decode cX12_readsFactor 56 = .ok (.iconst (-1), 1) := dget dh_518 (k := 10) rfl
theorem dX12_readsFactor_57 : decode cX12_readsFactor 57 = .ok (.if_icmp .ne 13, 3) := dget dh_518 (k := 11) rfl
theorem dX12_readsFactor_60 : decode cX12_readsFactor 60 = .ok (.aload_n 0, 1) := dget dh_518 (k := 12) rfl
theorem dX12_readsFactor_61 : decode cX12_readsFactor 61 = .ok (.iconst 1, 1) := dget dh_518 (k := 13) rfl
theorem dX12_readsFactor_62 : decode cX12_readsFactor 62 = .ok (.aload_n 0, 1) := dget dh_518 (k := 14) rfl
theorem dX12_readsFactor_63 : decode cX12_readsFactor 63 = .ok (.getfield 262, 3) := dget dh_518 (k := 15) rfl
theorem dX12_readsFactor_66 : decode cX12_readsFactor 66 = .ok (.invokevirtual 275, 3) := dget dh_518 (k := 16) rfl
theorem dX12_readsFactor_69 : decode cX12_readsFactor 69 = .ok (.ireturn, 1) := dget dh_518 (k := 17) rfl
theorem dX12_readsFactor_70 : decode cX12_readsFactor 70 = .ok (.aload_n 0, 1) := dget dh_518 (k := 18) rfl
theorem dX12_readsFactor_71 : decode cX12_readsFactor 71 = .ok (.iconst 1, 1) := dget dh_518 (k := 19) rfl
def dl_519 : List (Nat × (Instr × Nat)) := [(72, (.iload_n 1, 1)), (73, (.invokevirtual 299, 3)), (76, (.aload_n 0, 1)), (77, (.aload_n 0, 1)), (78, (.getfield 262, 3)), (81, (.iconst 1, 1)), (82, (.iadd, 1)), (83, (.putfield 262, 3)), (86, (.iconst 1, 1)), (87, (.ireturn, 1))]
theorem dh_519 : dchk cX12_readsFactor dl_519 = true := by decide +kernel
theorem dX12_readsFactor_72 : decode cX12_readsFactor 72 = .ok (.iload_n 1, 1) := dget dh_519 (k := 0) rfl
theorem dX12_readsFactor_73 : decode cX12_readsFactor 73 = .ok (.invokevirtual 299, 3) := dget dh_519 (k := 1) rfl
theorem dX12_readsFactor_76 : decode cX12_readsFactor 76 = .ok (.aload_n 0, 1) := dget dh_519 (k := 2) rfl
theorem dX12_readsFactor_77 : decode cX12_readsFactor 77 = .ok (.aload_n 0, 1) := dget dh_519 (k := 3) rfl
theorem dX12_readsFactor_78 : decode cX12_readsFactor 78 = .ok (.getfield 262, 3) := dget dh_519 (k := 4) rfl
theorem dX12_readsFactor_81 : decode cX12_readsFactor 81 = .ok (.iconst 1, 1) := dget dh_519 (k := 5) rfl
theorem dX12_readsFactor_82 : decode cX12_readsFactor 82 = .ok (.iadd, 1) := dget dh_519 (k := 6) rfl
theorem dX12_readsFactor_83 : decode cX12_readsFactor 83 = .ok (.putfield 262, 3) := dget dh_519 (k := 7) rfl
theorem dX12_readsFactor_86 : decode cX12_readsFactor 86 = .ok (.iconst 1, 1) := dget dh_519 (k := 8) rfl
theorem dX12_readsFactor_87 : decode cX12_readsFactor 87 = .ok (.ireturn, 1) := dget dh_519 (k := 9) rfl
def SS (f h s : Nat) (i : Nat → Int32) (r : Nat → Nat → Int32) : Prop := ST f h s (r 21) (r 22) (i 27).toInt.toNat (i 28).toInt.toNat (i 23).toInt.toNat
theorem SS_w {f h s : Nat} {i : Nat → Int32} {r : Nat → Nat → Int32} (h0 : SS f h s i r) : ∀ j, j < (i 28).toInt.toNat → 0 ≤ (r 22 j).toInt := h0.2.2.2
theorem SS_n {f h s : Nat} {i : Nat → Int32} {r : Nat → Nat → Int32} (h0 : SS f h s i r) : f ≤ (i 27).toInt.toNat ∧ (i 27).toInt.toNat + s ≤ (i 23).toInt.toNat ∧ (i 28).toInt.toNat ≤ (i 23).toInt.toNat := ⟨h0.1.1, by have := h0.2.1; omega, h0.2.2.1⟩
def low (f : Nat) (r R : Nat → Nat → Int32) : Prop := ∀ k, k < f → R 21 k = r 21 k
theorem low_rf {f : Nat} {r : Nat → Nat → Int32} : low f r r := fun _ _ => rfl
theorem low_tr {f : Nat} {r R S : Nat → Nat → Int32} (h : low f r R) (h2 : low f R S) : low f r S := fun k hk => (h2 k hk).trans (h k hk)
theorem low_eq {f : Nat} {r R : Nat → Nat → Int32} (h : R 21 = r 21) : low f r R := fun k _ => congrFun h k
theorem low_upd {f n : Nat} {x : Int32} {r R : Nat → Nat → Int32} (h : R 21 = upd (r 21) n x) (hn : f ≤ n) : low f r R := fun k hk => by rw [h, pk_un (by omega)]
theorem topv_ne {i : Nat → Int32} {r : Nat → Nat → Int32} (h : topv i r ≠ -1) : (i 28).toInt ≠ 0 := fun e => h (by unfold topv; rw [if_pos e])
theorem topv_at {i : Nat → Int32} {r : Nat → Nat → Int32} {m : Nat} (hm : (i 28).toInt.toNat = m + 1) : topv i r = cOp (r 22 m) := by
  unfold topv; rw [if_neg (by omega), hm]; rfl
def SU (f hb s b : Nat) (i : Nat → Int32) (r : Nat → Nat → Int32) : Prop := SS f (hb + 1 + bcn (r 22) b (i 28).toInt.toNat) s i r ∧ b ≤ (i 28).toInt.toNat ∧ (∀ j, b ≤ j → j < (i 28).toInt.toNat → binW (r 22 j) ∨ cOp (r 22 j) = 14) ∧ (b = 0 ∨ ¬ binW (r 22 (b - 1)))
def CL (f hb s b : Nat) (i : Nat → Int32) (r : Nat → Nat → Int32) (I : Nat → Int32) (R : Nat → Nat → Int32) : Prop := SU f hb s b I R ∧ (I 28).toInt ≤ (i 28).toInt ∧ (∀ j : Nat, (I 28).toInt.toNat ≤ j → j < (i 28).toInt.toNat → binW (r 22 j)) ∧ low f r R ∧ R 22 = r 22
theorem CL_step {f hb s b : Nat} {i I i3 : Nat → Int32} {r R r2 : Nat → Nat → Int32} {x : Int32} (h : CL f hb s b i r I R) (ht : 2 ≤ topv I R ∧ topv I R ≤ 6) (hx : x.toInt = 1048576 * topv I R + 0) (e27 : (i3 27).toInt = (I 27).toInt + 1) (e28 : (i3 28).toInt = (I 28).toInt - 1) (e23 : i3 23 = I 23) (e33 : r2 22 = R 22) (e32 : r2 21 = upd (R 21) (I 27).toInt.toNat x) (h27 : 0 ≤ (I 27).toInt) (h28 : 0 ≤ (I 28).toInt) : CL f hb s b i r i3 r2 := by
  obtain ⟨⟨s1, s2, s3, s4⟩, c2, c3, c4, c5⟩ := h
  have hne : (I 28).toInt ≠ 0 := topv_ne (r := R) (by omega)
  obtain ⟨m, hm⟩ : ∃ m : Nat, (I 28).toInt.toNat = m + 1 := ⟨(I 28).toInt.toNat - 1, by omega⟩
  have ht2 := topv_at (r := R) hm
  have hb9 : binW (R 22 m) := by unfold binW; omega
  have hbm : b ≤ m := by
    by_cases e : b ≤ m
    · exact e
    · have e2 : b = m + 1 := by omega
      rcases s4 with h | h
      · omega
      · rw [e2] at h; exact absurd hb9 h
  have e1 : (i3 28).toInt.toNat = m := by omega
  have e2 : (i3 27).toInt.toNat = (I 27).toInt.toNat + 1 := by omega
  have hbc : bcn (R 22) b (m + 1) = bcn (R 22) b m + 1 := by
    show (if b ≤ m then bcn (R 22) b m + (if 2 ≤ cOp (R 22 m) ∧ cOp (R 22 m) ≤ 6 then 1 else 0) else 0) = _
    rw [if_pos hbm, if_pos (show 2 ≤ cOp (R 22 m) ∧ cOp (R 22 m) ≤ 6 from hb9)]
  have hc := cOp_mk hx ⟨by omega, by omega⟩
  unfold SS at s1
  rw [hm, hbc] at s1
  have s5 := ST_bin s1 hb9 (by omega) (by omega) (hc.1.trans ht2)
  rw [show hb + 1 + (bcn (R 22) b m + 1) - 1 = hb + 1 + bcn (R 22) b m by omega] at s5
  have hfn := s1.1.1
  refine ⟨⟨?_, by omega, fun j h1 h2 => ?_, ?_⟩, by omega, fun j h1 h2 => ?_, low_tr c4 (low_upd e32 hfn), e33.trans c5⟩
  · unfold SS; rw [e33, e32, e1, e2, e23]; exact s5
  · rw [e33]; exact s3 j h1 (by omega)
  · rw [e33]; exact s4
  · by_cases e : j = m
    · rw [e, ← c5]; exact hb9
    · exact c3 j (by omega) h2
def EP (f s : Nat) (i : Nat → Int32) (r : Nat → Nat → Int32) (I : Nat → Int32) (R : Nat → Nat → Int32) : Prop := SS f 1 s I R ∧ (I 28).toInt ≤ (i 28).toInt ∧ (∀ j : Nat, (I 28).toInt.toNat ≤ j → j < (i 28).toInt.toNat → cOp (r 22 j) = 10) ∧ low f r R ∧ R 22 = r 22
theorem EP_step {f s : Nat} {i I i3 : Nat → Int32} {r R r2 : Nat → Nat → Int32} {x : Int32} (h : EP f s i r I R) (ht : topv I R = 10) (hx : x.toInt = 1048576 * 10 + 0) (e27 : (i3 27).toInt = (I 27).toInt + 1) (e28 : (i3 28).toInt = (I 28).toInt - 1) (e23 : i3 23 = I 23) (e33 : r2 22 = R 22) (e32 : r2 21 = upd (R 21) (I 27).toInt.toNat x) (h27 : 0 ≤ (I 27).toInt) (h28 : 0 ≤ (I 28).toInt) : EP f s i r i3 r2 := by
  obtain ⟨s1, c2, c3, c4, c5⟩ := h
  have hne : (I 28).toInt ≠ 0 := topv_ne (r := R) (by omega)
  obtain ⟨m, hm⟩ : ∃ m : Nat, (I 28).toInt.toNat = m + 1 := ⟨(I 28).toInt.toNat - 1, by omega⟩
  have ht2 := topv_at (r := R) hm
  have e1 : (i3 28).toInt.toNat = m := by omega
  have e2 : (i3 27).toInt.toNat = (I 27).toInt.toNat + 1 := by omega
  have hc := cOp_mk hx ⟨by omega, by omega⟩
  unfold SS at s1
  rw [hm] at s1
  have s5 := ST_not s1 (ht2.symm.trans ht) (by omega) (by omega) hc.1
  have hfn := s1.1.1
  refine ⟨?_, by omega, fun j h1 h2 => ?_, low_tr c4 (low_upd e32 hfn), e33.trans c5⟩
  · unfold SS; rw [e33, e32, e1, e2, e23]; exact s5
  · by_cases e : j = m
    · rw [e, ← c5, ← ht2]; exact ht
    · exact c3 j (by omega) h2
def LD (f s : Nat) (i : Nat → Int32) (r : Nat → Nat → Int32) (I : Nat → Int32) (R : Nat → Nat → Int32) : Prop := SS f 1 s I R ∧ (I 28).toInt ≤ (i 28).toInt ∧ (∀ j : Nat, (I 28).toInt.toNat ≤ j → j < (i 28).toInt.toNat → jmpW (r 22 j)) ∧ low f r R ∧ R 22 = r 22
theorem LD_get {f s : Nat} {i I : Nat → Int32} {r R : Nat → Nat → Int32} (h : LD f s i r I R) (ht : topv I R = 11 ∨ topv I R = 12) (h28 : 0 ≤ (I 28).toInt) : ∃ v : Nat, cV (R 22 ((I 28).toInt.toNat - 1)) = v ∧ v < (I 27).toInt.toNat ∧ 0 ≤ (R 21 v).toInt ∧ (cOp (R 21 v) = 11 ∨ cOp (R 21 v) = 12) ∧ 0 ≤ (R 22 ((I 28).toInt.toNat - 1)).toInt ∧ (I 28).toInt ≠ 0 ∧ ∀ (x : Int32) (i3 : Nat → Int32) (r2 : Nat → Nat → Int32), x.toInt = 1048576 * cOp (R 21 v) + (I 27).toInt.toNat → (I 27).toInt.toNat < 1048576 → i3 27 = I 27 → (i3 28).toInt = (I 28).toInt - 1 → i3 23 = I 23 → r2 22 = R 22 → r2 21 = upd (R 21) v x → LD f s i r i3 r2 := by
  obtain ⟨s1, c2, c3, c4, c5⟩ := h
  have hne : (I 28).toInt ≠ 0 := topv_ne (r := R) (by omega)
  obtain ⟨m, hm⟩ : ∃ m : Nat, (I 28).toInt.toNat = m + 1 := ⟨(I 28).toInt.toNat - 1, by omega⟩
  have ht2 := topv_at (r := R) hm
  have hj : jmpW (R 22 m) := by unfold jmpW; rw [← ht2]; exact ht
  unfold SS at s1
  rw [hm] at s1
  obtain ⟨v, b1, b2, b3, b4, b5, b6⟩ := ST_land s1 hj
  rw [hm, show m + 1 - 1 = m from rfl]
  refine ⟨v, b1, b3, b5, b4, s1.2.2.2 m (by omega), hne, fun x i3 r2 hx hn e27 e28 e23 e33 e32 => ?_⟩
  have hc := cOp_mk hx ⟨by omega, by omega⟩
  have e1 : (i3 28).toInt.toNat = m := by omega
  refine ⟨?_, by omega, fun j h1 h2 => ?_, low_tr c4 (low_upd e32 b2), e33.trans c5⟩
  · unfold SS; rw [e33, e32, e1, e27, e23]
    exact b6 x (by rcases b4 with h | h <;> omega) hc.1 hc.2
  · by_cases e : j = m
    · rw [e, ← c5]; exact hj
    · exact c3 j (by omega) h2
def JP (f s : Nat) (i : Nat → Int32) (r : Nat → Nat → Int32) (I : Nat → Int32) (R : Nat → Nat → Int32) : Prop := SS f 0 s I R ∧ (I 28).toInt = (i 28).toInt + 1 ∧ (I 23).toInt = (i 23).toInt + 1 ∧ (∀ j, j < (i 28).toInt.toNat → R 22 j = r 22 j) ∧ jmpW (R 22 (i 28).toInt.toNat) ∧ low f r R
theorem JP_of {f s : Nat} {i I : Nat → Int32} {r R : Nat → Nat → Int32} {x y : Int32} {o : Int} (h : SS f 1 s i r) (ho : o = 11 ∨ o = 12) (hx : x.toInt = 1048576 * o + 0) (hy : y.toInt = 1048576 * o + (i 27).toInt) (e27 : (I 27).toInt = (i 27).toInt + 1) (e28 : (I 28).toInt = (i 28).toInt + 1) (e23 : (I 23).toInt = (i 23).toInt + 1) (e33 : R 22 = upd (r 22) (i 28).toInt.toNat y) (e32 : R 21 = upd (r 21) (i 27).toInt.toNat x) (h27 : 0 ≤ (i 27).toInt ∧ (i 27).toInt ≤ 220) (h28 : 0 ≤ (i 28).toInt) (h23 : 0 ≤ (i 23).toInt) : JP f s i r I R := by
  have hc := cOp_mk hx ⟨by omega, by omega⟩
  have hd := cOp_mk hy ⟨by omega, by omega⟩
  have hfn := h.1.1
  refine ⟨?_, e28, e23, fun j hj => ?_, ?_, low_upd e32 hfn⟩
  · unfold SS
    rw [e33, e32, show (I 27).toInt.toNat = (i 27).toInt.toNat + 1 by omega, show (I 28).toInt.toNat = (i 28).toInt.toNat + 1 by omega, show (I 23).toInt.toNat = (i 23).toInt.toNat + 1 by omega]
    refine ST_jump h (by omega) (by unfold jmpW; omega) (by omega) (by unfold jmpW; omega) (by rw [hd.2]; omega)
  · rw [e33, pk_un (by omega)]
  · rw [e33, pk_us]; unfold jmpW; omega
def RFi (f h s : Nat) (i : Nat → Int32) (r : Nat → Nat → Int32) (I : Nat → Int32) (R : Nat → Nat → Int32) : Prop := SS f h s I R ∧ (i 23).toInt ≤ (I 23).toInt ∧ (i 28).toInt ≤ (I 28).toInt ∧ (∀ j, j < (i 28).toInt.toNat → R 22 j = r 22 j) ∧ (∀ j, (i 28).toInt.toNat ≤ j → j < (I 28).toInt.toNat → cOp (R 22 j) = 14) ∧ low f r R
def RF (f h s : Nat) (i : Nat → Int32) (r : Nat → Nat → Int32) (z : Int32) (I : Nat → Int32) (R : Nat → Nat → Int32) : Prop := (z = 1 ∧ RFi f (h + 1) s i r I R ∧ (i 23).toInt < (I 23).toInt) ∨ z = 0
theorem RFi_rf {f h s : Nat} {i : Nat → Int32} {r : Nat → Nat → Int32} (h0 : SS f h s i r) : RFi f h s i r i r := ⟨h0, Int.le_refl _, Int.le_refl _, fun _ _ => rfl, fun j h1 h2 => by omega, low_rf⟩
theorem RFi_open {f h s : Nat} {i I J : Nat → Int32} {r R S : Nat → Nat → Int32} {x : Int32} (h0 : RFi f h s i r I R) (hx : x.toInt = 1048576 * 14) (e28 : (J 28).toInt = (I 28).toInt + 1) (e23 : (J 23).toInt = (I 23).toInt + 1) (e27 : J 27 = I 27) (e32 : S 21 = R 21) (e33 : S 22 = upd (R 22) (I 28).toInt.toNat x) (h28 : 0 ≤ (I 28).toInt) (h23 : 0 ≤ (I 23).toInt) (hi28 : 0 ≤ (i 28).toInt) : RFi f h s i r J S := by
  obtain ⟨a1, a2, a3, a4, a5, a6⟩ := h0
  have hc := cOp_mk (x := x) (o := 14) (v := 0) (by omega) ⟨by omega, by omega⟩
  refine ⟨?_, by omega, by omega, fun j hj => ?_, fun j h1 h2 => ?_, low_tr a6 (low_eq e32)⟩
  · unfold SS
    rw [e33, e32, e27, show (J 28).toInt.toNat = (I 28).toInt.toNat + 1 by omega, show (J 23).toInt.toNat = (I 23).toInt.toNat + 1 by omega]
    exact ST_push a1 (by omega) (by unfold jmpW; omega)
  · rw [e33, pk_un (by omega)]; exact a4 j hj
  · rw [e33]
    by_cases e : j = (I 28).toInt.toNat
    · rw [e, pk_us]; exact hc.1
    · rw [pk_un e]; exact a5 j h1 (by omega)
theorem RF_note {f h s : Nat} {i I J : Nat → Int32} {r R S : Nat → Nat → Int32} {x z : Int32} {o v : Int} (h0 : RFi f h s i r I R) (hx : x.toInt = 1048576 * o + v) (ho : (o = 0 ∧ 0 ≤ v ∧ v ≤ 99999) ∨ (o = 1 ∧ 0 ≤ v ∧ v < 10)) (e28 : J 28 = I 28) (e23 : (I 23).toInt < (J 23).toInt) (e27 : (J 27).toInt = (I 27).toInt + 1) (e33 : S 22 = R 22) (e32 : S 21 = upd (R 21) (I 27).toInt.toNat x) (h27 : 0 ≤ (I 27).toInt) (h23 : 0 ≤ (I 23).toInt) (hz : z = 1) : RF f h s i r z J S := by
  obtain ⟨a1, a2, a3, a4, a5, a6⟩ := h0
  have hc := cOp_mk hx ⟨by omega, by omega⟩
  have hfn := a1.1.1
  refine Or.inl ⟨hz, ⟨?_, by omega, by rw [e28]; exact a3, fun j hj => by rw [e33]; exact a4 j hj, fun j h1 h2 => by rw [e33]; rw [e28] at h2; exact a5 j h1 h2, low_tr a6 (low_upd e32 hfn)⟩, by omega⟩
  unfold SS
  rw [e33, e32, e28, show (J 27).toInt.toNat = (I 27).toInt.toNat + 1 by omega]
  exact ST_note0 a1 (by omega) (by rw [hc.1, hc.2]; omega) (by omega)
set_option maxHeartbeats 4000000 in
set_option maxRecDepth 100000 in
theorem c_X12_closesSums (l : Launch) (D : va_G) (cy : Nat → ClassId) (a : Nat → Nat) (i : Nat → Int32) (r : Nat → Nat → Int32) (rl : Nat → Int64) (p0 : Int32) (sz : Nat) (hRi : mRi i) (hRr : mRr r) (f9 g9 s9 b9 : Nat) (hU : SU f9 g9 s9 b9 i r) : Met l yX12_closesSums (Cond.code yX12_closesSums cX12_closesSums 2 none :: gT) { frames := 2, cells := 0, slots := 0, locals := 46 } (va_Pc [.ref (a 0), .int p0] (rQ D cy (mW cy a i r rl) sz)) (va_Qv (fun u : (Nat → Int32) × (Nat → Nat → Int32) => mRi u.1 ∧ mRr u.2 ∧ mEi [27, 28] i u.1 ∧ mEr [21] r u.2 ∧ (CL f9 g9 s9 b9 i r u.1 u.2 ∧ ¬ (4 ≤ topv u.1 u.2 ∧ topv u.1 u.2 ≤ 6) ∧ (p0.toInt ≠ 0 → ¬ (2 ≤ topv u.1 u.2 ∧ topv u.1 u.2 ≤ 6)))) (fun (u : (Nat → Int32) × (Nat → Nat → Int32)) t => va_P D vwCl (mW cy a u.1 u.2 rl) t.heap ∧ va_K D vwCl (vT cy) t ∧ va_D (va_A (mW cy a i r rl) sz) (mW cy a u.1 u.2 rl)) (va_A (mW cy a i r rl) sz)) 0 0 (va_A (mW cy a i r rl) sz) := by
  refine Met.ofQ (cc := cX12_closesSums) (maxL := 2) (ret := none) (by decide) rfl ?_
  intro p e s m args below meth c s₁ B hml hv Q hQ
  obtain ⟨rfl, hsz, hP, hK, hD0⟩ := hv
  have hx := B.exec
  have hb := B.bytes
  have hr := B.returns
  have hlocks := B.notSynchronized
  have hT : ∀ w ∈ gT, w.before _ s = true := fun w h => atoms_spec (ws := (Cond.code yX12_closesSums cX12_closesSums 2 none :: gT)) B.pre w (List.mem_cons_of_mem _ h)
  have hown : s.vm.findClass RX12 = some m.cls := findClass_of_methodNamed B.named
  subst hsz
  have hD := hD0.self (sz := s.heap.size)
  generalize hAe : va_A (mW cy a i r rl) s.heap.size = A at hD hQ
  have hA : ∀ q : Nat, s.heap.size ≤ q → A q := fun q h => by rw [← hAe]; exact Or.inr h
  have hS : va_S A s.heap s.heap [] := va_S.rf
  have hl := lv_entry ([.ref (a 0), .int p0]) (n := 2) (Nat.le_of_ble_eq_true rfl)
  rw [lg_entry_eq]
  generalize (lg_sl ([.ref (a 0), .int p0]) ++ List.replicate (2 - (lg_sl ([.ref (a 0), .int p0])).length) Slot.unset).toArray = ls at hl ⊢
  have hl : lv_has ls 2 [(0, .ref (a 0)), (1, .int p0)] := hl
  have hEi : mEi [27, 28] i i := Ei_rf
  have hEr : mEr [21] r r := Er_rf
  have loop_1 : ∀ (n : Nat) (i1 : Nat → Int32) (r1 : Nat → Nat → Int32) (H : Heap) (locs : List Loc) (ls : Array Slot), ((i1 28).toInt).toNat < n → mRi i1 → mEi [27, 28] i i1 → mRr r1 → mEr [21] r r1 → (CL f9 g9 s9 b9 i r i1 r1) → va_P D vwCl (mW cy a i1 r1 rl) H → va_D A (mW cy a i1 r1 rl) → va_S A s.heap H locs → lv_has ls 2 [(0, .ref (a 0)), (1, .int p0)] → W p l e ({ frames := 2, cells := 0, slots := 0, locals := 46 } : Room) s m ([.ref (a 0), .int p0] : List Value).toArray below meth c H locs 0 0 Q (F0 m 0 ls []) := by
    intro n
    induction n with
    | zero =>
      intro i1 r1 H locs ls hm1 hRi hEi hRr hEr hx1 hP hD hS hl
      exact absurd hm1 (by omega)
    | succ n ih1 =>
      intro i1 r1 H locs ls hm1 hRi hEi hRr hEr hx1 hP hD hS hl
      refine lv_aload_n hx hb dX12_closesSums_0 rfl (lv_at hl 0 rfl) ?_
      have hg23 : 0 ≤ (i1 23).toInt ∧ (i1 23).toInt ≤ 200 := hRi 23
      have hg27 : 0 ≤ (i1 27).toInt ∧ (i1 27).toInt ≤ 220 := hRi 27
      have hg28 : 0 ≤ (i1 28).toInt ∧ (i1 28).toInt ≤ 220 := hRi 28
      have hss := SS_n hx1.1.1
      have hb27 : (i1 27).toInt ≤ 200 := by omega
      have hb28 : (i1 28).toInt ≤ 200 := by omega
      refine vp_callSi (W.runV (As := []) (rest := []) ⟨hx, hb, hml, hown, hT⟩ (c_X12_top l D cy a i1 r1 rl hRi hRr (SS_w hx1.1.1)) (cwV 0 hT (gV t_850 t_851 t_852 t_853 t_6) rfl rfl rfl (by decide +kernel) ⟨Nat.le_of_ble_eq_true rfl, Nat.le_of_ble_eq_true rfl⟩) (rP_v hP hK (va_recv hK hP (ci := 12) (q0 := 0) rfl rfl)) rfl rfl hl.1 rfl (lv_room (Nat.le_of_ble_eq_true rfl)) dX12_closesSums_1 ⟨Nat.le_of_ble_eq_true rfl, Nat.le_of_ble_eq_true rfl⟩) (fun r_2 hr_2 => ?_)
      have hr_2 : r_2.toInt = topv i1 r1 := hr_2
      refine lv_iconst (v := 4) hx hb dX12_closesSums_4 (by decide) ?_
      refine lv_icmp_lt (tgt := 17) hx hb dX12_closesSums_5 (by decide) (fun c_3 => ?_) (fun c_3 => ?_)
      · have c_3 : r_2.toInt < 4 := b_lt c_3
        refine lv_iload_n hx hb dX12_closesSums_17 rfl (lv_at hl 1 rfl) ?_
        refine lv_if_eq (tgt := 59) hx hb dX12_closesSums_18 (by decide) (fun c_4 => ?_) (fun c_4 => ?_)
        · have c_4 : p0.toInt = 0 := b_eq c_4
          subst hQ
          have hq1 : ¬ (4 ≤ topv i1 r1 ∧ topv i1 r1 ≤ 6) := by omega
          have hq2 : p0.toInt ≠ 0 → ¬ (2 ≤ topv i1 r1 ∧ topv i1 r1 ≤ 6) := by omega
          exact W.vret hx hb hr (fun t ht hW => ⟨⟨(i1, r1), rfl, ⟨hRi, hRr, hEi, hEr, ⟨hx1, hq1, hq2⟩⟩, by rw [ht]; exact hP, va_K.moved hW.alike hK, hD⟩, hS.F ht⟩) hS.2.2 dX12_closesSums_59
        · have c_4 : p0.toInt ≠ 0 := b_ne c_4
          refine lv_aload_n hx hb dX12_closesSums_21 rfl (lv_at hl 0 rfl) ?_
          refine vp_callSi (W.runV (As := []) (rest := []) ⟨hx, hb, hml, hown, hT⟩ (c_X12_top l D cy a i1 r1 rl hRi hRr (SS_w hx1.1.1)) (cwV 0 hT (gV t_850 t_851 t_852 t_853 t_6) rfl rfl rfl (by decide +kernel) ⟨Nat.le_of_ble_eq_true rfl, Nat.le_of_ble_eq_true rfl⟩) (rP_v hP hK (va_recv hK hP (ci := 12) (q0 := 0) rfl rfl)) rfl rfl hl.1 rfl (lv_room (Nat.le_of_ble_eq_true rfl)) dX12_closesSums_22 ⟨Nat.le_of_ble_eq_true rfl, Nat.le_of_ble_eq_true rfl⟩) (fun r_5 hr_5 => ?_)
          have hr_5 : r_5.toInt = topv i1 r1 := hr_5
          refine lv_iconst (v := 2) hx hb dX12_closesSums_25 (by decide) ?_
          refine lv_icmp_eq (tgt := 37) hx hb dX12_closesSums_26 (by decide) (fun c_6 => ?_) (fun c_6 => ?_)
          · have c_6 : r_5.toInt = 2 := b_eq c_6
            refine lv_aload_n hx hb dX12_closesSums_37 rfl (lv_at hl 0 rfl) ?_
            refine lv_aload_n hx hb dX12_closesSums_38 rfl (lv_at hl 0 rfl) ?_
            refine vp_callSi (W.runV (As := []) (rest := [.ref (a 0)]) ⟨hx, hb, hml, hown, hT⟩ (c_X12_top l D cy a i1 r1 rl hRi hRr (SS_w hx1.1.1)) (cwV 0 hT (gV t_850 t_851 t_852 t_853 t_6) rfl rfl rfl (by decide +kernel) ⟨Nat.le_of_ble_eq_true rfl, Nat.le_of_ble_eq_true rfl⟩) (rP_v hP hK (va_recv hK hP (ci := 12) (q0 := 0) rfl rfl)) rfl rfl hl.1 rfl (lv_room (Nat.le_of_ble_eq_true rfl)) dX12_closesSums_39 ⟨Nat.le_of_ble_eq_true rfl, Nat.le_of_ble_eq_true rfl⟩) (fun r_7 hr_7 => ?_)
            have hr_7 : r_7.toInt = topv i1 r1 := hr_7
            refine lv_iconst (v := 0) hx hb dX12_closesSums_42 (by decide) ?_
            have hF_8 := rF hD hS hA
            refine va_callv (va_runV (As := [.int r_7, .int 0]) (rest := []) ⟨hx, hb, hml, hown, hT⟩ (c_X12_notes l D cy a i1 r1 rl r_7 0 _ hRi hRr (by first | omega | decide) (by first | omega | decide) (by show (i1 27).toInt < 220; omega)) (cwV 2 hT (gV t_854 t_855 t_856 t_857 t_6) rfl rfl rfl (by decide +kernel) ⟨Nat.le_of_ble_eq_true rfl, Nat.le_of_ble_eq_true rfl⟩) (rQ_v hP hK hD (va_recv hK hP (ci := 12) (q0 := 0) rfl rfl)) rfl rfl hl.1 rfl (lv_room (Nat.le_of_ble_eq_true rfl)) dX12_closesSums_43 ⟨Nat.le_of_ble_eq_true rfl, Nat.le_of_ble_eq_true rfl⟩) hS (fun q _ h => hF_8 q h) hF_8 (fun u_10 t H1 locs ht hvm hr_9 hB hz1 hk1 hS => ?_)
            obtain ⟨i10, r10⟩ := u_10
            obtain ⟨hP, hK1, hD1⟩ := hB
            rw [ht] at hP
            have hD := hD1.weaken (fun k q _ h => hF_8 q.1 h)
            have hP : va_P D vwCl (mW cy a i10 r10 rl) H1 := hP
            have hD : va_D A (mW cy a i10 r10 rl) := hD
            obtain ⟨hRi, hRr, hE1, hE2, hr_9⟩ := hr_9
            have hRi : mRi i10 := hRi
            have hRr : mRr r10 := hRr
            have hEi : mEi [27, 28] _ i10 := Ei_tr hEi hE1 (by decide)
            have hEr : mEr [21] _ r10 := Er_tr hEr hE2 (by decide)
            obtain ⟨hn9, x9, hx9, hr9⟩ := hr_9
            have hn9 : (i10 27).toInt = (i1 27).toInt + 1 := hn9
            have hr9 : r10 21 = upd (r1 21) (i1 27).toInt.toNat x9 := hr9
            have e23_9 : i10 23 = i1 23 := hE1 23 (by decide)
            have e28_9 : i10 28 = i1 28 := hE1 28 (by decide)
            have e33_9 : r10 22 = r1 22 := hE2 22 (by decide)
            have hx9 : x9.toInt = 1048576 * r_7.toInt + 0 := hx9
            refine lv_aload_n hx hb dX12_closesSums_46 rfl (lv_at hl 0 rfl) ?_
            refine lv_aload_n hx hb dX12_closesSums_47 rfl (lv_at hl 0 rfl) ?_
            refine va_get (D := D) (ci := 12) (v := .int (i10 28)) (C := RX12) (T := TX12) (N := 91) hx hb hT iX12 hown hK hP 0 rfl rfl 28 (by decide) (hT _ t_849) (fun _ h9 => h9) rfl dX12_closesSums_48 ?_
            have hg_11 : 0 ≤ (i10 28).toInt ∧ (i10 28).toInt ≤ 220 := hRi 28
            have h28e : (i10 28).toInt = (i1 28).toInt := congrArg Int32.toInt e28_9
            have hne9 := topv_ne (i := i1) (r := r1) (by omega)
            refine lv_iconst (v := 1) hx hb dX12_closesSums_51 (by decide) ?_
            refine lv_isub hx hb dX12_closesSums_52 ?_
            refine lv_topi (fun v_12 ev_12 => ?_)
            have hv_12 : v_12.toInt = (i10 28).toInt - 1 := by rw [ev_12]; have := b_rg (i10 28); exact i_sub (a := (i10 28).toInt) (b := 1) rfl rfl (by omega) (by omega)
            refine va_put (D := D) (ci := 12) (v := .int v_12) (ty := .int) (C := RX12) (T := TX12) (N := 91) hx hb hT iX12 tyX12 tyX12_ok nmX12 hown hK hP hD hS 0 rfl rfl 28 (by decide) (hT _ t_849) (fun _ h9 => h9) rfl (by decide +kernel) rfl rfl (Nat.le_of_ble_eq_true rfl) dX12_closesSums_53 (fun H locs hP hD hS => ?_)
            rw [mP28] at hP hD
            have hRi := Ri_upd hRi 28 v_12 ⟨by show (0 : Int) ≤ v_12.toInt; omega, by show v_12.toInt ≤ (220 : Int); omega⟩
            have hEi := Ei_upd hEi 28 v_12 (by decide)
            refine lv_goto (tgt := 0) hx hb dX12_closesSums_56 (by decide) ?_
            have hmm28 : ((upd i10 28 v_12) 28).toInt = v_12.toInt := rfl
            have hne9 := topv_ne (i := i1) (r := r1) (by omega)
            exact ih1 (upd i10 28 v_12) r10 _ _ _ (by first | omega | (simp only [Int.toNat]; omega))  hRi hEi hRr hEr (CL_step hx1 (by omega) (by rw [hx9]; omega) (by show (i10 27).toInt = _; omega) (by show v_12.toInt = _; omega) e23_9 e33_9 hr9 (by omega) (by omega)) hP hD hS (lv_sub hl [0, 1] rfl)
          · have c_6 : r_5.toInt ≠ 2 := b_ne c_6
            refine lv_aload_n hx hb dX12_closesSums_29 rfl (lv_at hl 0 rfl) ?_
            refine vp_callSi (W.runV (As := []) (rest := []) ⟨hx, hb, hml, hown, hT⟩ (c_X12_top l D cy a i1 r1 rl hRi hRr (SS_w hx1.1.1)) (cwV 0 hT (gV t_850 t_851 t_852 t_853 t_6) rfl rfl rfl (by decide +kernel) ⟨Nat.le_of_ble_eq_true rfl, Nat.le_of_ble_eq_true rfl⟩) (rP_v hP hK (va_recv hK hP (ci := 12) (q0 := 0) rfl rfl)) rfl rfl hl.1 rfl (lv_room (Nat.le_of_ble_eq_true rfl)) dX12_closesSums_30 ⟨Nat.le_of_ble_eq_true rfl, Nat.le_of_ble_eq_true rfl⟩) (fun r_13 hr_13 => ?_)
            have hr_13 : r_13.toInt = topv i1 r1 := hr_13
            refine lv_iconst (v := 3) hx hb dX12_closesSums_33 (by decide) ?_
            refine lv_icmp_ne (tgt := 59) hx hb dX12_closesSums_34 (by decide) (fun c_14 => ?_) (fun c_14 => ?_)
            · have c_14 : r_13.toInt ≠ 3 := b_ne c_14
              subst hQ
              have hq1 : ¬ (4 ≤ topv i1 r1 ∧ topv i1 r1 ≤ 6) := by omega
              have hq2 : p0.toInt ≠ 0 → ¬ (2 ≤ topv i1 r1 ∧ topv i1 r1 ≤ 6) := by omega
              exact W.vret hx hb hr (fun t ht hW => ⟨⟨(i1, r1), rfl, ⟨hRi, hRr, hEi, hEr, ⟨hx1, hq1, hq2⟩⟩, by rw [ht]; exact hP, va_K.moved hW.alike hK, hD⟩, hS.F ht⟩) hS.2.2 dX12_closesSums_59
            · have c_14 : r_13.toInt = 3 := b_nne c_14
              refine lv_aload_n hx hb dX12_closesSums_37 rfl (lv_at hl 0 rfl) ?_
              refine lv_aload_n hx hb dX12_closesSums_38 rfl (lv_at hl 0 rfl) ?_
              refine vp_callSi (W.runV (As := []) (rest := [.ref (a 0)]) ⟨hx, hb, hml, hown, hT⟩ (c_X12_top l D cy a i1 r1 rl hRi hRr (SS_w hx1.1.1)) (cwV 0 hT (gV t_850 t_851 t_852 t_853 t_6) rfl rfl rfl (by decide +kernel) ⟨Nat.le_of_ble_eq_true rfl, Nat.le_of_ble_eq_true rfl⟩) (rP_v hP hK (va_recv hK hP (ci := 12) (q0 := 0) rfl rfl)) rfl rfl hl.1 rfl (lv_room (Nat.le_of_ble_eq_true rfl)) dX12_closesSums_39 ⟨Nat.le_of_ble_eq_true rfl, Nat.le_of_ble_eq_true rfl⟩) (fun r_15 hr_15 => ?_)
              have hr_15 : r_15.toInt = topv i1 r1 := hr_15
              refine lv_iconst (v := 0) hx hb dX12_closesSums_42 (by decide) ?_
              have hF_16 := rF hD hS hA
              refine va_callv (va_runV (As := [.int r_15, .int 0]) (rest := []) ⟨hx, hb, hml, hown, hT⟩ (c_X12_notes l D cy a i1 r1 rl r_15 0 _ hRi hRr (by first | omega | decide) (by first | omega | decide) (by show (i1 27).toInt < 220; omega)) (cwV 2 hT (gV t_854 t_855 t_856 t_857 t_6) rfl rfl rfl (by decide +kernel) ⟨Nat.le_of_ble_eq_true rfl, Nat.le_of_ble_eq_true rfl⟩) (rQ_v hP hK hD (va_recv hK hP (ci := 12) (q0 := 0) rfl rfl)) rfl rfl hl.1 rfl (lv_room (Nat.le_of_ble_eq_true rfl)) dX12_closesSums_43 ⟨Nat.le_of_ble_eq_true rfl, Nat.le_of_ble_eq_true rfl⟩) hS (fun q _ h => hF_16 q h) hF_16 (fun u_18 t H1 locs ht hvm hr_17 hB hz1 hk1 hS => ?_)
              obtain ⟨i18, r18⟩ := u_18
              obtain ⟨hP, hK1, hD1⟩ := hB
              rw [ht] at hP
              have hD := hD1.weaken (fun k q _ h => hF_16 q.1 h)
              have hP : va_P D vwCl (mW cy a i18 r18 rl) H1 := hP
              have hD : va_D A (mW cy a i18 r18 rl) := hD
              obtain ⟨hRi, hRr, hE1, hE2, hr_17⟩ := hr_17
              have hRi : mRi i18 := hRi
              have hRr : mRr r18 := hRr
              have hEi : mEi [27, 28] _ i18 := Ei_tr hEi hE1 (by decide)
              have hEr : mEr [21] _ r18 := Er_tr hEr hE2 (by decide)
              obtain ⟨hn17, x17, hx17, hr17⟩ := hr_17
              have hn17 : (i18 27).toInt = (i1 27).toInt + 1 := hn17
              have hr17 : r18 21 = upd (r1 21) (i1 27).toInt.toNat x17 := hr17
              have e23_17 : i18 23 = i1 23 := hE1 23 (by decide)
              have e28_17 : i18 28 = i1 28 := hE1 28 (by decide)
              have e33_17 : r18 22 = r1 22 := hE2 22 (by decide)
              have hx17 : x17.toInt = 1048576 * r_15.toInt + 0 := hx17
              refine lv_aload_n hx hb dX12_closesSums_46 rfl (lv_at hl 0 rfl) ?_
              refine lv_aload_n hx hb dX12_closesSums_47 rfl (lv_at hl 0 rfl) ?_
              refine va_get (D := D) (ci := 12) (v := .int (i18 28)) (C := RX12) (T := TX12) (N := 91) hx hb hT iX12 hown hK hP 0 rfl rfl 28 (by decide) (hT _ t_849) (fun _ h9 => h9) rfl dX12_closesSums_48 ?_
              have hg_19 : 0 ≤ (i18 28).toInt ∧ (i18 28).toInt ≤ 220 := hRi 28
              have h28e : (i18 28).toInt = (i1 28).toInt := congrArg Int32.toInt e28_17
              have hne9 := topv_ne (i := i1) (r := r1) (by omega)
              refine lv_iconst (v := 1) hx hb dX12_closesSums_51 (by decide) ?_
              refine lv_isub hx hb dX12_closesSums_52 ?_
              refine lv_topi (fun v_20 ev_20 => ?_)
              have hv_20 : v_20.toInt = (i18 28).toInt - 1 := by rw [ev_20]; have := b_rg (i18 28); exact i_sub (a := (i18 28).toInt) (b := 1) rfl rfl (by omega) (by omega)
              refine va_put (D := D) (ci := 12) (v := .int v_20) (ty := .int) (C := RX12) (T := TX12) (N := 91) hx hb hT iX12 tyX12 tyX12_ok nmX12 hown hK hP hD hS 0 rfl rfl 28 (by decide) (hT _ t_849) (fun _ h9 => h9) rfl (by decide +kernel) rfl rfl (Nat.le_of_ble_eq_true rfl) dX12_closesSums_53 (fun H locs hP hD hS => ?_)
              rw [mP28] at hP hD
              have hRi := Ri_upd hRi 28 v_20 ⟨by show (0 : Int) ≤ v_20.toInt; omega, by show v_20.toInt ≤ (220 : Int); omega⟩
              have hEi := Ei_upd hEi 28 v_20 (by decide)
              refine lv_goto (tgt := 0) hx hb dX12_closesSums_56 (by decide) ?_
              have hmm28 : ((upd i18 28 v_20) 28).toInt = v_20.toInt := rfl
              have hne9 := topv_ne (i := i1) (r := r1) (by omega)
              exact ih1 (upd i18 28 v_20) r18 _ _ _ (by first | omega | (simp only [Int.toNat]; omega))  hRi hEi hRr hEr (CL_step hx1 (by omega) (by rw [hx17]; omega) (by show (i18 27).toInt = _; omega) (by show v_20.toInt = _; omega) e23_17 e33_17 hr17 (by omega) (by omega)) hP hD hS (lv_sub hl [0, 1] rfl)
      · have c_3 : 4 ≤ r_2.toInt := b_nlt c_3
        refine lv_aload_n hx hb dX12_closesSums_8 rfl (lv_at hl 0 rfl) ?_
        refine vp_callSi (W.runV (As := []) (rest := []) ⟨hx, hb, hml, hown, hT⟩ (c_X12_top l D cy a i1 r1 rl hRi hRr (SS_w hx1.1.1)) (cwV 0 hT (gV t_850 t_851 t_852 t_853 t_6) rfl rfl rfl (by decide +kernel) ⟨Nat.le_of_ble_eq_true rfl, Nat.le_of_ble_eq_true rfl⟩) (rP_v hP hK (va_recv hK hP (ci := 12) (q0 := 0) rfl rfl)) rfl rfl hl.1 rfl (lv_room (Nat.le_of_ble_eq_true rfl)) dX12_closesSums_9 ⟨Nat.le_of_ble_eq_true rfl, Nat.le_of_ble_eq_true rfl⟩) (fun r_21 hr_21 => ?_)
        have hr_21 : r_21.toInt = topv i1 r1 := hr_21
        refine lv_bipush (v := 6) hx hb dX12_closesSums_12 (by decide) ?_
        refine lv_icmp_le (tgt := 37) hx hb dX12_closesSums_14 (by decide) (fun c_22 => ?_) (fun c_22 => ?_)
        · have c_22 : r_21.toInt ≤ 6 := b_le c_22
          refine lv_aload_n hx hb dX12_closesSums_37 rfl (lv_at hl 0 rfl) ?_
          refine lv_aload_n hx hb dX12_closesSums_38 rfl (lv_at hl 0 rfl) ?_
          refine vp_callSi (W.runV (As := []) (rest := [.ref (a 0)]) ⟨hx, hb, hml, hown, hT⟩ (c_X12_top l D cy a i1 r1 rl hRi hRr (SS_w hx1.1.1)) (cwV 0 hT (gV t_850 t_851 t_852 t_853 t_6) rfl rfl rfl (by decide +kernel) ⟨Nat.le_of_ble_eq_true rfl, Nat.le_of_ble_eq_true rfl⟩) (rP_v hP hK (va_recv hK hP (ci := 12) (q0 := 0) rfl rfl)) rfl rfl hl.1 rfl (lv_room (Nat.le_of_ble_eq_true rfl)) dX12_closesSums_39 ⟨Nat.le_of_ble_eq_true rfl, Nat.le_of_ble_eq_true rfl⟩) (fun r_23 hr_23 => ?_)
          have hr_23 : r_23.toInt = topv i1 r1 := hr_23
          refine lv_iconst (v := 0) hx hb dX12_closesSums_42 (by decide) ?_
          have hF_24 := rF hD hS hA
          refine va_callv (va_runV (As := [.int r_23, .int 0]) (rest := []) ⟨hx, hb, hml, hown, hT⟩ (c_X12_notes l D cy a i1 r1 rl r_23 0 _ hRi hRr (by first | omega | decide) (by first | omega | decide) (by show (i1 27).toInt < 220; omega)) (cwV 2 hT (gV t_854 t_855 t_856 t_857 t_6) rfl rfl rfl (by decide +kernel) ⟨Nat.le_of_ble_eq_true rfl, Nat.le_of_ble_eq_true rfl⟩) (rQ_v hP hK hD (va_recv hK hP (ci := 12) (q0 := 0) rfl rfl)) rfl rfl hl.1 rfl (lv_room (Nat.le_of_ble_eq_true rfl)) dX12_closesSums_43 ⟨Nat.le_of_ble_eq_true rfl, Nat.le_of_ble_eq_true rfl⟩) hS (fun q _ h => hF_24 q h) hF_24 (fun u_26 t H1 locs ht hvm hr_25 hB hz1 hk1 hS => ?_)
          obtain ⟨i26, r26⟩ := u_26
          obtain ⟨hP, hK1, hD1⟩ := hB
          rw [ht] at hP
          have hD := hD1.weaken (fun k q _ h => hF_24 q.1 h)
          have hP : va_P D vwCl (mW cy a i26 r26 rl) H1 := hP
          have hD : va_D A (mW cy a i26 r26 rl) := hD
          obtain ⟨hRi, hRr, hE1, hE2, hr_25⟩ := hr_25
          have hRi : mRi i26 := hRi
          have hRr : mRr r26 := hRr
          have hEi : mEi [27, 28] _ i26 := Ei_tr hEi hE1 (by decide)
          have hEr : mEr [21] _ r26 := Er_tr hEr hE2 (by decide)
          obtain ⟨hn25, x25, hx25, hr25⟩ := hr_25
          have hn25 : (i26 27).toInt = (i1 27).toInt + 1 := hn25
          have hr25 : r26 21 = upd (r1 21) (i1 27).toInt.toNat x25 := hr25
          have e23_25 : i26 23 = i1 23 := hE1 23 (by decide)
          have e28_25 : i26 28 = i1 28 := hE1 28 (by decide)
          have e33_25 : r26 22 = r1 22 := hE2 22 (by decide)
          have hx25 : x25.toInt = 1048576 * r_23.toInt + 0 := hx25
          refine lv_aload_n hx hb dX12_closesSums_46 rfl (lv_at hl 0 rfl) ?_
          refine lv_aload_n hx hb dX12_closesSums_47 rfl (lv_at hl 0 rfl) ?_
          refine va_get (D := D) (ci := 12) (v := .int (i26 28)) (C := RX12) (T := TX12) (N := 91) hx hb hT iX12 hown hK hP 0 rfl rfl 28 (by decide) (hT _ t_849) (fun _ h9 => h9) rfl dX12_closesSums_48 ?_
          have hg_27 : 0 ≤ (i26 28).toInt ∧ (i26 28).toInt ≤ 220 := hRi 28
          have h28e : (i26 28).toInt = (i1 28).toInt := congrArg Int32.toInt e28_25
          have hne9 := topv_ne (i := i1) (r := r1) (by omega)
          refine lv_iconst (v := 1) hx hb dX12_closesSums_51 (by decide) ?_
          refine lv_isub hx hb dX12_closesSums_52 ?_
          refine lv_topi (fun v_28 ev_28 => ?_)
          have hv_28 : v_28.toInt = (i26 28).toInt - 1 := by rw [ev_28]; have := b_rg (i26 28); exact i_sub (a := (i26 28).toInt) (b := 1) rfl rfl (by omega) (by omega)
          refine va_put (D := D) (ci := 12) (v := .int v_28) (ty := .int) (C := RX12) (T := TX12) (N := 91) hx hb hT iX12 tyX12 tyX12_ok nmX12 hown hK hP hD hS 0 rfl rfl 28 (by decide) (hT _ t_849) (fun _ h9 => h9) rfl (by decide +kernel) rfl rfl (Nat.le_of_ble_eq_true rfl) dX12_closesSums_53 (fun H locs hP hD hS => ?_)
          rw [mP28] at hP hD
          have hRi := Ri_upd hRi 28 v_28 ⟨by show (0 : Int) ≤ v_28.toInt; omega, by show v_28.toInt ≤ (220 : Int); omega⟩
          have hEi := Ei_upd hEi 28 v_28 (by decide)
          refine lv_goto (tgt := 0) hx hb dX12_closesSums_56 (by decide) ?_
          have hmm28 : ((upd i26 28 v_28) 28).toInt = v_28.toInt := rfl
          have hne9 := topv_ne (i := i1) (r := r1) (by omega)
          exact ih1 (upd i26 28 v_28) r26 _ _ _ (by first | omega | (simp only [Int.toNat]; omega))  hRi hEi hRr hEr (CL_step hx1 (by omega) (by rw [hx25]; omega) (by show (i26 27).toInt = _; omega) (by show v_28.toInt = _; omega) e23_25 e33_25 hr25 (by omega) (by omega)) hP hD hS (lv_sub hl [0, 1] rfl)
        · have c_22 : 6 < r_21.toInt := b_nle c_22
          refine lv_iload_n hx hb dX12_closesSums_17 rfl (lv_at hl 1 rfl) ?_
          refine lv_if_eq (tgt := 59) hx hb dX12_closesSums_18 (by decide) (fun c_29 => ?_) (fun c_29 => ?_)
          · have c_29 : p0.toInt = 0 := b_eq c_29
            subst hQ
            have hq1 : ¬ (4 ≤ topv i1 r1 ∧ topv i1 r1 ≤ 6) := by omega
            have hq2 : p0.toInt ≠ 0 → ¬ (2 ≤ topv i1 r1 ∧ topv i1 r1 ≤ 6) := by omega
            exact W.vret hx hb hr (fun t ht hW => ⟨⟨(i1, r1), rfl, ⟨hRi, hRr, hEi, hEr, ⟨hx1, hq1, hq2⟩⟩, by rw [ht]; exact hP, va_K.moved hW.alike hK, hD⟩, hS.F ht⟩) hS.2.2 dX12_closesSums_59
          · have c_29 : p0.toInt ≠ 0 := b_ne c_29
            refine lv_aload_n hx hb dX12_closesSums_21 rfl (lv_at hl 0 rfl) ?_
            refine vp_callSi (W.runV (As := []) (rest := []) ⟨hx, hb, hml, hown, hT⟩ (c_X12_top l D cy a i1 r1 rl hRi hRr (SS_w hx1.1.1)) (cwV 0 hT (gV t_850 t_851 t_852 t_853 t_6) rfl rfl rfl (by decide +kernel) ⟨Nat.le_of_ble_eq_true rfl, Nat.le_of_ble_eq_true rfl⟩) (rP_v hP hK (va_recv hK hP (ci := 12) (q0 := 0) rfl rfl)) rfl rfl hl.1 rfl (lv_room (Nat.le_of_ble_eq_true rfl)) dX12_closesSums_22 ⟨Nat.le_of_ble_eq_true rfl, Nat.le_of_ble_eq_true rfl⟩) (fun r_30 hr_30 => ?_)
            have hr_30 : r_30.toInt = topv i1 r1 := hr_30
            refine lv_iconst (v := 2) hx hb dX12_closesSums_25 (by decide) ?_
            refine lv_icmp_eq (tgt := 37) hx hb dX12_closesSums_26 (by decide) (fun c_31 => ?_) (fun c_31 => ?_)
            · have c_31 : r_30.toInt = 2 := b_eq c_31
              refine lv_aload_n hx hb dX12_closesSums_37 rfl (lv_at hl 0 rfl) ?_
              refine lv_aload_n hx hb dX12_closesSums_38 rfl (lv_at hl 0 rfl) ?_
              refine vp_callSi (W.runV (As := []) (rest := [.ref (a 0)]) ⟨hx, hb, hml, hown, hT⟩ (c_X12_top l D cy a i1 r1 rl hRi hRr (SS_w hx1.1.1)) (cwV 0 hT (gV t_850 t_851 t_852 t_853 t_6) rfl rfl rfl (by decide +kernel) ⟨Nat.le_of_ble_eq_true rfl, Nat.le_of_ble_eq_true rfl⟩) (rP_v hP hK (va_recv hK hP (ci := 12) (q0 := 0) rfl rfl)) rfl rfl hl.1 rfl (lv_room (Nat.le_of_ble_eq_true rfl)) dX12_closesSums_39 ⟨Nat.le_of_ble_eq_true rfl, Nat.le_of_ble_eq_true rfl⟩) (fun r_32 hr_32 => ?_)
              have hr_32 : r_32.toInt = topv i1 r1 := hr_32
              refine lv_iconst (v := 0) hx hb dX12_closesSums_42 (by decide) ?_
              have hF_33 := rF hD hS hA
              refine va_callv (va_runV (As := [.int r_32, .int 0]) (rest := []) ⟨hx, hb, hml, hown, hT⟩ (c_X12_notes l D cy a i1 r1 rl r_32 0 _ hRi hRr (by first | omega | decide) (by first | omega | decide) (by show (i1 27).toInt < 220; omega)) (cwV 2 hT (gV t_854 t_855 t_856 t_857 t_6) rfl rfl rfl (by decide +kernel) ⟨Nat.le_of_ble_eq_true rfl, Nat.le_of_ble_eq_true rfl⟩) (rQ_v hP hK hD (va_recv hK hP (ci := 12) (q0 := 0) rfl rfl)) rfl rfl hl.1 rfl (lv_room (Nat.le_of_ble_eq_true rfl)) dX12_closesSums_43 ⟨Nat.le_of_ble_eq_true rfl, Nat.le_of_ble_eq_true rfl⟩) hS (fun q _ h => hF_33 q h) hF_33 (fun u_35 t H1 locs ht hvm hr_34 hB hz1 hk1 hS => ?_)
              obtain ⟨i35, r35⟩ := u_35
              obtain ⟨hP, hK1, hD1⟩ := hB
              rw [ht] at hP
              have hD := hD1.weaken (fun k q _ h => hF_33 q.1 h)
              have hP : va_P D vwCl (mW cy a i35 r35 rl) H1 := hP
              have hD : va_D A (mW cy a i35 r35 rl) := hD
              obtain ⟨hRi, hRr, hE1, hE2, hr_34⟩ := hr_34
              have hRi : mRi i35 := hRi
              have hRr : mRr r35 := hRr
              have hEi : mEi [27, 28] _ i35 := Ei_tr hEi hE1 (by decide)
              have hEr : mEr [21] _ r35 := Er_tr hEr hE2 (by decide)
              obtain ⟨hn34, x34, hx34, hr34⟩ := hr_34
              have hn34 : (i35 27).toInt = (i1 27).toInt + 1 := hn34
              have hr34 : r35 21 = upd (r1 21) (i1 27).toInt.toNat x34 := hr34
              have e23_34 : i35 23 = i1 23 := hE1 23 (by decide)
              have e28_34 : i35 28 = i1 28 := hE1 28 (by decide)
              have e33_34 : r35 22 = r1 22 := hE2 22 (by decide)
              have hx34 : x34.toInt = 1048576 * r_32.toInt + 0 := hx34
              refine lv_aload_n hx hb dX12_closesSums_46 rfl (lv_at hl 0 rfl) ?_
              refine lv_aload_n hx hb dX12_closesSums_47 rfl (lv_at hl 0 rfl) ?_
              refine va_get (D := D) (ci := 12) (v := .int (i35 28)) (C := RX12) (T := TX12) (N := 91) hx hb hT iX12 hown hK hP 0 rfl rfl 28 (by decide) (hT _ t_849) (fun _ h9 => h9) rfl dX12_closesSums_48 ?_
              have hg_36 : 0 ≤ (i35 28).toInt ∧ (i35 28).toInt ≤ 220 := hRi 28
              have h28e : (i35 28).toInt = (i1 28).toInt := congrArg Int32.toInt e28_34
              have hne9 := topv_ne (i := i1) (r := r1) (by omega)
              refine lv_iconst (v := 1) hx hb dX12_closesSums_51 (by decide) ?_
              refine lv_isub hx hb dX12_closesSums_52 ?_
              refine lv_topi (fun v_37 ev_37 => ?_)
              have hv_37 : v_37.toInt = (i35 28).toInt - 1 := by rw [ev_37]; have := b_rg (i35 28); exact i_sub (a := (i35 28).toInt) (b := 1) rfl rfl (by omega) (by omega)
              refine va_put (D := D) (ci := 12) (v := .int v_37) (ty := .int) (C := RX12) (T := TX12) (N := 91) hx hb hT iX12 tyX12 tyX12_ok nmX12 hown hK hP hD hS 0 rfl rfl 28 (by decide) (hT _ t_849) (fun _ h9 => h9) rfl (by decide +kernel) rfl rfl (Nat.le_of_ble_eq_true rfl) dX12_closesSums_53 (fun H locs hP hD hS => ?_)
              rw [mP28] at hP hD
              have hRi := Ri_upd hRi 28 v_37 ⟨by show (0 : Int) ≤ v_37.toInt; omega, by show v_37.toInt ≤ (220 : Int); omega⟩
              have hEi := Ei_upd hEi 28 v_37 (by decide)
              refine lv_goto (tgt := 0) hx hb dX12_closesSums_56 (by decide) ?_
              have hmm28 : ((upd i35 28 v_37) 28).toInt = v_37.toInt := rfl
              have hne9 := topv_ne (i := i1) (r := r1) (by omega)
              exact ih1 (upd i35 28 v_37) r35 _ _ _ (by first | omega | (simp only [Int.toNat]; omega))  hRi hEi hRr hEr (CL_step hx1 (by omega) (by rw [hx34]; omega) (by show (i35 27).toInt = _; omega) (by show v_37.toInt = _; omega) e23_34 e33_34 hr34 (by omega) (by omega)) hP hD hS (lv_sub hl [0, 1] rfl)
            · have c_31 : r_30.toInt ≠ 2 := b_ne c_31
              refine lv_aload_n hx hb dX12_closesSums_29 rfl (lv_at hl 0 rfl) ?_
              refine vp_callSi (W.runV (As := []) (rest := []) ⟨hx, hb, hml, hown, hT⟩ (c_X12_top l D cy a i1 r1 rl hRi hRr (SS_w hx1.1.1)) (cwV 0 hT (gV t_850 t_851 t_852 t_853 t_6) rfl rfl rfl (by decide +kernel) ⟨Nat.le_of_ble_eq_true rfl, Nat.le_of_ble_eq_true rfl⟩) (rP_v hP hK (va_recv hK hP (ci := 12) (q0 := 0) rfl rfl)) rfl rfl hl.1 rfl (lv_room (Nat.le_of_ble_eq_true rfl)) dX12_closesSums_30 ⟨Nat.le_of_ble_eq_true rfl, Nat.le_of_ble_eq_true rfl⟩) (fun r_38 hr_38 => ?_)
              have hr_38 : r_38.toInt = topv i1 r1 := hr_38
              refine lv_iconst (v := 3) hx hb dX12_closesSums_33 (by decide) ?_
              refine lv_icmp_ne (tgt := 59) hx hb dX12_closesSums_34 (by decide) (fun c_39 => ?_) (fun c_39 => ?_)
              · have c_39 : r_38.toInt ≠ 3 := b_ne c_39
                subst hQ
                have hq1 : ¬ (4 ≤ topv i1 r1 ∧ topv i1 r1 ≤ 6) := by omega
                have hq2 : p0.toInt ≠ 0 → ¬ (2 ≤ topv i1 r1 ∧ topv i1 r1 ≤ 6) := by omega
                exact W.vret hx hb hr (fun t ht hW => ⟨⟨(i1, r1), rfl, ⟨hRi, hRr, hEi, hEr, ⟨hx1, hq1, hq2⟩⟩, by rw [ht]; exact hP, va_K.moved hW.alike hK, hD⟩, hS.F ht⟩) hS.2.2 dX12_closesSums_59
              · have c_39 : r_38.toInt = 3 := b_nne c_39
                refine lv_aload_n hx hb dX12_closesSums_37 rfl (lv_at hl 0 rfl) ?_
                refine lv_aload_n hx hb dX12_closesSums_38 rfl (lv_at hl 0 rfl) ?_
                refine vp_callSi (W.runV (As := []) (rest := [.ref (a 0)]) ⟨hx, hb, hml, hown, hT⟩ (c_X12_top l D cy a i1 r1 rl hRi hRr (SS_w hx1.1.1)) (cwV 0 hT (gV t_850 t_851 t_852 t_853 t_6) rfl rfl rfl (by decide +kernel) ⟨Nat.le_of_ble_eq_true rfl, Nat.le_of_ble_eq_true rfl⟩) (rP_v hP hK (va_recv hK hP (ci := 12) (q0 := 0) rfl rfl)) rfl rfl hl.1 rfl (lv_room (Nat.le_of_ble_eq_true rfl)) dX12_closesSums_39 ⟨Nat.le_of_ble_eq_true rfl, Nat.le_of_ble_eq_true rfl⟩) (fun r_40 hr_40 => ?_)
                have hr_40 : r_40.toInt = topv i1 r1 := hr_40
                refine lv_iconst (v := 0) hx hb dX12_closesSums_42 (by decide) ?_
                have hF_41 := rF hD hS hA
                refine va_callv (va_runV (As := [.int r_40, .int 0]) (rest := []) ⟨hx, hb, hml, hown, hT⟩ (c_X12_notes l D cy a i1 r1 rl r_40 0 _ hRi hRr (by first | omega | decide) (by first | omega | decide) (by show (i1 27).toInt < 220; omega)) (cwV 2 hT (gV t_854 t_855 t_856 t_857 t_6) rfl rfl rfl (by decide +kernel) ⟨Nat.le_of_ble_eq_true rfl, Nat.le_of_ble_eq_true rfl⟩) (rQ_v hP hK hD (va_recv hK hP (ci := 12) (q0 := 0) rfl rfl)) rfl rfl hl.1 rfl (lv_room (Nat.le_of_ble_eq_true rfl)) dX12_closesSums_43 ⟨Nat.le_of_ble_eq_true rfl, Nat.le_of_ble_eq_true rfl⟩) hS (fun q _ h => hF_41 q h) hF_41 (fun u_43 t H1 locs ht hvm hr_42 hB hz1 hk1 hS => ?_)
                obtain ⟨i43, r43⟩ := u_43
                obtain ⟨hP, hK1, hD1⟩ := hB
                rw [ht] at hP
                have hD := hD1.weaken (fun k q _ h => hF_41 q.1 h)
                have hP : va_P D vwCl (mW cy a i43 r43 rl) H1 := hP
                have hD : va_D A (mW cy a i43 r43 rl) := hD
                obtain ⟨hRi, hRr, hE1, hE2, hr_42⟩ := hr_42
                have hRi : mRi i43 := hRi
                have hRr : mRr r43 := hRr
                have hEi : mEi [27, 28] _ i43 := Ei_tr hEi hE1 (by decide)
                have hEr : mEr [21] _ r43 := Er_tr hEr hE2 (by decide)
                obtain ⟨hn42, x42, hx42, hr42⟩ := hr_42
                have hn42 : (i43 27).toInt = (i1 27).toInt + 1 := hn42
                have hr42 : r43 21 = upd (r1 21) (i1 27).toInt.toNat x42 := hr42
                have e23_42 : i43 23 = i1 23 := hE1 23 (by decide)
                have e28_42 : i43 28 = i1 28 := hE1 28 (by decide)
                have e33_42 : r43 22 = r1 22 := hE2 22 (by decide)
                have hx42 : x42.toInt = 1048576 * r_40.toInt + 0 := hx42
                refine lv_aload_n hx hb dX12_closesSums_46 rfl (lv_at hl 0 rfl) ?_
                refine lv_aload_n hx hb dX12_closesSums_47 rfl (lv_at hl 0 rfl) ?_
                refine va_get (D := D) (ci := 12) (v := .int (i43 28)) (C := RX12) (T := TX12) (N := 91) hx hb hT iX12 hown hK hP 0 rfl rfl 28 (by decide) (hT _ t_849) (fun _ h9 => h9) rfl dX12_closesSums_48 ?_
                have hg_44 : 0 ≤ (i43 28).toInt ∧ (i43 28).toInt ≤ 220 := hRi 28
                have h28e : (i43 28).toInt = (i1 28).toInt := congrArg Int32.toInt e28_42
                have hne9 := topv_ne (i := i1) (r := r1) (by omega)
                refine lv_iconst (v := 1) hx hb dX12_closesSums_51 (by decide) ?_
                refine lv_isub hx hb dX12_closesSums_52 ?_
                refine lv_topi (fun v_45 ev_45 => ?_)
                have hv_45 : v_45.toInt = (i43 28).toInt - 1 := by rw [ev_45]; have := b_rg (i43 28); exact i_sub (a := (i43 28).toInt) (b := 1) rfl rfl (by omega) (by omega)
                refine va_put (D := D) (ci := 12) (v := .int v_45) (ty := .int) (C := RX12) (T := TX12) (N := 91) hx hb hT iX12 tyX12 tyX12_ok nmX12 hown hK hP hD hS 0 rfl rfl 28 (by decide) (hT _ t_849) (fun _ h9 => h9) rfl (by decide +kernel) rfl rfl (Nat.le_of_ble_eq_true rfl) dX12_closesSums_53 (fun H locs hP hD hS => ?_)
                rw [mP28] at hP hD
                have hRi := Ri_upd hRi 28 v_45 ⟨by show (0 : Int) ≤ v_45.toInt; omega, by show v_45.toInt ≤ (220 : Int); omega⟩
                have hEi := Ei_upd hEi 28 v_45 (by decide)
                refine lv_goto (tgt := 0) hx hb dX12_closesSums_56 (by decide) ?_
                have hmm28 : ((upd i43 28 v_45) 28).toInt = v_45.toInt := rfl
                have hne9 := topv_ne (i := i1) (r := r1) (by omega)
                exact ih1 (upd i43 28 v_45) r43 _ _ _ (by first | omega | (simp only [Int.toNat]; omega))  hRi hEi hRr hEr (CL_step hx1 (by omega) (by rw [hx42]; omega) (by show (i43 27).toInt = _; omega) (by show v_45.toInt = _; omega) e23_42 e33_42 hr42 (by omega) (by omega)) hP hD hS (lv_sub hl [0, 1] rfl)
  exact loop_1 _ i r _ _ _ (Nat.lt_succ_self _)  hRi hEi hRr hEr ⟨hU, Int.le_refl _, fun j h1 h2 => by omega, low_rf, rfl⟩ hP hD hS hl
set_option maxHeartbeats 4000000 in
set_option maxRecDepth 100000 in
theorem c_X12_endsPiece (l : Launch) (D : va_G) (cy : Nat → ClassId) (a : Nat → Nat) (i : Nat → Int32) (r : Nat → Nat → Int32) (rl : Nat → Int64) (sz : Nat) (hRi : mRi i) (hRr : mRr r) (f9 s9 : Nat) (hZ : SS f9 1 s9 i r) : Met l yX12_endsPiece (Cond.code yX12_endsPiece cX12_endsPiece 1 none :: gT) { frames := 2, cells := 0, slots := 0, locals := 46 } (va_Pc [.ref (a 0)] (rQ D cy (mW cy a i r rl) sz)) (va_Qv (fun u : (Nat → Int32) × (Nat → Nat → Int32) => mRi u.1 ∧ mRr u.2 ∧ mEi [26, 27, 28] i u.1 ∧ mEr [21] r u.2 ∧ (EP f9 s9 i r u.1 u.2)) (fun (u : (Nat → Int32) × (Nat → Nat → Int32)) t => va_P D vwCl (mW cy a u.1 u.2 rl) t.heap ∧ va_K D vwCl (vT cy) t ∧ va_D (va_A (mW cy a i r rl) sz) (mW cy a u.1 u.2 rl)) (va_A (mW cy a i r rl) sz)) 0 0 (va_A (mW cy a i r rl) sz) := by
  refine Met.ofQ (cc := cX12_endsPiece) (maxL := 1) (ret := none) (by decide) rfl ?_
  intro p e s m args below meth c s₁ B hml hv Q hQ
  obtain ⟨rfl, hsz, hP, hK, hD0⟩ := hv
  have hx := B.exec
  have hb := B.bytes
  have hr := B.returns
  have hlocks := B.notSynchronized
  have hT : ∀ w ∈ gT, w.before _ s = true := fun w h => atoms_spec (ws := (Cond.code yX12_endsPiece cX12_endsPiece 1 none :: gT)) B.pre w (List.mem_cons_of_mem _ h)
  have hown : s.vm.findClass RX12 = some m.cls := findClass_of_methodNamed B.named
  subst hsz
  have hD := hD0.self (sz := s.heap.size)
  generalize hAe : va_A (mW cy a i r rl) s.heap.size = A at hD hQ
  have hA : ∀ q : Nat, s.heap.size ≤ q → A q := fun q h => by rw [← hAe]; exact Or.inr h
  have hS : va_S A s.heap s.heap [] := va_S.rf
  have hl := lv_entry ([.ref (a 0)]) (n := 1) (Nat.le_of_ble_eq_true rfl)
  rw [lg_entry_eq]
  generalize (lg_sl ([.ref (a 0)]) ++ List.replicate (1 - (lg_sl ([.ref (a 0)])).length) Slot.unset).toArray = ls at hl ⊢
  have hl : lv_has ls 1 [(0, .ref (a 0))] := hl
  have hEi : mEi [26, 27, 28] i i := Ei_rf
  have hEr : mEr [21] r r := Er_rf
  have loop_1 : ∀ (n : Nat) (i1 : Nat → Int32) (r1 : Nat → Nat → Int32) (H : Heap) (locs : List Loc) (ls : Array Slot), ((i1 28).toInt).toNat < n → mRi i1 → mEi [26, 27, 28] i i1 → mRr r1 → mEr [21] r r1 → (EP f9 s9 i r i1 r1) → va_P D vwCl (mW cy a i1 r1 rl) H → va_D A (mW cy a i1 r1 rl) → va_S A s.heap H locs → lv_has ls 1 [(0, .ref (a 0))] → W p l e ({ frames := 2, cells := 0, slots := 0, locals := 46 } : Room) s m ([.ref (a 0)] : List Value).toArray below meth c H locs 0 0 Q (F0 m 0 ls []) := by
    intro n
    induction n with
    | zero =>
      intro i1 r1 H locs ls hm1 hRi hEi hRr hEr hx1 hP hD hS hl
      exact absurd hm1 (by omega)
    | succ n ih1 =>
      intro i1 r1 H locs ls hm1 hRi hEi hRr hEr hx1 hP hD hS hl
      refine lv_aload_n hx hb dX12_endsPiece_0 rfl (lv_at hl 0 rfl) ?_
      have hg23 : 0 ≤ (i1 23).toInt ∧ (i1 23).toInt ≤ 200 := hRi 23
      have hg27 : 0 ≤ (i1 27).toInt ∧ (i1 27).toInt ≤ 220 := hRi 27
      have hg28 : 0 ≤ (i1 28).toInt ∧ (i1 28).toInt ≤ 220 := hRi 28
      have hss := SS_n hx1.1
      have hb27 : (i1 27).toInt ≤ 200 := by omega
      have hb28 : (i1 28).toInt ≤ 200 := by omega
      refine vp_callSi (W.runV (As := []) (rest := []) ⟨hx, hb, hml, hown, hT⟩ (c_X12_top l D cy a i1 r1 rl hRi hRr (SS_w hx1.1)) (cwV 0 hT (gV t_850 t_851 t_852 t_853 t_6) rfl rfl rfl (by decide +kernel) ⟨Nat.le_of_ble_eq_true rfl, Nat.le_of_ble_eq_true rfl⟩) (rP_v hP hK (va_recv hK hP (ci := 12) (q0 := 0) rfl rfl)) rfl rfl hl.1 rfl (lv_room (Nat.le_of_ble_eq_true rfl)) dX12_endsPiece_1 ⟨Nat.le_of_ble_eq_true rfl, Nat.le_of_ble_eq_true rfl⟩) (fun r_2 hr_2 => ?_)
      have hr_2 : r_2.toInt = topv i1 r1 := hr_2
      refine lv_bipush (v := 10) hx hb dX12_endsPiece_4 (by decide) ?_
      refine lv_icmp_ne (tgt := 39) hx hb dX12_endsPiece_6 (by decide) (fun c_3 => ?_) (fun c_3 => ?_)
      · have c_3 : r_2.toInt ≠ 10 := b_ne c_3
        subst hQ
        exact W.vret hx hb hr (fun t ht hW => ⟨⟨(i1, r1), rfl, ⟨hRi, hRr, hEi, hEr, hx1⟩, by rw [ht]; exact hP, va_K.moved hW.alike hK, hD⟩, hS.F ht⟩) hS.2.2 dX12_endsPiece_39
      · have c_3 : r_2.toInt = 10 := b_nne c_3
        refine lv_aload_n hx hb dX12_endsPiece_9 rfl (lv_at hl 0 rfl) ?_
        refine lv_bipush (v := 10) hx hb dX12_endsPiece_10 (by decide) ?_
        refine lv_iconst (v := 0) hx hb dX12_endsPiece_12 (by decide) ?_
        have hF_4 := rF hD hS hA
        refine va_callv (va_runV (As := [.int 10, .int 0]) (rest := []) ⟨hx, hb, hml, hown, hT⟩ (c_X12_notes l D cy a i1 r1 rl 10 0 _ hRi hRr (by first | omega | decide) (by first | omega | decide) (by show (i1 27).toInt < 220; omega)) (cwV 2 hT (gV t_854 t_855 t_856 t_857 t_6) rfl rfl rfl (by decide +kernel) ⟨Nat.le_of_ble_eq_true rfl, Nat.le_of_ble_eq_true rfl⟩) (rQ_v hP hK hD (va_recv hK hP (ci := 12) (q0 := 0) rfl rfl)) rfl rfl hl.1 rfl (lv_room (Nat.le_of_ble_eq_true rfl)) dX12_endsPiece_13 ⟨Nat.le_of_ble_eq_true rfl, Nat.le_of_ble_eq_true rfl⟩) hS (fun q _ h => hF_4 q h) hF_4 (fun u_6 t H1 locs ht hvm hr_5 hB hz1 hk1 hS => ?_)
        obtain ⟨i6, r6⟩ := u_6
        obtain ⟨hP, hK1, hD1⟩ := hB
        rw [ht] at hP
        have hD := hD1.weaken (fun k q _ h => hF_4 q.1 h)
        have hP : va_P D vwCl (mW cy a i6 r6 rl) H1 := hP
        have hD : va_D A (mW cy a i6 r6 rl) := hD
        obtain ⟨hRi, hRr, hE1, hE2, hr_5⟩ := hr_5
        have hRi : mRi i6 := hRi
        have hRr : mRr r6 := hRr
        have hEi : mEi [26, 27, 28] _ i6 := Ei_tr hEi hE1 (by decide)
        have hEr : mEr [21] _ r6 := Er_tr hEr hE2 (by decide)
        obtain ⟨hn5, x5, hx5, hr5⟩ := hr_5
        have hn5 : (i6 27).toInt = (i1 27).toInt + 1 := hn5
        have hr5 : r6 21 = upd (r1 21) (i1 27).toInt.toNat x5 := hr5
        have e23_5 : i6 23 = i1 23 := hE1 23 (by decide)
        have e28_5 : i6 28 = i1 28 := hE1 28 (by decide)
        have e33_5 : r6 22 = r1 22 := hE2 22 (by decide)
        have hx5 : x5.toInt = 1048576 * 10 + 0 := hx5
        refine lv_aload_n hx hb dX12_endsPiece_16 rfl (lv_at hl 0 rfl) ?_
        refine lv_aload_n hx hb dX12_endsPiece_17 rfl (lv_at hl 0 rfl) ?_
        refine va_get (D := D) (ci := 12) (v := .int (i6 28)) (C := RX12) (T := TX12) (N := 91) hx hb hT iX12 hown hK hP 0 rfl rfl 28 (by decide) (hT _ t_849) (fun _ h9 => h9) rfl dX12_endsPiece_18 ?_
        have hg_7 : 0 ≤ (i6 28).toInt ∧ (i6 28).toInt ≤ 220 := hRi 28
        have h28e : (i6 28).toInt = (i1 28).toInt := congrArg Int32.toInt e28_5
        have hne9 := topv_ne (i := i1) (r := r1) (by omega)
        refine lv_iconst (v := 1) hx hb dX12_endsPiece_21 (by decide) ?_
        refine lv_isub hx hb dX12_endsPiece_22 ?_
        refine lv_topi (fun v_8 ev_8 => ?_)
        have hv_8 : v_8.toInt = (i6 28).toInt - 1 := by rw [ev_8]; have := b_rg (i6 28); exact i_sub (a := (i6 28).toInt) (b := 1) rfl rfl (by omega) (by omega)
        refine va_put (D := D) (ci := 12) (v := .int v_8) (ty := .int) (C := RX12) (T := TX12) (N := 91) hx hb hT iX12 tyX12 tyX12_ok nmX12 hown hK hP hD hS 0 rfl rfl 28 (by decide) (hT _ t_849) (fun _ h9 => h9) rfl (by decide +kernel) rfl rfl (Nat.le_of_ble_eq_true rfl) dX12_endsPiece_23 (fun H locs hP hD hS => ?_)
        rw [mP28] at hP hD
        have hRi := Ri_upd hRi 28 v_8 ⟨by show (0 : Int) ≤ v_8.toInt; omega, by show v_8.toInt ≤ (220 : Int); omega⟩
        have hEi := Ei_upd hEi 28 v_8 (by decide)
        refine lv_aload_n hx hb dX12_endsPiece_26 rfl (lv_at hl 0 rfl) ?_
        refine lv_aload_n hx hb dX12_endsPiece_27 rfl (lv_at hl 0 rfl) ?_
        refine va_get (D := D) (ci := 12) (v := .int (i6 26)) (C := RX12) (T := TX12) (N := 91) hx hb hT iX12 hown hK hP 0 rfl rfl 26 (by decide) (hT _ t_848) (fun _ h9 => h9) rfl dX12_endsPiece_28 ?_
        refine lv_iconst (v := 1) hx hb dX12_endsPiece_31 (by decide) ?_
        refine lv_isub hx hb dX12_endsPiece_32 ?_
        refine lv_topi (fun v_9 ev_9 => ?_)
        refine va_put (D := D) (ci := 12) (v := .int v_9) (ty := .int) (C := RX12) (T := TX12) (N := 91) hx hb hT iX12 tyX12 tyX12_ok nmX12 hown hK hP hD hS 0 rfl rfl 26 (by decide) (hT _ t_848) (fun _ h9 => h9) rfl (by decide +kernel) rfl rfl (Nat.le_of_ble_eq_true rfl) dX12_endsPiece_33 (fun H locs hP hD hS => ?_)
        rw [mP26] at hP hD
        have hRi := Ri_upd hRi 26 v_9 (b_rg _)
        have hEi := Ei_upd hEi 26 v_9 (by decide)
        refine lv_goto (tgt := 0) hx hb dX12_endsPiece_36 (by decide) ?_
        have hmm28 : ((upd (upd i6 28 v_8) 26 v_9) 28).toInt = v_8.toInt := rfl
        have hne9 := topv_ne (i := i1) (r := r1) (by omega)
        exact ih1 (upd (upd i6 28 v_8) 26 v_9) r6 _ _ _ (by first | omega | (simp only [Int.toNat]; omega))  hRi hEi hRr hEr (EP_step hx1 (by omega) hx5 (by show (i6 27).toInt = _; omega) (by show v_8.toInt = _; omega) e23_5 e33_5 hr5 (by omega) (by omega)) hP hD hS (lv_sub hl [0] rfl)
  exact loop_1 _ i r _ _ _ (Nat.lt_succ_self _)  hRi hEi hRr hEr ⟨hZ, Int.le_refl _, fun j h1 h2 => by omega, low_rf, rfl⟩ hP hD hS hl
set_option maxHeartbeats 4000000 in
set_option maxRecDepth 100000 in
theorem c_X12_lands (l : Launch) (D : va_G) (cy : Nat → ClassId) (a : Nat → Nat) (i : Nat → Int32) (r : Nat → Nat → Int32) (rl : Nat → Int64) (p0 : Int32) (sz : Nat) (hRi : mRi i) (hRr : mRr r) (f9 s9 : Nat) (hZ : SS f9 1 s9 i r) : Met l yX12_lands (Cond.code yX12_lands cX12_lands 3 none :: gT) { frames := 2, cells := 0, slots := 0, locals := 44 } (va_Pc [.ref (a 0), .int p0] (rQ D cy (mW cy a i r rl) sz)) (va_Qv (fun u : (Nat → Int32) × (Nat → Nat → Int32) => mRi u.1 ∧ mRr u.2 ∧ mEi [28] i u.1 ∧ mEr [21] r u.2 ∧ (LD f9 s9 i r u.1 u.2 ∧ (p0.toInt ≠ 0 → topv u.1 u.2 ≠ 11 ∧ topv u.1 u.2 ≠ 12))) (fun (u : (Nat → Int32) × (Nat → Nat → Int32)) t => va_P D vwCl (mW cy a u.1 u.2 rl) t.heap ∧ va_K D vwCl (vT cy) t ∧ va_D (va_A (mW cy a i r rl) sz) (mW cy a u.1 u.2 rl)) (va_A (mW cy a i r rl) sz)) 0 0 (va_A (mW cy a i r rl) sz) := by
  refine Met.ofQ (cc := cX12_lands) (maxL := 3) (ret := none) (by decide) rfl ?_
  intro p e s m args below meth c s₁ B hml hv Q hQ
  obtain ⟨rfl, hsz, hP, hK, hD0⟩ := hv
  have hx := B.exec
  have hb := B.bytes
  have hr := B.returns
  have hlocks := B.notSynchronized
  have hT : ∀ w ∈ gT, w.before _ s = true := fun w h => atoms_spec (ws := (Cond.code yX12_lands cX12_lands 3 none :: gT)) B.pre w (List.mem_cons_of_mem _ h)
  have hown : s.vm.findClass RX12 = some m.cls := findClass_of_methodNamed B.named
  subst hsz
  have hD := hD0.self (sz := s.heap.size)
  generalize hAe : va_A (mW cy a i r rl) s.heap.size = A at hD hQ
  have hA : ∀ q : Nat, s.heap.size ≤ q → A q := fun q h => by rw [← hAe]; exact Or.inr h
  have hS : va_S A s.heap s.heap [] := va_S.rf
  have hl := lv_entry ([.ref (a 0), .int p0]) (n := 3) (Nat.le_of_ble_eq_true rfl)
  rw [lg_entry_eq]
  generalize (lg_sl ([.ref (a 0), .int p0]) ++ List.replicate (3 - (lg_sl ([.ref (a 0), .int p0])).length) Slot.unset).toArray = ls at hl ⊢
  have hl : lv_has ls 3 [(0, .ref (a 0)), (1, .int p0)] := hl
  have hEi : mEi [28] i i := Ei_rf
  have hEr : mEr [21] r r := Er_rf
  have loop_1 : ∀ (n : Nat) (i1 : Nat → Int32) (r1 : Nat → Nat → Int32) (H : Heap) (locs : List Loc) (ls : Array Slot), ((i1 28).toInt).toNat < n → mRi i1 → mEi [28] i i1 → mRr r1 → mEr [21] r r1 → (LD f9 s9 i r i1 r1) → va_P D vwCl (mW cy a i1 r1 rl) H → va_D A (mW cy a i1 r1 rl) → va_S A s.heap H locs → lv_has ls 3 [(0, .ref (a 0)), (1, .int p0)] → W p l e ({ frames := 2, cells := 0, slots := 0, locals := 44 } : Room) s m ([.ref (a 0), .int p0] : List Value).toArray below meth c H locs 0 0 Q (F0 m 0 ls []) := by
    intro n
    induction n with
    | zero =>
      intro i1 r1 H locs ls hm1 hRi hEi hRr hEr hx1 hP hD hS hl
      exact absurd hm1 (by omega)
    | succ n ih1 =>
      intro i1 r1 H locs ls hm1 hRi hEi hRr hEr hx1 hP hD hS hl
      refine lv_aload_n hx hb dX12_lands_0 rfl (lv_at hl 0 rfl) ?_
      have hg23 : 0 ≤ (i1 23).toInt ∧ (i1 23).toInt ≤ 200 := hRi 23
      have hg27 : 0 ≤ (i1 27).toInt ∧ (i1 27).toInt ≤ 220 := hRi 27
      have hg28 : 0 ≤ (i1 28).toInt ∧ (i1 28).toInt ≤ 220 := hRi 28
      have hss := SS_n hx1.1
      have hb27 : (i1 27).toInt ≤ 200 := by omega
      have hb28 : (i1 28).toInt ≤ 200 := by omega
      refine vp_callSi (W.runV (As := []) (rest := []) ⟨hx, hb, hml, hown, hT⟩ (c_X12_top l D cy a i1 r1 rl hRi hRr (SS_w hx1.1)) (cwV 0 hT (gV t_850 t_851 t_852 t_853 t_6) rfl rfl rfl (by decide +kernel) ⟨Nat.le_of_ble_eq_true rfl, Nat.le_of_ble_eq_true rfl⟩) (rP_v hP hK (va_recv hK hP (ci := 12) (q0 := 0) rfl rfl)) rfl rfl hl.1 rfl (lv_room (Nat.le_of_ble_eq_true rfl)) dX12_lands_1 ⟨Nat.le_of_ble_eq_true rfl, Nat.le_of_ble_eq_true rfl⟩) (fun r_2 hr_2 => ?_)
      have hr_2 : r_2.toInt = topv i1 r1 := hr_2
      refine lv_bipush (v := 11) hx hb dX12_lands_4 (by decide) ?_
      refine lv_icmp_eq (tgt := 22) hx hb dX12_lands_6 (by decide) (fun c_3 => ?_) (fun c_3 => ?_)
      · have c_3 : r_2.toInt = 11 := b_eq c_3
        refine lv_aload_n hx hb dX12_lands_22 rfl (lv_at hl 0 rfl) ?_
        obtain ⟨v9, hv1, hv2, hv3, hv4, hv5, hv6, hv7⟩ := LD_get hx1 (by omega) (by omega)
        refine va_get (D := D) (ci := 12) (v := .ref (a 22)) (C := RX12) (T := TX12) (N := 91) hx hb hT iX12 hown hK hP 0 rfl rfl 33 (by decide) (hT _ t_789) (fun _ h9 => h9) rfl dX12_lands_23 ?_
        refine lv_aload_n hx hb dX12_lands_26 rfl (lv_at hl 0 rfl) ?_
        refine va_get (D := D) (ci := 12) (v := .int (i1 28)) (C := RX12) (T := TX12) (N := 91) hx hb hT iX12 hown hK hP 0 rfl rfl 28 (by decide) (hT _ t_849) (fun _ h9 => h9) rfl dX12_lands_27 ?_
        have hg_4 : 0 ≤ (i1 28).toInt ∧ (i1 28).toInt ≤ 220 := hRi 28
        refine lv_iconst (v := 1) hx hb dX12_lands_30 (by decide) ?_
        refine lv_isub hx hb dX12_lands_31 ?_
        refine lv_topi (fun v_5 ev_5 => ?_)
        have hv_5 : v_5.toInt = (i1 28).toInt - 1 := by rw [ev_5]; have := b_rg (i1 28); exact i_sub (a := (i1 28).toInt) (b := 1) rfl rfl (by omega) (by omega)
        refine va_iald hx hb hK hP 22 0 rfl rfl (vp_inI (by omega) (by omega)) dX12_lands_32 ?_
        refine lv_topi (fun v_6 ev_6 => ?_)
        refine lv_ldcw (v := 1048576) hx hb hown (hT _ t_84) dX12_lands_33 ?_
        refine lv_irem hx hb dX12_lands_36 (by decide) ?_
        refine lv_topi (fun v_7 ev_7 => ?_)
        have hix : v_5.toNatClampNeg = (i1 28).toInt.toNat - 1 := by show v_5.toInt.toNat = _; omega
        have hfr : v_7.toInt = (v9 : Int) := by rw [ev_7, ev_6, hix]; exact (iremU hv5).trans hv1
        have hfc : v_7.toNatClampNeg = v9 := by show v_7.toInt.toNat = _; omega
        refine lv_istore_n (lv' := [(2, .int v_7), (0, .ref (a 0)), (1, .int p0)]) hx hb dX12_lands_37 rfl hl (by decide) rfl (fun ls hl => ?_)
        refine lv_aload_n hx hb dX12_lands_38 rfl (lv_at hl 1 rfl) ?_
        refine va_get (D := D) (ci := 12) (v := .ref (a 21)) (C := RX12) (T := TX12) (N := 91) hx hb hT iX12 hown hK hP 0 rfl rfl 32 (by decide) (hT _ t_788) (fun _ h9 => h9) rfl dX12_lands_39 ?_
        refine lv_iload_n hx hb dX12_lands_42 rfl (lv_at hl 0 rfl) ?_
        refine lv_ldcw (v := 1048576) hx hb hown (hT _ t_84) dX12_lands_43 ?_
        refine lv_aload_n hx hb dX12_lands_46 rfl (lv_at hl 1 rfl) ?_
        refine va_get (D := D) (ci := 12) (v := .ref (a 21)) (C := RX12) (T := TX12) (N := 91) hx hb hT iX12 hown hK hP 0 rfl rfl 32 (by decide) (hT _ t_788) (fun _ h9 => h9) rfl dX12_lands_47 ?_
        refine lv_iload_n hx hb dX12_lands_50 rfl (lv_at hl 0 rfl) ?_
        refine va_iald hx hb hK hP 21 0 rfl rfl (vp_inI (by omega) (by omega)) dX12_lands_51 ?_
        refine lv_topi (fun v_8 ev_8 => ?_)
        refine lv_ldcw (v := 1048576) hx hb hown (hT _ t_84) dX12_lands_52 ?_
        refine lv_idiv hx hb dX12_lands_55 (by decide) ?_
        refine lv_topi (fun v_9 ev_9 => ?_)
        have hop9 : v_9.toInt = cOp (r1 21 v9) := by rw [ev_9, ev_8, hfc]; exact idivU hv3
        have hop8 : 11 ≤ v_9.toInt ∧ v_9.toInt ≤ 12 := by omega
        refine lv_imul hx hb dX12_lands_56 ?_
        refine lv_topi (fun v_10 ev_10 => ?_)
        have hv_10 : v_10.toInt = 1048576 * v_9.toInt := by rw [ev_10]; have := b_rg v_9; exact i_mul (a := 1048576) (b := v_9.toInt) rfl rfl (by omega) (by omega)
        refine lv_aload_n hx hb dX12_lands_57 rfl (lv_at hl 1 rfl) ?_
        refine va_get (D := D) (ci := 12) (v := .int (i1 27)) (C := RX12) (T := TX12) (N := 91) hx hb hT iX12 hown hK hP 0 rfl rfl 27 (by decide) (hT _ t_847) (fun _ h9 => h9) rfl dX12_lands_58 ?_
        have hg_11 : 0 ≤ (i1 27).toInt ∧ (i1 27).toInt ≤ 220 := hRi 27
        refine lv_iadd hx hb dX12_lands_61 ?_
        refine lv_topi (fun v_12 ev_12 => ?_)
        have hv_12 : v_12.toInt = v_10.toInt + (i1 27).toInt := by rw [ev_12]; have := b_rg v_10; have := b_rg (i1 27); exact i_add (a := v_10.toInt) (b := (i1 27).toInt) rfl rfl (by omega) (by omega)
        refine va_iast hx hb hK hP hD hS 21 0 rfl rfl (vp_inI (by omega) (by omega)) dX12_lands_62 (fun H locs hP hD hS => ?_)
        rw [mS21] at hP hD
        have hRr : mRr (va_up r1 21 (upd (r1 21) v_7.toNatClampNeg v_12)) := Rr_upd hRr 21 (v_7.toNatClampNeg) v_12 (b_rg _)
        have hEr : mEr [21] _ (va_up r1 21 (upd (r1 21) v_7.toNatClampNeg v_12)) := Er_up hEr 21 _ (by decide)
        refine lv_aload_n hx hb dX12_lands_63 rfl (lv_at hl 1 rfl) ?_
        refine lv_aload_n hx hb dX12_lands_64 rfl (lv_at hl 1 rfl) ?_
        refine va_get (D := D) (ci := 12) (v := .int (i1 28)) (C := RX12) (T := TX12) (N := 91) hx hb hT iX12 hown hK hP 0 rfl rfl 28 (by decide) (hT _ t_849) (fun _ h9 => h9) rfl dX12_lands_65 ?_
        refine lv_iconst (v := 1) hx hb dX12_lands_68 (by decide) ?_
        refine lv_isub hx hb dX12_lands_69 ?_
        refine lv_topi (fun v_13 ev_13 => ?_)
        have hv_13 : v_13.toInt = (i1 28).toInt - 1 := by rw [ev_13]; have := b_rg (i1 28); exact i_sub (a := (i1 28).toInt) (b := 1) rfl rfl (by omega) (by omega)
        refine va_put (D := D) (ci := 12) (v := .int v_13) (ty := .int) (C := RX12) (T := TX12) (N := 91) hx hb hT iX12 tyX12 tyX12_ok nmX12 hown hK hP hD hS 0 rfl rfl 28 (by decide) (hT _ t_849) (fun _ h9 => h9) rfl (by decide +kernel) rfl rfl (Nat.le_of_ble_eq_true rfl) dX12_lands_70 (fun H locs hP hD hS => ?_)
        rw [mP28] at hP hD
        have hRi := Ri_upd hRi 28 v_13 ⟨by show (0 : Int) ≤ v_13.toInt; omega, by show v_13.toInt ≤ (220 : Int); omega⟩
        have hEi := Ei_upd hEi 28 v_13 (by decide)
        refine lv_goto (tgt := 0) hx hb dX12_lands_73 (by decide) ?_
        have hr32 : (va_up r1 21 (upd (r1 21) v_7.toNatClampNeg v_12)) 21 = upd (r1 21) v9 v_12 := by rw [← hfc]; rfl
        have hmm28 : ((upd i1 28 v_13) 28).toInt = v_13.toInt := rfl
        exact ih1 (upd i1 28 v_13) (va_up r1 21 (upd (r1 21) v_7.toNatClampNeg v_12)) _ _ _ (by first | omega | (simp only [Int.toNat]; omega))  hRi hEi hRr hEr (hv7 v_12 _ _ (by omega) (by omega) rfl (by show v_13.toInt = _; omega) rfl rfl hr32) hP hD hS (lv_sub hl [1, 2] rfl)
      · have c_3 : r_2.toInt ≠ 11 := b_ne c_3
        refine lv_iload_n hx hb dX12_lands_9 rfl (lv_at hl 1 rfl) ?_
        refine lv_if_eq (tgt := 76) hx hb dX12_lands_10 (by decide) (fun c_14 => ?_) (fun c_14 => ?_)
        · have c_14 : p0.toInt = 0 := b_eq c_14
          subst hQ
          have hq2 : p0.toInt ≠ 0 → topv i1 r1 ≠ 11 ∧ topv i1 r1 ≠ 12 := by omega
          exact W.vret hx hb hr (fun t ht hW => ⟨⟨(i1, r1), rfl, ⟨hRi, hRr, hEi, hEr, ⟨hx1, hq2⟩⟩, by rw [ht]; exact hP, va_K.moved hW.alike hK, hD⟩, hS.F ht⟩) hS.2.2 dX12_lands_76
        · have c_14 : p0.toInt ≠ 0 := b_ne c_14
          refine lv_aload_n hx hb dX12_lands_13 rfl (lv_at hl 0 rfl) ?_
          refine vp_callSi (W.runV (As := []) (rest := []) ⟨hx, hb, hml, hown, hT⟩ (c_X12_top l D cy a i1 r1 rl hRi hRr (SS_w hx1.1)) (cwV 0 hT (gV t_850 t_851 t_852 t_853 t_6) rfl rfl rfl (by decide +kernel) ⟨Nat.le_of_ble_eq_true rfl, Nat.le_of_ble_eq_true rfl⟩) (rP_v hP hK (va_recv hK hP (ci := 12) (q0 := 0) rfl rfl)) rfl rfl hl.1 rfl (lv_room (Nat.le_of_ble_eq_true rfl)) dX12_lands_14 ⟨Nat.le_of_ble_eq_true rfl, Nat.le_of_ble_eq_true rfl⟩) (fun r_15 hr_15 => ?_)
          have hr_15 : r_15.toInt = topv i1 r1 := hr_15
          refine lv_bipush (v := 12) hx hb dX12_lands_17 (by decide) ?_
          refine lv_icmp_ne (tgt := 76) hx hb dX12_lands_19 (by decide) (fun c_16 => ?_) (fun c_16 => ?_)
          · have c_16 : r_15.toInt ≠ 12 := b_ne c_16
            subst hQ
            have hq2 : p0.toInt ≠ 0 → topv i1 r1 ≠ 11 ∧ topv i1 r1 ≠ 12 := by omega
            exact W.vret hx hb hr (fun t ht hW => ⟨⟨(i1, r1), rfl, ⟨hRi, hRr, hEi, hEr, ⟨hx1, hq2⟩⟩, by rw [ht]; exact hP, va_K.moved hW.alike hK, hD⟩, hS.F ht⟩) hS.2.2 dX12_lands_76
          · have c_16 : r_15.toInt = 12 := b_nne c_16
            refine lv_aload_n hx hb dX12_lands_22 rfl (lv_at hl 0 rfl) ?_
            obtain ⟨v9, hv1, hv2, hv3, hv4, hv5, hv6, hv7⟩ := LD_get hx1 (by omega) (by omega)
            refine va_get (D := D) (ci := 12) (v := .ref (a 22)) (C := RX12) (T := TX12) (N := 91) hx hb hT iX12 hown hK hP 0 rfl rfl 33 (by decide) (hT _ t_789) (fun _ h9 => h9) rfl dX12_lands_23 ?_
            refine lv_aload_n hx hb dX12_lands_26 rfl (lv_at hl 0 rfl) ?_
            refine va_get (D := D) (ci := 12) (v := .int (i1 28)) (C := RX12) (T := TX12) (N := 91) hx hb hT iX12 hown hK hP 0 rfl rfl 28 (by decide) (hT _ t_849) (fun _ h9 => h9) rfl dX12_lands_27 ?_
            have hg_17 : 0 ≤ (i1 28).toInt ∧ (i1 28).toInt ≤ 220 := hRi 28
            refine lv_iconst (v := 1) hx hb dX12_lands_30 (by decide) ?_
            refine lv_isub hx hb dX12_lands_31 ?_
            refine lv_topi (fun v_18 ev_18 => ?_)
            have hv_18 : v_18.toInt = (i1 28).toInt - 1 := by rw [ev_18]; have := b_rg (i1 28); exact i_sub (a := (i1 28).toInt) (b := 1) rfl rfl (by omega) (by omega)
            refine va_iald hx hb hK hP 22 0 rfl rfl (vp_inI (by omega) (by omega)) dX12_lands_32 ?_
            refine lv_topi (fun v_19 ev_19 => ?_)
            refine lv_ldcw (v := 1048576) hx hb hown (hT _ t_84) dX12_lands_33 ?_
            refine lv_irem hx hb dX12_lands_36 (by decide) ?_
            refine lv_topi (fun v_20 ev_20 => ?_)
            have hix : v_18.toNatClampNeg = (i1 28).toInt.toNat - 1 := by show v_18.toInt.toNat = _; omega
            have hfr : v_20.toInt = (v9 : Int) := by rw [ev_20, ev_19, hix]; exact (iremU hv5).trans hv1
            have hfc : v_20.toNatClampNeg = v9 := by show v_20.toInt.toNat = _; omega
            refine lv_istore_n (lv' := [(2, .int v_20), (0, .ref (a 0)), (1, .int p0)]) hx hb dX12_lands_37 rfl hl (by decide) rfl (fun ls hl => ?_)
            refine lv_aload_n hx hb dX12_lands_38 rfl (lv_at hl 1 rfl) ?_
            refine va_get (D := D) (ci := 12) (v := .ref (a 21)) (C := RX12) (T := TX12) (N := 91) hx hb hT iX12 hown hK hP 0 rfl rfl 32 (by decide) (hT _ t_788) (fun _ h9 => h9) rfl dX12_lands_39 ?_
            refine lv_iload_n hx hb dX12_lands_42 rfl (lv_at hl 0 rfl) ?_
            refine lv_ldcw (v := 1048576) hx hb hown (hT _ t_84) dX12_lands_43 ?_
            refine lv_aload_n hx hb dX12_lands_46 rfl (lv_at hl 1 rfl) ?_
            refine va_get (D := D) (ci := 12) (v := .ref (a 21)) (C := RX12) (T := TX12) (N := 91) hx hb hT iX12 hown hK hP 0 rfl rfl 32 (by decide) (hT _ t_788) (fun _ h9 => h9) rfl dX12_lands_47 ?_
            refine lv_iload_n hx hb dX12_lands_50 rfl (lv_at hl 0 rfl) ?_
            refine va_iald hx hb hK hP 21 0 rfl rfl (vp_inI (by omega) (by omega)) dX12_lands_51 ?_
            refine lv_topi (fun v_21 ev_21 => ?_)
            refine lv_ldcw (v := 1048576) hx hb hown (hT _ t_84) dX12_lands_52 ?_
            refine lv_idiv hx hb dX12_lands_55 (by decide) ?_
            refine lv_topi (fun v_22 ev_22 => ?_)
            have hop9 : v_22.toInt = cOp (r1 21 v9) := by rw [ev_22, ev_21, hfc]; exact idivU hv3
            have hop8 : 11 ≤ v_22.toInt ∧ v_22.toInt ≤ 12 := by omega
            refine lv_imul hx hb dX12_lands_56 ?_
            refine lv_topi (fun v_23 ev_23 => ?_)
            have hv_23 : v_23.toInt = 1048576 * v_22.toInt := by rw [ev_23]; have := b_rg v_22; exact i_mul (a := 1048576) (b := v_22.toInt) rfl rfl (by omega) (by omega)
            refine lv_aload_n hx hb dX12_lands_57 rfl (lv_at hl 1 rfl) ?_
            refine va_get (D := D) (ci := 12) (v := .int (i1 27)) (C := RX12) (T := TX12) (N := 91) hx hb hT iX12 hown hK hP 0 rfl rfl 27 (by decide) (hT _ t_847) (fun _ h9 => h9) rfl dX12_lands_58 ?_
            have hg_24 : 0 ≤ (i1 27).toInt ∧ (i1 27).toInt ≤ 220 := hRi 27
            refine lv_iadd hx hb dX12_lands_61 ?_
            refine lv_topi (fun v_25 ev_25 => ?_)
            have hv_25 : v_25.toInt = v_23.toInt + (i1 27).toInt := by rw [ev_25]; have := b_rg v_23; have := b_rg (i1 27); exact i_add (a := v_23.toInt) (b := (i1 27).toInt) rfl rfl (by omega) (by omega)
            refine va_iast hx hb hK hP hD hS 21 0 rfl rfl (vp_inI (by omega) (by omega)) dX12_lands_62 (fun H locs hP hD hS => ?_)
            rw [mS21] at hP hD
            have hRr : mRr (va_up r1 21 (upd (r1 21) v_20.toNatClampNeg v_25)) := Rr_upd hRr 21 (v_20.toNatClampNeg) v_25 (b_rg _)
            have hEr : mEr [21] _ (va_up r1 21 (upd (r1 21) v_20.toNatClampNeg v_25)) := Er_up hEr 21 _ (by decide)
            refine lv_aload_n hx hb dX12_lands_63 rfl (lv_at hl 1 rfl) ?_
            refine lv_aload_n hx hb dX12_lands_64 rfl (lv_at hl 1 rfl) ?_
            refine va_get (D := D) (ci := 12) (v := .int (i1 28)) (C := RX12) (T := TX12) (N := 91) hx hb hT iX12 hown hK hP 0 rfl rfl 28 (by decide) (hT _ t_849) (fun _ h9 => h9) rfl dX12_lands_65 ?_
            refine lv_iconst (v := 1) hx hb dX12_lands_68 (by decide) ?_
            refine lv_isub hx hb dX12_lands_69 ?_
            refine lv_topi (fun v_26 ev_26 => ?_)
            have hv_26 : v_26.toInt = (i1 28).toInt - 1 := by rw [ev_26]; have := b_rg (i1 28); exact i_sub (a := (i1 28).toInt) (b := 1) rfl rfl (by omega) (by omega)
            refine va_put (D := D) (ci := 12) (v := .int v_26) (ty := .int) (C := RX12) (T := TX12) (N := 91) hx hb hT iX12 tyX12 tyX12_ok nmX12 hown hK hP hD hS 0 rfl rfl 28 (by decide) (hT _ t_849) (fun _ h9 => h9) rfl (by decide +kernel) rfl rfl (Nat.le_of_ble_eq_true rfl) dX12_lands_70 (fun H locs hP hD hS => ?_)
            rw [mP28] at hP hD
            have hRi := Ri_upd hRi 28 v_26 ⟨by show (0 : Int) ≤ v_26.toInt; omega, by show v_26.toInt ≤ (220 : Int); omega⟩
            have hEi := Ei_upd hEi 28 v_26 (by decide)
            refine lv_goto (tgt := 0) hx hb dX12_lands_73 (by decide) ?_
            have hr32 : (va_up r1 21 (upd (r1 21) v_20.toNatClampNeg v_25)) 21 = upd (r1 21) v9 v_25 := by rw [← hfc]; rfl
            have hmm28 : ((upd i1 28 v_26) 28).toInt = v_26.toInt := rfl
            exact ih1 (upd i1 28 v_26) (va_up r1 21 (upd (r1 21) v_20.toNatClampNeg v_25)) _ _ _ (by first | omega | (simp only [Int.toNat]; omega))  hRi hEi hRr hEr (hv7 v_25 _ _ (by omega) (by omega) rfl (by show v_26.toInt = _; omega) rfl rfl hr32) hP hD hS (lv_sub hl [1, 2] rfl)
  exact loop_1 _ i r _ _ _ (Nat.lt_succ_self _)  hRi hEi hRr hEr ⟨hZ, Int.le_refl _, fun j h1 h2 => by omega, low_rf, rfl⟩ hP hD hS hl
set_option maxHeartbeats 4000000 in
set_option maxRecDepth 100000 in
theorem c_X12_jumps (l : Launch) (D : va_G) (cy : Nat → ClassId) (a : Nat → Nat) (i : Nat → Int32) (r : Nat → Nat → Int32) (rl : Nat → Int64) (p0 : Int32) (sz : Nat) (hRi : mRi i) (hRr : mRr r) (f9 s9 : Nat) (hZ : SS f9 1 s9 i r) (ho : p0.toInt = 11 ∨ p0.toInt = 12) (h23 : (i 23).toInt < 200) : Met l yX12_jumps (Cond.code yX12_jumps cX12_jumps 2 none :: gT) { frames := 2, cells := 0, slots := 0, locals := 46 } (va_Pc [.ref (a 0), .int p0] (rQ D cy (mW cy a i r rl) sz)) (va_Qv (fun u : (Nat → Int32) × (Nat → Nat → Int32) => mRi u.1 ∧ mRr u.2 ∧ mEi [23, 27, 28] i u.1 ∧ mEr [21, 22] r u.2 ∧ (JP f9 s9 i r u.1 u.2)) (fun (u : (Nat → Int32) × (Nat → Nat → Int32)) t => va_P D vwCl (mW cy a u.1 u.2 rl) t.heap ∧ va_K D vwCl (vT cy) t ∧ va_D (va_A (mW cy a i r rl) sz) (mW cy a u.1 u.2 rl)) (va_A (mW cy a i r rl) sz)) 0 0 (va_A (mW cy a i r rl) sz) := by
  refine Met.ofQ (cc := cX12_jumps) (maxL := 2) (ret := none) (by decide) rfl ?_
  intro p e s m args below meth c s₁ B hml hv Q hQ
  obtain ⟨rfl, hsz, hP, hK, hD0⟩ := hv
  have hx := B.exec
  have hb := B.bytes
  have hr := B.returns
  have hlocks := B.notSynchronized
  have hT : ∀ w ∈ gT, w.before _ s = true := fun w h => atoms_spec (ws := (Cond.code yX12_jumps cX12_jumps 2 none :: gT)) B.pre w (List.mem_cons_of_mem _ h)
  have hown : s.vm.findClass RX12 = some m.cls := findClass_of_methodNamed B.named
  subst hsz
  have hD := hD0.self (sz := s.heap.size)
  generalize hAe : va_A (mW cy a i r rl) s.heap.size = A at hD hQ
  have hA : ∀ q : Nat, s.heap.size ≤ q → A q := fun q h => by rw [← hAe]; exact Or.inr h
  have hS : va_S A s.heap s.heap [] := va_S.rf
  have hl := lv_entry ([.ref (a 0), .int p0]) (n := 2) (Nat.le_of_ble_eq_true rfl)
  rw [lg_entry_eq]
  generalize (lg_sl ([.ref (a 0), .int p0]) ++ List.replicate (2 - (lg_sl ([.ref (a 0), .int p0])).length) Slot.unset).toArray = ls at hl ⊢
  have hl : lv_has ls 2 [(0, .ref (a 0)), (1, .int p0)] := hl
  have hEi : mEi [23, 27, 28] i i := Ei_rf
  have hEr : mEr [21, 22] r r := Er_rf
  have hg23 : 0 ≤ (i 23).toInt ∧ (i 23).toInt ≤ 200 := hRi 23
  have hg27 : 0 ≤ (i 27).toInt ∧ (i 27).toInt ≤ 220 := hRi 27
  have hg28 : 0 ≤ (i 28).toInt ∧ (i 28).toInt ≤ 220 := hRi 28
  have hss := SS_n hZ
  refine lv_aload_n hx hb dX12_jumps_0 rfl (lv_at hl 0 rfl) ?_
  refine va_get (D := D) (ci := 12) (v := .ref (a 22)) (C := RX12) (T := TX12) (N := 91) hx hb hT iX12 hown hK hP 0 rfl rfl 33 (by decide) (hT _ t_789) (fun _ h9 => h9) rfl dX12_jumps_1 ?_
  refine lv_aload_n hx hb dX12_jumps_4 rfl (lv_at hl 0 rfl) ?_
  refine va_get (D := D) (ci := 12) (v := .int (i 28)) (C := RX12) (T := TX12) (N := 91) hx hb hT iX12 hown hK hP 0 rfl rfl 28 (by decide) (hT _ t_849) (fun _ h9 => h9) rfl dX12_jumps_5 ?_
  have hg_1 : 0 ≤ (i 28).toInt ∧ (i 28).toInt ≤ 220 := hRi 28
  refine lv_ldcw (v := 1048576) hx hb hown (hT _ t_84) dX12_jumps_8 ?_
  refine lv_iload_n hx hb dX12_jumps_11 rfl (lv_at hl 1 rfl) ?_
  refine lv_imul hx hb dX12_jumps_12 ?_
  refine lv_topi (fun v_2 ev_2 => ?_)
  have hv_2 : v_2.toInt = 1048576 * p0.toInt := by rw [ev_2]; have := b_rg p0; exact i_mul (a := 1048576) (b := p0.toInt) rfl rfl (by omega) (by omega)
  refine lv_aload_n hx hb dX12_jumps_13 rfl (lv_at hl 0 rfl) ?_
  refine va_get (D := D) (ci := 12) (v := .int (i 27)) (C := RX12) (T := TX12) (N := 91) hx hb hT iX12 hown hK hP 0 rfl rfl 27 (by decide) (hT _ t_847) (fun _ h9 => h9) rfl dX12_jumps_14 ?_
  have hg_3 : 0 ≤ (i 27).toInt ∧ (i 27).toInt ≤ 220 := hRi 27
  refine lv_iadd hx hb dX12_jumps_17 ?_
  refine lv_topi (fun v_4 ev_4 => ?_)
  have hv_4 : v_4.toInt = v_2.toInt + (i 27).toInt := by rw [ev_4]; have := b_rg v_2; have := b_rg (i 27); exact i_add (a := v_2.toInt) (b := (i 27).toInt) rfl rfl (by omega) (by omega)
  refine va_iast hx hb hK hP hD hS 22 0 rfl rfl (vp_inI (by omega) (by omega)) dX12_jumps_18 (fun H locs hP hD hS => ?_)
  rw [mS22] at hP hD
  have hRr : mRr (va_up r 22 (upd (r 22) ((i 28).toNatClampNeg) v_4)) := Rr_upd hRr 22 ((i 28).toNatClampNeg) v_4 (b_rg _)
  have hEr : mEr [21, 22] _ (va_up r 22 (upd (r 22) ((i 28).toNatClampNeg) v_4)) := Er_up hEr 22 _ (by decide)
  refine lv_aload_n hx hb dX12_jumps_19 rfl (lv_at hl 0 rfl) ?_
  refine lv_aload_n hx hb dX12_jumps_20 rfl (lv_at hl 0 rfl) ?_
  refine va_get (D := D) (ci := 12) (v := .int (i 28)) (C := RX12) (T := TX12) (N := 91) hx hb hT iX12 hown hK hP 0 rfl rfl 28 (by decide) (hT _ t_849) (fun _ h9 => h9) rfl dX12_jumps_21 ?_
  refine lv_iconst (v := 1) hx hb dX12_jumps_24 (by decide) ?_
  refine lv_iadd hx hb dX12_jumps_25 ?_
  refine lv_topi (fun v_5 ev_5 => ?_)
  have hv_5 : v_5.toInt = (i 28).toInt + 1 := by rw [ev_5]; have := b_rg (i 28); exact i_add (a := (i 28).toInt) (b := 1) rfl rfl (by omega) (by omega)
  refine va_put (D := D) (ci := 12) (v := .int v_5) (ty := .int) (C := RX12) (T := TX12) (N := 91) hx hb hT iX12 tyX12 tyX12_ok nmX12 hown hK hP hD hS 0 rfl rfl 28 (by decide) (hT _ t_849) (fun _ h9 => h9) rfl (by decide +kernel) rfl rfl (Nat.le_of_ble_eq_true rfl) dX12_jumps_26 (fun H locs hP hD hS => ?_)
  rw [mP28] at hP hD
  have hRi := Ri_upd hRi 28 v_5 ⟨by show (0 : Int) ≤ v_5.toInt; omega, by show v_5.toInt ≤ (220 : Int); omega⟩
  have hEi := Ei_upd hEi 28 v_5 (by decide)
  refine lv_aload_n hx hb dX12_jumps_29 rfl (lv_at hl 0 rfl) ?_
  refine lv_iload_n hx hb dX12_jumps_30 rfl (lv_at hl 1 rfl) ?_
  refine lv_iconst (v := 0) hx hb dX12_jumps_31 (by decide) ?_
  have hF_6 := rF hD hS hA
  refine va_callv (va_runV (As := [.int p0, .int 0]) (rest := []) ⟨hx, hb, hml, hown, hT⟩ (c_X12_notes l D cy a (upd i 28 v_5) (va_up r 22 (upd (r 22) ((i 28).toNatClampNeg) v_4)) rl p0 0 _ hRi hRr (by first | omega | decide) (by first | omega | decide) (by show (i 27).toInt < 220; omega)) (cwV 2 hT (gV t_854 t_855 t_856 t_857 t_6) rfl rfl rfl (by decide +kernel) ⟨Nat.le_of_ble_eq_true rfl, Nat.le_of_ble_eq_true rfl⟩) (rQ_v hP hK hD (va_recv hK hP (ci := 12) (q0 := 0) rfl rfl)) rfl rfl hl.1 rfl (lv_room (Nat.le_of_ble_eq_true rfl)) dX12_jumps_32 ⟨Nat.le_of_ble_eq_true rfl, Nat.le_of_ble_eq_true rfl⟩) hS (fun q _ h => hF_6 q h) hF_6 (fun u_8 t H1 locs ht hvm hr_7 hB hz1 hk1 hS => ?_)
  obtain ⟨i8, r8⟩ := u_8
  obtain ⟨hP, hK1, hD1⟩ := hB
  rw [ht] at hP
  have hD := hD1.weaken (fun k q _ h => hF_6 q.1 h)
  have hP : va_P D vwCl (mW cy a i8 r8 rl) H1 := hP
  have hD : va_D A (mW cy a i8 r8 rl) := hD
  obtain ⟨hRi, hRr, hE1, hE2, hr_7⟩ := hr_7
  have hRi : mRi i8 := hRi
  have hRr : mRr r8 := hRr
  have hEi : mEi [23, 27, 28] _ i8 := Ei_tr hEi hE1 (by decide)
  have hEr : mEr [21, 22] _ r8 := Er_tr hEr hE2 (by decide)
  obtain ⟨hn7, x7, hx7, hr7⟩ := hr_7
  have hn7 : (i8 27).toInt = ((upd i 28 v_5) 27).toInt + 1 := hn7
  have hr7 : r8 21 = upd ((va_up r 22 (upd (r 22) ((i 28).toNatClampNeg) v_4)) 21) ((upd i 28 v_5) 27).toInt.toNat x7 := hr7
  have e23_7 : i8 23 = (upd i 28 v_5) 23 := hE1 23 (by decide)
  have e28_7 : i8 28 = (upd i 28 v_5) 28 := hE1 28 (by decide)
  have e33_7 : r8 22 = (va_up r 22 (upd (r 22) ((i 28).toNatClampNeg) v_4)) 22 := hE2 22 (by decide)
  have hx7 : x7.toInt = 1048576 * p0.toInt + 0 := hx7
  refine lv_aload_n hx hb dX12_jumps_35 rfl (lv_at hl 0 rfl) ?_
  refine lv_aload_n hx hb dX12_jumps_36 rfl (lv_at hl 0 rfl) ?_
  refine va_get (D := D) (ci := 12) (v := .int (i8 23)) (C := RX12) (T := TX12) (N := 91) hx hb hT iX12 hown hK hP 0 rfl rfl 23 (by decide) (hT _ t_252) (fun _ h9 => h9) rfl dX12_jumps_37 ?_
  have hg_9 : 0 ≤ (i8 23).toInt ∧ (i8 23).toInt ≤ 200 := hRi 23
  have h23e : (i8 23).toInt = (i 23).toInt := congrArg Int32.toInt e23_7
  refine lv_iconst (v := 1) hx hb dX12_jumps_40 (by decide) ?_
  refine lv_iadd hx hb dX12_jumps_41 ?_
  refine lv_topi (fun v_10 ev_10 => ?_)
  have hv_10 : v_10.toInt = (i8 23).toInt + 1 := by rw [ev_10]; have := b_rg (i8 23); exact i_add (a := (i8 23).toInt) (b := 1) rfl rfl (by omega) (by omega)
  refine va_put (D := D) (ci := 12) (v := .int v_10) (ty := .int) (C := RX12) (T := TX12) (N := 91) hx hb hT iX12 tyX12 tyX12_ok nmX12 hown hK hP hD hS 0 rfl rfl 23 (by decide) (hT _ t_252) (fun _ h9 => h9) rfl (by decide +kernel) rfl rfl (Nat.le_of_ble_eq_true rfl) dX12_jumps_42 (fun H locs hP hD hS => ?_)
  rw [mP23] at hP hD
  have hRi := Ri_upd hRi 23 v_10 ⟨by show (0 : Int) ≤ v_10.toInt; omega, by show v_10.toInt ≤ (200 : Int); omega⟩
  have hEi := Ei_upd hEi 23 v_10 (by decide)
  subst hQ
  have h28e : (i8 28).toInt = (i 28).toInt + 1 := by rw [e28_7]; show v_5.toInt = _; omega
  have hj : JP f9 s9 i r (upd i8 23 v_10) r8 := JP_of (x := x7) (y := v_4) (o := p0.toInt) hZ ho hx7 (by omega) (by show (i8 27).toInt = _; exact hn7) (by show (i8 28).toInt = _; exact h28e) (by show v_10.toInt = _; omega) e33_7 hr7 (by omega) (by omega) (by omega)
  exact W.vret hx hb hr (fun t ht hW => ⟨⟨(upd i8 23 v_10, r8), rfl, ⟨hRi, hRr, hEi, hEr, hj⟩, by rw [ht]; exact hP, va_K.moved hW.alike hK, hD⟩, hS.F ht⟩) hS.2.2 dX12_jumps_45
set_option maxHeartbeats 4000000 in
set_option maxRecDepth 100000 in
theorem c_X12_factOf9 (l : Launch) (p0 : Int32) : Met l yX12_factOf (Cond.code yX12_factOf cX12_factOf 1 (some .int) :: gT) { frames := 1, cells := 0, slots := 0, locals := 24 } (va_Pc [.int p0] (fun _ => True)) (vp_Si (fun z => (-1 ≤ z.toInt ∧ z.toInt ≤ 9) ∧ (p0.toInt = -1 → z.toInt = -1))) 0 0 (fun _ => False) := by
  refine Met.ofQ (cc := cX12_factOf) (maxL := 1) (ret := (some .int)) (by decide) rfl ?_
  intro p e s m args below meth c s₁ B hml hv Q hQ
  obtain ⟨rfl, -⟩ := hv
  have hx := B.exec
  have hb := B.bytes
  have hr := B.returns
  have hlocks := B.notSynchronized
  have hT : ∀ w ∈ gT, w.before _ s = true := fun w h => atoms_spec (ws := (Cond.code yX12_factOf cX12_factOf 1 (some .int) :: gT)) B.pre w (List.mem_cons_of_mem _ h)
  have hown : s.vm.findClass RX12 = some m.cls := findClass_of_methodNamed B.named
  have hl := lv_entry ([.int p0]) (n := 1) (Nat.le_of_ble_eq_true rfl)
  rw [lg_entry_eq]
  generalize (lg_sl ([.int p0]) ++ List.replicate (1 - (lg_sl ([.int p0])).length) Slot.unset).toArray = ls at hl ⊢
  have hl : lv_has ls 1 [(0, .int p0)] := hl
  refine lv_iload_n hx hb dX12_factOf_0 rfl (lv_at hl 0 rfl) ?_
  rcases (show (p0.toInt < 97 ∨ 118 < p0.toInt) ∨ p0.toInt = 97 ∨ p0.toInt = 98 ∨ p0.toInt = 99 ∨ p0.toInt = 100 ∨ p0.toInt = 101 ∨ p0.toInt = 102 ∨ p0.toInt = 103 ∨ p0.toInt = 104 ∨ p0.toInt = 105 ∨ p0.toInt = 106 ∨ p0.toInt = 107 ∨ p0.toInt = 108 ∨ p0.toInt = 109 ∨ p0.toInt = 110 ∨ p0.toInt = 111 ∨ p0.toInt = 112 ∨ p0.toInt = 113 ∨ p0.toInt = 114 ∨ p0.toInt = 115 ∨ p0.toInt = 116 ∨ p0.toInt = 117 ∨ p0.toInt = 118 by omega) with h_1 | h_1 | h_1 | h_1 | h_1 | h_1 | h_1 | h_1 | h_1 | h_1 | h_1 | h_1 | h_1 | h_1 | h_1 | h_1 | h_1 | h_1 | h_1 | h_1 | h_1 | h_1 | h_1
  · refine lv_tableOut (tgt := 128) hx hb dX12_factOf_1 h_1 (by decide) ?_
    refine lv_iconst (v := (-1)) hx hb dX12_factOf_128 (by decide) ?_
    subst hQ
    exact W.iret (v := (-1)) hx hb hr (fun t ht hW => ⟨_, rfl, ⟨by decide, fun _ => rfl⟩, ht⟩) (fun q hq => absurd hq List.not_mem_nil) dX12_factOf_129
  · refine lv_tableIn (off := 111) (tgt := 112) hx hb dX12_factOf_1 (by omega) (by omega) (by rw [h_1]; rfl) (by decide) ?_
    refine lv_iconst (v := 4) hx hb dX12_factOf_112 (by decide) ?_
    subst hQ
    exact W.iret (v := 4) hx hb hr (fun t ht hW => ⟨_, rfl, (by refine ⟨by decide, fun h9 => ?_⟩; exfalso; omega), ht⟩) (fun q hq => absurd hq List.not_mem_nil) dX12_factOf_113
  · refine lv_tableIn (off := 127) (tgt := 128) hx hb dX12_factOf_1 (by omega) (by omega) (by rw [h_1]; rfl) (by decide) ?_
    refine lv_iconst (v := (-1)) hx hb dX12_factOf_128 (by decide) ?_
    subst hQ
    exact W.iret (v := (-1)) hx hb hr (fun t ht hW => ⟨_, rfl, ⟨by decide, fun _ => rfl⟩, ht⟩) (fun q hq => absurd hq List.not_mem_nil) dX12_factOf_129
  · refine lv_tableIn (off := 121) (tgt := 122) hx hb dX12_factOf_1 (by omega) (by omega) (by rw [h_1]; rfl) (by decide) ?_
    refine lv_bipush (v := 8) hx hb dX12_factOf_122 (by decide) ?_
    subst hQ
    exact W.iret (v := 8) hx hb hr (fun t ht hW => ⟨_, rfl, (by refine ⟨by decide, fun h9 => ?_⟩; exfalso; omega), ht⟩) (fun q hq => absurd hq List.not_mem_nil) dX12_factOf_124
  · refine lv_tableIn (off := 127) (tgt := 128) hx hb dX12_factOf_1 (by omega) (by omega) (by rw [h_1]; rfl) (by decide) ?_
    refine lv_iconst (v := (-1)) hx hb dX12_factOf_128 (by decide) ?_
    subst hQ
    exact W.iret (v := (-1)) hx hb hr (fun t ht hW => ⟨_, rfl, ⟨by decide, fun _ => rfl⟩, ht⟩) (fun q hq => absurd hq List.not_mem_nil) dX12_factOf_129
  · refine lv_tableIn (off := 127) (tgt := 128) hx hb dX12_factOf_1 (by omega) (by omega) (by rw [h_1]; rfl) (by decide) ?_
    refine lv_iconst (v := (-1)) hx hb dX12_factOf_128 (by decide) ?_
    subst hQ
    exact W.iret (v := (-1)) hx hb hr (fun t ht hW => ⟨_, rfl, ⟨by decide, fun _ => rfl⟩, ht⟩) (fun q hq => absurd hq List.not_mem_nil) dX12_factOf_129
  · refine lv_tableIn (off := 127) (tgt := 128) hx hb dX12_factOf_1 (by omega) (by omega) (by rw [h_1]; rfl) (by decide) ?_
    refine lv_iconst (v := (-1)) hx hb dX12_factOf_128 (by decide) ?_
    subst hQ
    exact W.iret (v := (-1)) hx hb hr (fun t ht hW => ⟨_, rfl, ⟨by decide, fun _ => rfl⟩, ht⟩) (fun q hq => absurd hq List.not_mem_nil) dX12_factOf_129
  · refine lv_tableIn (off := 118) (tgt := 119) hx hb dX12_factOf_1 (by omega) (by omega) (by rw [h_1]; rfl) (by decide) ?_
    refine lv_bipush (v := 7) hx hb dX12_factOf_119 (by decide) ?_
    subst hQ
    exact W.iret (v := 7) hx hb hr (fun t ht hW => ⟨_, rfl, (by refine ⟨by decide, fun h9 => ?_⟩; exfalso; omega), ht⟩) (fun q hq => absurd hq List.not_mem_nil) dX12_factOf_121
  · refine lv_tableIn (off := 127) (tgt := 128) hx hb dX12_factOf_1 (by omega) (by omega) (by rw [h_1]; rfl) (by decide) ?_
    refine lv_iconst (v := (-1)) hx hb dX12_factOf_128 (by decide) ?_
    subst hQ
    exact W.iret (v := (-1)) hx hb hr (fun t ht hW => ⟨_, rfl, ⟨by decide, fun _ => rfl⟩, ht⟩) (fun q hq => absurd hq List.not_mem_nil) dX12_factOf_129
  · refine lv_tableIn (off := 127) (tgt := 128) hx hb dX12_factOf_1 (by omega) (by omega) (by rw [h_1]; rfl) (by decide) ?_
    refine lv_iconst (v := (-1)) hx hb dX12_factOf_128 (by decide) ?_
    subst hQ
    exact W.iret (v := (-1)) hx hb hr (fun t ht hW => ⟨_, rfl, ⟨by decide, fun _ => rfl⟩, ht⟩) (fun q hq => absurd hq List.not_mem_nil) dX12_factOf_129
  · refine lv_tableIn (off := 127) (tgt := 128) hx hb dX12_factOf_1 (by omega) (by omega) (by rw [h_1]; rfl) (by decide) ?_
    refine lv_iconst (v := (-1)) hx hb dX12_factOf_128 (by decide) ?_
    subst hQ
    exact W.iret (v := (-1)) hx hb hr (fun t ht hW => ⟨_, rfl, ⟨by decide, fun _ => rfl⟩, ht⟩) (fun q hq => absurd hq List.not_mem_nil) dX12_factOf_129
  · refine lv_tableIn (off := 103) (tgt := 104) hx hb dX12_factOf_1 (by omega) (by omega) (by rw [h_1]; rfl) (by decide) ?_
    refine lv_iconst (v := 0) hx hb dX12_factOf_104 (by decide) ?_
    subst hQ
    exact W.iret (v := 0) hx hb hr (fun t ht hW => ⟨_, rfl, (by refine ⟨by decide, fun h9 => ?_⟩; exfalso; omega), ht⟩) (fun q hq => absurd hq List.not_mem_nil) dX12_factOf_105
  · refine lv_tableIn (off := 127) (tgt := 128) hx hb dX12_factOf_1 (by omega) (by omega) (by rw [h_1]; rfl) (by decide) ?_
    refine lv_iconst (v := (-1)) hx hb dX12_factOf_128 (by decide) ?_
    subst hQ
    exact W.iret (v := (-1)) hx hb hr (fun t ht hW => ⟨_, rfl, ⟨by decide, fun _ => rfl⟩, ht⟩) (fun q hq => absurd hq List.not_mem_nil) dX12_factOf_129
  · refine lv_tableIn (off := 113) (tgt := 114) hx hb dX12_factOf_1 (by omega) (by omega) (by rw [h_1]; rfl) (by decide) ?_
    refine lv_iconst (v := 5) hx hb dX12_factOf_114 (by decide) ?_
    subst hQ
    exact W.iret (v := 5) hx hb hr (fun t ht hW => ⟨_, rfl, (by refine ⟨by decide, fun h9 => ?_⟩; exfalso; omega), ht⟩) (fun q hq => absurd hq List.not_mem_nil) dX12_factOf_115
  · refine lv_tableIn (off := 115) (tgt := 116) hx hb dX12_factOf_1 (by omega) (by omega) (by rw [h_1]; rfl) (by decide) ?_
    refine lv_bipush (v := 6) hx hb dX12_factOf_116 (by decide) ?_
    subst hQ
    exact W.iret (v := 6) hx hb hr (fun t ht hW => ⟨_, rfl, (by refine ⟨by decide, fun h9 => ?_⟩; exfalso; omega), ht⟩) (fun q hq => absurd hq List.not_mem_nil) dX12_factOf_118
  · refine lv_tableIn (off := 109) (tgt := 110) hx hb dX12_factOf_1 (by omega) (by omega) (by rw [h_1]; rfl) (by decide) ?_
    refine lv_iconst (v := 3) hx hb dX12_factOf_110 (by decide) ?_
    subst hQ
    exact W.iret (v := 3) hx hb hr (fun t ht hW => ⟨_, rfl, (by refine ⟨by decide, fun h9 => ?_⟩; exfalso; omega), ht⟩) (fun q hq => absurd hq List.not_mem_nil) dX12_factOf_111
  · refine lv_tableIn (off := 127) (tgt := 128) hx hb dX12_factOf_1 (by omega) (by omega) (by rw [h_1]; rfl) (by decide) ?_
    refine lv_iconst (v := (-1)) hx hb dX12_factOf_128 (by decide) ?_
    subst hQ
    exact W.iret (v := (-1)) hx hb hr (fun t ht hW => ⟨_, rfl, ⟨by decide, fun _ => rfl⟩, ht⟩) (fun q hq => absurd hq List.not_mem_nil) dX12_factOf_129
  · refine lv_tableIn (off := 127) (tgt := 128) hx hb dX12_factOf_1 (by omega) (by omega) (by rw [h_1]; rfl) (by decide) ?_
    refine lv_iconst (v := (-1)) hx hb dX12_factOf_128 (by decide) ?_
    subst hQ
    exact W.iret (v := (-1)) hx hb hr (fun t ht hW => ⟨_, rfl, ⟨by decide, fun _ => rfl⟩, ht⟩) (fun q hq => absurd hq List.not_mem_nil) dX12_factOf_129
  · refine lv_tableIn (off := 105) (tgt := 106) hx hb dX12_factOf_1 (by omega) (by omega) (by rw [h_1]; rfl) (by decide) ?_
    refine lv_iconst (v := 1) hx hb dX12_factOf_106 (by decide) ?_
    subst hQ
    exact W.iret (v := 1) hx hb hr (fun t ht hW => ⟨_, rfl, (by refine ⟨by decide, fun h9 => ?_⟩; exfalso; omega), ht⟩) (fun q hq => absurd hq List.not_mem_nil) dX12_factOf_107
  · refine lv_tableIn (off := 107) (tgt := 108) hx hb dX12_factOf_1 (by omega) (by omega) (by rw [h_1]; rfl) (by decide) ?_
    refine lv_iconst (v := 2) hx hb dX12_factOf_108 (by decide) ?_
    subst hQ
    exact W.iret (v := 2) hx hb hr (fun t ht hW => ⟨_, rfl, (by refine ⟨by decide, fun h9 => ?_⟩; exfalso; omega), ht⟩) (fun q hq => absurd hq List.not_mem_nil) dX12_factOf_109
  · refine lv_tableIn (off := 127) (tgt := 128) hx hb dX12_factOf_1 (by omega) (by omega) (by rw [h_1]; rfl) (by decide) ?_
    refine lv_iconst (v := (-1)) hx hb dX12_factOf_128 (by decide) ?_
    subst hQ
    exact W.iret (v := (-1)) hx hb hr (fun t ht hW => ⟨_, rfl, ⟨by decide, fun _ => rfl⟩, ht⟩) (fun q hq => absurd hq List.not_mem_nil) dX12_factOf_129
  · refine lv_tableIn (off := 127) (tgt := 128) hx hb dX12_factOf_1 (by omega) (by omega) (by rw [h_1]; rfl) (by decide) ?_
    refine lv_iconst (v := (-1)) hx hb dX12_factOf_128 (by decide) ?_
    subst hQ
    exact W.iret (v := (-1)) hx hb hr (fun t ht hW => ⟨_, rfl, ⟨by decide, fun _ => rfl⟩, ht⟩) (fun q hq => absurd hq List.not_mem_nil) dX12_factOf_129
  · refine lv_tableIn (off := 124) (tgt := 125) hx hb dX12_factOf_1 (by omega) (by omega) (by rw [h_1]; rfl) (by decide) ?_
    refine lv_bipush (v := 9) hx hb dX12_factOf_125 (by decide) ?_
    subst hQ
    exact W.iret (v := 9) hx hb hr (fun t ht hW => ⟨_, rfl, (by refine ⟨by decide, fun h9 => ?_⟩; exfalso; omega), ht⟩) (fun q hq => absurd hq List.not_mem_nil) dX12_factOf_127
set_option maxHeartbeats 4000000 in
set_option maxRecDepth 100000 in
theorem c_X12_readsFactor (l : Launch) (D : va_G) (cy : Nat → ClassId) (a : Nat → Nat) (i : Nat → Int32) (r : Nat → Nat → Int32) (rl : Nat → Int64) (sz : Nat) (hRi : mRi i) (hRr : mRr r) (f9 g9 s9 : Nat) (hZ : SS f9 g9 s9 i r) : Met l yX12_readsFactor (Cond.code yX12_readsFactor cX12_readsFactor 2 (some .boolean) :: gT) { frames := 4, cells := 0, slots := 0, locals := 85 } (va_Pc [.ref (a 0)] (rQ D cy (mW cy a i r rl) sz)) (va_Qi (fun (z : Int32) (u : (Nat → Int32) × (Nat → Nat → Int32)) => mRi u.1 ∧ mRr u.2 ∧ mEi [23, 25, 26, 27, 28, 30] i u.1 ∧ mEr [21, 22] r u.2 ∧ (RF f9 g9 s9 i r z u.1 u.2)) (fun (u : (Nat → Int32) × (Nat → Nat → Int32)) t => va_P D vwCl (mW cy a u.1 u.2 rl) t.heap ∧ va_K D vwCl (vT cy) t ∧ va_D (va_A (mW cy a i r rl) sz) (mW cy a u.1 u.2 rl)) (va_A (mW cy a i r rl) sz)) 0 0 (va_A (mW cy a i r rl) sz) := by
  refine Met.ofQ (cc := cX12_readsFactor) (maxL := 2) (ret := (some .boolean)) (by decide) rfl ?_
  intro p e s m args below meth c s₁ B hml hv Q hQ
  obtain ⟨rfl, hsz, hP, hK, hD0⟩ := hv
  have hx := B.exec
  have hb := B.bytes
  have hr := B.returns
  have hlocks := B.notSynchronized
  have hT : ∀ w ∈ gT, w.before _ s = true := fun w h => atoms_spec (ws := (Cond.code yX12_readsFactor cX12_readsFactor 2 (some .boolean) :: gT)) B.pre w (List.mem_cons_of_mem _ h)
  have hown : s.vm.findClass RX12 = some m.cls := findClass_of_methodNamed B.named
  subst hsz
  have hD := hD0.self (sz := s.heap.size)
  generalize hAe : va_A (mW cy a i r rl) s.heap.size = A at hD hQ
  have hA : ∀ q : Nat, s.heap.size ≤ q → A q := fun q h => by rw [← hAe]; exact Or.inr h
  have hS : va_S A s.heap s.heap [] := va_S.rf
  have hl := lv_entry ([.ref (a 0)]) (n := 2) (Nat.le_of_ble_eq_true rfl)
  rw [lg_entry_eq]
  generalize (lg_sl ([.ref (a 0)]) ++ List.replicate (2 - (lg_sl ([.ref (a 0)])).length) Slot.unset).toArray = ls at hl ⊢
  have hl : lv_has ls 2 [(0, .ref (a 0))] := hl
  have hEi : mEi [23, 25, 26, 27, 28, 30] i i := Ei_rf
  have hEr : mEr [21, 22] r r := Er_rf
  have hgi28 : 0 ≤ (i 28).toInt ∧ (i 28).toInt ≤ 220 := hRi 28
  have loop_1 : ∀ (n : Nat) (i1 : Nat → Int32) (r1 : Nat → Nat → Int32) (H : Heap) (locs : List Loc) (ls : Array Slot), (200 - (i1 23).toInt).toNat < n → mRi i1 → mEi [23, 25, 26, 27, 28, 30] i i1 → mRr r1 → mEr [21, 22] r r1 → (RFi f9 g9 s9 i r i1 r1) → va_P D vwCl (mW cy a i1 r1 rl) H → va_D A (mW cy a i1 r1 rl) → va_S A s.heap H locs → lv_has ls 2 [(0, .ref (a 0))] → W p l e ({ frames := 4, cells := 0, slots := 0, locals := 85 } : Room) s m ([.ref (a 0)] : List Value).toArray below meth c H locs 0 0 Q (F0 m 0 ls []) := by
    intro n
    induction n with
    | zero =>
      intro i1 r1 H locs ls hm1 hRi hEi hRr hEr hx1 hP hD hS hl
      exact absurd hm1 (by omega)
    | succ n ih1 =>
      intro i1 r1 H locs ls hm1 hRi hEi hRr hEr hx1 hP hD hS hl
      refine lv_aload_n hx hb dX12_readsFactor_0 rfl (lv_at hl 0 rfl) ?_
      have hg23 : 0 ≤ (i1 23).toInt ∧ (i1 23).toInt ≤ 200 := hRi 23
      have hg27 : 0 ≤ (i1 27).toInt ∧ (i1 27).toInt ≤ 220 := hRi 27
      have hg28 : 0 ≤ (i1 28).toInt ∧ (i1 28).toInt ≤ 220 := hRi 28
      have hss := SS_n hx1.1
      have hb27 : (i1 27).toInt ≤ 200 := by omega
      have hb28 : (i1 28).toInt ≤ 200 := by omega
      refine vp_callSi (W.runV (As := []) (rest := []) ⟨hx, hb, hml, hown, hT⟩ (c_X12_here l D cy a i1 r1 rl hRi hRr) (cwV 0 hT (gV t_254 t_255 t_256 t_257 t_6) rfl rfl rfl (by decide +kernel) ⟨Nat.le_of_ble_eq_true rfl, Nat.le_of_ble_eq_true rfl⟩) (rP_v hP hK (va_recv hK hP (ci := 12) (q0 := 0) rfl rfl)) rfl rfl hl.1 rfl (lv_room (Nat.le_of_ble_eq_true rfl)) dX12_readsFactor_1 ⟨Nat.le_of_ble_eq_true rfl, Nat.le_of_ble_eq_true rfl⟩) (fun r_2 hr_2 => ?_)
      have hqr_2 : -1 ≤ r_2.toInt ∧ r_2.toInt ≤ 255 := by rw [hr_2]; exact mHere_rg _ _
      have hwr_2 : r_2.toInt = (mHere i1 r1).toInt := congrArg Int32.toInt hr_2
      refine lv_bipush (v := 91) hx hb dX12_readsFactor_4 (by decide) ?_
      refine lv_icmp_ne (tgt := 20) hx hb dX12_readsFactor_6 (by decide) (fun c_3 => ?_) (fun c_3 => ?_)
      · have c_3 : r_2.toInt ≠ 91 := b_ne c_3
        refine lv_aload_n hx hb dX12_readsFactor_20 rfl (lv_at hl 0 rfl) ?_
        refine vp_callSi (W.runV (As := []) (rest := []) ⟨hx, hb, hml, hown, hT⟩ (c_X12_isDigit l D cy a i1 r1 rl hRi hRr) (cwV 0 hT (gV t_843 t_844 t_845 t_846 t_6) rfl rfl rfl (by decide +kernel) ⟨Nat.le_of_ble_eq_true rfl, Nat.le_of_ble_eq_true rfl⟩) (rP_v hP hK (va_recv hK hP (ci := 12) (q0 := 0) rfl rfl)) rfl rfl hl.1 rfl (lv_room (Nat.le_of_ble_eq_true rfl)) dX12_readsFactor_21 ⟨Nat.le_of_ble_eq_true rfl, Nat.le_of_ble_eq_true rfl⟩) (fun r_4 hr_4 => ?_)
        have hr_4 : BR r_4 (48 ≤ (mHere i1 r1).toInt ∧ (mHere i1 r1).toInt ≤ 57) 1 0 := hr_4
        rcases hr_4 with ⟨rfl, h_5⟩ | ⟨rfl, h_5⟩
        · skip
          refine lv_if_eq (tgt := 47) hx hb dX12_readsFactor_24 (by decide) (fun c_6 => absurd c_6 (by decide)) (fun c_6 => ?_)
          refine lv_aload_n hx hb dX12_readsFactor_27 rfl (lv_at hl 0 rfl) ?_
          have hF_7 := rF hD hS hA
          refine va_calli (va_runV (As := []) (rest := []) ⟨hx, hb, hml, hown, hT⟩ (c_X12_readsNumber l D cy a i1 r1 rl _ hRi hRr (by omega)) (cwV 0 hT (gV t_858 t_859 t_860 t_861 t_6) rfl rfl rfl (by decide +kernel) ⟨Nat.le_of_ble_eq_true rfl, Nat.le_of_ble_eq_true rfl⟩) (rQ_v hP hK hD (va_recv hK hP (ci := 12) (q0 := 0) rfl rfl)) rfl rfl hl.1 rfl (lv_room (Nat.le_of_ble_eq_true rfl)) dX12_readsFactor_28 ⟨Nat.le_of_ble_eq_true rfl, Nat.le_of_ble_eq_true rfl⟩) hS (fun q _ h => hF_7 q h) hF_7 (fun r_8 u_9 t H1 locs ht hvm hr_8 hB hz1 hk1 hS => ?_)
          obtain ⟨i9, r9⟩ := u_9
          obtain ⟨hP, hK1, hD1⟩ := hB
          rw [ht] at hP
          have hD := hD1.weaken (fun k q _ h => hF_7 q.1 h)
          have hP : va_P D vwCl (mW cy a i9 r9 rl) H1 := hP
          have hD : va_D A (mW cy a i9 r9 rl) := hD
          obtain ⟨hRi, hRr, hE1, hE2, hr_8⟩ := hr_8
          have hRi : mRi i9 := hRi
          have hRr : mRr r9 := hRr
          have hEi : mEi [23, 25, 26, 27, 28, 30] _ i9 := Ei_tr hEi hE1 (by decide)
          have hEr : mEr [21, 22] _ r9 := Er_tr hEr hE2 (by decide)
          rcases hr_8 with ⟨rfl, hlt_n⟩ | rfl
          · have hlt_n : (i1 23).toInt < (i9 23).toInt := hlt_n
            have h27n : i9 27 = i1 27 := hE1 27 (by decide)
            have h28n : i9 28 = i1 28 := hE1 28 (by decide)
            have hrn : r9 = r1 := funext (fun p_ => hE2 p_ (by simp))
            have hb27n : (i9 27).toInt ≤ 200 := by rw [h27n]; omega
            rw [hrn] at hP hD hRr hEr
            refine lv_if_ne (tgt := 36) hx hb dX12_readsFactor_31 (by decide) (fun c_10 => ?_) (fun c_10 => absurd c_10 (by decide))
            refine lv_aload_n hx hb dX12_readsFactor_36 rfl (lv_at hl 0 rfl) ?_
            refine lv_iconst (v := 0) hx hb dX12_readsFactor_37 (by decide) ?_
            refine lv_aload_n hx hb dX12_readsFactor_38 rfl (lv_at hl 0 rfl) ?_
            refine va_get (D := D) (ci := 12) (v := .int (i9 30)) (C := RX12) (T := TX12) (N := 91) hx hb hT iX12 hown hK hP 0 rfl rfl 30 (by decide) (hT _ t_842) (fun _ h9 => h9) rfl dX12_readsFactor_39 ?_
            have hg_11 : 0 ≤ (i9 30).toInt ∧ (i9 30).toInt ≤ 99999 := hRi 30
            have hF_12 := rF hD hS hA
            refine va_callv (va_runV (As := [.int 0, .int (i9 30)]) (rest := []) ⟨hx, hb, hml, hown, hT⟩ (c_X12_notes l D cy a i9 r1 rl 0 (i9 30) _ hRi hRr (by first | omega | decide) (by first | omega | decide) (by show (i9 27).toInt < 220; omega)) (cwV 2 hT (gV t_854 t_855 t_856 t_857 t_6) rfl rfl rfl (by decide +kernel) ⟨Nat.le_of_ble_eq_true rfl, Nat.le_of_ble_eq_true rfl⟩) (rQ_v hP hK hD (va_recv hK hP (ci := 12) (q0 := 0) rfl rfl)) rfl rfl hl.1 rfl (lv_room (Nat.le_of_ble_eq_true rfl)) dX12_readsFactor_42 ⟨Nat.le_of_ble_eq_true rfl, Nat.le_of_ble_eq_true rfl⟩) hS (fun q _ h => hF_12 q h) hF_12 (fun u_14 t H1 locs ht hvm hr_13 hB hz1 hk1 hS => ?_)
            obtain ⟨i14, r14⟩ := u_14
            obtain ⟨hP, hK1, hD1⟩ := hB
            rw [ht] at hP
            have hD := hD1.weaken (fun k q _ h => hF_12 q.1 h)
            have hP : va_P D vwCl (mW cy a i14 r14 rl) H1 := hP
            have hD : va_D A (mW cy a i14 r14 rl) := hD
            obtain ⟨hRi, hRr, hE1, hE2, hr_13⟩ := hr_13
            have hRi : mRi i14 := hRi
            have hRr : mRr r14 := hRr
            have hEi : mEi [23, 25, 26, 27, 28, 30] _ i14 := Ei_tr hEi hE1 (by decide)
            have hEr : mEr [21, 22] _ r14 := Er_tr hEr hE2 (by decide)
            obtain ⟨hn13, x13, hx13, hr13⟩ := hr_13
            have hn13 : (i14 27).toInt = (i9 27).toInt + 1 := hn13
            have hr13 : r14 21 = upd (r1 21) (i9 27).toInt.toNat x13 := hr13
            have e23_13 : i14 23 = i9 23 := hE1 23 (by decide)
            have e28_13 : i14 28 = i9 28 := hE1 28 (by decide)
            have e33_13 : r14 22 = r1 22 := hE2 22 (by decide)
            have hx13 : x13.toInt = 1048576 * 0 + (i9 30).toInt := hx13
            refine lv_iconst (v := 1) hx hb dX12_readsFactor_45 (by decide) ?_
            subst hQ
            have hj : RF f9 g9 s9 i r 1 i14 r14 := RF_note hx1 hx13 (Or.inl ⟨rfl, by omega, by omega⟩) (by rw [e28_13]; exact h28n) (by rw [e23_13]; exact hlt_n) (by rw [hn13, h27n]) e33_13 (by rw [hr13, h27n]) (by omega) (by omega) rfl
            exact W.zret hx hb hr rfl (fun t ht hW => ⟨⟨_, (i14, r14), rfl, ⟨hRi, hRr, hEi, hEr, hj⟩, by rw [ht]; exact hP, va_K.moved hW.alike hK, hD⟩, hS.F ht⟩) hS.2.2 dX12_readsFactor_46
          · skip
            refine lv_if_ne (tgt := 36) hx hb dX12_readsFactor_31 (by decide) (fun c_15 => absurd (by decide) c_15) (fun c_15 => ?_)
            refine lv_iconst (v := 0) hx hb dX12_readsFactor_34 (by decide) ?_
            subst hQ
            exact W.zret hx hb hr rfl (fun t ht hW => ⟨⟨_, (i9, r9), rfl, ⟨hRi, hRr, hEi, hEr, (Or.inr rfl)⟩, by rw [ht]; exact hP, va_K.moved hW.alike hK, hD⟩, hS.F ht⟩) hS.2.2 dX12_readsFactor_35
        · skip
          refine lv_if_eq (tgt := 47) hx hb dX12_readsFactor_24 (by decide) (fun c_16 => ?_) (fun c_16 => absurd (by decide) c_16)
          refine lv_aload_n hx hb dX12_readsFactor_47 rfl (lv_at hl 0 rfl) ?_
          refine vp_callSi (W.runV (As := []) (rest := []) ⟨hx, hb, hml, hown, hT⟩ (c_X12_here l D cy a i1 r1 rl hRi hRr) (cwV 0 hT (gV t_254 t_255 t_256 t_257 t_6) rfl rfl rfl (by decide +kernel) ⟨Nat.le_of_ble_eq_true rfl, Nat.le_of_ble_eq_true rfl⟩) (rP_v hP hK (va_recv hK hP (ci := 12) (q0 := 0) rfl rfl)) rfl rfl hl.1 rfl (lv_room (Nat.le_of_ble_eq_true rfl)) dX12_readsFactor_48 ⟨Nat.le_of_ble_eq_true rfl, Nat.le_of_ble_eq_true rfl⟩) (fun r_17 hr_17 => ?_)
          have hqr_17 : -1 ≤ r_17.toInt ∧ r_17.toInt ≤ 255 := by rw [hr_17]; exact mHere_rg _ _
          have hwr_17 : r_17.toInt = (mHere i1 r1).toInt := congrArg Int32.toInt hr_17
          refine vp_callSi (W.runS (As := [.int r_17]) (rest := []) ⟨hx, hb, hml, hown, hT⟩ (c_X12_factOf9 l r_17) (va_cwS 1 hT (gS t_862 t_863 t_864 t_6) rfl rfl rfl (by decide +kernel) ⟨Nat.le_of_ble_eq_true rfl, Nat.le_of_ble_eq_true rfl⟩) preT rfl rfl hl.1 rfl (lv_room (Nat.le_of_ble_eq_true rfl)) dX12_readsFactor_51 ⟨Nat.le_of_ble_eq_true rfl, Nat.le_of_ble_eq_true rfl⟩) (fun r_18 hr_18 => ?_)
          have hfo_r_18 : r_17.toInt = -1 → r_18.toInt = -1 := hr_18.2
          have hr_18 : -1 ≤ r_18.toInt ∧ r_18.toInt ≤ 9 := hr_18.1
          refine lv_istore_n (lv' := [(1, .int r_18), (0, .ref (a 0))]) hx hb dX12_readsFactor_54 rfl hl (by decide) rfl (fun ls hl => ?_)
          refine lv_iload_n hx hb dX12_readsFactor_55 rfl (lv_at hl 0 rfl) ?_
          refine lv_iconst (v := (-1)) hx hb dX12_readsFactor_56 (by decide) ?_
          refine lv_icmp_ne (tgt := 70) hx hb dX12_readsFactor_57 (by decide) (fun c_19 => ?_) (fun c_19 => ?_)
          · have c_19 : r_18.toInt ≠ (-1) := b_ne c_19
            have hfo : (mHere i1 r1).toInt ≠ -1 := by
              intro h9
              have h7 := hfo_r_18 (by omega); omega
            refine lv_aload_n hx hb dX12_readsFactor_70 rfl (lv_at hl 1 rfl) ?_
            have hlt9 := mHere_lt (i := i1) (r := r1) hfo
            have hg24 : 0 ≤ (i1 24).toInt ∧ (i1 24).toInt ≤ 200 := hRi 24
            refine lv_iconst (v := 1) hx hb dX12_readsFactor_71 (by decide) ?_
            refine lv_iload_n hx hb dX12_readsFactor_72 rfl (lv_at hl 0 rfl) ?_
            have hF_20 := rF hD hS hA
            refine va_callv (va_runV (As := [.int 1, .int r_18]) (rest := []) ⟨hx, hb, hml, hown, hT⟩ (c_X12_notes l D cy a i1 r1 rl 1 r_18 _ hRi hRr (by first | omega | decide) (by first | omega | decide) (by show (i1 27).toInt < 220; omega)) (cwV 2 hT (gV t_854 t_855 t_856 t_857 t_6) rfl rfl rfl (by decide +kernel) ⟨Nat.le_of_ble_eq_true rfl, Nat.le_of_ble_eq_true rfl⟩) (rQ_v hP hK hD (va_recv hK hP (ci := 12) (q0 := 0) rfl rfl)) rfl rfl hl.1 rfl (lv_room (Nat.le_of_ble_eq_true rfl)) dX12_readsFactor_73 ⟨Nat.le_of_ble_eq_true rfl, Nat.le_of_ble_eq_true rfl⟩) hS (fun q _ h => hF_20 q h) hF_20 (fun u_22 t H1 locs ht hvm hr_21 hB hz1 hk1 hS => ?_)
            obtain ⟨i22, r22⟩ := u_22
            obtain ⟨hP, hK1, hD1⟩ := hB
            rw [ht] at hP
            have hD := hD1.weaken (fun k q _ h => hF_20 q.1 h)
            have hP : va_P D vwCl (mW cy a i22 r22 rl) H1 := hP
            have hD : va_D A (mW cy a i22 r22 rl) := hD
            obtain ⟨hRi, hRr, hE1, hE2, hr_21⟩ := hr_21
            have hRi : mRi i22 := hRi
            have hRr : mRr r22 := hRr
            have hEi : mEi [23, 25, 26, 27, 28, 30] _ i22 := Ei_tr hEi hE1 (by decide)
            have hEr : mEr [21, 22] _ r22 := Er_tr hEr hE2 (by decide)
            obtain ⟨hn21, x21, hx21, hr21⟩ := hr_21
            have hn21 : (i22 27).toInt = (i1 27).toInt + 1 := hn21
            have hr21 : r22 21 = upd (r1 21) (i1 27).toInt.toNat x21 := hr21
            have e23_21 : i22 23 = i1 23 := hE1 23 (by decide)
            have e28_21 : i22 28 = i1 28 := hE1 28 (by decide)
            have e33_21 : r22 22 = r1 22 := hE2 22 (by decide)
            have hx21 : x21.toInt = 1048576 * 1 + r_18.toInt := hx21
            refine lv_aload_n hx hb dX12_readsFactor_76 rfl (lv_at hl 1 rfl) ?_
            refine lv_aload_n hx hb dX12_readsFactor_77 rfl (lv_at hl 1 rfl) ?_
            refine va_get (D := D) (ci := 12) (v := .int (i22 23)) (C := RX12) (T := TX12) (N := 91) hx hb hT iX12 hown hK hP 0 rfl rfl 23 (by decide) (hT _ t_252) (fun _ h9 => h9) rfl dX12_readsFactor_78 ?_
            have hg_23 : 0 ≤ (i22 23).toInt ∧ (i22 23).toInt ≤ 200 := hRi 23
            have h23e : (i22 23).toInt = (i1 23).toInt := congrArg Int32.toInt e23_21
            refine lv_iconst (v := 1) hx hb dX12_readsFactor_81 (by decide) ?_
            refine lv_iadd hx hb dX12_readsFactor_82 ?_
            refine lv_topi (fun v_24 ev_24 => ?_)
            have hv_24 : v_24.toInt = (i22 23).toInt + 1 := by rw [ev_24]; have := b_rg (i22 23); exact i_add (a := (i22 23).toInt) (b := 1) rfl rfl (by omega) (by omega)
            refine va_put (D := D) (ci := 12) (v := .int v_24) (ty := .int) (C := RX12) (T := TX12) (N := 91) hx hb hT iX12 tyX12 tyX12_ok nmX12 hown hK hP hD hS 0 rfl rfl 23 (by decide) (hT _ t_252) (fun _ h9 => h9) rfl (by decide +kernel) rfl rfl (Nat.le_of_ble_eq_true rfl) dX12_readsFactor_83 (fun H locs hP hD hS => ?_)
            rw [mP23] at hP hD
            have hRi := Ri_upd hRi 23 v_24 ⟨by show (0 : Int) ≤ v_24.toInt; omega, by show v_24.toInt ≤ (200 : Int); omega⟩
            have hEi := Ei_upd hEi 23 v_24 (by decide)
            refine lv_iconst (v := 1) hx hb dX12_readsFactor_86 (by decide) ?_
            subst hQ
            have hj : RF f9 g9 s9 i r 1 (upd i22 23 v_24) r22 := RF_note hx1 hx21 (Or.inr ⟨rfl, by omega, by omega⟩) e28_21 (by show _ < v_24.toInt; omega) (by show (i22 27).toInt = _; exact hn21) e33_21 hr21 (by omega) (by omega) rfl
            exact W.zret hx hb hr rfl (fun t ht hW => ⟨⟨_, (upd i22 23 v_24, r22), rfl, ⟨hRi, hRr, hEi, hEr, hj⟩, by rw [ht]; exact hP, va_K.moved hW.alike hK, hD⟩, hS.F ht⟩) hS.2.2 dX12_readsFactor_87
          · have c_19 : r_18.toInt = (-1) := b_nne c_19
            refine lv_aload_n hx hb dX12_readsFactor_60 rfl (lv_at hl 1 rfl) ?_
            refine lv_iconst (v := 1) hx hb dX12_readsFactor_61 (by decide) ?_
            refine lv_aload_n hx hb dX12_readsFactor_62 rfl (lv_at hl 1 rfl) ?_
            refine va_get (D := D) (ci := 12) (v := .int (i1 23)) (C := RX12) (T := TX12) (N := 91) hx hb hT iX12 hown hK hP 0 rfl rfl 23 (by decide) (hT _ t_252) (fun _ h9 => h9) rfl dX12_readsFactor_63 ?_
            have hg_25 : 0 ≤ (i1 23).toInt ∧ (i1 23).toInt ≤ 200 := hRi 23
            have hF_26 := rF hD hS hA
            refine va_calli (va_runV (As := [.int 1, .int (i1 23)]) (rest := []) ⟨hx, hb, hml, hown, hT⟩ (c_X12_wrongAt l D cy a i1 r1 rl 1 (i1 23) _ hRi hRr) (cwV 2 hT (gV t_259 t_260 t_261 t_262 t_6) rfl rfl rfl (by decide +kernel) ⟨Nat.le_of_ble_eq_true rfl, Nat.le_of_ble_eq_true rfl⟩) (rQ_v hP hK hD (va_recv hK hP (ci := 12) (q0 := 0) rfl rfl)) rfl rfl hl.1 rfl (lv_room (Nat.le_of_ble_eq_true rfl)) dX12_readsFactor_66 ⟨Nat.le_of_ble_eq_true rfl, Nat.le_of_ble_eq_true rfl⟩) hS (fun q _ h => hF_26 q h) hF_26 (fun r_27 u_28 t H1 locs ht hvm hr_27 hB hz1 hk1 hS => ?_)
            obtain ⟨i28, r28⟩ := u_28
            obtain ⟨hP, hK1, hD1⟩ := hB
            rw [ht] at hP
            have hD := hD1.weaken (fun k q _ h => hF_26 q.1 h)
            have hP : va_P D vwCl (mW cy a i28 r28 rl) H1 := hP
            have hD : va_D A (mW cy a i28 r28 rl) := hD
            obtain ⟨hRi, hRr, hE1, hE2, hr_27⟩ := hr_27
            have hRi : mRi i28 := hRi
            have hRr : mRr r28 := hRr
            have hEi : mEi [23, 25, 26, 27, 28, 30] _ i28 := Ei_tr hEi hE1 (by decide)
            have hEr : mEr [21, 22] _ r28 := Er_tr hEr hE2 (by decide)
            subst hr_27
            subst hQ
            exact W.zret hx hb hr rfl (fun t ht hW => ⟨⟨_, (i28, r28), rfl, ⟨hRi, hRr, hEi, hEr, (Or.inr rfl)⟩, by rw [ht]; exact hP, va_K.moved hW.alike hK, hD⟩, hS.F ht⟩) hS.2.2 dX12_readsFactor_69
      · have c_3 : r_2.toInt = 91 := b_nne c_3
        have hlt9 := mHere_lt (i := i1) (r := r1) (by omega)
        have hg24 : 0 ≤ (i1 24).toInt ∧ (i1 24).toInt ≤ 200 := hRi 24
        refine lv_aload_n hx hb dX12_readsFactor_9 rfl (lv_at hl 0 rfl) ?_
        refine lv_bipush (v := 14) hx hb dX12_readsFactor_10 (by decide) ?_
        have hF_29 := rF hD hS hA
        refine va_calli (va_runV (As := [.int 14]) (rest := []) ⟨hx, hb, hml, hown, hT⟩ (c_X12_opens l D cy a i1 r1 rl 14 _ hRi hRr (by first | omega | decide) (by show ((i1 23).toInt : Int) < 200; omega) (by show ((i1 28).toInt : Int) ≤ 200; omega)) (cwV 1 hT (gV t_865 t_866 t_867 t_868 t_6) rfl rfl rfl (by decide +kernel) ⟨Nat.le_of_ble_eq_true rfl, Nat.le_of_ble_eq_true rfl⟩) (rQ_v hP hK hD (va_recv hK hP (ci := 12) (q0 := 0) rfl rfl)) rfl rfl hl.1 rfl (lv_room (Nat.le_of_ble_eq_true rfl)) dX12_readsFactor_12 ⟨Nat.le_of_ble_eq_true rfl, Nat.le_of_ble_eq_true rfl⟩) hS (fun q _ h => hF_29 q h) hF_29 (fun r_30 u_31 t H1 locs ht hvm hr_30 hB hz1 hk1 hS => ?_)
        obtain ⟨i31, r31⟩ := u_31
        obtain ⟨hP, hK1, hD1⟩ := hB
        rw [ht] at hP
        have hD := hD1.weaken (fun k q _ h => hF_29 q.1 h)
        have hP : va_P D vwCl (mW cy a i31 r31 rl) H1 := hP
        have hD : va_D A (mW cy a i31 r31 rl) := hD
        obtain ⟨hRi, hRr, hE1, hE2, hr_30⟩ := hr_30
        have hRi : mRi i31 := hRi
        have hRr : mRr r31 := hRr
        have hEi : mEi [23, 25, 26, 27, 28, 30] _ i31 := Ei_tr hEi hE1 (by decide)
        have hEr : mEr [21, 22] _ r31 := Er_tr hEr hE2 (by decide)
        rcases hr_30 with ⟨rfl, ho28_30, ho23_30, x30, hx30, hr30⟩ | rfl
        · have ho28_30 : (i31 28).toInt = (i1 28).toInt + 1 := ho28_30
          have ho23_30 : (i31 23).toInt = (i1 23).toInt + 1 := ho23_30
          have hx30 : x30.toInt = 1048576 * 14 := hx30
          have hr30 : r31 22 = upd (r1 22) (i1 28).toInt.toNat x30 := hr30
          have e27_30 : i31 27 = i1 27 := hE1 27 (by decide)
          have e32_30 : r31 21 = r1 21 := hE2 21 (by decide)
          refine lv_if_ne (tgt := 0) hx hb dX12_readsFactor_15 (by decide) (fun c_32 => ?_) (fun c_32 => absurd c_32 (by decide))
          exact ih1 i31 r31 _ _ _ (by first | omega | (simp only [Int.toNat]; omega))  hRi hEi hRr hEr (RFi_open hx1 (by rw [hx30]) ho28_30 ho23_30 e27_30 e32_30 hr30 (by omega) (by omega) (by omega)) hP hD hS (lv_sub hl [0] rfl)
        · skip
          refine lv_if_ne (tgt := 0) hx hb dX12_readsFactor_15 (by decide) (fun c_33 => absurd (by decide) c_33) (fun c_33 => ?_)
          refine lv_iconst (v := 0) hx hb dX12_readsFactor_18 (by decide) ?_
          subst hQ
          exact W.zret hx hb hr rfl (fun t ht hW => ⟨⟨_, (i31, r31), rfl, ⟨hRi, hRr, hEi, hEr, (Or.inr rfl)⟩, by rw [ht]; exact hP, va_K.moved hW.alike hK, hD⟩, hS.F ht⟩) hS.2.2 dX12_readsFactor_19
  exact loop_1 _ i r _ _ _ (Nat.lt_succ_self _)  hRi hEi hRr hEr (RFi_rf hZ) hP hD hS hl
