theorem t_131 : Cond.fieldLink RX11 10 "DepositJudge" "prices" "LDepositJudge$PriceList;" ∈ gT := tm (List.mem_of_getElem? (i := 251) (by decide +kernel)) (by decide +kernel)
theorem t_132 : Cond.fieldLink RX11 97 "DepositJudge$PriceList" "lives" "[I" ∈ gT := tm (List.mem_of_getElem? (i := 35) (by decide +kernel)) (by decide +kernel)
theorem t_133 : Cond.constant RX11 100 (99999) ∈ gT := tm (List.mem_of_getElem? (i := 305) (by decide +kernel)) (by decide +kernel)
theorem t_134 : Cond.fieldLink RX11 101 "DepositJudge$PriceList" "pence" "[I" ∈ gT := tm (List.mem_of_getElem? (i := 37) (by decide +kernel)) (by decide +kernel)
theorem t_135 : Cond.constant RX11 273 (65535) ∈ gT := tm (List.mem_of_getElem? (i := 811) (by decide +kernel)) (by decide +kernel)
theorem t_136 : Cond.fieldLink RX9 15 "DepositJudge$Tape" "length" "I" ∈ gT := tm (List.mem_of_getElem? (i := 68) (by decide +kernel)) (by decide +kernel)
theorem t_137 : Cond.fieldLink RX9 9 "DepositJudge$Tape" "bytes" "[B" ∈ gT := tm (List.mem_of_getElem? (i := 66) (by decide +kernel)) (by decide +kernel)
theorem t_138 : Cond.code yX9_add cX9_add 3 none ∈ gT := tm (List.mem_of_getElem? (i := 464) (by decide +kernel)) (by decide +kernel)
theorem t_139 : Cond.initialized RX9 ∈ gT := tm (List.mem_of_getElem? (i := 4) (by decide +kernel)) (by decide +kernel)
theorem t_140 : Cond.methodLink RX11 144 yX9_add ∈ gT := tm (List.mem_of_getElem? (i := 461) (by decide +kernel)) (by decide +kernel)
theorem t_141 : Cond.instanceMethod yX9_add ∈ gT := tm (List.mem_of_getElem? (i := 462) (by decide +kernel)) (by decide +kernel)
theorem t_142 : Cond.selects RX9 yX9_add yX9_add ∈ gT := tm (List.mem_of_getElem? (i := 463) (by decide +kernel)) (by decide +kernel)
theorem t_143 : Cond.fieldLink RX2 15 "DepositJudge$Doubles" "times" "[I" ∈ gT := tm (List.mem_of_getElem? (i := 213) (by decide +kernel)) (by decide +kernel)
theorem t_144 : Cond.fieldLink RX2 19 "DepositJudge$Doubles" "apart" "[I" ∈ gT := tm (List.mem_of_getElem? (i := 215) (by decide +kernel)) (by decide +kernel)
theorem t_145 : Cond.methodLink RX2 25 Lib.Math.abs.name ∈ gT := tm (List.mem_of_getElem? (i := 829) (by decide +kernel)) (by decide +kernel)
theorem t_146 : Cond.static Lib.Math.abs.name ∈ gT := tm (List.mem_of_getElem? (i := 830) (by decide +kernel)) (by decide +kernel)
theorem t_147 : Cond.initialized "java/lang/Math" ∈ gT := tm (List.mem_of_getElem? (i := 14) (by decide +kernel)) (by decide +kernel)
theorem t_148 : Cond.code Lib.Math.abs.name Lib.Math.abs.code 1 (some .int) ∈ gT := tm (List.mem_of_getElem? (i := 831) (by decide +kernel)) (by decide +kernel)
theorem t_149 : Cond.fieldLink RX2 22 "DepositJudge$Doubles" "more" "[I" ∈ gT := tm (List.mem_of_getElem? (i := 217) (by decide +kernel)) (by decide +kernel)
theorem t_150 : Cond.code yX2_add cX2_add 3 none ∈ gT := tm (List.mem_of_getElem? (i := 828) (by decide +kernel)) (by decide +kernel)
theorem t_151 : Cond.initialized RX2 ∈ gT := tm (List.mem_of_getElem? (i := 9) (by decide +kernel)) (by decide +kernel)
theorem t_152 : Cond.methodLink RX11 283 yX2_add ∈ gT := tm (List.mem_of_getElem? (i := 825) (by decide +kernel)) (by decide +kernel)
theorem t_153 : Cond.instanceMethod yX2_add ∈ gT := tm (List.mem_of_getElem? (i := 826) (by decide +kernel)) (by decide +kernel)
theorem t_154 : Cond.selects RX2 yX2_add yX2_add ∈ gT := tm (List.mem_of_getElem? (i := 827) (by decide +kernel)) (by decide +kernel)
theorem t_155 : Cond.methodLink RX7 26 yX7_gap ∈ gT := tm (List.mem_of_getElem? (i := 860) (by decide +kernel)) (by decide +kernel)
theorem t_156 : Cond.constant RX7 25 (-1000000) ∈ gT := tm (List.mem_of_getElem? (i := 234) (by decide +kernel)) (by decide +kernel)
theorem t_157 : Cond.methodLink RX7 34 Lib.Math.max.name ∈ gT := tm (List.mem_of_getElem? (i := 868) (by decide +kernel)) (by decide +kernel)
theorem t_158 : Cond.static Lib.Math.max.name ∈ gT := tm (List.mem_of_getElem? (i := 551) (by decide +kernel)) (by decide +kernel)
theorem t_159 : Cond.code Lib.Math.max.name Lib.Math.max.code 2 (some .int) ∈ gT := tm (List.mem_of_getElem? (i := 552) (by decide +kernel)) (by decide +kernel)
theorem t_160 : Cond.fieldLink RX7 9 "DepositJudge$Pictures" "facts" "I" ∈ gT := tm (List.mem_of_getElem? (i := 235) (by decide +kernel)) (by decide +kernel)
theorem t_161 : Cond.fieldLink RX7 15 "DepositJudge$Pictures" "wrongCount" "I" ∈ gT := tm (List.mem_of_getElem? (i := 237) (by decide +kernel)) (by decide +kernel)
theorem t_162 : Cond.code yX7_stretch cX7_stretch 7 none ∈ gT := tm (List.mem_of_getElem? (i := 867) (by decide +kernel)) (by decide +kernel)
theorem t_163 : Cond.methodLink RX7 30 yX7_stretch ∈ gT := tm (List.mem_of_getElem? (i := 864) (by decide +kernel)) (by decide +kernel)
theorem t_164 : Cond.instanceMethod yX7_stretch ∈ gT := tm (List.mem_of_getElem? (i := 866) (by decide +kernel)) (by decide +kernel)
theorem t_165 : Cond.selects RX7 yX7_stretch yX7_stretch ∈ gT := tmp (List.mem_of_getElem? (i := 31) (by decide +kernel)) (by decide +kernel)
theorem t_166 : Cond.code yX7_add cX7_add 5 (some .int) ∈ gT := tm (List.mem_of_getElem? (i := 859) (by decide +kernel)) (by decide +kernel)
theorem t_167 : Cond.methodLink RX11 308 yX7_add ∈ gT := tm (List.mem_of_getElem? (i := 856) (by decide +kernel)) (by decide +kernel)
theorem t_168 : Cond.instanceMethod yX7_add ∈ gT := tm (List.mem_of_getElem? (i := 857) (by decide +kernel)) (by decide +kernel)
theorem t_169 : Cond.selects RX7 yX7_add yX7_add ∈ gT := tm (List.mem_of_getElem? (i := 858) (by decide +kernel)) (by decide +kernel)
theorem dX11_fact_0 : decode cX11_fact 0 = .ok (.iload_n 1, 1) := by decide +kernel
theorem dX11_fact_1 : decode cX11_fact 1 = .ok (.iconst 0, 1) := by decide +kernel
theorem dX11_fact_2 : decode cX11_fact 2 = .ok (.bipush 10, 2) := by decide +kernel
theorem dX11_fact_4 : decode cX11_fact 4 = .ok (.invokestatic 93, 3) := by decide +kernel
theorem dX11_fact_7 : decode cX11_fact 7 = .ok (.ifCond .eq 31, 3) := by decide +kernel
theorem dX11_fact_10 : decode cX11_fact 10 = .ok (.iload_n 2, 1) := by decide +kernel
theorem dX11_fact_11 : decode cX11_fact 11 = .ok (.iconst 0, 1) := by decide +kernel
theorem dX11_fact_12 : decode cX11_fact 12 = .ok (.bipush 10, 2) := by decide +kernel
theorem dX11_fact_14 : decode cX11_fact 14 = .ok (.invokestatic 93, 3) := by decide +kernel
theorem dX11_fact_17 : decode cX11_fact 17 = .ok (.ifCond .eq 21, 3) := by decide +kernel
theorem dX11_fact_20 : decode cX11_fact 20 = .ok (.iload_n 1, 1) := by decide +kernel
theorem dX11_fact_21 : decode cX11_fact 21 = .ok (.iload_n 2, 1) := by decide +kernel
theorem dX11_fact_22 : decode cX11_fact 22 = .ok (.if_icmp .eq 16, 3) := by decide +kernel
theorem dX11_fact_25 : decode cX11_fact 25 = .ok (.iload_n 3, 1) := by decide +kernel
theorem dX11_fact_26 : decode cX11_fact 26 = .ok (.sipush (-999), 3) := by decide +kernel
theorem dX11_fact_29 : decode cX11_fact 29 = .ok (.sipush 999, 3) := by decide +kernel
theorem dX11_fact_32 : decode cX11_fact 32 = .ok (.invokestatic 93, 3) := by decide +kernel
theorem dX11_fact_35 : decode cX11_fact 35 = .ok (.ifCond .ne 5, 3) := by decide +kernel
theorem dX11_fact_38 : decode cX11_fact 38 = .ok (.iconst (-1), 1) := by decide +kernel
theorem dX11_fact_39 : decode cX11_fact 39 = .ok (.ireturn, 1) := by decide +kernel
theorem dX11_fact_40 : decode cX11_fact 40 = .ok (.aload_n 0, 1) := by decide +kernel
theorem dX11_fact_41 : decode cX11_fact 41 = .ok (.getfield 89, 3) := by decide +kernel
theorem dX11_fact_44 : decode cX11_fact 44 = .ok (.iload_n 1, 1) := by decide +kernel
theorem dX11_fact_45 : decode cX11_fact 45 = .ok (.iload_n 2, 1) := by decide +kernel
theorem dX11_fact_46 : decode cX11_fact 46 = .ok (.iload_n 3, 1) := by decide +kernel
theorem dX11_fact_47 : decode cX11_fact 47 = .ok (.invokevirtual 308, 3) := by decide +kernel
theorem dX11_fact_50 : decode cX11_fact 50 = .ok (.ireturn, 1) := by decide +kernel
theorem dX11_feed_0 : decode cX11_feed 0 = .ok (.aload_n 0, 1) := by decide +kernel
theorem dX11_feed_1 : decode cX11_feed 1 = .ok (.getfield 36, 3) := by decide +kernel
theorem dX11_feed_4 : decode cX11_feed 4 = .ok (.getfield 141, 3) := by decide +kernel
theorem dX11_feed_7 : decode cX11_feed 7 = .ok (.sipush 200, 3) := by decide +kernel
theorem dX11_feed_10 : decode cX11_feed 10 = .ok (.if_icmp .le 5, 3) := by decide +kernel
theorem dX11_feed_15 : decode cX11_feed 15 = .ok (.aload_n 0, 1) := by decide +kernel
theorem dX11_feed_16 : decode cX11_feed 16 = .ok (.getfield 36, 3) := by decide +kernel
theorem dX11_feed_19 : decode cX11_feed 19 = .ok (.iload_n 1, 1) := by decide +kernel
theorem dX11_feed_20 : decode cX11_feed 20 = .ok (.invokevirtual 144, 3) := by decide +kernel
theorem dX11_feed_23 : decode cX11_feed 23 = .ok (.aload_n 0, 1) := by decide +kernel
theorem dX11_feed_24 : decode cX11_feed 24 = .ok (.getfield 36, 3) := by decide +kernel
theorem dX11_feed_27 : decode cX11_feed 27 = .ok (.iload_n 2, 1) := by decide +kernel
theorem dX11_feed_28 : decode cX11_feed 28 = .ok (.invokevirtual 144, 3) := by decide +kernel
theorem dX11_feed_31 : decode cX11_feed 31 = .ok (.aload_n 0, 1) := by decide +kernel
theorem dX11_feed_32 : decode cX11_feed 32 = .ok (.getfield 36, 3) := by decide +kernel
theorem dX11_feed_35 : decode cX11_feed 35 = .ok (.iload_n 3, 1) := by decide +kernel
theorem dX11_feed_36 : decode cX11_feed 36 = .ok (.invokevirtual 144, 3) := by decide +kernel
theorem dX11_feed_39 : decode cX11_feed 39 = .ok (.aload_n 0, 1) := by decide +kernel
theorem dX11_feed_40 : decode cX11_feed 40 = .ok (.getfield 36, 3) := by decide +kernel
theorem dX11_feed_43 : decode cX11_feed 43 = .ok (.iload 4, 2) := by decide +kernel
theorem dX11_feed_45 : decode cX11_feed 45 = .ok (.invokevirtual 144, 3) := by decide +kernel
theorem dX11_feed_48 : decode cX11_feed 48 = .ok (.aload_n 0, 1) := by decide +kernel
theorem dX11_feed_49 : decode cX11_feed 49 = .ok (.getfield 36, 3) := by decide +kernel
theorem dX11_feed_52 : decode cX11_feed 52 = .ok (.iload 5, 2) := by decide +kernel
theorem dX11_feed_54 : decode cX11_feed 54 = .ok (.invokevirtual 144, 3) := by decide +kernel
theorem dX11_feed_57 : decode cX11_feed 57 = .ok (.aload_n 0, 1) := by decide +kernel
theorem dX11_feed_58 : decode cX11_feed 58 = .ok (.getfield 36, 3) := by decide +kernel
theorem dX11_feed_61 : decode cX11_feed 61 = .ok (.getfield 141, 3) := by decide +kernel
theorem dX11_feed_64 : decode cX11_feed 64 = .ok (.ireturn, 1) := by decide +kernel
theorem dX11_life_0 : decode cX11_life 0 = .ok (.iload_n 1, 1) := by decide +kernel
theorem dX11_life_1 : decode cX11_life 1 = .ok (.iconst 0, 1) := by decide +kernel
theorem dX11_life_2 : decode cX11_life 2 = .ok (.bipush 7, 2) := by decide +kernel
theorem dX11_life_4 : decode cX11_life 4 = .ok (.invokestatic 93, 3) := by decide +kernel
theorem dX11_life_7 : decode cX11_life 7 = .ok (.ifCond .eq 14, 3) := by decide +kernel
theorem dX11_life_10 : decode cX11_life 10 = .ok (.iload_n 2, 1) := by decide +kernel
theorem dX11_life_11 : decode cX11_life 11 = .ok (.iconst 1, 1) := by decide +kernel
theorem dX11_life_12 : decode cX11_life 12 = .ok (.sipush 360, 3) := by decide +kernel
theorem dX11_life_15 : decode cX11_life 15 = .ok (.invokestatic 93, 3) := by decide +kernel
theorem dX11_life_18 : decode cX11_life 18 = .ok (.ifCond .ne 5, 3) := by decide +kernel
theorem dX11_life_21 : decode cX11_life 21 = .ok (.iconst 0, 1) := by decide +kernel
theorem dX11_life_22 : decode cX11_life 22 = .ok (.ireturn, 1) := by decide +kernel
theorem dX11_life_23 : decode cX11_life 23 = .ok (.aload_n 0, 1) := by decide +kernel
theorem dX11_life_24 : decode cX11_life 24 = .ok (.getfield 10, 3) := by decide +kernel
theorem dX11_life_27 : decode cX11_life 27 = .ok (.getfield 97, 3) := by decide +kernel
theorem dX11_life_30 : decode cX11_life 30 = .ok (.iload_n 1, 1) := by decide +kernel
theorem dX11_life_31 : decode cX11_life 31 = .ok (.iload_n 2, 1) := by decide +kernel
theorem dX11_life_32 : decode cX11_life 32 = .ok (.iastore, 1) := by decide +kernel
theorem dX11_life_33 : decode cX11_life 33 = .ok (.iconst 1, 1) := by decide +kernel
theorem dX11_life_34 : decode cX11_life 34 = .ok (.ireturn, 1) := by decide +kernel
theorem dX11_price_0 : decode cX11_price 0 = .ok (.iload_n 1, 1) := by decide +kernel
theorem dX11_price_1 : decode cX11_price 1 = .ok (.iconst 0, 1) := by decide +kernel
theorem dX11_price_2 : decode cX11_price 2 = .ok (.bipush 7, 2) := by decide +kernel
theorem dX11_price_4 : decode cX11_price 4 = .ok (.invokestatic 93, 3) := by decide +kernel
theorem dX11_price_7 : decode cX11_price 7 = .ok (.ifCond .eq 22, 3) := by decide +kernel
theorem dX11_price_10 : decode cX11_price 10 = .ok (.iload_n 2, 1) := by decide +kernel
theorem dX11_price_11 : decode cX11_price 11 = .ok (.iconst 0, 1) := by decide +kernel
theorem dX11_price_12 : decode cX11_price 12 = .ok (.iconst 3, 1) := by decide +kernel
theorem dX11_price_13 : decode cX11_price 13 = .ok (.invokestatic 93, 3) := by decide +kernel
theorem dX11_price_16 : decode cX11_price 16 = .ok (.ifCond .eq 13, 3) := by decide +kernel
theorem dX11_price_19 : decode cX11_price 19 = .ok (.iload_n 3, 1) := by decide +kernel
theorem dX11_price_20 : decode cX11_price 20 = .ok (.iconst 0, 1) := by decide +kernel
theorem dX11_price_21 : decode cX11_price 21 = .ok (.ldc 100, 2) := by decide +kernel
theorem dX11_price_23 : decode cX11_price 23 = .ok (.invokestatic 93, 3) := by decide +kernel
theorem dX11_price_26 : decode cX11_price 26 = .ok (.ifCond .ne 5, 3) := by decide +kernel
theorem dX11_price_29 : decode cX11_price 29 = .ok (.iconst 0, 1) := by decide +kernel
theorem dX11_price_30 : decode cX11_price 30 = .ok (.ireturn, 1) := by decide +kernel
theorem dX11_price_31 : decode cX11_price 31 = .ok (.aload_n 0, 1) := by decide +kernel
theorem dX11_price_32 : decode cX11_price 32 = .ok (.getfield 10, 3) := by decide +kernel
theorem dX11_price_35 : decode cX11_price 35 = .ok (.getfield 101, 3) := by decide +kernel
theorem dX11_price_38 : decode cX11_price 38 = .ok (.iload_n 1, 1) := by decide +kernel
theorem dX11_price_39 : decode cX11_price 39 = .ok (.iconst 4, 1) := by decide +kernel
theorem dX11_price_40 : decode cX11_price 40 = .ok (.imul, 1) := by decide +kernel
theorem dX11_price_41 : decode cX11_price 41 = .ok (.iload_n 2, 1) := by decide +kernel
theorem dX11_price_42 : decode cX11_price 42 = .ok (.iadd, 1) := by decide +kernel
theorem dX11_price_43 : decode cX11_price 43 = .ok (.iload_n 3, 1) := by decide +kernel
theorem dX11_price_44 : decode cX11_price 44 = .ok (.iastore, 1) := by decide +kernel
theorem dX11_price_45 : decode cX11_price 45 = .ok (.iconst 1, 1) := by decide +kernel
theorem dX11_price_46 : decode cX11_price 46 = .ok (.ireturn, 1) := by decide +kernel
theorem dX11_seed_0 : decode cX11_seed 0 = .ok (.iload_n 1, 1) := by decide +kernel
theorem dX11_seed_1 : decode cX11_seed 1 = .ok (.iconst 0, 1) := by decide +kernel
theorem dX11_seed_2 : decode cX11_seed 2 = .ok (.ldc_w 273, 3) := by decide +kernel
theorem dX11_seed_5 : decode cX11_seed 5 = .ok (.invokestatic 93, 3) := by decide +kernel
theorem dX11_seed_8 : decode cX11_seed 8 = .ok (.ifCond .ne 5, 3) := by decide +kernel
theorem dX11_seed_11 : decode cX11_seed 11 = .ok (.iconst 0, 1) := by decide +kernel
theorem dX11_seed_12 : decode cX11_seed 12 = .ok (.ireturn, 1) := by decide +kernel
theorem dX11_seed_13 : decode cX11_seed 13 = .ok (.aload_n 0, 1) := by decide +kernel
theorem dX11_seed_14 : decode cX11_seed 14 = .ok (.getfield 61, 3) := by decide +kernel
theorem dX11_seed_17 : decode cX11_seed 17 = .ok (.iload_n 1, 1) := by decide +kernel
theorem dX11_seed_18 : decode cX11_seed 18 = .ok (.putfield 274, 3) := by decide +kernel
theorem dX11_seed_21 : decode cX11_seed 21 = .ok (.iconst 1, 1) := by decide +kernel
theorem dX11_seed_22 : decode cX11_seed 22 = .ok (.ireturn, 1) := by decide +kernel
theorem dX11_twice_0 : decode cX11_twice 0 = .ok (.iload_n 1, 1) := by decide +kernel
theorem dX11_twice_1 : decode cX11_twice 1 = .ok (.iconst 0, 1) := by decide +kernel
theorem dX11_twice_2 : decode cX11_twice 2 = .ok (.iconst 5, 1) := by decide +kernel
theorem dX11_twice_3 : decode cX11_twice 3 = .ok (.invokestatic 93, 3) := by decide +kernel
theorem dX11_twice_6 : decode cX11_twice 6 = .ok (.ifCond .eq 52, 3) := by decide +kernel
theorem dX11_twice_9 : decode cX11_twice 9 = .ok (.iload_n 2, 1) := by decide +kernel
theorem dX11_twice_10 : decode cX11_twice 10 = .ok (.iconst 0, 1) := by decide +kernel
theorem dX11_twice_11 : decode cX11_twice 11 = .ok (.iconst 5, 1) := by decide +kernel
theorem dX11_twice_12 : decode cX11_twice 12 = .ok (.invokestatic 93, 3) := by decide +kernel
theorem dX11_twice_15 : decode cX11_twice 15 = .ok (.ifCond .eq 43, 3) := by decide +kernel
theorem dX11_twice_18 : decode cX11_twice 18 = .ok (.iload_n 1, 1) := by decide +kernel
theorem dX11_twice_19 : decode cX11_twice 19 = .ok (.iload_n 2, 1) := by decide +kernel
theorem dX11_twice_20 : decode cX11_twice 20 = .ok (.if_icmp .eq 38, 3) := by decide +kernel
theorem dX11_twice_23 : decode cX11_twice 23 = .ok (.iload_n 3, 1) := by decide +kernel
theorem dX11_twice_24 : decode cX11_twice 24 = .ok (.iconst 0, 1) := by decide +kernel
theorem dX11_twice_25 : decode cX11_twice 25 = .ok (.sipush 9999, 3) := by decide +kernel
theorem dX11_twice_28 : decode cX11_twice 28 = .ok (.invokestatic 93, 3) := by decide +kernel
theorem dX11_twice_31 : decode cX11_twice 31 = .ok (.ifCond .eq 27, 3) := by decide +kernel
theorem dX11_twice_34 : decode cX11_twice 34 = .ok (.iload 4, 2) := by decide +kernel
theorem dX11_twice_36 : decode cX11_twice 36 = .ok (.iconst 0, 1) := by decide +kernel
theorem dX11_twice_37 : decode cX11_twice 37 = .ok (.sipush 9999, 3) := by decide +kernel
theorem dX11_twice_40 : decode cX11_twice 40 = .ok (.invokestatic 93, 3) := by decide +kernel
theorem dX11_twice_43 : decode cX11_twice 43 = .ok (.ifCond .eq 15, 3) := by decide +kernel
theorem dX11_twice_46 : decode cX11_twice 46 = .ok (.aload_n 0, 1) := by decide +kernel
theorem dX11_twice_47 : decode cX11_twice 47 = .ok (.getfield 82, 3) := by decide +kernel
theorem dX11_twice_50 : decode cX11_twice 50 = .ok (.getfield 282, 3) := by decide +kernel
theorem dX11_twice_53 : decode cX11_twice 53 = .ok (.bipush 40, 2) := by decide +kernel
theorem dX11_twice_55 : decode cX11_twice 55 = .ok (.if_icmp .lt 5, 3) := by decide +kernel
theorem dX11_twice_58 : decode cX11_twice 58 = .ok (.iconst (-1), 1) := by decide +kernel
theorem dX11_twice_59 : decode cX11_twice 59 = .ok (.ireturn, 1) := by decide +kernel
theorem dX11_twice_60 : decode cX11_twice 60 = .ok (.aload_n 0, 1) := by decide +kernel
theorem dX11_twice_61 : decode cX11_twice 61 = .ok (.getfield 82, 3) := by decide +kernel
theorem dX11_twice_64 : decode cX11_twice 64 = .ok (.dup, 1) := by decide +kernel
theorem dX11_twice_65 : decode cX11_twice 65 = .ok (.getfield 282, 3) := by decide +kernel
theorem dX11_twice_68 : decode cX11_twice 68 = .ok (.iconst 1, 1) := by decide +kernel
theorem dX11_twice_69 : decode cX11_twice 69 = .ok (.iadd, 1) := by decide +kernel
theorem dX11_twice_70 : decode cX11_twice 70 = .ok (.putfield 282, 3) := by decide +kernel
theorem dX11_twice_73 : decode cX11_twice 73 = .ok (.aload_n 0, 1) := by decide +kernel
theorem dX11_twice_74 : decode cX11_twice 74 = .ok (.getfield 82, 3) := by decide +kernel
theorem dX11_twice_77 : decode cX11_twice 77 = .ok (.iload_n 1, 1) := by decide +kernel
theorem dX11_twice_78 : decode cX11_twice 78 = .ok (.iload_n 3, 1) := by decide +kernel
theorem dX11_twice_79 : decode cX11_twice 79 = .ok (.iload 4, 2) := by decide +kernel
theorem dX11_twice_81 : decode cX11_twice 81 = .ok (.isub, 1) := by decide +kernel
theorem dX11_twice_82 : decode cX11_twice 82 = .ok (.invokevirtual 283, 3) := by decide +kernel
theorem dX11_twice_85 : decode cX11_twice 85 = .ok (.aload_n 0, 1) := by decide +kernel
theorem dX11_twice_86 : decode cX11_twice 86 = .ok (.getfield 82, 3) := by decide +kernel
theorem dX11_twice_89 : decode cX11_twice 89 = .ok (.iload_n 2, 1) := by decide +kernel
theorem dX11_twice_90 : decode cX11_twice 90 = .ok (.iload 4, 2) := by decide +kernel
theorem dX11_twice_92 : decode cX11_twice 92 = .ok (.iload_n 3, 1) := by decide +kernel
theorem dX11_twice_93 : decode cX11_twice 93 = .ok (.isub, 1) := by decide +kernel
theorem dX11_twice_94 : decode cX11_twice 94 = .ok (.invokevirtual 283, 3) := by decide +kernel
theorem dX11_twice_97 : decode cX11_twice 97 = .ok (.aload_n 0, 1) := by decide +kernel
theorem dX11_twice_98 : decode cX11_twice 98 = .ok (.getfield 82, 3) := by decide +kernel
theorem dX11_twice_101 : decode cX11_twice 101 = .ok (.getfield 282, 3) := by decide +kernel
theorem dX11_twice_104 : decode cX11_twice 104 = .ok (.ireturn, 1) := by decide +kernel
theorem dX2_add_0 : decode cX2_add 0 = .ok (.aload_n 0, 1) := by decide +kernel
theorem dX2_add_1 : decode cX2_add 1 = .ok (.getfield 15, 3) := by decide +kernel
theorem dX2_add_4 : decode cX2_add 4 = .ok (.iload_n 1, 1) := by decide +kernel
theorem dX2_add_5 : decode cX2_add 5 = .ok (.dup2, 1) := by decide +kernel
theorem dX2_add_6 : decode cX2_add 6 = .ok (.iaload, 1) := by decide +kernel
theorem dX2_add_7 : decode cX2_add 7 = .ok (.iconst 1, 1) := by decide +kernel
theorem dX2_add_8 : decode cX2_add 8 = .ok (.iadd, 1) := by decide +kernel
theorem dX2_add_9 : decode cX2_add 9 = .ok (.iastore, 1) := by decide +kernel
theorem dX2_add_10 : decode cX2_add 10 = .ok (.aload_n 0, 1) := by decide +kernel
theorem dX2_add_11 : decode cX2_add 11 = .ok (.getfield 19, 3) := by decide +kernel
theorem dX2_add_14 : decode cX2_add 14 = .ok (.iload_n 1, 1) := by decide +kernel
theorem dX2_add_15 : decode cX2_add 15 = .ok (.dup2, 1) := by decide +kernel
theorem dX2_add_16 : decode cX2_add 16 = .ok (.iaload, 1) := by decide +kernel
theorem dX2_add_17 : decode cX2_add 17 = .ok (.iload_n 2, 1) := by decide +kernel
theorem dX2_add_18 : decode cX2_add 18 = .ok (.invokestatic 25, 3) := by decide +kernel
theorem dX2_add_21 : decode cX2_add 21 = .ok (.iadd, 1) := by decide +kernel
theorem dX2_add_22 : decode cX2_add 22 = .ok (.iastore, 1) := by decide +kernel
theorem dX2_add_23 : decode cX2_add 23 = .ok (.aload_n 0, 1) := by decide +kernel
theorem dX2_add_24 : decode cX2_add 24 = .ok (.getfield 22, 3) := by decide +kernel
theorem dX2_add_27 : decode cX2_add 27 = .ok (.iload_n 1, 1) := by decide +kernel
theorem dX2_add_28 : decode cX2_add 28 = .ok (.dup2, 1) := by decide +kernel
theorem dX2_add_29 : decode cX2_add 29 = .ok (.iaload, 1) := by decide +kernel
theorem dX2_add_30 : decode cX2_add 30 = .ok (.iload_n 2, 1) := by decide +kernel
theorem dX2_add_31 : decode cX2_add 31 = .ok (.iadd, 1) := by decide +kernel
theorem dX2_add_32 : decode cX2_add 32 = .ok (.iastore, 1) := by decide +kernel
theorem dX2_add_33 : decode cX2_add 33 = .ok (.return_, 1) := by decide +kernel
theorem dX7_add_0 : decode cX7_add 0 = .ok (.aload_n 0, 1) := by decide +kernel
theorem dX7_add_1 : decode cX7_add 1 = .ok (.getfield 9, 3) := by decide +kernel
theorem dX7_add_4 : decode cX7_add 4 = .ok (.bipush 30, 2) := by decide +kernel
theorem dX7_add_6 : decode cX7_add 6 = .ok (.if_icmp .ge 12, 3) := by decide +kernel
theorem dX7_add_9 : decode cX7_add 9 = .ok (.aload_n 0, 1) := by decide +kernel
theorem dX7_add_10 : decode cX7_add 10 = .ok (.getfield 15, 3) := by decide +kernel
theorem dX7_add_13 : decode cX7_add 13 = .ok (.bipush 30, 2) := by decide +kernel
theorem dX7_add_15 : decode cX7_add 15 = .ok (.if_icmp .lt 5, 3) := by decide +kernel
theorem dX7_add_20 : decode cX7_add 20 = .ok (.aload_n 0, 1) := by decide +kernel
theorem dX7_add_21 : decode cX7_add 21 = .ok (.iload_n 2, 1) := by decide +kernel
theorem dX7_add_22 : decode cX7_add 22 = .ok (.iload_n 1, 1) := by decide +kernel
theorem dX7_add_23 : decode cX7_add 23 = .ok (.invokevirtual 26, 3) := by decide +kernel
theorem dX7_add_26 : decode cX7_add 26 = .ok (.istore 4, 2) := by decide +kernel
theorem dX7_add_28 : decode cX7_add 28 = .ok (.iload 4, 2) := by decide +kernel
theorem dX7_add_30 : decode cX7_add 30 = .ok (.ldc 25, 2) := by decide +kernel
theorem dX7_add_32 : decode cX7_add 32 = .ok (.if_icmp .eq 36, 3) := by decide +kernel
theorem dX7_add_68 : decode cX7_add 68 = .ok (.aload_n 0, 1) := by decide +kernel
theorem dX7_add_69 : decode cX7_add 69 = .ok (.iload_n 1, 1) := by decide +kernel
theorem dX7_add_70 : decode cX7_add 70 = .ok (.iload_n 2, 1) := by decide +kernel
theorem dX7_add_71 : decode cX7_add 71 = .ok (.iload_n 3, 1) := by decide +kernel
theorem dX7_add_72 : decode cX7_add 72 = .ok (.invokevirtual 30, 3) := by decide +kernel
theorem dX7_add_75 : decode cX7_add 75 = .ok (.aload_n 0, 1) := by decide +kernel
theorem dX7_add_76 : decode cX7_add 76 = .ok (.dup, 1) := by decide +kernel
theorem dX7_add_77 : decode cX7_add 77 = .ok (.getfield 9, 3) := by decide +kernel
theorem dX7_add_80 : decode cX7_add 80 = .ok (.iconst 1, 1) := by decide +kernel
theorem dX7_add_81 : decode cX7_add 81 = .ok (.iadd, 1) := by decide +kernel
theorem dX7_add_82 : decode cX7_add 82 = .ok (.putfield 9, 3) := by decide +kernel
theorem dX7_add_85 : decode cX7_add 85 = .ok (.aload_n 0, 1) := by decide +kernel
theorem dX7_add_86 : decode cX7_add 86 = .ok (.getfield 9, 3) := by decide +kernel
theorem dX7_add_89 : decode cX7_add 89 = .ok (.ireturn, 1) := by decide +kernel
theorem dX7_stretch_0 : decode cX7_stretch 0 = .ok (.iconst 0, 1) := by decide +kernel
theorem dX7_stretch_1 : decode cX7_stretch 1 = .ok (.istore 4, 2) := by decide +kernel
theorem dX7_stretch_3 : decode cX7_stretch 3 = .ok (.iload 4, 2) := by decide +kernel
theorem dX7_stretch_5 : decode cX7_stretch 5 = .ok (.bipush 11, 2) := by decide +kernel
theorem dX7_stretch_7 : decode cX7_stretch 7 = .ok (.if_icmp .ge 94, 3) := by decide +kernel
theorem dX7_stretch_10 : decode cX7_stretch 10 = .ok (.iconst 0, 1) := by decide +kernel
theorem dX7_stretch_11 : decode cX7_stretch 11 = .ok (.istore 5, 2) := by decide +kernel
theorem dX7_stretch_13 : decode cX7_stretch 13 = .ok (.iload 5, 2) := by decide +kernel
theorem dX7_stretch_15 : decode cX7_stretch 15 = .ok (.bipush 11, 2) := by decide +kernel
theorem dX7_stretch_17 : decode cX7_stretch 17 = .ok (.if_icmp .ge 78, 3) := by decide +kernel
theorem dX7_stretch_20 : decode cX7_stretch 20 = .ok (.aload_n 0, 1) := by decide +kernel
theorem dX7_stretch_21 : decode cX7_stretch 21 = .ok (.iload 4, 2) := by decide +kernel
theorem dX7_stretch_23 : decode cX7_stretch 23 = .ok (.iload_n 1, 1) := by decide +kernel
theorem dX7_stretch_24 : decode cX7_stretch 24 = .ok (.invokevirtual 26, 3) := by decide +kernel
theorem dX7_stretch_27 : decode cX7_stretch 27 = .ok (.ldc 25, 2) := by decide +kernel
theorem dX7_stretch_29 : decode cX7_stretch 29 = .ok (.if_icmp .eq 60, 3) := by decide +kernel
theorem dX7_stretch_32 : decode cX7_stretch 32 = .ok (.aload_n 0, 1) := by decide +kernel
theorem dX7_stretch_33 : decode cX7_stretch 33 = .ok (.iload_n 2, 1) := by decide +kernel
theorem dX7_stretch_34 : decode cX7_stretch 34 = .ok (.iload 5, 2) := by decide +kernel
theorem dX7_stretch_36 : decode cX7_stretch 36 = .ok (.invokevirtual 26, 3) := by decide +kernel
theorem dX7_stretch_39 : decode cX7_stretch 39 = .ok (.ldc 25, 2) := by decide +kernel
theorem dX7_stretch_41 : decode cX7_stretch 41 = .ok (.if_icmp .eq 48, 3) := by decide +kernel
theorem dX7_stretch_44 : decode cX7_stretch 44 = .ok (.aload_n 0, 1) := by decide +kernel
theorem dX7_stretch_45 : decode cX7_stretch 45 = .ok (.iload 4, 2) := by decide +kernel
theorem dX7_stretch_47 : decode cX7_stretch 47 = .ok (.iload_n 1, 1) := by decide +kernel
theorem dX7_stretch_48 : decode cX7_stretch 48 = .ok (.invokevirtual 26, 3) := by decide +kernel
theorem dX7_stretch_51 : decode cX7_stretch 51 = .ok (.iload_n 3, 1) := by decide +kernel
theorem dX7_stretch_52 : decode cX7_stretch 52 = .ok (.iadd, 1) := by decide +kernel
theorem dX7_stretch_53 : decode cX7_stretch 53 = .ok (.aload_n 0, 1) := by decide +kernel
theorem dX7_stretch_54 : decode cX7_stretch 54 = .ok (.iload_n 2, 1) := by decide +kernel
theorem dX7_stretch_55 : decode cX7_stretch 55 = .ok (.iload 5, 2) := by decide +kernel
theorem dX7_stretch_57 : decode cX7_stretch 57 = .ok (.invokevirtual 26, 3) := by decide +kernel
theorem dX7_stretch_60 : decode cX7_stretch 60 = .ok (.iadd, 1) := by decide +kernel
theorem dX7_stretch_61 : decode cX7_stretch 61 = .ok (.istore 6, 2) := by decide +kernel
theorem dX7_stretch_63 : decode cX7_stretch 63 = .ok (.aload_n 0, 1) := by decide +kernel
theorem dX7_stretch_64 : decode cX7_stretch 64 = .ok (.getfield 22, 3) := by decide +kernel
theorem dX7_stretch_67 : decode cX7_stretch 67 = .ok (.iload 4, 2) := by decide +kernel
theorem dX7_stretch_69 : decode cX7_stretch 69 = .ok (.bipush 11, 2) := by decide +kernel
theorem dX7_stretch_71 : decode cX7_stretch 71 = .ok (.imul, 1) := by decide +kernel
theorem dX7_stretch_72 : decode cX7_stretch 72 = .ok (.iload 5, 2) := by decide +kernel
theorem dX7_stretch_74 : decode cX7_stretch 74 = .ok (.iadd, 1) := by decide +kernel
theorem dX7_stretch_75 : decode cX7_stretch 75 = .ok (.aload_n 0, 1) := by decide +kernel
theorem dX7_stretch_76 : decode cX7_stretch 76 = .ok (.iload 4, 2) := by decide +kernel
theorem dX7_stretch_78 : decode cX7_stretch 78 = .ok (.iload 5, 2) := by decide +kernel
theorem dX7_stretch_80 : decode cX7_stretch 80 = .ok (.invokevirtual 26, 3) := by decide +kernel
theorem dX7_stretch_83 : decode cX7_stretch 83 = .ok (.iload 6, 2) := by decide +kernel
theorem dX7_stretch_85 : decode cX7_stretch 85 = .ok (.invokestatic 34, 3) := by decide +kernel
theorem dX7_stretch_88 : decode cX7_stretch 88 = .ok (.iastore, 1) := by decide +kernel
theorem dX7_stretch_89 : decode cX7_stretch 89 = .ok (.iinc 5 1, 3) := by decide +kernel
theorem dX7_stretch_92 : decode cX7_stretch 92 = .ok (.goto (-79), 3) := by decide +kernel
theorem dX7_stretch_95 : decode cX7_stretch 95 = .ok (.iinc 4 1, 3) := by decide +kernel
theorem dX7_stretch_98 : decode cX7_stretch 98 = .ok (.goto (-95), 3) := by decide +kernel
theorem dX7_stretch_101 : decode cX7_stretch 101 = .ok (.return_, 1) := by decide +kernel
theorem dX9_add_0 : decode cX9_add 0 = .ok (.bipush 24, 2) := by decide +kernel
theorem dX9_add_2 : decode cX9_add 2 = .ok (.istore_n 2, 1) := by decide +kernel
theorem dX9_add_3 : decode cX9_add 3 = .ok (.iload_n 2, 1) := by decide +kernel
theorem dX9_add_4 : decode cX9_add 4 = .ok (.ifCond .lt 42, 3) := by decide +kernel
theorem dX9_add_7 : decode cX9_add 7 = .ok (.aload_n 0, 1) := by decide +kernel
theorem dX9_add_8 : decode cX9_add 8 = .ok (.getfield 15, 3) := by decide +kernel
theorem dX9_add_11 : decode cX9_add 11 = .ok (.sipush 220, 3) := by decide +kernel
theorem dX9_add_14 : decode cX9_add 14 = .ok (.if_icmp .ge 32, 3) := by decide +kernel
theorem dX9_add_17 : decode cX9_add 17 = .ok (.aload_n 0, 1) := by decide +kernel
theorem dX9_add_18 : decode cX9_add 18 = .ok (.getfield 9, 3) := by decide +kernel
theorem dX9_add_21 : decode cX9_add 21 = .ok (.aload_n 0, 1) := by decide +kernel
theorem dX9_add_22 : decode cX9_add 22 = .ok (.getfield 15, 3) := by decide +kernel
theorem dX9_add_25 : decode cX9_add 25 = .ok (.iload_n 1, 1) := by decide +kernel
theorem dX9_add_26 : decode cX9_add 26 = .ok (.iload_n 2, 1) := by decide +kernel
theorem dX9_add_27 : decode cX9_add 27 = .ok (.ishr, 1) := by decide +kernel
theorem dX9_add_28 : decode cX9_add 28 = .ok (.i2b, 1) := by decide +kernel
theorem dX9_add_29 : decode cX9_add 29 = .ok (.bastore, 1) := by decide +kernel
theorem dX9_add_30 : decode cX9_add 30 = .ok (.aload_n 0, 1) := by decide +kernel
theorem dX9_add_31 : decode cX9_add 31 = .ok (.dup, 1) := by decide +kernel
theorem dX9_add_32 : decode cX9_add 32 = .ok (.getfield 15, 3) := by decide +kernel
theorem dX9_add_35 : decode cX9_add 35 = .ok (.iconst 1, 1) := by decide +kernel
theorem dX9_add_36 : decode cX9_add 36 = .ok (.iadd, 1) := by decide +kernel
theorem dX9_add_37 : decode cX9_add 37 = .ok (.putfield 15, 3) := by decide +kernel
theorem dX9_add_40 : decode cX9_add 40 = .ok (.iinc 2 (-8), 3) := by decide +kernel
theorem dX9_add_43 : decode cX9_add 43 = .ok (.goto (-40), 3) := by decide +kernel
theorem dX9_add_46 : decode cX9_add 46 = .ok (.return_, 1) := by decide +kernel
set_option maxHeartbeats 4000000 in
set_option maxRecDepth 100000 in
theorem c_X11_life (l : Launch) (D : va_G) (cy : Nat → ClassId) (a : Nat → Nat) (i : Nat → Int32) (r : Nat → Nat → Int32) (q : Nat → Option Nat) (p0 p1 : Int32) (sz : Nat) (hf : xZ i) (hg : xZr r) : Met l yX11_life (Cond.code yX11_life cX11_life 3 (some .boolean) :: gT) { frames := 2, cells := 0, slots := 0, locals := 46 } (va_Pc [.ref (a 0), .int p0, .int p1] (rQ D cy (xW cy a i r q (a 20) (a 12)) sz)) (va_Qi (fun (z : Int32) (u : Unit) => BR z ((0 ≤ p0.toInt ∧ p0.toInt ≤ 7) ∧ (1 ≤ p1.toInt ∧ p1.toInt ≤ 360)) 1 0) (fun _ _ => True) (va_A (xW cy a i r q (a 20) (a 12)) sz)) 0 0 (va_A (xW cy a i r q (a 20) (a 12)) sz) := by
  refine Met.ofQ (cc := cX11_life) (maxL := 3) (ret := (some .boolean)) (by decide) rfl ?_
  intro p e s m args below meth c s₁ B hml hv Q hQ
  obtain ⟨rfl, hsz, hP, hK, hD0⟩ := hv
  have hx := B.exec
  have hb := B.bytes
  have hr := B.returns
  have hlocks := B.notSynchronized
  have hT : ∀ w ∈ gT, w.before _ s = true := fun w h => atoms_spec (ws := (Cond.code yX11_life cX11_life 3 (some .boolean) :: gT)) B.pre w (List.mem_cons_of_mem _ h)
  have hown : s.vm.findClass RX11 = some m.cls := findClass_of_methodNamed B.named
  subst hsz
  have hD := hD0.self (sz := s.heap.size)
  generalize hAe : va_A (xW cy a i r q (a 20) (a 12)) s.heap.size = A at hD hQ
  have hA : ∀ q : Nat, s.heap.size ≤ q → A q := fun q h => by rw [← hAe]; exact Or.inr h
  have hS : va_S A s.heap s.heap [] := va_S.rf
  have hl := lv_entry ([.ref (a 0), .int p0, .int p1]) (n := 3) (Nat.le_of_ble_eq_true rfl)
  rw [lg_entry_eq]
  generalize (lg_sl ([.ref (a 0), .int p0, .int p1]) ++ List.replicate (3 - (lg_sl ([.ref (a 0), .int p0, .int p1])).length) Slot.unset).toArray = ls at hl ⊢
  have hl : lv_has ls 3 [(0, .ref (a 0)), (1, .int p0), (2, .int p1)] := hl
  refine lv_iload_n hx hb dX11_life_0 rfl (lv_at hl 1 rfl) ?_
  refine lv_iconst (v := 0) hx hb dX11_life_1 (by decide) ?_
  refine lv_bipush (v := 7) hx hb dX11_life_2 (by decide) ?_
  refine vp_callSi (W.runS (As := [.int p0, .int 0, .int 7]) (rest := []) ⟨hx, hb, hml, hown, hT⟩ (c_X11_within l p0 0 7) (va_cwS 3 hT (gS t_1 t_3 t_4 t_2) rfl rfl rfl (by decide +kernel) ⟨Nat.le_of_ble_eq_true rfl, Nat.le_of_ble_eq_true rfl⟩) preT rfl rfl hl.1 rfl (lv_room (Nat.le_of_ble_eq_true rfl)) dX11_life_4 ⟨Nat.le_of_ble_eq_true rfl, Nat.le_of_ble_eq_true rfl⟩) (fun r_1 hr_1 => ?_)
  have hr_1 : BR r_1 (0 ≤ p0.toInt ∧ p0.toInt ≤ 7) 1 0 := hr_1
  rcases hr_1 with ⟨rfl, h_2⟩ | ⟨rfl, h_2⟩
  · skip
    refine lv_if_eq (tgt := 21) hx hb dX11_life_7 (by decide) (fun c_3 => absurd c_3 (by decide)) (fun c_3 => ?_)
    refine lv_iload_n hx hb dX11_life_10 rfl (lv_at hl 2 rfl) ?_
    refine lv_iconst (v := 1) hx hb dX11_life_11 (by decide) ?_
    refine lv_sipush (v := 360) hx hb dX11_life_12 (by decide) ?_
    refine vp_callSi (W.runS (As := [.int p1, .int 1, .int 360]) (rest := []) ⟨hx, hb, hml, hown, hT⟩ (c_X11_within l p1 1 360) (va_cwS 3 hT (gS t_1 t_3 t_4 t_2) rfl rfl rfl (by decide +kernel) ⟨Nat.le_of_ble_eq_true rfl, Nat.le_of_ble_eq_true rfl⟩) preT rfl rfl hl.1 rfl (lv_room (Nat.le_of_ble_eq_true rfl)) dX11_life_15 ⟨Nat.le_of_ble_eq_true rfl, Nat.le_of_ble_eq_true rfl⟩) (fun r_4 hr_4 => ?_)
    have hr_4 : BR r_4 (1 ≤ p1.toInt ∧ p1.toInt ≤ 360) 1 0 := hr_4
    rcases hr_4 with ⟨rfl, h_5⟩ | ⟨rfl, h_5⟩
    · skip
      refine lv_if_ne (tgt := 23) hx hb dX11_life_18 (by decide) (fun c_6 => ?_) (fun c_6 => absurd c_6 (by decide))
      refine lv_aload_n hx hb dX11_life_23 rfl (lv_at hl 0 rfl) ?_
      refine va_get (D := D) (ci := 11) (v := .ref (a 1)) (C := RX11) (T := TX11) (N := 14) hx hb hT iX11 hown hK hP 0 rfl rfl 0 (by decide) (hT _ t_131) (fun _ h9 => h9) rfl dX11_life_24 ?_
      refine va_get (D := D) (ci := 8) (v := .ref (a 2)) (C := RX8) (T := TX8) (N := 2) hx hb hT iX8 hown hK hP 1 rfl rfl 0 (by decide) (hT _ t_132) (fun _ h9 => h9) rfl dX11_life_27 ?_
      refine lv_iload_n hx hb dX11_life_30 rfl (lv_at hl 1 rfl) ?_
      refine lv_iload_n hx hb dX11_life_31 rfl (lv_at hl 2 rfl) ?_
      refine va_iast hx hb hK hP hD hS 2 0 rfl rfl (vp_inI (by omega) (by omega)) dX11_life_32 (fun H locs hP hD hS => ?_)
      rw [xS2] at hP hD
      refine lv_iconst (v := 1) hx hb dX11_life_33 (by decide) ?_
      subst hQ
      exact W.zret hx hb hr rfl (fun t ht hW => ⟨⟨_, (), rfl, Or.inl ⟨rfl, by omega⟩, trivial⟩, hS.F ht⟩) hS.2.2 dX11_life_34
    · skip
      refine lv_if_ne (tgt := 23) hx hb dX11_life_18 (by decide) (fun c_7 => absurd (by decide) c_7) (fun c_7 => ?_)
      refine lv_iconst (v := 0) hx hb dX11_life_21 (by decide) ?_
      subst hQ
      exact W.zret hx hb hr rfl (fun t ht hW => ⟨⟨_, (), rfl, Or.inr ⟨rfl, by omega⟩, trivial⟩, hS.F ht⟩) hS.2.2 dX11_life_22
  · skip
    refine lv_if_eq (tgt := 21) hx hb dX11_life_7 (by decide) (fun c_8 => ?_) (fun c_8 => absurd (by decide) c_8)
    refine lv_iconst (v := 0) hx hb dX11_life_21 (by decide) ?_
    subst hQ
    exact W.zret hx hb hr rfl (fun t ht hW => ⟨⟨_, (), rfl, Or.inr ⟨rfl, by omega⟩, trivial⟩, hS.F ht⟩) hS.2.2 dX11_life_22
set_option maxHeartbeats 4000000 in
set_option maxRecDepth 100000 in
theorem c_X11_price (l : Launch) (D : va_G) (cy : Nat → ClassId) (a : Nat → Nat) (i : Nat → Int32) (r : Nat → Nat → Int32) (q : Nat → Option Nat) (p0 p1 p2 : Int32) (sz : Nat) (hf : xZ i) (hg : xZr r) : Met l yX11_price (Cond.code yX11_price cX11_price 4 (some .boolean) :: gT) { frames := 2, cells := 0, slots := 0, locals := 46 } (va_Pc [.ref (a 0), .int p0, .int p1, .int p2] (rQ D cy (xW cy a i r q (a 20) (a 12)) sz)) (va_Qi (fun (z : Int32) (u : Unit) => BR z ((0 ≤ p0.toInt ∧ p0.toInt ≤ 7) ∧ (0 ≤ p1.toInt ∧ p1.toInt ≤ 3) ∧ (0 ≤ p2.toInt ∧ p2.toInt ≤ 99999)) 1 0) (fun _ _ => True) (va_A (xW cy a i r q (a 20) (a 12)) sz)) 0 0 (va_A (xW cy a i r q (a 20) (a 12)) sz) := by
  refine Met.ofQ (cc := cX11_price) (maxL := 4) (ret := (some .boolean)) (by decide) rfl ?_
  intro p e s m args below meth c s₁ B hml hv Q hQ
  obtain ⟨rfl, hsz, hP, hK, hD0⟩ := hv
  have hx := B.exec
  have hb := B.bytes
  have hr := B.returns
  have hlocks := B.notSynchronized
  have hT : ∀ w ∈ gT, w.before _ s = true := fun w h => atoms_spec (ws := (Cond.code yX11_price cX11_price 4 (some .boolean) :: gT)) B.pre w (List.mem_cons_of_mem _ h)
  have hown : s.vm.findClass RX11 = some m.cls := findClass_of_methodNamed B.named
  subst hsz
  have hD := hD0.self (sz := s.heap.size)
  generalize hAe : va_A (xW cy a i r q (a 20) (a 12)) s.heap.size = A at hD hQ
  have hA : ∀ q : Nat, s.heap.size ≤ q → A q := fun q h => by rw [← hAe]; exact Or.inr h
  have hS : va_S A s.heap s.heap [] := va_S.rf
  have hl := lv_entry ([.ref (a 0), .int p0, .int p1, .int p2]) (n := 4) (Nat.le_of_ble_eq_true rfl)
  rw [lg_entry_eq]
  generalize (lg_sl ([.ref (a 0), .int p0, .int p1, .int p2]) ++ List.replicate (4 - (lg_sl ([.ref (a 0), .int p0, .int p1, .int p2])).length) Slot.unset).toArray = ls at hl ⊢
  have hl : lv_has ls 4 [(0, .ref (a 0)), (1, .int p0), (2, .int p1), (3, .int p2)] := hl
  refine lv_iload_n hx hb dX11_price_0 rfl (lv_at hl 1 rfl) ?_
  refine lv_iconst (v := 0) hx hb dX11_price_1 (by decide) ?_
  refine lv_bipush (v := 7) hx hb dX11_price_2 (by decide) ?_
  refine vp_callSi (W.runS (As := [.int p0, .int 0, .int 7]) (rest := []) ⟨hx, hb, hml, hown, hT⟩ (c_X11_within l p0 0 7) (va_cwS 3 hT (gS t_1 t_3 t_4 t_2) rfl rfl rfl (by decide +kernel) ⟨Nat.le_of_ble_eq_true rfl, Nat.le_of_ble_eq_true rfl⟩) preT rfl rfl hl.1 rfl (lv_room (Nat.le_of_ble_eq_true rfl)) dX11_price_4 ⟨Nat.le_of_ble_eq_true rfl, Nat.le_of_ble_eq_true rfl⟩) (fun r_1 hr_1 => ?_)
  have hr_1 : BR r_1 (0 ≤ p0.toInt ∧ p0.toInt ≤ 7) 1 0 := hr_1
  rcases hr_1 with ⟨rfl, h_2⟩ | ⟨rfl, h_2⟩
  · skip
    refine lv_if_eq (tgt := 29) hx hb dX11_price_7 (by decide) (fun c_3 => absurd c_3 (by decide)) (fun c_3 => ?_)
    refine lv_iload_n hx hb dX11_price_10 rfl (lv_at hl 2 rfl) ?_
    refine lv_iconst (v := 0) hx hb dX11_price_11 (by decide) ?_
    refine lv_iconst (v := 3) hx hb dX11_price_12 (by decide) ?_
    refine vp_callSi (W.runS (As := [.int p1, .int 0, .int 3]) (rest := []) ⟨hx, hb, hml, hown, hT⟩ (c_X11_within l p1 0 3) (va_cwS 3 hT (gS t_1 t_3 t_4 t_2) rfl rfl rfl (by decide +kernel) ⟨Nat.le_of_ble_eq_true rfl, Nat.le_of_ble_eq_true rfl⟩) preT rfl rfl hl.1 rfl (lv_room (Nat.le_of_ble_eq_true rfl)) dX11_price_13 ⟨Nat.le_of_ble_eq_true rfl, Nat.le_of_ble_eq_true rfl⟩) (fun r_4 hr_4 => ?_)
    have hr_4 : BR r_4 (0 ≤ p1.toInt ∧ p1.toInt ≤ 3) 1 0 := hr_4
    rcases hr_4 with ⟨rfl, h_5⟩ | ⟨rfl, h_5⟩
    · skip
      refine lv_if_eq (tgt := 29) hx hb dX11_price_16 (by decide) (fun c_6 => absurd c_6 (by decide)) (fun c_6 => ?_)
      refine lv_iload_n hx hb dX11_price_19 rfl (lv_at hl 3 rfl) ?_
      refine lv_iconst (v := 0) hx hb dX11_price_20 (by decide) ?_
      refine lv_ldc (v := 99999) hx hb hown (hT _ t_133) dX11_price_21 ?_
      refine vp_callSi (W.runS (As := [.int p2, .int 0, .int 99999]) (rest := []) ⟨hx, hb, hml, hown, hT⟩ (c_X11_within l p2 0 99999) (va_cwS 3 hT (gS t_1 t_3 t_4 t_2) rfl rfl rfl (by decide +kernel) ⟨Nat.le_of_ble_eq_true rfl, Nat.le_of_ble_eq_true rfl⟩) preT rfl rfl hl.1 rfl (lv_room (Nat.le_of_ble_eq_true rfl)) dX11_price_23 ⟨Nat.le_of_ble_eq_true rfl, Nat.le_of_ble_eq_true rfl⟩) (fun r_7 hr_7 => ?_)
      have hr_7 : BR r_7 (0 ≤ p2.toInt ∧ p2.toInt ≤ 99999) 1 0 := hr_7
      rcases hr_7 with ⟨rfl, h_8⟩ | ⟨rfl, h_8⟩
      · skip
        refine lv_if_ne (tgt := 31) hx hb dX11_price_26 (by decide) (fun c_9 => ?_) (fun c_9 => absurd c_9 (by decide))
        refine lv_aload_n hx hb dX11_price_31 rfl (lv_at hl 0 rfl) ?_
        refine va_get (D := D) (ci := 11) (v := .ref (a 1)) (C := RX11) (T := TX11) (N := 14) hx hb hT iX11 hown hK hP 0 rfl rfl 0 (by decide) (hT _ t_131) (fun _ h9 => h9) rfl dX11_price_32 ?_
        refine va_get (D := D) (ci := 8) (v := .ref (a 3)) (C := RX8) (T := TX8) (N := 2) hx hb hT iX8 hown hK hP 1 rfl rfl 1 (by decide) (hT _ t_134) (fun _ h9 => h9) rfl dX11_price_35 ?_
        refine lv_iload_n hx hb dX11_price_38 rfl (lv_at hl 1 rfl) ?_
        refine lv_iconst (v := 4) hx hb dX11_price_39 (by decide) ?_
        refine lv_imul hx hb dX11_price_40 ?_
        refine lv_topi (fun v_10 ev_10 => ?_)
        have hv_10 : v_10.toInt = p0.toInt * 4 := by rw [ev_10]; have := b_rg p0; exact i_mul (a := p0.toInt) (b := 4) rfl rfl (by omega) (by omega)
        refine lv_iload_n hx hb dX11_price_41 rfl (lv_at hl 2 rfl) ?_
        refine lv_iadd hx hb dX11_price_42 ?_
        refine lv_topi (fun v_11 ev_11 => ?_)
        have hv_11 : v_11.toInt = v_10.toInt + p1.toInt := by rw [ev_11]; have := b_rg v_10; have := b_rg p1; exact i_add (a := v_10.toInt) (b := p1.toInt) rfl rfl (by omega) (by omega)
        refine lv_iload_n hx hb dX11_price_43 rfl (lv_at hl 3 rfl) ?_
        refine va_iast hx hb hK hP hD hS 3 0 rfl rfl (vp_inI (by omega) (by omega)) dX11_price_44 (fun H locs hP hD hS => ?_)
        rw [xS3] at hP hD
        refine lv_iconst (v := 1) hx hb dX11_price_45 (by decide) ?_
        subst hQ
        exact W.zret hx hb hr rfl (fun t ht hW => ⟨⟨_, (), rfl, Or.inl ⟨rfl, by omega⟩, trivial⟩, hS.F ht⟩) hS.2.2 dX11_price_46
      · skip
        refine lv_if_ne (tgt := 31) hx hb dX11_price_26 (by decide) (fun c_12 => absurd (by decide) c_12) (fun c_12 => ?_)
        refine lv_iconst (v := 0) hx hb dX11_price_29 (by decide) ?_
        subst hQ
        exact W.zret hx hb hr rfl (fun t ht hW => ⟨⟨_, (), rfl, Or.inr ⟨rfl, by omega⟩, trivial⟩, hS.F ht⟩) hS.2.2 dX11_price_30
    · skip
      refine lv_if_eq (tgt := 29) hx hb dX11_price_16 (by decide) (fun c_13 => ?_) (fun c_13 => absurd (by decide) c_13)
      refine lv_iconst (v := 0) hx hb dX11_price_29 (by decide) ?_
      subst hQ
      exact W.zret hx hb hr rfl (fun t ht hW => ⟨⟨_, (), rfl, Or.inr ⟨rfl, by omega⟩, trivial⟩, hS.F ht⟩) hS.2.2 dX11_price_30
  · skip
    refine lv_if_eq (tgt := 29) hx hb dX11_price_7 (by decide) (fun c_14 => ?_) (fun c_14 => absurd (by decide) c_14)
    refine lv_iconst (v := 0) hx hb dX11_price_29 (by decide) ?_
    subst hQ
    exact W.zret hx hb hr rfl (fun t ht hW => ⟨⟨_, (), rfl, Or.inr ⟨rfl, by omega⟩, trivial⟩, hS.F ht⟩) hS.2.2 dX11_price_30
set_option maxHeartbeats 4000000 in
set_option maxRecDepth 100000 in
theorem c_X11_seed (l : Launch) (D : va_G) (cy : Nat → ClassId) (a : Nat → Nat) (i : Nat → Int32) (r : Nat → Nat → Int32) (q : Nat → Option Nat) (p0 : Int32) (sz : Nat) (hf : xZ i) (hg : xZr r) : Met l yX11_seed (Cond.code yX11_seed cX11_seed 2 (some .boolean) :: gT) { frames := 2, cells := 0, slots := 0, locals := 46 } (va_Pc [.ref (a 0), .int p0] (rQ D cy (xW cy a i r q (a 20) (a 12)) sz)) (va_Qi (fun (z : Int32) (u : Unit) => BR z (0 ≤ p0.toInt ∧ p0.toInt ≤ 65535) 1 0) (fun _ _ => True) (va_A (xW cy a i r q (a 20) (a 12)) sz)) 0 0 (va_A (xW cy a i r q (a 20) (a 12)) sz) := by
  refine Met.ofQ (cc := cX11_seed) (maxL := 2) (ret := (some .boolean)) (by decide) rfl ?_
  intro p e s m args below meth c s₁ B hml hv Q hQ
  obtain ⟨rfl, hsz, hP, hK, hD0⟩ := hv
  have hx := B.exec
  have hb := B.bytes
  have hr := B.returns
  have hlocks := B.notSynchronized
  have hT : ∀ w ∈ gT, w.before _ s = true := fun w h => atoms_spec (ws := (Cond.code yX11_seed cX11_seed 2 (some .boolean) :: gT)) B.pre w (List.mem_cons_of_mem _ h)
  have hown : s.vm.findClass RX11 = some m.cls := findClass_of_methodNamed B.named
  subst hsz
  have hD := hD0.self (sz := s.heap.size)
  generalize hAe : va_A (xW cy a i r q (a 20) (a 12)) s.heap.size = A at hD hQ
  have hA : ∀ q : Nat, s.heap.size ≤ q → A q := fun q h => by rw [← hAe]; exact Or.inr h
  have hS : va_S A s.heap s.heap [] := va_S.rf
  have hl := lv_entry ([.ref (a 0), .int p0]) (n := 2) (Nat.le_of_ble_eq_true rfl)
  rw [lg_entry_eq]
  generalize (lg_sl ([.ref (a 0), .int p0]) ++ List.replicate (2 - (lg_sl ([.ref (a 0), .int p0])).length) Slot.unset).toArray = ls at hl ⊢
  have hl : lv_has ls 2 [(0, .ref (a 0)), (1, .int p0)] := hl
  refine lv_iload_n hx hb dX11_seed_0 rfl (lv_at hl 1 rfl) ?_
  refine lv_iconst (v := 0) hx hb dX11_seed_1 (by decide) ?_
  refine lv_ldcw (v := 65535) hx hb hown (hT _ t_135) dX11_seed_2 ?_
  refine vp_callSi (W.runS (As := [.int p0, .int 0, .int 65535]) (rest := []) ⟨hx, hb, hml, hown, hT⟩ (c_X11_within l p0 0 65535) (va_cwS 3 hT (gS t_1 t_3 t_4 t_2) rfl rfl rfl (by decide +kernel) ⟨Nat.le_of_ble_eq_true rfl, Nat.le_of_ble_eq_true rfl⟩) preT rfl rfl hl.1 rfl (lv_room (Nat.le_of_ble_eq_true rfl)) dX11_seed_5 ⟨Nat.le_of_ble_eq_true rfl, Nat.le_of_ble_eq_true rfl⟩) (fun r_1 hr_1 => ?_)
  have hr_1 : BR r_1 (0 ≤ p0.toInt ∧ p0.toInt ≤ 65535) 1 0 := hr_1
  rcases hr_1 with ⟨rfl, h_2⟩ | ⟨rfl, h_2⟩
  · skip
    refine lv_if_ne (tgt := 13) hx hb dX11_seed_8 (by decide) (fun c_3 => ?_) (fun c_3 => absurd c_3 (by decide))
    refine lv_aload_n hx hb dX11_seed_13 rfl (lv_at hl 0 rfl) ?_
    refine va_get (D := D) (ci := 11) (v := .ref (a 29)) (C := RX11) (T := TX11) (N := 14) hx hb hT iX11 hown hK hP 0 rfl rfl 8 (by decide) (hT _ t_40) (fun _ h9 => h9) rfl dX11_seed_14 ?_
    refine lv_iload_n hx hb dX11_seed_17 rfl (lv_at hl 1 rfl) ?_
    refine va_put (D := D) (ci := 1) (v := .int p0) (ty := .int) (C := RX1) (T := TX1) (N := 12) hx hb hT iX1 tyX1 tyX1_ok nmX1 hown hK hP hD hS 29 rfl rfl 11 (by decide) (hT _ t_65) (fun _ h9 => h9) rfl (by decide +kernel) rfl rfl (Nat.le_of_ble_eq_true rfl) dX11_seed_18 (fun H locs hP hD hS => ?_)
    rw [xP11] at hP hD
    refine lv_iconst (v := 1) hx hb dX11_seed_21 (by decide) ?_
    subst hQ
    exact W.zret hx hb hr rfl (fun t ht hW => ⟨⟨_, (), rfl, Or.inl ⟨rfl, by omega⟩, trivial⟩, hS.F ht⟩) hS.2.2 dX11_seed_22
  · skip
    refine lv_if_ne (tgt := 13) hx hb dX11_seed_8 (by decide) (fun c_4 => absurd (by decide) c_4) (fun c_4 => ?_)
    refine lv_iconst (v := 0) hx hb dX11_seed_11 (by decide) ?_
    subst hQ
    exact W.zret hx hb hr rfl (fun t ht hW => ⟨⟨_, (), rfl, Or.inr ⟨rfl, by omega⟩, trivial⟩, hS.F ht⟩) hS.2.2 dX11_seed_12
set_option maxHeartbeats 4000000 in
set_option maxRecDepth 100000 in
theorem c_X9_add (l : Launch) (D : va_G) (cy : Nat → ClassId) (h0 h1 : Nat) (f0 : Int32) (g : Nat → Int32) (p0 : Int32) (sz : Nat) (h9 : 0 ≤ f0.toInt ∧ f0.toInt ≤ 216) : Met l yX9_add (Cond.code yX9_add cX9_add 3 none :: gT) { frames := 1, cells := 0, slots := 0, locals := 24 } (va_Pc [.ref h0, .int p0] (rQ D cy [(h0, .inr (9, [.ref h1, .int f0])), (h1, .inl (cy 1, 220, .inl g))] sz)) (va_Qv (fun u : Int32 × (Nat → Int32) => u.1.toInt = f0.toInt + 4) (fun (u : Int32 × (Nat → Int32)) t => va_P D vwCl [(h0, .inr (9, [.ref h1, .int u.1])), (h1, .inl (cy 1, 220, .inl u.2))] t.heap ∧ va_K D vwCl (vT cy) t ∧ va_D (va_A [(h0, .inr (9, [.ref h1, .int f0])), (h1, .inl (cy 1, 220, .inl g))] sz) [(h0, .inr (9, [.ref h1, .int u.1])), (h1, .inl (cy 1, 220, .inl u.2))]) (va_A [(h0, .inr (9, [.ref h1, .int f0])), (h1, .inl (cy 1, 220, .inl g))] sz)) 0 0 (va_A [(h0, .inr (9, [.ref h1, .int f0])), (h1, .inl (cy 1, 220, .inl g))] sz) := by
  refine Met.ofQ (cc := cX9_add) (maxL := 3) (ret := none) (by decide) rfl ?_
  intro p e s m args below meth c s₁ B hml hv Q hQ
  obtain ⟨rfl, hsz, hP, hK, hD0⟩ := hv
  have hx := B.exec
  have hb := B.bytes
  have hr := B.returns
  have hlocks := B.notSynchronized
  have hT : ∀ w ∈ gT, w.before _ s = true := fun w h => atoms_spec (ws := (Cond.code yX9_add cX9_add 3 none :: gT)) B.pre w (List.mem_cons_of_mem _ h)
  have hown : s.vm.findClass RX9 = some m.cls := findClass_of_methodNamed B.named
  subst hsz
  have hD := hD0.self (sz := s.heap.size)
  generalize hAe : va_A [(h0, .inr (9, [.ref h1, .int f0])), (h1, .inl (cy 1, 220, .inl g))] s.heap.size = A at hD hQ
  have hA : ∀ q : Nat, s.heap.size ≤ q → A q := fun q h => by rw [← hAe]; exact Or.inr h
  have hS : va_S A s.heap s.heap [] := va_S.rf
  have hl := lv_entry ([.ref h0, .int p0]) (n := 3) (Nat.le_of_ble_eq_true rfl)
  rw [lg_entry_eq]
  generalize (lg_sl ([.ref h0, .int p0]) ++ List.replicate (3 - (lg_sl ([.ref h0, .int p0])).length) Slot.unset).toArray = ls at hl ⊢
  have hl : lv_has ls 3 [(0, .ref h0), (1, .int p0)] := hl
  refine lv_bipush (v := 24) hx hb dX9_add_0 (by decide) ?_
  refine lv_istore_n (lv' := [(2, .int 24), (0, .ref h0), (1, .int p0)]) hx hb dX9_add_2 rfl hl (by decide) rfl (fun ls hl => ?_)
  refine lv_iload_n hx hb dX9_add_3 rfl (lv_at hl 0 rfl) ?_
  refine lv_if_lt (tgt := 46) hx hb dX9_add_4 (by decide) (fun c_1 => absurd c_1 (by decide)) (fun c_1 => ?_)
  refine lv_aload_n hx hb dX9_add_7 rfl (lv_at hl 1 rfl) ?_
  refine va_get (D := D) (ci := 9) (v := .int f0) (C := RX9) (T := TX9) (N := 2) hx hb hT iX9 hown hK hP 0 rfl rfl 1 (by decide) (hT _ t_136) (fun _ h9 => h9) rfl dX9_add_8 ?_
  refine lv_sipush (v := 220) hx hb dX9_add_11 (by decide) ?_
  refine lv_icmp_ge (tgt := 46) hx hb dX9_add_14 (by decide) (fun c_2 => by have c_2 : 220 ≤ f0.toInt := b_le c_2; omega) (fun c_2 => ?_)
  have c_2 : f0.toInt < 220 := b_nle c_2
  refine lv_aload_n hx hb dX9_add_17 rfl (lv_at hl 1 rfl) ?_
  refine va_get (D := D) (ci := 9) (v := .ref h1) (C := RX9) (T := TX9) (N := 2) hx hb hT iX9 hown hK hP 0 rfl rfl 0 (by decide) (hT _ t_137) (fun _ h9 => h9) rfl dX9_add_18 ?_
  refine lv_aload_n hx hb dX9_add_21 rfl (lv_at hl 1 rfl) ?_
  refine va_get (D := D) (ci := 9) (v := .int f0) (C := RX9) (T := TX9) (N := 2) hx hb hT iX9 hown hK hP 0 rfl rfl 1 (by decide) (hT _ t_136) (fun _ h9 => h9) rfl dX9_add_22 ?_
  refine lv_iload_n hx hb dX9_add_25 rfl (lv_at hl 2 rfl) ?_
  refine lv_iload_n hx hb dX9_add_26 rfl (lv_at hl 0 rfl) ?_
  refine lv_ishr hx hb dX9_add_27 ?_
  refine lv_topi (fun v_3 ev_3 => ?_)
  obtain ⟨v_4, ev_4⟩ : ∃ y : Int32, v_3.toInt8.toInt32 = y := ⟨_, rfl⟩
  refine lv_i2b (v := v_4) hx hb dX9_add_28 ev_4 ?_
  refine va_bast hx hb hK hP hD hS 1 1 rfl rfl (vp_inI (by omega) (by omega)) dX9_add_29 (fun H locs hP hD hS => ?_)
  have hP : va_P D vwCl [(h0, .inr (9, [.ref h1, .int f0])), (h1, .inl (cy 1, 220, .inl (upd g f0.toNatClampNeg (vp_nar .byte v_4))))] H := hP
  have hD : va_D A [(h0, .inr (9, [.ref h1, .int f0])), (h1, .inl (cy 1, 220, .inl (upd g f0.toNatClampNeg (vp_nar .byte v_4))))] := hD
  refine lv_aload_n hx hb dX9_add_30 rfl (lv_at hl 1 rfl) ?_
  refine lv_dup hx hb dX9_add_31 rfl ?_
  refine va_get (D := D) (ci := 9) (v := .int f0) (C := RX9) (T := TX9) (N := 2) hx hb hT iX9 hown hK hP 0 rfl rfl 1 (by decide) (hT _ t_136) (fun _ h9 => h9) rfl dX9_add_32 ?_
  refine lv_iconst (v := 1) hx hb dX9_add_35 (by decide) ?_
  refine lv_iadd hx hb dX9_add_36 ?_
  refine lv_topi (fun v_5 ev_5 => ?_)
  have hv_5 : v_5.toInt = f0.toInt + 1 := by rw [ev_5]; have := b_rg f0; exact i_add (a := f0.toInt) (b := 1) rfl rfl (by omega) (by omega)
  refine va_put (D := D) (ci := 9) (v := .int v_5) (ty := .int) (C := RX9) (T := TX9) (N := 2) hx hb hT iX9 tyX9 tyX9_ok nmX9 hown hK hP hD hS 0 rfl rfl 1 (by decide) (hT _ t_136) (fun _ h9 => h9) rfl (by decide +kernel) rfl rfl (Nat.le_of_ble_eq_true rfl) dX9_add_37 (fun H locs hP hD hS => ?_)
  have hP : va_P D vwCl [(h0, .inr (9, [.ref h1, .int v_5])), (h1, .inl (cy 1, 220, .inl (upd g f0.toNatClampNeg (vp_nar .byte v_4))))] H := hP
  have hD : va_D A [(h0, .inr (9, [.ref h1, .int v_5])), (h1, .inl (cy 1, 220, .inl (upd g f0.toNatClampNeg (vp_nar .byte v_4))))] := hD
  obtain ⟨x_6, ex_6⟩ : ∃ y : Int32, y = (24 : Int32) + (-8) := ⟨_, rfl⟩
  refine lv_iinc (v := x_6) (lv' := [(2, .int x_6), (0, .ref h0), (1, .int p0)]) hx hb dX9_add_40 hl (k := 0) rfl (by rw [ex_6]; rfl) (by decide) rfl (fun ls hl => ?_)
  obtain rfl : x_6 = 16 := ex_6.trans (by decide)
  refine lv_goto (tgt := 3) hx hb dX9_add_43 (by decide) ?_
  refine lv_iload_n hx hb dX9_add_3 rfl (lv_at hl 0 rfl) ?_
  refine lv_if_lt (tgt := 46) hx hb dX9_add_4 (by decide) (fun c_7 => absurd c_7 (by decide)) (fun c_7 => ?_)
  refine lv_aload_n hx hb dX9_add_7 rfl (lv_at hl 1 rfl) ?_
  refine va_get (D := D) (ci := 9) (v := .int v_5) (C := RX9) (T := TX9) (N := 2) hx hb hT iX9 hown hK hP 0 rfl rfl 1 (by decide) (hT _ t_136) (fun _ h9 => h9) rfl dX9_add_8 ?_
  refine lv_sipush (v := 220) hx hb dX9_add_11 (by decide) ?_
  refine lv_icmp_ge (tgt := 46) hx hb dX9_add_14 (by decide) (fun c_8 => by have c_8 : 220 ≤ v_5.toInt := b_le c_8; omega) (fun c_8 => ?_)
  have c_8 : v_5.toInt < 220 := b_nle c_8
  refine lv_aload_n hx hb dX9_add_17 rfl (lv_at hl 1 rfl) ?_
  refine va_get (D := D) (ci := 9) (v := .ref h1) (C := RX9) (T := TX9) (N := 2) hx hb hT iX9 hown hK hP 0 rfl rfl 0 (by decide) (hT _ t_137) (fun _ h9 => h9) rfl dX9_add_18 ?_
  refine lv_aload_n hx hb dX9_add_21 rfl (lv_at hl 1 rfl) ?_
  refine va_get (D := D) (ci := 9) (v := .int v_5) (C := RX9) (T := TX9) (N := 2) hx hb hT iX9 hown hK hP 0 rfl rfl 1 (by decide) (hT _ t_136) (fun _ h9 => h9) rfl dX9_add_22 ?_
  refine lv_iload_n hx hb dX9_add_25 rfl (lv_at hl 2 rfl) ?_
  refine lv_iload_n hx hb dX9_add_26 rfl (lv_at hl 0 rfl) ?_
  refine lv_ishr hx hb dX9_add_27 ?_
  refine lv_topi (fun v_9 ev_9 => ?_)
  obtain ⟨v_10, ev_10⟩ : ∃ y : Int32, v_9.toInt8.toInt32 = y := ⟨_, rfl⟩
  refine lv_i2b (v := v_10) hx hb dX9_add_28 ev_10 ?_
  refine va_bast hx hb hK hP hD hS 1 1 rfl rfl (vp_inI (by omega) (by omega)) dX9_add_29 (fun H locs hP hD hS => ?_)
  have hP : va_P D vwCl [(h0, .inr (9, [.ref h1, .int v_5])), (h1, .inl (cy 1, 220, .inl (upd (upd g f0.toNatClampNeg (vp_nar .byte v_4)) v_5.toNatClampNeg (vp_nar .byte v_10))))] H := hP
  have hD : va_D A [(h0, .inr (9, [.ref h1, .int v_5])), (h1, .inl (cy 1, 220, .inl (upd (upd g f0.toNatClampNeg (vp_nar .byte v_4)) v_5.toNatClampNeg (vp_nar .byte v_10))))] := hD
  refine lv_aload_n hx hb dX9_add_30 rfl (lv_at hl 1 rfl) ?_
  refine lv_dup hx hb dX9_add_31 rfl ?_
  refine va_get (D := D) (ci := 9) (v := .int v_5) (C := RX9) (T := TX9) (N := 2) hx hb hT iX9 hown hK hP 0 rfl rfl 1 (by decide) (hT _ t_136) (fun _ h9 => h9) rfl dX9_add_32 ?_
  refine lv_iconst (v := 1) hx hb dX9_add_35 (by decide) ?_
  refine lv_iadd hx hb dX9_add_36 ?_
  refine lv_topi (fun v_11 ev_11 => ?_)
  have hv_11 : v_11.toInt = v_5.toInt + 1 := by rw [ev_11]; have := b_rg v_5; exact i_add (a := v_5.toInt) (b := 1) rfl rfl (by omega) (by omega)
  refine va_put (D := D) (ci := 9) (v := .int v_11) (ty := .int) (C := RX9) (T := TX9) (N := 2) hx hb hT iX9 tyX9 tyX9_ok nmX9 hown hK hP hD hS 0 rfl rfl 1 (by decide) (hT _ t_136) (fun _ h9 => h9) rfl (by decide +kernel) rfl rfl (Nat.le_of_ble_eq_true rfl) dX9_add_37 (fun H locs hP hD hS => ?_)
  have hP : va_P D vwCl [(h0, .inr (9, [.ref h1, .int v_11])), (h1, .inl (cy 1, 220, .inl (upd (upd g f0.toNatClampNeg (vp_nar .byte v_4)) v_5.toNatClampNeg (vp_nar .byte v_10))))] H := hP
  have hD : va_D A [(h0, .inr (9, [.ref h1, .int v_11])), (h1, .inl (cy 1, 220, .inl (upd (upd g f0.toNatClampNeg (vp_nar .byte v_4)) v_5.toNatClampNeg (vp_nar .byte v_10))))] := hD
  obtain ⟨x_12, ex_12⟩ : ∃ y : Int32, y = (16 : Int32) + (-8) := ⟨_, rfl⟩
  refine lv_iinc (v := x_12) (lv' := [(2, .int x_12), (0, .ref h0), (1, .int p0)]) hx hb dX9_add_40 hl (k := 0) rfl (by rw [ex_12]; rfl) (by decide) rfl (fun ls hl => ?_)
  obtain rfl : x_12 = 8 := ex_12.trans (by decide)
  refine lv_goto (tgt := 3) hx hb dX9_add_43 (by decide) ?_
  refine lv_iload_n hx hb dX9_add_3 rfl (lv_at hl 0 rfl) ?_
  refine lv_if_lt (tgt := 46) hx hb dX9_add_4 (by decide) (fun c_13 => absurd c_13 (by decide)) (fun c_13 => ?_)
  refine lv_aload_n hx hb dX9_add_7 rfl (lv_at hl 1 rfl) ?_
  refine va_get (D := D) (ci := 9) (v := .int v_11) (C := RX9) (T := TX9) (N := 2) hx hb hT iX9 hown hK hP 0 rfl rfl 1 (by decide) (hT _ t_136) (fun _ h9 => h9) rfl dX9_add_8 ?_
  refine lv_sipush (v := 220) hx hb dX9_add_11 (by decide) ?_
  refine lv_icmp_ge (tgt := 46) hx hb dX9_add_14 (by decide) (fun c_14 => by have c_14 : 220 ≤ v_11.toInt := b_le c_14; omega) (fun c_14 => ?_)
  have c_14 : v_11.toInt < 220 := b_nle c_14
  refine lv_aload_n hx hb dX9_add_17 rfl (lv_at hl 1 rfl) ?_
  refine va_get (D := D) (ci := 9) (v := .ref h1) (C := RX9) (T := TX9) (N := 2) hx hb hT iX9 hown hK hP 0 rfl rfl 0 (by decide) (hT _ t_137) (fun _ h9 => h9) rfl dX9_add_18 ?_
  refine lv_aload_n hx hb dX9_add_21 rfl (lv_at hl 1 rfl) ?_
  refine va_get (D := D) (ci := 9) (v := .int v_11) (C := RX9) (T := TX9) (N := 2) hx hb hT iX9 hown hK hP 0 rfl rfl 1 (by decide) (hT _ t_136) (fun _ h9 => h9) rfl dX9_add_22 ?_
  refine lv_iload_n hx hb dX9_add_25 rfl (lv_at hl 2 rfl) ?_
  refine lv_iload_n hx hb dX9_add_26 rfl (lv_at hl 0 rfl) ?_
  refine lv_ishr hx hb dX9_add_27 ?_
  refine lv_topi (fun v_15 ev_15 => ?_)
  obtain ⟨v_16, ev_16⟩ : ∃ y : Int32, v_15.toInt8.toInt32 = y := ⟨_, rfl⟩
  refine lv_i2b (v := v_16) hx hb dX9_add_28 ev_16 ?_
  refine va_bast hx hb hK hP hD hS 1 1 rfl rfl (vp_inI (by omega) (by omega)) dX9_add_29 (fun H locs hP hD hS => ?_)
  have hP : va_P D vwCl [(h0, .inr (9, [.ref h1, .int v_11])), (h1, .inl (cy 1, 220, .inl (upd (upd (upd g f0.toNatClampNeg (vp_nar .byte v_4)) v_5.toNatClampNeg (vp_nar .byte v_10)) v_11.toNatClampNeg (vp_nar .byte v_16))))] H := hP
  have hD : va_D A [(h0, .inr (9, [.ref h1, .int v_11])), (h1, .inl (cy 1, 220, .inl (upd (upd (upd g f0.toNatClampNeg (vp_nar .byte v_4)) v_5.toNatClampNeg (vp_nar .byte v_10)) v_11.toNatClampNeg (vp_nar .byte v_16))))] := hD
  refine lv_aload_n hx hb dX9_add_30 rfl (lv_at hl 1 rfl) ?_
  refine lv_dup hx hb dX9_add_31 rfl ?_
  refine va_get (D := D) (ci := 9) (v := .int v_11) (C := RX9) (T := TX9) (N := 2) hx hb hT iX9 hown hK hP 0 rfl rfl 1 (by decide) (hT _ t_136) (fun _ h9 => h9) rfl dX9_add_32 ?_
  refine lv_iconst (v := 1) hx hb dX9_add_35 (by decide) ?_
  refine lv_iadd hx hb dX9_add_36 ?_
  refine lv_topi (fun v_17 ev_17 => ?_)
  have hv_17 : v_17.toInt = v_11.toInt + 1 := by rw [ev_17]; have := b_rg v_11; exact i_add (a := v_11.toInt) (b := 1) rfl rfl (by omega) (by omega)
  refine va_put (D := D) (ci := 9) (v := .int v_17) (ty := .int) (C := RX9) (T := TX9) (N := 2) hx hb hT iX9 tyX9 tyX9_ok nmX9 hown hK hP hD hS 0 rfl rfl 1 (by decide) (hT _ t_136) (fun _ h9 => h9) rfl (by decide +kernel) rfl rfl (Nat.le_of_ble_eq_true rfl) dX9_add_37 (fun H locs hP hD hS => ?_)
  have hP : va_P D vwCl [(h0, .inr (9, [.ref h1, .int v_17])), (h1, .inl (cy 1, 220, .inl (upd (upd (upd g f0.toNatClampNeg (vp_nar .byte v_4)) v_5.toNatClampNeg (vp_nar .byte v_10)) v_11.toNatClampNeg (vp_nar .byte v_16))))] H := hP
  have hD : va_D A [(h0, .inr (9, [.ref h1, .int v_17])), (h1, .inl (cy 1, 220, .inl (upd (upd (upd g f0.toNatClampNeg (vp_nar .byte v_4)) v_5.toNatClampNeg (vp_nar .byte v_10)) v_11.toNatClampNeg (vp_nar .byte v_16))))] := hD
  obtain ⟨x_18, ex_18⟩ : ∃ y : Int32, y = (8 : Int32) + (-8) := ⟨_, rfl⟩
  refine lv_iinc (v := x_18) (lv' := [(2, .int x_18), (0, .ref h0), (1, .int p0)]) hx hb dX9_add_40 hl (k := 0) rfl (by rw [ex_18]; rfl) (by decide) rfl (fun ls hl => ?_)
  obtain rfl : x_18 = 0 := ex_18.trans (by decide)
  refine lv_goto (tgt := 3) hx hb dX9_add_43 (by decide) ?_
  refine lv_iload_n hx hb dX9_add_3 rfl (lv_at hl 0 rfl) ?_
  refine lv_if_lt (tgt := 46) hx hb dX9_add_4 (by decide) (fun c_19 => absurd c_19 (by decide)) (fun c_19 => ?_)
  refine lv_aload_n hx hb dX9_add_7 rfl (lv_at hl 1 rfl) ?_
  refine va_get (D := D) (ci := 9) (v := .int v_17) (C := RX9) (T := TX9) (N := 2) hx hb hT iX9 hown hK hP 0 rfl rfl 1 (by decide) (hT _ t_136) (fun _ h9 => h9) rfl dX9_add_8 ?_
  refine lv_sipush (v := 220) hx hb dX9_add_11 (by decide) ?_
  refine lv_icmp_ge (tgt := 46) hx hb dX9_add_14 (by decide) (fun c_20 => by have c_20 : 220 ≤ v_17.toInt := b_le c_20; omega) (fun c_20 => ?_)
  have c_20 : v_17.toInt < 220 := b_nle c_20
  refine lv_aload_n hx hb dX9_add_17 rfl (lv_at hl 1 rfl) ?_
  refine va_get (D := D) (ci := 9) (v := .ref h1) (C := RX9) (T := TX9) (N := 2) hx hb hT iX9 hown hK hP 0 rfl rfl 0 (by decide) (hT _ t_137) (fun _ h9 => h9) rfl dX9_add_18 ?_
  refine lv_aload_n hx hb dX9_add_21 rfl (lv_at hl 1 rfl) ?_
  refine va_get (D := D) (ci := 9) (v := .int v_17) (C := RX9) (T := TX9) (N := 2) hx hb hT iX9 hown hK hP 0 rfl rfl 1 (by decide) (hT _ t_136) (fun _ h9 => h9) rfl dX9_add_22 ?_
  refine lv_iload_n hx hb dX9_add_25 rfl (lv_at hl 2 rfl) ?_
  refine lv_iload_n hx hb dX9_add_26 rfl (lv_at hl 0 rfl) ?_
  refine lv_ishr hx hb dX9_add_27 ?_
  refine lv_topi (fun v_21 ev_21 => ?_)
  obtain ⟨v_22, ev_22⟩ : ∃ y : Int32, v_21.toInt8.toInt32 = y := ⟨_, rfl⟩
  refine lv_i2b (v := v_22) hx hb dX9_add_28 ev_22 ?_
  refine va_bast hx hb hK hP hD hS 1 1 rfl rfl (vp_inI (by omega) (by omega)) dX9_add_29 (fun H locs hP hD hS => ?_)
  have hP : va_P D vwCl [(h0, .inr (9, [.ref h1, .int v_17])), (h1, .inl (cy 1, 220, .inl (upd (upd (upd (upd g f0.toNatClampNeg (vp_nar .byte v_4)) v_5.toNatClampNeg (vp_nar .byte v_10)) v_11.toNatClampNeg (vp_nar .byte v_16)) v_17.toNatClampNeg (vp_nar .byte v_22))))] H := hP
  have hD : va_D A [(h0, .inr (9, [.ref h1, .int v_17])), (h1, .inl (cy 1, 220, .inl (upd (upd (upd (upd g f0.toNatClampNeg (vp_nar .byte v_4)) v_5.toNatClampNeg (vp_nar .byte v_10)) v_11.toNatClampNeg (vp_nar .byte v_16)) v_17.toNatClampNeg (vp_nar .byte v_22))))] := hD
  refine lv_aload_n hx hb dX9_add_30 rfl (lv_at hl 1 rfl) ?_
  refine lv_dup hx hb dX9_add_31 rfl ?_
  refine va_get (D := D) (ci := 9) (v := .int v_17) (C := RX9) (T := TX9) (N := 2) hx hb hT iX9 hown hK hP 0 rfl rfl 1 (by decide) (hT _ t_136) (fun _ h9 => h9) rfl dX9_add_32 ?_
  refine lv_iconst (v := 1) hx hb dX9_add_35 (by decide) ?_
  refine lv_iadd hx hb dX9_add_36 ?_
  refine lv_topi (fun v_23 ev_23 => ?_)
  have hv_23 : v_23.toInt = v_17.toInt + 1 := by rw [ev_23]; have := b_rg v_17; exact i_add (a := v_17.toInt) (b := 1) rfl rfl (by omega) (by omega)
  refine va_put (D := D) (ci := 9) (v := .int v_23) (ty := .int) (C := RX9) (T := TX9) (N := 2) hx hb hT iX9 tyX9 tyX9_ok nmX9 hown hK hP hD hS 0 rfl rfl 1 (by decide) (hT _ t_136) (fun _ h9 => h9) rfl (by decide +kernel) rfl rfl (Nat.le_of_ble_eq_true rfl) dX9_add_37 (fun H locs hP hD hS => ?_)
  have hP : va_P D vwCl [(h0, .inr (9, [.ref h1, .int v_23])), (h1, .inl (cy 1, 220, .inl (upd (upd (upd (upd g f0.toNatClampNeg (vp_nar .byte v_4)) v_5.toNatClampNeg (vp_nar .byte v_10)) v_11.toNatClampNeg (vp_nar .byte v_16)) v_17.toNatClampNeg (vp_nar .byte v_22))))] H := hP
  have hD : va_D A [(h0, .inr (9, [.ref h1, .int v_23])), (h1, .inl (cy 1, 220, .inl (upd (upd (upd (upd g f0.toNatClampNeg (vp_nar .byte v_4)) v_5.toNatClampNeg (vp_nar .byte v_10)) v_11.toNatClampNeg (vp_nar .byte v_16)) v_17.toNatClampNeg (vp_nar .byte v_22))))] := hD
  obtain ⟨x_24, ex_24⟩ : ∃ y : Int32, y = (0 : Int32) + (-8) := ⟨_, rfl⟩
  refine lv_iinc (v := x_24) (lv' := [(2, .int x_24), (0, .ref h0), (1, .int p0)]) hx hb dX9_add_40 hl (k := 0) rfl (by rw [ex_24]; rfl) (by decide) rfl (fun ls hl => ?_)
  obtain rfl : x_24 = (-8) := ex_24.trans (by decide)
  refine lv_goto (tgt := 3) hx hb dX9_add_43 (by decide) ?_
  refine lv_iload_n hx hb dX9_add_3 rfl (lv_at hl 0 rfl) ?_
  refine lv_if_lt (tgt := 46) hx hb dX9_add_4 (by decide) (fun c_25 => ?_) (fun c_25 => absurd (by decide) c_25)
  subst hQ
  exact W.vret hx hb hr (fun t ht hW => ⟨⟨(v_23, upd (upd (upd (upd g f0.toNatClampNeg (vp_nar .byte v_4)) v_5.toNatClampNeg (vp_nar .byte v_10)) v_11.toNatClampNeg (vp_nar .byte v_16)) v_17.toNatClampNeg (vp_nar .byte v_22)), rfl, (by show v_23.toInt = _; omega), by rw [ht]; exact hP, va_K.moved hW.alike hK, hD⟩, hS.F ht⟩) hS.2.2 dX9_add_46
set_option maxHeartbeats 4000000 in
set_option maxRecDepth 100000 in
theorem c_X11_feed (l : Launch) (D : va_G) (cy : Nat → ClassId) (a : Nat → Nat) (i : Nat → Int32) (r : Nat → Nat → Int32) (q : Nat → Option Nat) (p0 p1 p2 p3 p4 : Int32) (sz : Nat) (hf : xZ i) (hg : xZr r) : Met l yX11_feed (Cond.code yX11_feed cX11_feed 6 (some .int) :: gT) { frames := 2, cells := 0, slots := 0, locals := 46 } (va_Pc [.ref (a 0), .int p0, .int p1, .int p2, .int p3, .int p4] (rQ D cy (xW cy a i r q (a 20) (a 12)) sz)) (va_Qi (fun (z : Int32) (u : Unit) => z = 20) (fun _ _ => True) (va_A (xW cy a i r q (a 20) (a 12)) sz)) 0 0 (va_A (xW cy a i r q (a 20) (a 12)) sz) := by
  refine Met.ofQ (cc := cX11_feed) (maxL := 6) (ret := (some .int)) (by decide) rfl ?_
  intro p e s m args below meth c s₁ B hml hv Q hQ
  obtain ⟨rfl, hsz, hP, hK, hD0⟩ := hv
  have hx := B.exec
  have hb := B.bytes
  have hr := B.returns
  have hlocks := B.notSynchronized
  have hT : ∀ w ∈ gT, w.before _ s = true := fun w h => atoms_spec (ws := (Cond.code yX11_feed cX11_feed 6 (some .int) :: gT)) B.pre w (List.mem_cons_of_mem _ h)
  have hown : s.vm.findClass RX11 = some m.cls := findClass_of_methodNamed B.named
  subst hsz
  have hD := hD0.self (sz := s.heap.size)
  generalize hAe : va_A (xW cy a i r q (a 20) (a 12)) s.heap.size = A at hD hQ
  have hA : ∀ q : Nat, s.heap.size ≤ q → A q := fun q h => by rw [← hAe]; exact Or.inr h
  have hS : va_S A s.heap s.heap [] := va_S.rf
  have hl := lv_entry ([.ref (a 0), .int p0, .int p1, .int p2, .int p3, .int p4]) (n := 6) (Nat.le_of_ble_eq_true rfl)
  rw [lg_entry_eq]
  generalize (lg_sl ([.ref (a 0), .int p0, .int p1, .int p2, .int p3, .int p4]) ++ List.replicate (6 - (lg_sl ([.ref (a 0), .int p0, .int p1, .int p2, .int p3, .int p4])).length) Slot.unset).toArray = ls at hl ⊢
  have hl : lv_has ls 6 [(0, .ref (a 0)), (1, .int p0), (2, .int p1), (3, .int p2), (4, .int p3), (5, .int p4)] := hl
  have h2 : (i 2).toInt = 0 := by rw [hf.1 2 (by decide) (by decide)]; rfl
  refine lv_aload_n hx hb dX11_feed_0 rfl (lv_at hl 0 rfl) ?_
  refine va_get (D := D) (ci := 11) (v := .ref (a 8)) (C := RX11) (T := TX11) (N := 14) hx hb hT iX11 hown hK hP 0 rfl rfl 4 (by decide) (hT _ t_46) (fun _ h9 => h9) rfl dX11_feed_1 ?_
  refine va_get (D := D) (ci := 9) (v := .int 0) (C := RX9) (T := TX9) (N := 2) hx hb hT iX9 hown hK hP 8 rfl rfl 1 (by decide) (hT _ t_47) (fun _ h9 => h9) (congrArg (fun z => some (Value.int z)) (hf.1 2 (by decide) (by decide))) dX11_feed_4 ?_
  refine lv_sipush (v := 200) hx hb dX11_feed_7 (by decide) ?_
  refine lv_icmp_le (tgt := 15) hx hb dX11_feed_10 (by decide) (fun c_1 => ?_) (fun c_1 => absurd (by decide) c_1)
  refine lv_aload_n hx hb dX11_feed_15 rfl (lv_at hl 0 rfl) ?_
  refine va_get (D := D) (ci := 11) (v := .ref (a 8)) (C := RX11) (T := TX11) (N := 14) hx hb hT iX11 hown hK hP 0 rfl rfl 4 (by decide) (hT _ t_46) (fun _ h9 => h9) rfl dX11_feed_16 ?_
  refine lv_iload_n hx hb dX11_feed_19 rfl (lv_at hl 1 rfl) ?_
  have hP_2 := hP.sub (ws' := [(a 8, .inr (9, [.ref (a 9), .int (i 2)])), (a 9, .inl (cy 1, 220, .inl (r 9)))]) [8, 9] rfl
  have hD_4 := hD.sub (ws' := [(a 8, .inr (9, [.ref (a 9), .int (i 2)])), (a 9, .inl (cy 1, 220, .inl (r 9)))]) [8, 9] (by decide) rfl
  have hF_3 := va_free (wc := [(a 8, .inr (9, [.ref (a 9), .int (i 2)])), (a 9, .inl (cy 1, 220, .inl (r 9)))]) hD hS hA [8, 9] rfl
  refine va_callv (va_runV (As := [.int p0]) (rest := []) ⟨hx, hb, hml, hown, hT⟩ (c_X9_add l D cy (a 8) (a 9) (i 2) (r 9) p0 _ (by omega)) (cwV 1 hT (gV t_138 t_140 t_141 t_142 t_139) rfl rfl rfl (by decide +kernel) ⟨Nat.le_of_ble_eq_true rfl, Nat.le_of_ble_eq_true rfl⟩) (rQ_v hP_2 hK hD_4 (va_recv hK hP_2 (ci := 9) (q0 := 0) rfl rfl)) rfl rfl hl.1 rfl (lv_room (Nat.le_of_ble_eq_true rfl)) dX11_feed_20 ⟨Nat.le_of_ble_eq_true rfl, Nat.le_of_ble_eq_true rfl⟩) hS (fun q _ h => hF_3 q h) hF_3 (fun u_6 t H1 locs ht hvm hr_5 hB hz1 hk1 hS => ?_)
  obtain ⟨hP1, hK1, hD1⟩ := hB
  rw [ht] at hP1
  obtain ⟨hP, hD⟩ := rj (wc := [(a 8, .inr (9, [.ref (a 9), .int (i 2)])), (a 9, .inl (cy 1, 220, .inl (r 9)))]) (w1 := [(a 8, .inr (9, [.ref (a 9), .int u_6.1])), (a 9, .inl (cy 1, 220, .inl u_6.2))]) hP hD [8, 9] rfl rfl hk1 hP1
  have hP : va_P D vwCl (xW cy a (upd i 2 u_6.1) (va_up r 9 u_6.2) q (a 20) (a 12)) H1 := hP
  have hD : va_D A (xW cy a (upd i 2 u_6.1) (va_up r 9 u_6.2) q (a 20) (a 12)) := hD
  have hr_5 : u_6.1.toInt = (i 2).toInt + 4 := hr_5
  refine lv_aload_n hx hb dX11_feed_23 rfl (lv_at hl 0 rfl) ?_
  refine va_get (D := D) (ci := 11) (v := .ref (a 8)) (C := RX11) (T := TX11) (N := 14) hx hb hT iX11 hown hK hP 0 rfl rfl 4 (by decide) (hT _ t_46) (fun _ h9 => h9) rfl dX11_feed_24 ?_
  refine lv_iload_n hx hb dX11_feed_27 rfl (lv_at hl 2 rfl) ?_
  have hP_7 := hP.sub (ws' := [(a 8, .inr (9, [.ref (a 9), .int ((upd i 2 u_6.1) 2)])), (a 9, .inl (cy 1, 220, .inl ((va_up r 9 u_6.2) 9)))]) [8, 9] rfl
  have hD_9 := hD.sub (ws' := [(a 8, .inr (9, [.ref (a 9), .int ((upd i 2 u_6.1) 2)])), (a 9, .inl (cy 1, 220, .inl ((va_up r 9 u_6.2) 9)))]) [8, 9] (by decide) rfl
  have hF_8 := va_free (wc := [(a 8, .inr (9, [.ref (a 9), .int ((upd i 2 u_6.1) 2)])), (a 9, .inl (cy 1, 220, .inl ((va_up r 9 u_6.2) 9)))]) hD hS hA [8, 9] rfl
  refine va_callv (va_runV (As := [.int p1]) (rest := []) ⟨hx, hb, hml, hown, hT⟩ (c_X9_add l D cy (a 8) (a 9) ((upd i 2 u_6.1) 2) ((va_up r 9 u_6.2) 9) p1 _ (by have : ((upd i 2 u_6.1) 2).toInt = u_6.1.toInt := rfl; omega)) (cwV 1 hT (gV t_138 t_140 t_141 t_142 t_139) rfl rfl rfl (by decide +kernel) ⟨Nat.le_of_ble_eq_true rfl, Nat.le_of_ble_eq_true rfl⟩) (rQ_v hP_7 hK hD_9 (va_recv hK hP_7 (ci := 9) (q0 := 0) rfl rfl)) rfl rfl hl.1 rfl (lv_room (Nat.le_of_ble_eq_true rfl)) dX11_feed_28 ⟨Nat.le_of_ble_eq_true rfl, Nat.le_of_ble_eq_true rfl⟩) hS (fun q _ h => hF_8 q h) hF_8 (fun u_11 t H1 locs ht hvm hr_10 hB hz1 hk1 hS => ?_)
  obtain ⟨hP1, hK1, hD1⟩ := hB
  rw [ht] at hP1
  obtain ⟨hP, hD⟩ := rj (wc := [(a 8, .inr (9, [.ref (a 9), .int ((upd i 2 u_6.1) 2)])), (a 9, .inl (cy 1, 220, .inl ((va_up r 9 u_6.2) 9)))]) (w1 := [(a 8, .inr (9, [.ref (a 9), .int u_11.1])), (a 9, .inl (cy 1, 220, .inl u_11.2))]) hP hD [8, 9] rfl rfl hk1 hP1
  have hP : va_P D vwCl (xW cy a (upd (upd i 2 u_6.1) 2 u_11.1) (va_up (va_up r 9 u_6.2) 9 u_11.2) q (a 20) (a 12)) H1 := hP
  have hD : va_D A (xW cy a (upd (upd i 2 u_6.1) 2 u_11.1) (va_up (va_up r 9 u_6.2) 9 u_11.2) q (a 20) (a 12)) := hD
  have hr_10 : u_11.1.toInt = u_6.1.toInt + 4 := hr_10
  refine lv_aload_n hx hb dX11_feed_31 rfl (lv_at hl 0 rfl) ?_
  refine va_get (D := D) (ci := 11) (v := .ref (a 8)) (C := RX11) (T := TX11) (N := 14) hx hb hT iX11 hown hK hP 0 rfl rfl 4 (by decide) (hT _ t_46) (fun _ h9 => h9) rfl dX11_feed_32 ?_
  refine lv_iload_n hx hb dX11_feed_35 rfl (lv_at hl 3 rfl) ?_
  have hP_12 := hP.sub (ws' := [(a 8, .inr (9, [.ref (a 9), .int ((upd (upd i 2 u_6.1) 2 u_11.1) 2)])), (a 9, .inl (cy 1, 220, .inl ((va_up (va_up r 9 u_6.2) 9 u_11.2) 9)))]) [8, 9] rfl
  have hD_14 := hD.sub (ws' := [(a 8, .inr (9, [.ref (a 9), .int ((upd (upd i 2 u_6.1) 2 u_11.1) 2)])), (a 9, .inl (cy 1, 220, .inl ((va_up (va_up r 9 u_6.2) 9 u_11.2) 9)))]) [8, 9] (by decide) rfl
  have hF_13 := va_free (wc := [(a 8, .inr (9, [.ref (a 9), .int ((upd (upd i 2 u_6.1) 2 u_11.1) 2)])), (a 9, .inl (cy 1, 220, .inl ((va_up (va_up r 9 u_6.2) 9 u_11.2) 9)))]) hD hS hA [8, 9] rfl
  refine va_callv (va_runV (As := [.int p2]) (rest := []) ⟨hx, hb, hml, hown, hT⟩ (c_X9_add l D cy (a 8) (a 9) ((upd (upd i 2 u_6.1) 2 u_11.1) 2) ((va_up (va_up r 9 u_6.2) 9 u_11.2) 9) p2 _ (by have : ((upd (upd i 2 u_6.1) 2 u_11.1) 2).toInt = u_11.1.toInt := rfl; omega)) (cwV 1 hT (gV t_138 t_140 t_141 t_142 t_139) rfl rfl rfl (by decide +kernel) ⟨Nat.le_of_ble_eq_true rfl, Nat.le_of_ble_eq_true rfl⟩) (rQ_v hP_12 hK hD_14 (va_recv hK hP_12 (ci := 9) (q0 := 0) rfl rfl)) rfl rfl hl.1 rfl (lv_room (Nat.le_of_ble_eq_true rfl)) dX11_feed_36 ⟨Nat.le_of_ble_eq_true rfl, Nat.le_of_ble_eq_true rfl⟩) hS (fun q _ h => hF_13 q h) hF_13 (fun u_16 t H1 locs ht hvm hr_15 hB hz1 hk1 hS => ?_)
  obtain ⟨hP1, hK1, hD1⟩ := hB
  rw [ht] at hP1
  obtain ⟨hP, hD⟩ := rj (wc := [(a 8, .inr (9, [.ref (a 9), .int ((upd (upd i 2 u_6.1) 2 u_11.1) 2)])), (a 9, .inl (cy 1, 220, .inl ((va_up (va_up r 9 u_6.2) 9 u_11.2) 9)))]) (w1 := [(a 8, .inr (9, [.ref (a 9), .int u_16.1])), (a 9, .inl (cy 1, 220, .inl u_16.2))]) hP hD [8, 9] rfl rfl hk1 hP1
  have hP : va_P D vwCl (xW cy a (upd (upd (upd i 2 u_6.1) 2 u_11.1) 2 u_16.1) (va_up (va_up (va_up r 9 u_6.2) 9 u_11.2) 9 u_16.2) q (a 20) (a 12)) H1 := hP
  have hD : va_D A (xW cy a (upd (upd (upd i 2 u_6.1) 2 u_11.1) 2 u_16.1) (va_up (va_up (va_up r 9 u_6.2) 9 u_11.2) 9 u_16.2) q (a 20) (a 12)) := hD
  have hr_15 : u_16.1.toInt = u_11.1.toInt + 4 := hr_15
  refine lv_aload_n hx hb dX11_feed_39 rfl (lv_at hl 0 rfl) ?_
  refine va_get (D := D) (ci := 11) (v := .ref (a 8)) (C := RX11) (T := TX11) (N := 14) hx hb hT iX11 hown hK hP 0 rfl rfl 4 (by decide) (hT _ t_46) (fun _ h9 => h9) rfl dX11_feed_40 ?_
  refine lv_iload hx hb dX11_feed_43 (lv_at hl 4 rfl) ?_
  have hP_17 := hP.sub (ws' := [(a 8, .inr (9, [.ref (a 9), .int ((upd (upd (upd i 2 u_6.1) 2 u_11.1) 2 u_16.1) 2)])), (a 9, .inl (cy 1, 220, .inl ((va_up (va_up (va_up r 9 u_6.2) 9 u_11.2) 9 u_16.2) 9)))]) [8, 9] rfl
  have hD_19 := hD.sub (ws' := [(a 8, .inr (9, [.ref (a 9), .int ((upd (upd (upd i 2 u_6.1) 2 u_11.1) 2 u_16.1) 2)])), (a 9, .inl (cy 1, 220, .inl ((va_up (va_up (va_up r 9 u_6.2) 9 u_11.2) 9 u_16.2) 9)))]) [8, 9] (by decide) rfl
  have hF_18 := va_free (wc := [(a 8, .inr (9, [.ref (a 9), .int ((upd (upd (upd i 2 u_6.1) 2 u_11.1) 2 u_16.1) 2)])), (a 9, .inl (cy 1, 220, .inl ((va_up (va_up (va_up r 9 u_6.2) 9 u_11.2) 9 u_16.2) 9)))]) hD hS hA [8, 9] rfl
  refine va_callv (va_runV (As := [.int p3]) (rest := []) ⟨hx, hb, hml, hown, hT⟩ (c_X9_add l D cy (a 8) (a 9) ((upd (upd (upd i 2 u_6.1) 2 u_11.1) 2 u_16.1) 2) ((va_up (va_up (va_up r 9 u_6.2) 9 u_11.2) 9 u_16.2) 9) p3 _ (by have : ((upd (upd (upd i 2 u_6.1) 2 u_11.1) 2 u_16.1) 2).toInt = u_16.1.toInt := rfl; omega)) (cwV 1 hT (gV t_138 t_140 t_141 t_142 t_139) rfl rfl rfl (by decide +kernel) ⟨Nat.le_of_ble_eq_true rfl, Nat.le_of_ble_eq_true rfl⟩) (rQ_v hP_17 hK hD_19 (va_recv hK hP_17 (ci := 9) (q0 := 0) rfl rfl)) rfl rfl hl.1 rfl (lv_room (Nat.le_of_ble_eq_true rfl)) dX11_feed_45 ⟨Nat.le_of_ble_eq_true rfl, Nat.le_of_ble_eq_true rfl⟩) hS (fun q _ h => hF_18 q h) hF_18 (fun u_21 t H1 locs ht hvm hr_20 hB hz1 hk1 hS => ?_)
  obtain ⟨hP1, hK1, hD1⟩ := hB
  rw [ht] at hP1
  obtain ⟨hP, hD⟩ := rj (wc := [(a 8, .inr (9, [.ref (a 9), .int ((upd (upd (upd i 2 u_6.1) 2 u_11.1) 2 u_16.1) 2)])), (a 9, .inl (cy 1, 220, .inl ((va_up (va_up (va_up r 9 u_6.2) 9 u_11.2) 9 u_16.2) 9)))]) (w1 := [(a 8, .inr (9, [.ref (a 9), .int u_21.1])), (a 9, .inl (cy 1, 220, .inl u_21.2))]) hP hD [8, 9] rfl rfl hk1 hP1
  have hP : va_P D vwCl (xW cy a (upd (upd (upd (upd i 2 u_6.1) 2 u_11.1) 2 u_16.1) 2 u_21.1) (va_up (va_up (va_up (va_up r 9 u_6.2) 9 u_11.2) 9 u_16.2) 9 u_21.2) q (a 20) (a 12)) H1 := hP
  have hD : va_D A (xW cy a (upd (upd (upd (upd i 2 u_6.1) 2 u_11.1) 2 u_16.1) 2 u_21.1) (va_up (va_up (va_up (va_up r 9 u_6.2) 9 u_11.2) 9 u_16.2) 9 u_21.2) q (a 20) (a 12)) := hD
  have hr_20 : u_21.1.toInt = u_16.1.toInt + 4 := hr_20
  refine lv_aload_n hx hb dX11_feed_48 rfl (lv_at hl 0 rfl) ?_
  refine va_get (D := D) (ci := 11) (v := .ref (a 8)) (C := RX11) (T := TX11) (N := 14) hx hb hT iX11 hown hK hP 0 rfl rfl 4 (by decide) (hT _ t_46) (fun _ h9 => h9) rfl dX11_feed_49 ?_
  refine lv_iload hx hb dX11_feed_52 (lv_at hl 5 rfl) ?_
  have hP_22 := hP.sub (ws' := [(a 8, .inr (9, [.ref (a 9), .int ((upd (upd (upd (upd i 2 u_6.1) 2 u_11.1) 2 u_16.1) 2 u_21.1) 2)])), (a 9, .inl (cy 1, 220, .inl ((va_up (va_up (va_up (va_up r 9 u_6.2) 9 u_11.2) 9 u_16.2) 9 u_21.2) 9)))]) [8, 9] rfl
  have hD_24 := hD.sub (ws' := [(a 8, .inr (9, [.ref (a 9), .int ((upd (upd (upd (upd i 2 u_6.1) 2 u_11.1) 2 u_16.1) 2 u_21.1) 2)])), (a 9, .inl (cy 1, 220, .inl ((va_up (va_up (va_up (va_up r 9 u_6.2) 9 u_11.2) 9 u_16.2) 9 u_21.2) 9)))]) [8, 9] (by decide) rfl
  have hF_23 := va_free (wc := [(a 8, .inr (9, [.ref (a 9), .int ((upd (upd (upd (upd i 2 u_6.1) 2 u_11.1) 2 u_16.1) 2 u_21.1) 2)])), (a 9, .inl (cy 1, 220, .inl ((va_up (va_up (va_up (va_up r 9 u_6.2) 9 u_11.2) 9 u_16.2) 9 u_21.2) 9)))]) hD hS hA [8, 9] rfl
  refine va_callv (va_runV (As := [.int p4]) (rest := []) ⟨hx, hb, hml, hown, hT⟩ (c_X9_add l D cy (a 8) (a 9) ((upd (upd (upd (upd i 2 u_6.1) 2 u_11.1) 2 u_16.1) 2 u_21.1) 2) ((va_up (va_up (va_up (va_up r 9 u_6.2) 9 u_11.2) 9 u_16.2) 9 u_21.2) 9) p4 _ (by have : ((upd (upd (upd (upd i 2 u_6.1) 2 u_11.1) 2 u_16.1) 2 u_21.1) 2).toInt = u_21.1.toInt := rfl; omega)) (cwV 1 hT (gV t_138 t_140 t_141 t_142 t_139) rfl rfl rfl (by decide +kernel) ⟨Nat.le_of_ble_eq_true rfl, Nat.le_of_ble_eq_true rfl⟩) (rQ_v hP_22 hK hD_24 (va_recv hK hP_22 (ci := 9) (q0 := 0) rfl rfl)) rfl rfl hl.1 rfl (lv_room (Nat.le_of_ble_eq_true rfl)) dX11_feed_54 ⟨Nat.le_of_ble_eq_true rfl, Nat.le_of_ble_eq_true rfl⟩) hS (fun q _ h => hF_23 q h) hF_23 (fun u_26 t H1 locs ht hvm hr_25 hB hz1 hk1 hS => ?_)
  obtain ⟨hP1, hK1, hD1⟩ := hB
  rw [ht] at hP1
  obtain ⟨hP, hD⟩ := rj (wc := [(a 8, .inr (9, [.ref (a 9), .int ((upd (upd (upd (upd i 2 u_6.1) 2 u_11.1) 2 u_16.1) 2 u_21.1) 2)])), (a 9, .inl (cy 1, 220, .inl ((va_up (va_up (va_up (va_up r 9 u_6.2) 9 u_11.2) 9 u_16.2) 9 u_21.2) 9)))]) (w1 := [(a 8, .inr (9, [.ref (a 9), .int u_26.1])), (a 9, .inl (cy 1, 220, .inl u_26.2))]) hP hD [8, 9] rfl rfl hk1 hP1
  have hP : va_P D vwCl (xW cy a (upd (upd (upd (upd (upd i 2 u_6.1) 2 u_11.1) 2 u_16.1) 2 u_21.1) 2 u_26.1) (va_up (va_up (va_up (va_up (va_up r 9 u_6.2) 9 u_11.2) 9 u_16.2) 9 u_21.2) 9 u_26.2) q (a 20) (a 12)) H1 := hP
  have hD : va_D A (xW cy a (upd (upd (upd (upd (upd i 2 u_6.1) 2 u_11.1) 2 u_16.1) 2 u_21.1) 2 u_26.1) (va_up (va_up (va_up (va_up (va_up r 9 u_6.2) 9 u_11.2) 9 u_16.2) 9 u_21.2) 9 u_26.2) q (a 20) (a 12)) := hD
  have hr_25 : u_26.1.toInt = u_21.1.toInt + 4 := hr_25
  refine lv_aload_n hx hb dX11_feed_57 rfl (lv_at hl 0 rfl) ?_
  refine va_get (D := D) (ci := 11) (v := .ref (a 8)) (C := RX11) (T := TX11) (N := 14) hx hb hT iX11 hown hK hP 0 rfl rfl 4 (by decide) (hT _ t_46) (fun _ h9 => h9) rfl dX11_feed_58 ?_
  refine va_get (D := D) (ci := 9) (v := .int u_26.1) (C := RX9) (T := TX9) (N := 2) hx hb hT iX9 hown hK hP 8 rfl rfl 1 (by decide) (hT _ t_47) (fun _ h9 => h9) rfl dX11_feed_61 ?_
  subst hQ
  exact W.iret (v := u_26.1) hx hb hr (fun t ht hW => ⟨⟨_, (), rfl, Int32.toInt_inj.mp (by show u_26.1.toInt = (20 : Int); omega), trivial⟩, hS.F ht⟩) hS.2.2 dX11_feed_64
set_option maxHeartbeats 4000000 in
set_option maxRecDepth 100000 in
theorem c_X2_add (l : Launch) (D : va_G) (cy : Nat → ClassId) (h0 h1 h2 h3 : Nat) (f0 : Int32) (g1 g2 g3 : Nat → Int32) (p0 p1 : Int32) (sz : Nat) (q0 : 0 ≤ p0.toInt ∧ p0.toInt ≤ 5) : Met l yX2_add (Cond.code yX2_add cX2_add 3 none :: gT) { frames := 1, cells := 0, slots := 0, locals := 24 } (va_Pc [.ref h0, .int p0, .int p1] (rQ D cy [(h0, .inr (2, [.int f0, .ref h1, .ref h2, .ref h3])), (h1, .inl (cy 0, 6, .inl g1)), (h2, .inl (cy 0, 6, .inl g2)), (h3, .inl (cy 0, 6, .inl g3))] sz)) (va_Qv (fun u : (Nat → Int32) × (Nat → Int32) × (Nat → Int32) => True) (fun (u : (Nat → Int32) × (Nat → Int32) × (Nat → Int32)) t => va_P D vwCl [(h0, .inr (2, [.int f0, .ref h1, .ref h2, .ref h3])), (h1, .inl (cy 0, 6, .inl u.1)), (h2, .inl (cy 0, 6, .inl u.2.1)), (h3, .inl (cy 0, 6, .inl u.2.2))] t.heap ∧ va_K D vwCl (vT cy) t ∧ va_D (va_A [(h0, .inr (2, [.int f0, .ref h1, .ref h2, .ref h3])), (h1, .inl (cy 0, 6, .inl g1)), (h2, .inl (cy 0, 6, .inl g2)), (h3, .inl (cy 0, 6, .inl g3))] sz) [(h0, .inr (2, [.int f0, .ref h1, .ref h2, .ref h3])), (h1, .inl (cy 0, 6, .inl u.1)), (h2, .inl (cy 0, 6, .inl u.2.1)), (h3, .inl (cy 0, 6, .inl u.2.2))]) (va_A [(h0, .inr (2, [.int f0, .ref h1, .ref h2, .ref h3])), (h1, .inl (cy 0, 6, .inl g1)), (h2, .inl (cy 0, 6, .inl g2)), (h3, .inl (cy 0, 6, .inl g3))] sz)) 0 0 (va_A [(h0, .inr (2, [.int f0, .ref h1, .ref h2, .ref h3])), (h1, .inl (cy 0, 6, .inl g1)), (h2, .inl (cy 0, 6, .inl g2)), (h3, .inl (cy 0, 6, .inl g3))] sz) := by
  refine Met.ofQ (cc := cX2_add) (maxL := 3) (ret := none) (by decide) rfl ?_
  intro p e s m args below meth c s₁ B hml hv Q hQ
  obtain ⟨rfl, hsz, hP, hK, hD0⟩ := hv
  have hx := B.exec
  have hb := B.bytes
  have hr := B.returns
  have hlocks := B.notSynchronized
  have hT : ∀ w ∈ gT, w.before _ s = true := fun w h => atoms_spec (ws := (Cond.code yX2_add cX2_add 3 none :: gT)) B.pre w (List.mem_cons_of_mem _ h)
  have hown : s.vm.findClass RX2 = some m.cls := findClass_of_methodNamed B.named
  subst hsz
  have hD := hD0.self (sz := s.heap.size)
  generalize hAe : va_A [(h0, .inr (2, [.int f0, .ref h1, .ref h2, .ref h3])), (h1, .inl (cy 0, 6, .inl g1)), (h2, .inl (cy 0, 6, .inl g2)), (h3, .inl (cy 0, 6, .inl g3))] s.heap.size = A at hD hQ
  have hA : ∀ q : Nat, s.heap.size ≤ q → A q := fun q h => by rw [← hAe]; exact Or.inr h
  have hS : va_S A s.heap s.heap [] := va_S.rf
  have hl := lv_entry ([.ref h0, .int p0, .int p1]) (n := 3) (Nat.le_of_ble_eq_true rfl)
  rw [lg_entry_eq]
  generalize (lg_sl ([.ref h0, .int p0, .int p1]) ++ List.replicate (3 - (lg_sl ([.ref h0, .int p0, .int p1])).length) Slot.unset).toArray = ls at hl ⊢
  have hl : lv_has ls 3 [(0, .ref h0), (1, .int p0), (2, .int p1)] := hl
  refine lv_aload_n hx hb dX2_add_0 rfl (lv_at hl 0 rfl) ?_
  refine va_get (D := D) (ci := 2) (v := .ref h1) (C := RX2) (T := TX2) (N := 4) hx hb hT iX2 hown hK hP 0 rfl rfl 1 (by decide) (hT _ t_143) (fun _ h9 => h9) rfl dX2_add_1 ?_
  refine lv_iload_n hx hb dX2_add_4 rfl (lv_at hl 1 rfl) ?_
  refine lv_dup2_11 hx hb dX2_add_5 rfl rfl ?_
  refine va_iald hx hb hK hP 1 0 rfl rfl (vp_inI (by omega) (by omega)) dX2_add_6 ?_
  refine lv_topi (fun v_1 ev_1 => ?_)
  refine lv_iconst (v := 1) hx hb dX2_add_7 (by decide) ?_
  refine lv_iadd hx hb dX2_add_8 ?_
  refine lv_topi (fun v_2 ev_2 => ?_)
  refine va_iast hx hb hK hP hD hS 1 0 rfl rfl (vp_inI (by omega) (by omega)) dX2_add_9 (fun H locs hP hD hS => ?_)
  have hP : va_P D vwCl [(h0, .inr (2, [.int f0, .ref h1, .ref h2, .ref h3])), (h1, .inl (cy 0, 6, .inl (upd g1 p0.toNatClampNeg v_2))), (h2, .inl (cy 0, 6, .inl g2)), (h3, .inl (cy 0, 6, .inl g3))] H := hP
  have hD : va_D A [(h0, .inr (2, [.int f0, .ref h1, .ref h2, .ref h3])), (h1, .inl (cy 0, 6, .inl (upd g1 p0.toNatClampNeg v_2))), (h2, .inl (cy 0, 6, .inl g2)), (h3, .inl (cy 0, 6, .inl g3))] := hD
  refine lv_aload_n hx hb dX2_add_10 rfl (lv_at hl 0 rfl) ?_
  refine va_get (D := D) (ci := 2) (v := .ref h2) (C := RX2) (T := TX2) (N := 4) hx hb hT iX2 hown hK hP 0 rfl rfl 2 (by decide) (hT _ t_144) (fun _ h9 => h9) rfl dX2_add_11 ?_
  refine lv_iload_n hx hb dX2_add_14 rfl (lv_at hl 1 rfl) ?_
  refine lv_dup2_11 hx hb dX2_add_15 rfl rfl ?_
  refine va_iald hx hb hK hP 2 0 rfl rfl (vp_inI (by omega) (by omega)) dX2_add_16 ?_
  refine lv_topi (fun v_3 ev_3 => ?_)
  refine lv_iload_n hx hb dX2_add_17 rfl (lv_at hl 2 rfl) ?_
  refine va_mabs hx hb (by rw [hml]; exact hl.1.symm) hown (hT _ t_145) (hT _ t_146) (hT _ t_147) (hT _ t_148) (Nat.le_of_ble_eq_true rfl) (Nat.le_of_ble_eq_true rfl) (Nat.le_of_ble_eq_true rfl) (Nat.le_of_ble_eq_true rfl) dX2_add_18 ?_
  refine lv_topi (fun v_4 ev_4 => ?_)
  refine lv_iadd hx hb dX2_add_21 ?_
  refine lv_topi (fun v_5 ev_5 => ?_)
  refine va_iast hx hb hK hP hD hS 2 0 rfl rfl (vp_inI (by omega) (by omega)) dX2_add_22 (fun H locs hP hD hS => ?_)
  have hP : va_P D vwCl [(h0, .inr (2, [.int f0, .ref h1, .ref h2, .ref h3])), (h1, .inl (cy 0, 6, .inl (upd g1 p0.toNatClampNeg v_2))), (h2, .inl (cy 0, 6, .inl (upd g2 p0.toNatClampNeg v_5))), (h3, .inl (cy 0, 6, .inl g3))] H := hP
  have hD : va_D A [(h0, .inr (2, [.int f0, .ref h1, .ref h2, .ref h3])), (h1, .inl (cy 0, 6, .inl (upd g1 p0.toNatClampNeg v_2))), (h2, .inl (cy 0, 6, .inl (upd g2 p0.toNatClampNeg v_5))), (h3, .inl (cy 0, 6, .inl g3))] := hD
  refine lv_aload_n hx hb dX2_add_23 rfl (lv_at hl 0 rfl) ?_
  refine va_get (D := D) (ci := 2) (v := .ref h3) (C := RX2) (T := TX2) (N := 4) hx hb hT iX2 hown hK hP 0 rfl rfl 3 (by decide) (hT _ t_149) (fun _ h9 => h9) rfl dX2_add_24 ?_
  refine lv_iload_n hx hb dX2_add_27 rfl (lv_at hl 1 rfl) ?_
  refine lv_dup2_11 hx hb dX2_add_28 rfl rfl ?_
  refine va_iald hx hb hK hP 3 0 rfl rfl (vp_inI (by omega) (by omega)) dX2_add_29 ?_
  refine lv_topi (fun v_6 ev_6 => ?_)
  refine lv_iload_n hx hb dX2_add_30 rfl (lv_at hl 2 rfl) ?_
  refine lv_iadd hx hb dX2_add_31 ?_
  refine lv_topi (fun v_7 ev_7 => ?_)
  refine va_iast hx hb hK hP hD hS 3 0 rfl rfl (vp_inI (by omega) (by omega)) dX2_add_32 (fun H locs hP hD hS => ?_)
  have hP : va_P D vwCl [(h0, .inr (2, [.int f0, .ref h1, .ref h2, .ref h3])), (h1, .inl (cy 0, 6, .inl (upd g1 p0.toNatClampNeg v_2))), (h2, .inl (cy 0, 6, .inl (upd g2 p0.toNatClampNeg v_5))), (h3, .inl (cy 0, 6, .inl (upd g3 p0.toNatClampNeg v_7)))] H := hP
  have hD : va_D A [(h0, .inr (2, [.int f0, .ref h1, .ref h2, .ref h3])), (h1, .inl (cy 0, 6, .inl (upd g1 p0.toNatClampNeg v_2))), (h2, .inl (cy 0, 6, .inl (upd g2 p0.toNatClampNeg v_5))), (h3, .inl (cy 0, 6, .inl (upd g3 p0.toNatClampNeg v_7)))] := hD
  subst hQ
  exact W.vret hx hb hr (fun t ht hW => ⟨⟨(upd g1 p0.toNatClampNeg v_2, upd g2 p0.toNatClampNeg v_5, upd g3 p0.toNatClampNeg v_7), rfl, trivial, by rw [ht]; exact hP, va_K.moved hW.alike hK, hD⟩, hS.F ht⟩) hS.2.2 dX2_add_33
set_option maxHeartbeats 4000000 in
set_option maxRecDepth 100000 in
theorem c_X11_twice (l : Launch) (D : va_G) (cy : Nat → ClassId) (a : Nat → Nat) (i : Nat → Int32) (r : Nat → Nat → Int32) (q : Nat → Option Nat) (p0 p1 p2 p3 : Int32) (sz : Nat) (hf : xZ i) (hg : xZr r) : Met l yX11_twice (Cond.code yX11_twice cX11_twice 5 (some .int) :: gT) { frames := 2, cells := 0, slots := 0, locals := 46 } (va_Pc [.ref (a 0), .int p0, .int p1, .int p2, .int p3] (rQ D cy (xW cy a i r q (a 20) (a 12)) sz)) (va_Qi (fun (z : Int32) (u : Unit) => BR z ((0 ≤ p0.toInt ∧ p0.toInt ≤ 5) ∧ (0 ≤ p1.toInt ∧ p1.toInt ≤ 5) ∧ p0.toInt ≠ p1.toInt ∧ (0 ≤ p2.toInt ∧ p2.toInt ≤ 9999) ∧ (0 ≤ p3.toInt ∧ p3.toInt ≤ 9999)) 1 (-1)) (fun _ _ => True) (va_A (xW cy a i r q (a 20) (a 12)) sz)) 0 0 (va_A (xW cy a i r q (a 20) (a 12)) sz) := by
  refine Met.ofQ (cc := cX11_twice) (maxL := 5) (ret := (some .int)) (by decide) rfl ?_
  intro p e s m args below meth c s₁ B hml hv Q hQ
  obtain ⟨rfl, hsz, hP, hK, hD0⟩ := hv
  have hx := B.exec
  have hb := B.bytes
  have hr := B.returns
  have hlocks := B.notSynchronized
  have hT : ∀ w ∈ gT, w.before _ s = true := fun w h => atoms_spec (ws := (Cond.code yX11_twice cX11_twice 5 (some .int) :: gT)) B.pre w (List.mem_cons_of_mem _ h)
  have hown : s.vm.findClass RX11 = some m.cls := findClass_of_methodNamed B.named
  subst hsz
  have hD := hD0.self (sz := s.heap.size)
  generalize hAe : va_A (xW cy a i r q (a 20) (a 12)) s.heap.size = A at hD hQ
  have hA : ∀ q : Nat, s.heap.size ≤ q → A q := fun q h => by rw [← hAe]; exact Or.inr h
  have hS : va_S A s.heap s.heap [] := va_S.rf
  have hl := lv_entry ([.ref (a 0), .int p0, .int p1, .int p2, .int p3]) (n := 5) (Nat.le_of_ble_eq_true rfl)
  rw [lg_entry_eq]
  generalize (lg_sl ([.ref (a 0), .int p0, .int p1, .int p2, .int p3]) ++ List.replicate (5 - (lg_sl ([.ref (a 0), .int p0, .int p1, .int p2, .int p3])).length) Slot.unset).toArray = ls at hl ⊢
  have hl : lv_has ls 5 [(0, .ref (a 0)), (1, .int p0), (2, .int p1), (3, .int p2), (4, .int p3)] := hl
  refine lv_iload_n hx hb dX11_twice_0 rfl (lv_at hl 1 rfl) ?_
  refine lv_iconst (v := 0) hx hb dX11_twice_1 (by decide) ?_
  refine lv_iconst (v := 5) hx hb dX11_twice_2 (by decide) ?_
  refine vp_callSi (W.runS (As := [.int p0, .int 0, .int 5]) (rest := []) ⟨hx, hb, hml, hown, hT⟩ (c_X11_within l p0 0 5) (va_cwS 3 hT (gS t_1 t_3 t_4 t_2) rfl rfl rfl (by decide +kernel) ⟨Nat.le_of_ble_eq_true rfl, Nat.le_of_ble_eq_true rfl⟩) preT rfl rfl hl.1 rfl (lv_room (Nat.le_of_ble_eq_true rfl)) dX11_twice_3 ⟨Nat.le_of_ble_eq_true rfl, Nat.le_of_ble_eq_true rfl⟩) (fun r_1 hr_1 => ?_)
  have hr_1 : BR r_1 (0 ≤ p0.toInt ∧ p0.toInt ≤ 5) 1 0 := hr_1
  rcases hr_1 with ⟨rfl, h_2⟩ | ⟨rfl, h_2⟩
  · skip
    refine lv_if_eq (tgt := 58) hx hb dX11_twice_6 (by decide) (fun c_3 => absurd c_3 (by decide)) (fun c_3 => ?_)
    refine lv_iload_n hx hb dX11_twice_9 rfl (lv_at hl 2 rfl) ?_
    refine lv_iconst (v := 0) hx hb dX11_twice_10 (by decide) ?_
    refine lv_iconst (v := 5) hx hb dX11_twice_11 (by decide) ?_
    refine vp_callSi (W.runS (As := [.int p1, .int 0, .int 5]) (rest := []) ⟨hx, hb, hml, hown, hT⟩ (c_X11_within l p1 0 5) (va_cwS 3 hT (gS t_1 t_3 t_4 t_2) rfl rfl rfl (by decide +kernel) ⟨Nat.le_of_ble_eq_true rfl, Nat.le_of_ble_eq_true rfl⟩) preT rfl rfl hl.1 rfl (lv_room (Nat.le_of_ble_eq_true rfl)) dX11_twice_12 ⟨Nat.le_of_ble_eq_true rfl, Nat.le_of_ble_eq_true rfl⟩) (fun r_4 hr_4 => ?_)
    have hr_4 : BR r_4 (0 ≤ p1.toInt ∧ p1.toInt ≤ 5) 1 0 := hr_4
    rcases hr_4 with ⟨rfl, h_5⟩ | ⟨rfl, h_5⟩
    · skip
      refine lv_if_eq (tgt := 58) hx hb dX11_twice_15 (by decide) (fun c_6 => absurd c_6 (by decide)) (fun c_6 => ?_)
      refine lv_iload_n hx hb dX11_twice_18 rfl (lv_at hl 1 rfl) ?_
      refine lv_iload_n hx hb dX11_twice_19 rfl (lv_at hl 2 rfl) ?_
      refine lv_icmp_eq (tgt := 58) hx hb dX11_twice_20 (by decide) (fun c_7 => ?_) (fun c_7 => ?_)
      · have c_7 : p0.toInt = p1.toInt := b_eq c_7
        refine lv_iconst (v := (-1)) hx hb dX11_twice_58 (by decide) ?_
        subst hQ
        exact W.iret (v := (-1)) hx hb hr (fun t ht hW => ⟨⟨_, (), rfl, Or.inr ⟨rfl, by omega⟩, trivial⟩, hS.F ht⟩) hS.2.2 dX11_twice_59
      · have c_7 : p0.toInt ≠ p1.toInt := b_ne c_7
        refine lv_iload_n hx hb dX11_twice_23 rfl (lv_at hl 3 rfl) ?_
        refine lv_iconst (v := 0) hx hb dX11_twice_24 (by decide) ?_
        refine lv_sipush (v := 9999) hx hb dX11_twice_25 (by decide) ?_
        refine vp_callSi (W.runS (As := [.int p2, .int 0, .int 9999]) (rest := []) ⟨hx, hb, hml, hown, hT⟩ (c_X11_within l p2 0 9999) (va_cwS 3 hT (gS t_1 t_3 t_4 t_2) rfl rfl rfl (by decide +kernel) ⟨Nat.le_of_ble_eq_true rfl, Nat.le_of_ble_eq_true rfl⟩) preT rfl rfl hl.1 rfl (lv_room (Nat.le_of_ble_eq_true rfl)) dX11_twice_28 ⟨Nat.le_of_ble_eq_true rfl, Nat.le_of_ble_eq_true rfl⟩) (fun r_8 hr_8 => ?_)
        have hr_8 : BR r_8 (0 ≤ p2.toInt ∧ p2.toInt ≤ 9999) 1 0 := hr_8
        rcases hr_8 with ⟨rfl, h_9⟩ | ⟨rfl, h_9⟩
        · skip
          refine lv_if_eq (tgt := 58) hx hb dX11_twice_31 (by decide) (fun c_10 => absurd c_10 (by decide)) (fun c_10 => ?_)
          refine lv_iload hx hb dX11_twice_34 (lv_at hl 4 rfl) ?_
          refine lv_iconst (v := 0) hx hb dX11_twice_36 (by decide) ?_
          refine lv_sipush (v := 9999) hx hb dX11_twice_37 (by decide) ?_
          refine vp_callSi (W.runS (As := [.int p3, .int 0, .int 9999]) (rest := []) ⟨hx, hb, hml, hown, hT⟩ (c_X11_within l p3 0 9999) (va_cwS 3 hT (gS t_1 t_3 t_4 t_2) rfl rfl rfl (by decide +kernel) ⟨Nat.le_of_ble_eq_true rfl, Nat.le_of_ble_eq_true rfl⟩) preT rfl rfl hl.1 rfl (lv_room (Nat.le_of_ble_eq_true rfl)) dX11_twice_40 ⟨Nat.le_of_ble_eq_true rfl, Nat.le_of_ble_eq_true rfl⟩) (fun r_11 hr_11 => ?_)
          have hr_11 : BR r_11 (0 ≤ p3.toInt ∧ p3.toInt ≤ 9999) 1 0 := hr_11
          rcases hr_11 with ⟨rfl, h_12⟩ | ⟨rfl, h_12⟩
          · skip
            refine lv_if_eq (tgt := 58) hx hb dX11_twice_43 (by decide) (fun c_13 => absurd c_13 (by decide)) (fun c_13 => ?_)
            refine lv_aload_n hx hb dX11_twice_46 rfl (lv_at hl 0 rfl) ?_
            refine va_get (D := D) (ci := 11) (v := .ref (a 54)) (C := RX11) (T := TX11) (N := 14) hx hb hT iX11 hown hK hP 0 rfl rfl 12 (by decide) (hT _ t_58) (fun _ h9 => h9) rfl dX11_twice_47 ?_
            refine va_get (D := D) (ci := 2) (v := .int 0) (C := RX2) (T := TX2) (N := 4) hx hb hT iX2 hown hK hP 54 rfl rfl 0 (by decide) (hT _ t_63) (fun _ h9 => h9) (congrArg (fun z => some (Value.int z)) (hf.1 14 (by decide) (by decide))) dX11_twice_50 ?_
            refine lv_bipush (v := 40) hx hb dX11_twice_53 (by decide) ?_
            refine lv_icmp_lt (tgt := 60) hx hb dX11_twice_55 (by decide) (fun c_14 => ?_) (fun c_14 => absurd (by decide) c_14)
            refine lv_aload_n hx hb dX11_twice_60 rfl (lv_at hl 0 rfl) ?_
            refine va_get (D := D) (ci := 11) (v := .ref (a 54)) (C := RX11) (T := TX11) (N := 14) hx hb hT iX11 hown hK hP 0 rfl rfl 12 (by decide) (hT _ t_58) (fun _ h9 => h9) rfl dX11_twice_61 ?_
            refine lv_dup hx hb dX11_twice_64 rfl ?_
            refine va_get (D := D) (ci := 2) (v := .int 0) (C := RX2) (T := TX2) (N := 4) hx hb hT iX2 hown hK hP 54 rfl rfl 0 (by decide) (hT _ t_63) (fun _ h9 => h9) (congrArg (fun z => some (Value.int z)) (hf.1 14 (by decide) (by decide))) dX11_twice_65 ?_
            refine lv_iconst (v := 1) hx hb dX11_twice_68 (by decide) ?_
            refine lv_iadd hx hb dX11_twice_69 ?_
            refine lv_topi (fun v_15 ev_15 => ?_)
            obtain rfl : v_15 = 1 := ev_15.trans (by decide)
            refine va_put (D := D) (ci := 2) (v := .int 1) (ty := .int) (C := RX2) (T := TX2) (N := 4) hx hb hT iX2 tyX2 tyX2_ok nmX2 hown hK hP hD hS 54 rfl rfl 0 (by decide) (hT _ t_63) (fun _ h9 => h9) rfl (by decide +kernel) rfl rfl (Nat.le_of_ble_eq_true rfl) dX11_twice_70 (fun H locs hP hD hS => ?_)
            rw [xP14] at hP hD
            refine lv_aload_n hx hb dX11_twice_73 rfl (lv_at hl 0 rfl) ?_
            refine va_get (D := D) (ci := 11) (v := .ref (a 54)) (C := RX11) (T := TX11) (N := 14) hx hb hT iX11 hown hK hP 0 rfl rfl 12 (by decide) (hT _ t_58) (fun _ h9 => h9) rfl dX11_twice_74 ?_
            refine lv_iload_n hx hb dX11_twice_77 rfl (lv_at hl 1 rfl) ?_
            refine lv_iload_n hx hb dX11_twice_78 rfl (lv_at hl 3 rfl) ?_
            refine lv_iload hx hb dX11_twice_79 (lv_at hl 4 rfl) ?_
            refine lv_isub hx hb dX11_twice_81 ?_
            refine lv_topi (fun v_16 ev_16 => ?_)
            have hv_16 : v_16.toInt = p2.toInt - p3.toInt := by rw [ev_16]; have := b_rg p2; have := b_rg p3; exact i_sub (a := p2.toInt) (b := p3.toInt) rfl rfl (by omega) (by omega)
            have hP_17 := hP.sub (ws' := [(a 54, .inr (2, [.int ((upd i 14 1) 14), .ref (a 55), .ref (a 56), .ref (a 57)])), (a 55, .inl (cy 0, 6, .inl (r 55))), (a 56, .inl (cy 0, 6, .inl (r 56))), (a 57, .inl (cy 0, 6, .inl (r 57)))]) [54, 55, 56, 57] rfl
            have hD_19 := hD.sub (ws' := [(a 54, .inr (2, [.int ((upd i 14 1) 14), .ref (a 55), .ref (a 56), .ref (a 57)])), (a 55, .inl (cy 0, 6, .inl (r 55))), (a 56, .inl (cy 0, 6, .inl (r 56))), (a 57, .inl (cy 0, 6, .inl (r 57)))]) [54, 55, 56, 57] (by decide) rfl
            have hF_18 := va_free (wc := [(a 54, .inr (2, [.int ((upd i 14 1) 14), .ref (a 55), .ref (a 56), .ref (a 57)])), (a 55, .inl (cy 0, 6, .inl (r 55))), (a 56, .inl (cy 0, 6, .inl (r 56))), (a 57, .inl (cy 0, 6, .inl (r 57)))]) hD hS hA [54, 55, 56, 57] rfl
            refine va_callv (va_runV (As := [.int p0, .int v_16]) (rest := []) ⟨hx, hb, hml, hown, hT⟩ (c_X2_add l D cy (a 54) (a 55) (a 56) (a 57) ((upd i 14 1) 14) (r 55) (r 56) (r 57) p0 v_16 _ (by omega)) (cwV 2 hT (gV t_150 t_152 t_153 t_154 t_151) rfl rfl rfl (by decide +kernel) ⟨Nat.le_of_ble_eq_true rfl, Nat.le_of_ble_eq_true rfl⟩) (rQ_v hP_17 hK hD_19 (va_recv hK hP_17 (ci := 2) (q0 := 0) rfl rfl)) rfl rfl hl.1 rfl (lv_room (Nat.le_of_ble_eq_true rfl)) dX11_twice_82 ⟨Nat.le_of_ble_eq_true rfl, Nat.le_of_ble_eq_true rfl⟩) hS (fun q _ h => hF_18 q h) hF_18 (fun u_21 t H1 locs ht hvm hr_20 hB hz1 hk1 hS => ?_)
            obtain ⟨hP1, hK1, hD1⟩ := hB
            rw [ht] at hP1
            obtain ⟨hP, hD⟩ := rj (wc := [(a 54, .inr (2, [.int ((upd i 14 1) 14), .ref (a 55), .ref (a 56), .ref (a 57)])), (a 55, .inl (cy 0, 6, .inl (r 55))), (a 56, .inl (cy 0, 6, .inl (r 56))), (a 57, .inl (cy 0, 6, .inl (r 57)))]) (w1 := [(a 54, .inr (2, [.int ((upd i 14 1) 14), .ref (a 55), .ref (a 56), .ref (a 57)])), (a 55, .inl (cy 0, 6, .inl u_21.1)), (a 56, .inl (cy 0, 6, .inl u_21.2.1)), (a 57, .inl (cy 0, 6, .inl u_21.2.2))]) hP hD [54, 55, 56, 57] rfl rfl hk1 hP1
            have hP : va_P D vwCl (xW cy a (upd i 14 1) (va_up (va_up (va_up r 55 u_21.1) 56 u_21.2.1) 57 u_21.2.2) q (a 20) (a 12)) H1 := hP
            have hD : va_D A (xW cy a (upd i 14 1) (va_up (va_up (va_up r 55 u_21.1) 56 u_21.2.1) 57 u_21.2.2) q (a 20) (a 12)) := hD
            refine lv_aload_n hx hb dX11_twice_85 rfl (lv_at hl 0 rfl) ?_
            refine va_get (D := D) (ci := 11) (v := .ref (a 54)) (C := RX11) (T := TX11) (N := 14) hx hb hT iX11 hown hK hP 0 rfl rfl 12 (by decide) (hT _ t_58) (fun _ h9 => h9) rfl dX11_twice_86 ?_
            refine lv_iload_n hx hb dX11_twice_89 rfl (lv_at hl 2 rfl) ?_
            refine lv_iload hx hb dX11_twice_90 (lv_at hl 4 rfl) ?_
            refine lv_iload_n hx hb dX11_twice_92 rfl (lv_at hl 3 rfl) ?_
            refine lv_isub hx hb dX11_twice_93 ?_
            refine lv_topi (fun v_22 ev_22 => ?_)
            have hv_22 : v_22.toInt = p3.toInt - p2.toInt := by rw [ev_22]; have := b_rg p3; have := b_rg p2; exact i_sub (a := p3.toInt) (b := p2.toInt) rfl rfl (by omega) (by omega)
            have hP_23 := hP.sub (ws' := [(a 54, .inr (2, [.int ((upd i 14 1) 14), .ref (a 55), .ref (a 56), .ref (a 57)])), (a 55, .inl (cy 0, 6, .inl ((va_up (va_up (va_up r 55 u_21.1) 56 u_21.2.1) 57 u_21.2.2) 55))), (a 56, .inl (cy 0, 6, .inl ((va_up (va_up (va_up r 55 u_21.1) 56 u_21.2.1) 57 u_21.2.2) 56))), (a 57, .inl (cy 0, 6, .inl ((va_up (va_up (va_up r 55 u_21.1) 56 u_21.2.1) 57 u_21.2.2) 57)))]) [54, 55, 56, 57] rfl
            have hD_25 := hD.sub (ws' := [(a 54, .inr (2, [.int ((upd i 14 1) 14), .ref (a 55), .ref (a 56), .ref (a 57)])), (a 55, .inl (cy 0, 6, .inl ((va_up (va_up (va_up r 55 u_21.1) 56 u_21.2.1) 57 u_21.2.2) 55))), (a 56, .inl (cy 0, 6, .inl ((va_up (va_up (va_up r 55 u_21.1) 56 u_21.2.1) 57 u_21.2.2) 56))), (a 57, .inl (cy 0, 6, .inl ((va_up (va_up (va_up r 55 u_21.1) 56 u_21.2.1) 57 u_21.2.2) 57)))]) [54, 55, 56, 57] (by decide) rfl
            have hF_24 := va_free (wc := [(a 54, .inr (2, [.int ((upd i 14 1) 14), .ref (a 55), .ref (a 56), .ref (a 57)])), (a 55, .inl (cy 0, 6, .inl ((va_up (va_up (va_up r 55 u_21.1) 56 u_21.2.1) 57 u_21.2.2) 55))), (a 56, .inl (cy 0, 6, .inl ((va_up (va_up (va_up r 55 u_21.1) 56 u_21.2.1) 57 u_21.2.2) 56))), (a 57, .inl (cy 0, 6, .inl ((va_up (va_up (va_up r 55 u_21.1) 56 u_21.2.1) 57 u_21.2.2) 57)))]) hD hS hA [54, 55, 56, 57] rfl
            refine va_callv (va_runV (As := [.int p1, .int v_22]) (rest := []) ⟨hx, hb, hml, hown, hT⟩ (c_X2_add l D cy (a 54) (a 55) (a 56) (a 57) ((upd i 14 1) 14) ((va_up (va_up (va_up r 55 u_21.1) 56 u_21.2.1) 57 u_21.2.2) 55) ((va_up (va_up (va_up r 55 u_21.1) 56 u_21.2.1) 57 u_21.2.2) 56) ((va_up (va_up (va_up r 55 u_21.1) 56 u_21.2.1) 57 u_21.2.2) 57) p1 v_22 _ (by omega)) (cwV 2 hT (gV t_150 t_152 t_153 t_154 t_151) rfl rfl rfl (by decide +kernel) ⟨Nat.le_of_ble_eq_true rfl, Nat.le_of_ble_eq_true rfl⟩) (rQ_v hP_23 hK hD_25 (va_recv hK hP_23 (ci := 2) (q0 := 0) rfl rfl)) rfl rfl hl.1 rfl (lv_room (Nat.le_of_ble_eq_true rfl)) dX11_twice_94 ⟨Nat.le_of_ble_eq_true rfl, Nat.le_of_ble_eq_true rfl⟩) hS (fun q _ h => hF_24 q h) hF_24 (fun u_27 t H1 locs ht hvm hr_26 hB hz1 hk1 hS => ?_)
            obtain ⟨hP1, hK1, hD1⟩ := hB
            rw [ht] at hP1
            obtain ⟨hP, hD⟩ := rj (wc := [(a 54, .inr (2, [.int ((upd i 14 1) 14), .ref (a 55), .ref (a 56), .ref (a 57)])), (a 55, .inl (cy 0, 6, .inl ((va_up (va_up (va_up r 55 u_21.1) 56 u_21.2.1) 57 u_21.2.2) 55))), (a 56, .inl (cy 0, 6, .inl ((va_up (va_up (va_up r 55 u_21.1) 56 u_21.2.1) 57 u_21.2.2) 56))), (a 57, .inl (cy 0, 6, .inl ((va_up (va_up (va_up r 55 u_21.1) 56 u_21.2.1) 57 u_21.2.2) 57)))]) (w1 := [(a 54, .inr (2, [.int ((upd i 14 1) 14), .ref (a 55), .ref (a 56), .ref (a 57)])), (a 55, .inl (cy 0, 6, .inl u_27.1)), (a 56, .inl (cy 0, 6, .inl u_27.2.1)), (a 57, .inl (cy 0, 6, .inl u_27.2.2))]) hP hD [54, 55, 56, 57] rfl rfl hk1 hP1
            have hP : va_P D vwCl (xW cy a (upd i 14 1) (va_up (va_up (va_up (va_up (va_up (va_up r 55 u_21.1) 56 u_21.2.1) 57 u_21.2.2) 55 u_27.1) 56 u_27.2.1) 57 u_27.2.2) q (a 20) (a 12)) H1 := hP
            have hD : va_D A (xW cy a (upd i 14 1) (va_up (va_up (va_up (va_up (va_up (va_up r 55 u_21.1) 56 u_21.2.1) 57 u_21.2.2) 55 u_27.1) 56 u_27.2.1) 57 u_27.2.2) q (a 20) (a 12)) := hD
            refine lv_aload_n hx hb dX11_twice_97 rfl (lv_at hl 0 rfl) ?_
            refine va_get (D := D) (ci := 11) (v := .ref (a 54)) (C := RX11) (T := TX11) (N := 14) hx hb hT iX11 hown hK hP 0 rfl rfl 12 (by decide) (hT _ t_58) (fun _ h9 => h9) rfl dX11_twice_98 ?_
            refine va_get (D := D) (ci := 2) (v := .int 1) (C := RX2) (T := TX2) (N := 4) hx hb hT iX2 hown hK hP 54 rfl rfl 0 (by decide) (hT _ t_63) (fun _ h9 => h9) rfl dX11_twice_101 ?_
            subst hQ
            exact W.iret (v := 1) hx hb hr (fun t ht hW => ⟨⟨_, (), rfl, Or.inl ⟨rfl, by omega⟩, trivial⟩, hS.F ht⟩) hS.2.2 dX11_twice_104
          · skip
            refine lv_if_eq (tgt := 58) hx hb dX11_twice_43 (by decide) (fun c_28 => ?_) (fun c_28 => absurd (by decide) c_28)
            refine lv_iconst (v := (-1)) hx hb dX11_twice_58 (by decide) ?_
            subst hQ
            exact W.iret (v := (-1)) hx hb hr (fun t ht hW => ⟨⟨_, (), rfl, Or.inr ⟨rfl, by omega⟩, trivial⟩, hS.F ht⟩) hS.2.2 dX11_twice_59
        · skip
          refine lv_if_eq (tgt := 58) hx hb dX11_twice_31 (by decide) (fun c_29 => ?_) (fun c_29 => absurd (by decide) c_29)
          refine lv_iconst (v := (-1)) hx hb dX11_twice_58 (by decide) ?_
          subst hQ
          exact W.iret (v := (-1)) hx hb hr (fun t ht hW => ⟨⟨_, (), rfl, Or.inr ⟨rfl, by omega⟩, trivial⟩, hS.F ht⟩) hS.2.2 dX11_twice_59
    · skip
      refine lv_if_eq (tgt := 58) hx hb dX11_twice_15 (by decide) (fun c_30 => ?_) (fun c_30 => absurd (by decide) c_30)
      refine lv_iconst (v := (-1)) hx hb dX11_twice_58 (by decide) ?_
      subst hQ
      exact W.iret (v := (-1)) hx hb hr (fun t ht hW => ⟨⟨_, (), rfl, Or.inr ⟨rfl, by omega⟩, trivial⟩, hS.F ht⟩) hS.2.2 dX11_twice_59
  · skip
    refine lv_if_eq (tgt := 58) hx hb dX11_twice_6 (by decide) (fun c_31 => ?_) (fun c_31 => absurd (by decide) c_31)
    refine lv_iconst (v := (-1)) hx hb dX11_twice_58 (by decide) ?_
    subst hQ
    exact W.iret (v := (-1)) hx hb hr (fun t ht hW => ⟨⟨_, (), rfl, Or.inr ⟨rfl, by omega⟩, trivial⟩, hS.F ht⟩) hS.2.2 dX11_twice_59
set_option maxHeartbeats 4000000 in
set_option maxRecDepth 100000 in
theorem c_X7_stretch (l : Launch) (D : va_G) (cy : Nat → ClassId) (h0 h1 h2 : Nat) (f0 f1 : Int32) (g : Nat → Int32) (p0 p1 p2 : Int32) (sz : Nat) (q0 : 0 ≤ p0.toInt ∧ p0.toInt ≤ 10) (q1 : 0 ≤ p1.toInt ∧ p1.toInt ≤ 10) : Met l yX7_stretch (Cond.code yX7_stretch cX7_stretch 7 none :: gT) { frames := 2, cells := 0, slots := 0, locals := 46 } (va_Pc [.ref h0, .int p0, .int p1, .int p2] (rQ D cy [(h0, .inr (7, [.int f0, .int f1, .ref h1, .ref h2])), (h2, .inl (cy 0, 121, .inl g))] sz)) (va_Qv (fun u : Nat → Int32 => True) (fun (u : Nat → Int32) t => va_P D vwCl [(h0, .inr (7, [.int f0, .int f1, .ref h1, .ref h2])), (h2, .inl (cy 0, 121, .inl u))] t.heap ∧ va_K D vwCl (vT cy) t ∧ va_D (va_A [(h0, .inr (7, [.int f0, .int f1, .ref h1, .ref h2])), (h2, .inl (cy 0, 121, .inl g))] sz) [(h0, .inr (7, [.int f0, .int f1, .ref h1, .ref h2])), (h2, .inl (cy 0, 121, .inl u))]) (va_A [(h0, .inr (7, [.int f0, .int f1, .ref h1, .ref h2])), (h2, .inl (cy 0, 121, .inl g))] sz)) 0 0 (va_A [(h0, .inr (7, [.int f0, .int f1, .ref h1, .ref h2])), (h2, .inl (cy 0, 121, .inl g))] sz) := by
  refine Met.ofQ (cc := cX7_stretch) (maxL := 7) (ret := none) (by decide) rfl ?_
  intro p e s m args below meth c s₁ B hml hv Q hQ
  obtain ⟨rfl, hsz, hP, hK, hD0⟩ := hv
  have hx := B.exec
  have hb := B.bytes
  have hr := B.returns
  have hlocks := B.notSynchronized
  have hT : ∀ w ∈ gT, w.before _ s = true := fun w h => atoms_spec (ws := (Cond.code yX7_stretch cX7_stretch 7 none :: gT)) B.pre w (List.mem_cons_of_mem _ h)
  have hown : s.vm.findClass RX7 = some m.cls := findClass_of_methodNamed B.named
  subst hsz
  have hD := hD0.self (sz := s.heap.size)
  generalize hAe : va_A [(h0, .inr (7, [.int f0, .int f1, .ref h1, .ref h2])), (h2, .inl (cy 0, 121, .inl g))] s.heap.size = A at hD hQ
  have hA : ∀ q : Nat, s.heap.size ≤ q → A q := fun q h => by rw [← hAe]; exact Or.inr h
  have hS : va_S A s.heap s.heap [] := va_S.rf
  have hl := lv_entry ([.ref h0, .int p0, .int p1, .int p2]) (n := 7) (Nat.le_of_ble_eq_true rfl)
  rw [lg_entry_eq]
  generalize (lg_sl ([.ref h0, .int p0, .int p1, .int p2]) ++ List.replicate (7 - (lg_sl ([.ref h0, .int p0, .int p1, .int p2])).length) Slot.unset).toArray = ls at hl ⊢
  have hl : lv_has ls 7 [(0, .ref h0), (1, .int p0), (2, .int p1), (3, .int p2)] := hl
  refine lv_iconst (v := 0) hx hb dX7_stretch_0 (by decide) ?_
  refine lv_istore (lv' := [(4, .int 0), (0, .ref h0), (1, .int p0), (2, .int p1), (3, .int p2)]) hx hb dX7_stretch_1 hl (by decide) rfl (fun ls hl => ?_)
  have loop_1 : ∀ (n j1 : Nat) (x1 : Int32) (g1_1 : Nat → Int32) (H : Heap) (locs : List Loc) (ls : Array Slot), j1 + n = 11 → x1 = nI j1 → va_P D vwCl [(h0, .inr (7, [.int f0, .int f1, .ref h1, .ref h2])), (h2, .inl (cy 0, 121, .inl g1_1))] H → va_D A [(h0, .inr (7, [.int f0, .int f1, .ref h1, .ref h2])), (h2, .inl (cy 0, 121, .inl g1_1))] → va_S A s.heap H locs → lv_has ls 7 [(4, .int x1), (0, .ref h0), (1, .int p0), (2, .int p1), (3, .int p2)] → W p l e ({ frames := 2, cells := 0, slots := 0, locals := 46 } : Room) s m ([.ref h0, .int p0, .int p1, .int p2] : List Value).toArray below meth c H locs 0 0 Q (F0 m 3 ls []) := by
    intro n
    induction n with
    | zero =>
      intro j1 x1 g1_1 H locs ls hj1 hq1 hP hD hS hl
      obtain rfl : j1 = 11 := by omega
      obtain rfl : x1 = 11 := hq1.trans (by decide)
      refine lv_iload hx hb dX7_stretch_3 (lv_at hl 0 rfl) ?_
      refine lv_bipush (v := 11) hx hb dX7_stretch_5 (by decide) ?_
      refine lv_icmp_ge (tgt := 101) hx hb dX7_stretch_7 (by decide) (fun c_2 => ?_) (fun c_2 => absurd (by decide) c_2)
      subst hQ
      exact W.vret hx hb hr (fun t ht hW => ⟨⟨g1_1, rfl, trivial, by rw [ht]; exact hP, va_K.moved hW.alike hK, hD⟩, hS.F ht⟩) hS.2.2 dX7_stretch_101
    | succ n ih1 =>
      intro j1 x1 g1_1 H locs ls hj1 hq1 hP hD hS hl
      have hx1 : x1.toInt = (j1 : Int) := by rw [hq1]; exact nI_toInt (by omega)
      have hcx1 : x1.toNatClampNeg = j1 := by rw [hq1]; exact nI_clamp (by omega)
      refine lv_iload hx hb dX7_stretch_3 (lv_at hl 0 rfl) ?_
      refine lv_bipush (v := 11) hx hb dX7_stretch_5 (by decide) ?_
      refine lv_icmp_ge (tgt := 101) hx hb dX7_stretch_7 (by decide) (fun c_3 => by have c_3 : 11 ≤ x1.toInt := b_le c_3; omega) (fun c_3 => ?_)
      have c_3 : x1.toInt < 11 := b_nle c_3
      refine lv_iconst (v := 0) hx hb dX7_stretch_10 (by decide) ?_
      refine lv_istore (lv' := [(5, .int 0), (4, .int x1), (0, .ref h0), (1, .int p0), (2, .int p1), (3, .int p2)]) hx hb dX7_stretch_11 hl (by decide) rfl (fun ls hl => ?_)
      have loop_4 : ∀ (n j4 : Nat) (x4 : Int32) (g4_1 : Nat → Int32) (H : Heap) (locs : List Loc) (ls : Array Slot), j4 + n = 11 → x4 = nI j4 → va_P D vwCl [(h0, .inr (7, [.int f0, .int f1, .ref h1, .ref h2])), (h2, .inl (cy 0, 121, .inl g4_1))] H → va_D A [(h0, .inr (7, [.int f0, .int f1, .ref h1, .ref h2])), (h2, .inl (cy 0, 121, .inl g4_1))] → va_S A s.heap H locs → lv_has ls 7 [(5, .int x4), (4, .int x1), (0, .ref h0), (1, .int p0), (2, .int p1), (3, .int p2)] → W p l e ({ frames := 2, cells := 0, slots := 0, locals := 46 } : Room) s m ([.ref h0, .int p0, .int p1, .int p2] : List Value).toArray below meth c H locs 0 0 Q (F0 m 13 ls []) := by
        intro n
        induction n with
        | zero =>
          intro j4 x4 g4_1 H locs ls hj4 hq4 hP hD hS hl
          obtain rfl : j4 = 11 := by omega
          obtain rfl : x4 = 11 := hq4.trans (by decide)
          refine lv_iload hx hb dX7_stretch_13 (lv_at hl 0 rfl) ?_
          refine lv_bipush (v := 11) hx hb dX7_stretch_15 (by decide) ?_
          refine lv_icmp_ge (tgt := 95) hx hb dX7_stretch_17 (by decide) (fun c_5 => ?_) (fun c_5 => absurd (by decide) c_5)
          obtain ⟨x_6, ex_6⟩ : ∃ y : Int32, y = x1 + 1 := ⟨_, rfl⟩
          refine lv_iinc (v := x_6) (lv' := [(4, .int x_6), (5, .int 11), (0, .ref h0), (1, .int p0), (2, .int p1), (3, .int p2)]) hx hb dX7_stretch_95 hl (k := 1) rfl (by rw [ex_6]; rfl) (by decide) rfl (fun ls hl => ?_)
          refine lv_goto (tgt := 3) hx hb dX7_stretch_98 (by decide) ?_
          exact ih1 (j1 + 1) x_6 g4_1 _ _ _ (by omega) (by rw [ex_6, hq1]; exact nI_1 j1) hP hD hS (lv_sub hl [0, 2, 3, 4, 5] rfl)
        | succ n ih4 =>
          intro j4 x4 g4_1 H locs ls hj4 hq4 hP hD hS hl
          have hx4 : x4.toInt = (j4 : Int) := by rw [hq4]; exact nI_toInt (by omega)
          have hcx4 : x4.toNatClampNeg = j4 := by rw [hq4]; exact nI_clamp (by omega)
          refine lv_iload hx hb dX7_stretch_13 (lv_at hl 0 rfl) ?_
          refine lv_bipush (v := 11) hx hb dX7_stretch_15 (by decide) ?_
          refine lv_icmp_ge (tgt := 95) hx hb dX7_stretch_17 (by decide) (fun c_7 => by have c_7 : 11 ≤ x4.toInt := b_le c_7; omega) (fun c_7 => ?_)
          have c_7 : x4.toInt < 11 := b_nle c_7
          refine lv_aload_n hx hb dX7_stretch_20 rfl (lv_at hl 2 rfl) ?_
          refine lv_iload hx hb dX7_stretch_21 (lv_at hl 1 rfl) ?_
          refine lv_iload_n hx hb dX7_stretch_23 rfl (lv_at hl 3 rfl) ?_
          have hP_8 := hP.sub (ws' := [(h0, .inr (7, [.int f0, .int f1, .ref h1, .ref h2])), (h2, .inl (cy 0, 121, .inl g4_1))]) [0, 1] rfl
          refine vp_callSi (W.runV (As := [.int x1, .int p0]) (rest := []) ⟨hx, hb, hml, hown, hT⟩ (c_X7_gap l D cy h0 h1 h2 f0 f1 g4_1 x1 p0 (by first | omega | decide) (by first | omega | decide)) (cwV 2 hT (gV t_67 t_155 t_70 t_71 t_68) rfl rfl rfl (by decide +kernel) ⟨Nat.le_of_ble_eq_true rfl, Nat.le_of_ble_eq_true rfl⟩) (rP_v hP_8 hK (va_recv hK hP_8 (ci := 7) (q0 := 0) rfl rfl)) rfl rfl hl.1 rfl (lv_room (Nat.le_of_ble_eq_true rfl)) dX7_stretch_24 ⟨Nat.le_of_ble_eq_true rfl, Nat.le_of_ble_eq_true rfl⟩) (fun r_9 hr_9 => ?_)
          refine lv_ldc (v := (-1000000)) hx hb hown (hT _ t_156) dX7_stretch_27 ?_
          refine lv_icmp_eq (tgt := 89) hx hb dX7_stretch_29 (by decide) (fun c_10 => ?_) (fun c_10 => ?_)
          · have c_10 : r_9.toInt = (-1000000) := b_eq c_10
            obtain ⟨x_11, ex_11⟩ : ∃ y : Int32, y = x4 + 1 := ⟨_, rfl⟩
            refine lv_iinc (v := x_11) (lv' := [(5, .int x_11), (4, .int x1), (0, .ref h0), (1, .int p0), (2, .int p1), (3, .int p2)]) hx hb dX7_stretch_89 hl (k := 0) rfl (by rw [ex_11]; rfl) (by decide) rfl (fun ls hl => ?_)
            refine lv_goto (tgt := 13) hx hb dX7_stretch_92 (by decide) ?_
            exact ih4 (j4 + 1) x_11 g4_1 _ _ _ (by omega) (by rw [ex_11, hq4]; exact nI_1 j4) hP hD hS (lv_sub hl [0, 1, 2, 3, 4, 5] rfl)
          · have c_10 : r_9.toInt ≠ (-1000000) := b_ne c_10
            refine lv_aload_n hx hb dX7_stretch_32 rfl (lv_at hl 2 rfl) ?_
            refine lv_iload_n hx hb dX7_stretch_33 rfl (lv_at hl 4 rfl) ?_
            refine lv_iload hx hb dX7_stretch_34 (lv_at hl 0 rfl) ?_
            have hP_12 := hP.sub (ws' := [(h0, .inr (7, [.int f0, .int f1, .ref h1, .ref h2])), (h2, .inl (cy 0, 121, .inl g4_1))]) [0, 1] rfl
            refine vp_callSi (W.runV (As := [.int p1, .int x4]) (rest := []) ⟨hx, hb, hml, hown, hT⟩ (c_X7_gap l D cy h0 h1 h2 f0 f1 g4_1 p1 x4 (by first | omega | decide) (by first | omega | decide)) (cwV 2 hT (gV t_67 t_155 t_70 t_71 t_68) rfl rfl rfl (by decide +kernel) ⟨Nat.le_of_ble_eq_true rfl, Nat.le_of_ble_eq_true rfl⟩) (rP_v hP_12 hK (va_recv hK hP_12 (ci := 7) (q0 := 0) rfl rfl)) rfl rfl hl.1 rfl (lv_room (Nat.le_of_ble_eq_true rfl)) dX7_stretch_36 ⟨Nat.le_of_ble_eq_true rfl, Nat.le_of_ble_eq_true rfl⟩) (fun r_13 hr_13 => ?_)
            refine lv_ldc (v := (-1000000)) hx hb hown (hT _ t_156) dX7_stretch_39 ?_
            refine lv_icmp_eq (tgt := 89) hx hb dX7_stretch_41 (by decide) (fun c_14 => ?_) (fun c_14 => ?_)
            · have c_14 : r_13.toInt = (-1000000) := b_eq c_14
              obtain ⟨x_15, ex_15⟩ : ∃ y : Int32, y = x4 + 1 := ⟨_, rfl⟩
              refine lv_iinc (v := x_15) (lv' := [(5, .int x_15), (4, .int x1), (0, .ref h0), (1, .int p0), (2, .int p1), (3, .int p2)]) hx hb dX7_stretch_89 hl (k := 0) rfl (by rw [ex_15]; rfl) (by decide) rfl (fun ls hl => ?_)
              refine lv_goto (tgt := 13) hx hb dX7_stretch_92 (by decide) ?_
              exact ih4 (j4 + 1) x_15 g4_1 _ _ _ (by omega) (by rw [ex_15, hq4]; exact nI_1 j4) hP hD hS (lv_sub hl [0, 1, 2, 3, 4, 5] rfl)
            · have c_14 : r_13.toInt ≠ (-1000000) := b_ne c_14
              refine lv_aload_n hx hb dX7_stretch_44 rfl (lv_at hl 2 rfl) ?_
              refine lv_iload hx hb dX7_stretch_45 (lv_at hl 1 rfl) ?_
              refine lv_iload_n hx hb dX7_stretch_47 rfl (lv_at hl 3 rfl) ?_
              have hP_16 := hP.sub (ws' := [(h0, .inr (7, [.int f0, .int f1, .ref h1, .ref h2])), (h2, .inl (cy 0, 121, .inl g4_1))]) [0, 1] rfl
              refine vp_callSi (W.runV (As := [.int x1, .int p0]) (rest := []) ⟨hx, hb, hml, hown, hT⟩ (c_X7_gap l D cy h0 h1 h2 f0 f1 g4_1 x1 p0 (by first | omega | decide) (by first | omega | decide)) (cwV 2 hT (gV t_67 t_155 t_70 t_71 t_68) rfl rfl rfl (by decide +kernel) ⟨Nat.le_of_ble_eq_true rfl, Nat.le_of_ble_eq_true rfl⟩) (rP_v hP_16 hK (va_recv hK hP_16 (ci := 7) (q0 := 0) rfl rfl)) rfl rfl hl.1 rfl (lv_room (Nat.le_of_ble_eq_true rfl)) dX7_stretch_48 ⟨Nat.le_of_ble_eq_true rfl, Nat.le_of_ble_eq_true rfl⟩) (fun r_17 hr_17 => ?_)
              refine lv_iload_n hx hb dX7_stretch_51 rfl (lv_at hl 5 rfl) ?_
              refine lv_iadd hx hb dX7_stretch_52 ?_
              refine lv_topi (fun v_18 ev_18 => ?_)
              refine lv_aload_n hx hb dX7_stretch_53 rfl (lv_at hl 2 rfl) ?_
              refine lv_iload_n hx hb dX7_stretch_54 rfl (lv_at hl 4 rfl) ?_
              refine lv_iload hx hb dX7_stretch_55 (lv_at hl 0 rfl) ?_
              have hP_19 := hP.sub (ws' := [(h0, .inr (7, [.int f0, .int f1, .ref h1, .ref h2])), (h2, .inl (cy 0, 121, .inl g4_1))]) [0, 1] rfl
              refine vp_callSi (W.runV (As := [.int p1, .int x4]) (rest := [.int v_18]) ⟨hx, hb, hml, hown, hT⟩ (c_X7_gap l D cy h0 h1 h2 f0 f1 g4_1 p1 x4 (by first | omega | decide) (by first | omega | decide)) (cwV 2 hT (gV t_67 t_155 t_70 t_71 t_68) rfl rfl rfl (by decide +kernel) ⟨Nat.le_of_ble_eq_true rfl, Nat.le_of_ble_eq_true rfl⟩) (rP_v hP_19 hK (va_recv hK hP_19 (ci := 7) (q0 := 0) rfl rfl)) rfl rfl hl.1 rfl (lv_room (Nat.le_of_ble_eq_true rfl)) dX7_stretch_57 ⟨Nat.le_of_ble_eq_true rfl, Nat.le_of_ble_eq_true rfl⟩) (fun r_20 hr_20 => ?_)
              refine lv_iadd hx hb dX7_stretch_60 ?_
              refine lv_topi (fun v_21 ev_21 => ?_)
              refine lv_istore (lv' := [(6, .int v_21), (5, .int x4), (4, .int x1), (0, .ref h0), (1, .int p0), (2, .int p1), (3, .int p2)]) hx hb dX7_stretch_61 hl (by decide) rfl (fun ls hl => ?_)
              refine lv_aload_n hx hb dX7_stretch_63 rfl (lv_at hl 3 rfl) ?_
              refine va_get (D := D) (ci := 7) (v := .ref h2) (C := RX7) (T := TX7) (N := 4) hx hb hT iX7 hown hK hP 0 rfl rfl 3 (by decide) (hT _ t_66) (fun _ h9 => h9) rfl dX7_stretch_64 ?_
              refine lv_iload hx hb dX7_stretch_67 (lv_at hl 2 rfl) ?_
              refine lv_bipush (v := 11) hx hb dX7_stretch_69 (by decide) ?_
              refine lv_imul hx hb dX7_stretch_71 ?_
              refine lv_topi (fun v_22 ev_22 => ?_)
              have hv_22 : v_22.toInt = x1.toInt * 11 := by rw [ev_22]; have := b_rg x1; exact i_mul (a := x1.toInt) (b := 11) rfl rfl (by omega) (by omega)
              refine lv_iload hx hb dX7_stretch_72 (lv_at hl 1 rfl) ?_
              refine lv_iadd hx hb dX7_stretch_74 ?_
              refine lv_topi (fun v_23 ev_23 => ?_)
              have hv_23 : v_23.toInt = v_22.toInt + x4.toInt := by rw [ev_23]; have := b_rg v_22; have := b_rg x4; exact i_add (a := v_22.toInt) (b := x4.toInt) rfl rfl (by omega) (by omega)
              refine lv_aload_n hx hb dX7_stretch_75 rfl (lv_at hl 3 rfl) ?_
              refine lv_iload hx hb dX7_stretch_76 (lv_at hl 2 rfl) ?_
              refine lv_iload hx hb dX7_stretch_78 (lv_at hl 1 rfl) ?_
              have hP_24 := hP.sub (ws' := [(h0, .inr (7, [.int f0, .int f1, .ref h1, .ref h2])), (h2, .inl (cy 0, 121, .inl g4_1))]) [0, 1] rfl
              refine vp_callSi (W.runV (As := [.int x1, .int x4]) (rest := [.int v_23, .ref h2]) ⟨hx, hb, hml, hown, hT⟩ (c_X7_gap l D cy h0 h1 h2 f0 f1 g4_1 x1 x4 (by first | omega | decide) (by first | omega | decide)) (cwV 2 hT (gV t_67 t_155 t_70 t_71 t_68) rfl rfl rfl (by decide +kernel) ⟨Nat.le_of_ble_eq_true rfl, Nat.le_of_ble_eq_true rfl⟩) (rP_v hP_24 hK (va_recv hK hP_24 (ci := 7) (q0 := 0) rfl rfl)) rfl rfl hl.1 rfl (lv_room (Nat.le_of_ble_eq_true rfl)) dX7_stretch_80 ⟨Nat.le_of_ble_eq_true rfl, Nat.le_of_ble_eq_true rfl⟩) (fun r_25 hr_25 => ?_)
              refine lv_iload hx hb dX7_stretch_83 (lv_at hl 0 rfl) ?_
              refine va_mmax hx hb (by rw [hml]; exact hl.1.symm) hown (hT _ t_157) (hT _ t_158) (hT _ t_147) (hT _ t_159) (Nat.le_of_ble_eq_true rfl) (Nat.le_of_ble_eq_true rfl) (Nat.le_of_ble_eq_true rfl) (Nat.le_of_ble_eq_true rfl) dX7_stretch_85 ?_
              refine lv_topi (fun v_26 ev_26 => ?_)
              refine va_iast hx hb hK hP hD hS 1 0 rfl rfl (vp_inI (by omega) (by omega)) dX7_stretch_88 (fun H locs hP hD hS => ?_)
              have hP : va_P D vwCl [(h0, .inr (7, [.int f0, .int f1, .ref h1, .ref h2])), (h2, .inl (cy 0, 121, .inl (upd g4_1 v_23.toNatClampNeg v_26)))] H := hP
              have hD : va_D A [(h0, .inr (7, [.int f0, .int f1, .ref h1, .ref h2])), (h2, .inl (cy 0, 121, .inl (upd g4_1 v_23.toNatClampNeg v_26)))] := hD
              obtain ⟨x_27, ex_27⟩ : ∃ y : Int32, y = x4 + 1 := ⟨_, rfl⟩
              refine lv_iinc (v := x_27) (lv' := [(5, .int x_27), (6, .int v_21), (4, .int x1), (0, .ref h0), (1, .int p0), (2, .int p1), (3, .int p2)]) hx hb dX7_stretch_89 hl (k := 1) rfl (by rw [ex_27]; rfl) (by decide) rfl (fun ls hl => ?_)
              refine lv_goto (tgt := 13) hx hb dX7_stretch_92 (by decide) ?_
              exact ih4 (j4 + 1) x_27 (upd g4_1 v_23.toNatClampNeg v_26) _ _ _ (by omega) (by rw [ex_27, hq4]; exact nI_1 j4) hP hD hS (lv_sub hl [0, 2, 3, 4, 5, 6] rfl)
      exact loop_4 11 0 0 g1_1 _ _ _ (by omega) rfl hP hD hS hl
  exact loop_1 11 0 0 g _ _ _ (by omega) rfl hP hD hS hl
set_option maxHeartbeats 4000000 in
set_option maxRecDepth 100000 in
theorem c_X7_add (l : Launch) (D : va_G) (cy : Nat → ClassId) (h0 h1 h2 : Nat) (f0 f1 : Int32) (g : Nat → Int32) (p0 p1 p2 : Int32) (sz : Nat) (e0 : f0 = 0) (e1 : f1 = 0) (q0 : 0 ≤ p0.toInt ∧ p0.toInt ≤ 10) (q1 : 0 ≤ p1.toInt ∧ p1.toInt ≤ 10) (q2 : p0.toInt ≠ p1.toInt) (hg : ∀ j, j < 121 → g j = if j / 11 = j % 11 then 0 else -1000000) : Met l yX7_add (Cond.code yX7_add cX7_add 5 (some .int) :: gT) { frames := 3, cells := 0, slots := 0, locals := 72 } (va_Pc [.ref h0, .int p0, .int p1, .int p2] (rQ D cy [(h0, .inr (7, [.int f0, .int f1, .ref h1, .ref h2])), (h2, .inl (cy 0, 121, .inl g))] sz)) (va_Qi (fun (z : Int32) (u : Unit) => z = 1) (fun _ _ => True) (va_A [(h0, .inr (7, [.int f0, .int f1, .ref h1, .ref h2])), (h2, .inl (cy 0, 121, .inl g))] sz)) 0 0 (va_A [(h0, .inr (7, [.int f0, .int f1, .ref h1, .ref h2])), (h2, .inl (cy 0, 121, .inl g))] sz) := by
  refine Met.ofQ (cc := cX7_add) (maxL := 5) (ret := (some .int)) (by decide) rfl ?_
  intro p e s m args below meth c s₁ B hml hv Q hQ
  obtain ⟨rfl, hsz, hP, hK, hD0⟩ := hv
  have hx := B.exec
  have hb := B.bytes
  have hr := B.returns
  have hlocks := B.notSynchronized
  have hT : ∀ w ∈ gT, w.before _ s = true := fun w h => atoms_spec (ws := (Cond.code yX7_add cX7_add 5 (some .int) :: gT)) B.pre w (List.mem_cons_of_mem _ h)
  have hown : s.vm.findClass RX7 = some m.cls := findClass_of_methodNamed B.named
  subst hsz
  have hD := hD0.self (sz := s.heap.size)
  generalize hAe : va_A [(h0, .inr (7, [.int f0, .int f1, .ref h1, .ref h2])), (h2, .inl (cy 0, 121, .inl g))] s.heap.size = A at hD hQ
  have hA : ∀ q : Nat, s.heap.size ≤ q → A q := fun q h => by rw [← hAe]; exact Or.inr h
  have hS : va_S A s.heap s.heap [] := va_S.rf
  have hl := lv_entry ([.ref h0, .int p0, .int p1, .int p2]) (n := 5) (Nat.le_of_ble_eq_true rfl)
  rw [lg_entry_eq]
  generalize (lg_sl ([.ref h0, .int p0, .int p1, .int p2]) ++ List.replicate (5 - (lg_sl ([.ref h0, .int p0, .int p1, .int p2])).length) Slot.unset).toArray = ls at hl ⊢
  have hl : lv_has ls 5 [(0, .ref h0), (1, .int p0), (2, .int p1), (3, .int p2)] := hl
  refine lv_aload_n hx hb dX7_add_0 rfl (lv_at hl 0 rfl) ?_
  refine va_get (D := D) (ci := 7) (v := .int 0) (C := RX7) (T := TX7) (N := 4) hx hb hT iX7 hown hK hP 0 rfl rfl 0 (by decide) (hT _ t_160) (fun _ h9 => h9) (congrArg (fun z => some (Value.int z)) e0) dX7_add_1 ?_
  refine lv_bipush (v := 30) hx hb dX7_add_4 (by decide) ?_
  refine lv_icmp_ge (tgt := 18) hx hb dX7_add_6 (by decide) (fun c_1 => absurd c_1 (by decide)) (fun c_1 => ?_)
  refine lv_aload_n hx hb dX7_add_9 rfl (lv_at hl 0 rfl) ?_
  refine va_get (D := D) (ci := 7) (v := .int 0) (C := RX7) (T := TX7) (N := 4) hx hb hT iX7 hown hK hP 0 rfl rfl 1 (by decide) (hT _ t_161) (fun _ h9 => h9) (congrArg (fun z => some (Value.int z)) e1) dX7_add_10 ?_
  refine lv_bipush (v := 30) hx hb dX7_add_13 (by decide) ?_
  refine lv_icmp_lt (tgt := 20) hx hb dX7_add_15 (by decide) (fun c_2 => ?_) (fun c_2 => absurd (by decide) c_2)
  refine lv_aload_n hx hb dX7_add_20 rfl (lv_at hl 0 rfl) ?_
  refine lv_iload_n hx hb dX7_add_21 rfl (lv_at hl 2 rfl) ?_
  refine lv_iload_n hx hb dX7_add_22 rfl (lv_at hl 1 rfl) ?_
  have hP_3 := hP.sub (ws' := [(h0, .inr (7, [.int f0, .int f1, .ref h1, .ref h2])), (h2, .inl (cy 0, 121, .inl g))]) [0, 1] rfl
  refine vp_callSi (W.runV (As := [.int p1, .int p0]) (rest := []) ⟨hx, hb, hml, hown, hT⟩ (c_X7_gap l D cy h0 h1 h2 f0 f1 g p1 p0 (by first | omega | decide) (by first | omega | decide)) (cwV 2 hT (gV t_67 t_155 t_70 t_71 t_68) rfl rfl rfl (by decide +kernel) ⟨Nat.le_of_ble_eq_true rfl, Nat.le_of_ble_eq_true rfl⟩) (rP_v hP_3 hK (va_recv hK hP_3 (ci := 7) (q0 := 0) rfl rfl)) rfl rfl hl.1 rfl (lv_room (Nat.le_of_ble_eq_true rfl)) dX7_add_23 ⟨Nat.le_of_ble_eq_true rfl, Nat.le_of_ble_eq_true rfl⟩) (fun r_4 hr_4 => ?_)
  obtain rfl : r_4 = (-1000000) := by rw [hr_4]; exact (hg _ (by omega)).trans (if_neg (by omega))
  refine lv_istore (lv' := [(4, .int (-1000000)), (0, .ref h0), (1, .int p0), (2, .int p1), (3, .int p2)]) hx hb dX7_add_26 hl (by decide) rfl (fun ls hl => ?_)
  refine lv_iload hx hb dX7_add_28 (lv_at hl 0 rfl) ?_
  refine lv_ldc (v := (-1000000)) hx hb hown (hT _ t_156) dX7_add_30 ?_
  refine lv_icmp_eq (tgt := 68) hx hb dX7_add_32 (by decide) (fun c_5 => ?_) (fun c_5 => absurd (by decide) c_5)
  refine lv_aload_n hx hb dX7_add_68 rfl (lv_at hl 1 rfl) ?_
  refine lv_iload_n hx hb dX7_add_69 rfl (lv_at hl 2 rfl) ?_
  refine lv_iload_n hx hb dX7_add_70 rfl (lv_at hl 3 rfl) ?_
  refine lv_iload_n hx hb dX7_add_71 rfl (lv_at hl 4 rfl) ?_
  have hP_6 := hP.sub (ws' := [(h0, .inr (7, [.int f0, .int f1, .ref h1, .ref h2])), (h2, .inl (cy 0, 121, .inl g))]) [0, 1] rfl
  have hD_8 := hD.sub (ws' := [(h0, .inr (7, [.int f0, .int f1, .ref h1, .ref h2])), (h2, .inl (cy 0, 121, .inl g))]) [0, 1] (by decide) rfl
  have hF_7 := va_free (wc := [(h0, .inr (7, [.int f0, .int f1, .ref h1, .ref h2])), (h2, .inl (cy 0, 121, .inl g))]) hD hS hA [0, 1] rfl
  refine va_callv (va_runV (As := [.int p0, .int p1, .int p2]) (rest := []) ⟨hx, hb, hml, hown, hT⟩ (c_X7_stretch l D cy h0 h1 h2 f0 f1 g p0 p1 p2 _ q0 q1) (cwV 3 hT (gV t_162 t_163 t_164 t_165 t_68) rfl rfl rfl (by decide +kernel) ⟨Nat.le_of_ble_eq_true rfl, Nat.le_of_ble_eq_true rfl⟩) (rQ_v hP_6 hK hD_8 (va_recv hK hP_6 (ci := 7) (q0 := 0) rfl rfl)) rfl rfl hl.1 rfl (lv_room (Nat.le_of_ble_eq_true rfl)) dX7_add_72 ⟨Nat.le_of_ble_eq_true rfl, Nat.le_of_ble_eq_true rfl⟩) hS (fun q _ h => hF_7 q h) hF_7 (fun u_10 t H1 locs ht hvm hr_9 hB hz1 hk1 hS => ?_)
  obtain ⟨hP1, hK1, hD1⟩ := hB
  rw [ht] at hP1
  obtain ⟨hP, hD⟩ := rj (wc := [(h0, .inr (7, [.int f0, .int f1, .ref h1, .ref h2])), (h2, .inl (cy 0, 121, .inl g))]) (w1 := [(h0, .inr (7, [.int f0, .int f1, .ref h1, .ref h2])), (h2, .inl (cy 0, 121, .inl u_10))]) hP hD [0, 1] rfl rfl hk1 hP1
  have hP : va_P D vwCl [(h0, .inr (7, [.int f0, .int f1, .ref h1, .ref h2])), (h2, .inl (cy 0, 121, .inl u_10))] H1 := hP
  have hD : va_D A [(h0, .inr (7, [.int f0, .int f1, .ref h1, .ref h2])), (h2, .inl (cy 0, 121, .inl u_10))] := hD
  refine lv_aload_n hx hb dX7_add_75 rfl (lv_at hl 1 rfl) ?_
  refine lv_dup hx hb dX7_add_76 rfl ?_
  refine va_get (D := D) (ci := 7) (v := .int 0) (C := RX7) (T := TX7) (N := 4) hx hb hT iX7 hown hK hP 0 rfl rfl 0 (by decide) (hT _ t_160) (fun _ h9 => h9) (congrArg (fun z => some (Value.int z)) e0) dX7_add_77 ?_
  refine lv_iconst (v := 1) hx hb dX7_add_80 (by decide) ?_
  refine lv_iadd hx hb dX7_add_81 ?_
  refine lv_topi (fun v_11 ev_11 => ?_)
  obtain rfl : v_11 = 1 := ev_11.trans (by decide)
  refine va_put (D := D) (ci := 7) (v := .int 1) (ty := .int) (C := RX7) (T := TX7) (N := 4) hx hb hT iX7 tyX7 tyX7_ok nmX7 hown hK hP hD hS 0 rfl rfl 0 (by decide) (hT _ t_160) (fun _ h9 => h9) rfl (by decide +kernel) rfl rfl (Nat.le_of_ble_eq_true rfl) dX7_add_82 (fun H locs hP hD hS => ?_)
  have hP : va_P D vwCl [(h0, .inr (7, [.int 1, .int f1, .ref h1, .ref h2])), (h2, .inl (cy 0, 121, .inl u_10))] H := hP
  have hD : va_D A [(h0, .inr (7, [.int 1, .int f1, .ref h1, .ref h2])), (h2, .inl (cy 0, 121, .inl u_10))] := hD
  refine lv_aload_n hx hb dX7_add_85 rfl (lv_at hl 1 rfl) ?_
  refine va_get (D := D) (ci := 7) (v := .int 1) (C := RX7) (T := TX7) (N := 4) hx hb hT iX7 hown hK hP 0 rfl rfl 0 (by decide) (hT _ t_160) (fun _ h9 => h9) rfl dX7_add_86 ?_
  subst hQ
  exact W.iret (v := 1) hx hb hr (fun t ht hW => ⟨⟨_, (), rfl, rfl, trivial⟩, hS.F ht⟩) hS.2.2 dX7_add_89
set_option maxHeartbeats 4000000 in
set_option maxRecDepth 100000 in
theorem c_X11_fact (l : Launch) (D : va_G) (cy : Nat → ClassId) (a : Nat → Nat) (i : Nat → Int32) (r : Nat → Nat → Int32) (q : Nat → Option Nat) (p0 p1 p2 : Int32) (sz : Nat) (hf : xZ i) (hg : xZr r) : Met l yX11_fact (Cond.code yX11_fact cX11_fact 4 (some .int) :: gT) { frames := 4, cells := 0, slots := 0, locals := 96 } (va_Pc [.ref (a 0), .int p0, .int p1, .int p2] (rQ D cy (xW cy a i r q (a 20) (a 12)) sz)) (va_Qi (fun (z : Int32) (u : Unit) => BR z ((0 ≤ p0.toInt ∧ p0.toInt ≤ 10) ∧ (0 ≤ p1.toInt ∧ p1.toInt ≤ 10) ∧ p0.toInt ≠ p1.toInt ∧ (-999 ≤ p2.toInt ∧ p2.toInt ≤ 999)) 1 (-1)) (fun _ _ => True) (va_A (xW cy a i r q (a 20) (a 12)) sz)) 0 0 (va_A (xW cy a i r q (a 20) (a 12)) sz) := by
  refine Met.ofQ (cc := cX11_fact) (maxL := 4) (ret := (some .int)) (by decide) rfl ?_
  intro p e s m args below meth c s₁ B hml hv Q hQ
  obtain ⟨rfl, hsz, hP, hK, hD0⟩ := hv
  have hx := B.exec
  have hb := B.bytes
  have hr := B.returns
  have hlocks := B.notSynchronized
  have hT : ∀ w ∈ gT, w.before _ s = true := fun w h => atoms_spec (ws := (Cond.code yX11_fact cX11_fact 4 (some .int) :: gT)) B.pre w (List.mem_cons_of_mem _ h)
  have hown : s.vm.findClass RX11 = some m.cls := findClass_of_methodNamed B.named
  subst hsz
  have hD := hD0.self (sz := s.heap.size)
  generalize hAe : va_A (xW cy a i r q (a 20) (a 12)) s.heap.size = A at hD hQ
  have hA : ∀ q : Nat, s.heap.size ≤ q → A q := fun q h => by rw [← hAe]; exact Or.inr h
  have hS : va_S A s.heap s.heap [] := va_S.rf
  have hl := lv_entry ([.ref (a 0), .int p0, .int p1, .int p2]) (n := 4) (Nat.le_of_ble_eq_true rfl)
  rw [lg_entry_eq]
  generalize (lg_sl ([.ref (a 0), .int p0, .int p1, .int p2]) ++ List.replicate (4 - (lg_sl ([.ref (a 0), .int p0, .int p1, .int p2])).length) Slot.unset).toArray = ls at hl ⊢
  have hl : lv_has ls 4 [(0, .ref (a 0)), (1, .int p0), (2, .int p1), (3, .int p2)] := hl
  refine lv_iload_n hx hb dX11_fact_0 rfl (lv_at hl 1 rfl) ?_
  refine lv_iconst (v := 0) hx hb dX11_fact_1 (by decide) ?_
  refine lv_bipush (v := 10) hx hb dX11_fact_2 (by decide) ?_
  refine vp_callSi (W.runS (As := [.int p0, .int 0, .int 10]) (rest := []) ⟨hx, hb, hml, hown, hT⟩ (c_X11_within l p0 0 10) (va_cwS 3 hT (gS t_1 t_3 t_4 t_2) rfl rfl rfl (by decide +kernel) ⟨Nat.le_of_ble_eq_true rfl, Nat.le_of_ble_eq_true rfl⟩) preT rfl rfl hl.1 rfl (lv_room (Nat.le_of_ble_eq_true rfl)) dX11_fact_4 ⟨Nat.le_of_ble_eq_true rfl, Nat.le_of_ble_eq_true rfl⟩) (fun r_1 hr_1 => ?_)
  have hr_1 : BR r_1 (0 ≤ p0.toInt ∧ p0.toInt ≤ 10) 1 0 := hr_1
  rcases hr_1 with ⟨rfl, h_2⟩ | ⟨rfl, h_2⟩
  · skip
    refine lv_if_eq (tgt := 38) hx hb dX11_fact_7 (by decide) (fun c_3 => absurd c_3 (by decide)) (fun c_3 => ?_)
    refine lv_iload_n hx hb dX11_fact_10 rfl (lv_at hl 2 rfl) ?_
    refine lv_iconst (v := 0) hx hb dX11_fact_11 (by decide) ?_
    refine lv_bipush (v := 10) hx hb dX11_fact_12 (by decide) ?_
    refine vp_callSi (W.runS (As := [.int p1, .int 0, .int 10]) (rest := []) ⟨hx, hb, hml, hown, hT⟩ (c_X11_within l p1 0 10) (va_cwS 3 hT (gS t_1 t_3 t_4 t_2) rfl rfl rfl (by decide +kernel) ⟨Nat.le_of_ble_eq_true rfl, Nat.le_of_ble_eq_true rfl⟩) preT rfl rfl hl.1 rfl (lv_room (Nat.le_of_ble_eq_true rfl)) dX11_fact_14 ⟨Nat.le_of_ble_eq_true rfl, Nat.le_of_ble_eq_true rfl⟩) (fun r_4 hr_4 => ?_)
    have hr_4 : BR r_4 (0 ≤ p1.toInt ∧ p1.toInt ≤ 10) 1 0 := hr_4
    rcases hr_4 with ⟨rfl, h_5⟩ | ⟨rfl, h_5⟩
    · skip
      refine lv_if_eq (tgt := 38) hx hb dX11_fact_17 (by decide) (fun c_6 => absurd c_6 (by decide)) (fun c_6 => ?_)
      refine lv_iload_n hx hb dX11_fact_20 rfl (lv_at hl 1 rfl) ?_
      refine lv_iload_n hx hb dX11_fact_21 rfl (lv_at hl 2 rfl) ?_
      refine lv_icmp_eq (tgt := 38) hx hb dX11_fact_22 (by decide) (fun c_7 => ?_) (fun c_7 => ?_)
      · have c_7 : p0.toInt = p1.toInt := b_eq c_7
        refine lv_iconst (v := (-1)) hx hb dX11_fact_38 (by decide) ?_
        subst hQ
        exact W.iret (v := (-1)) hx hb hr (fun t ht hW => ⟨⟨_, (), rfl, Or.inr ⟨rfl, by omega⟩, trivial⟩, hS.F ht⟩) hS.2.2 dX11_fact_39
      · have c_7 : p0.toInt ≠ p1.toInt := b_ne c_7
        refine lv_iload_n hx hb dX11_fact_25 rfl (lv_at hl 3 rfl) ?_
        refine lv_sipush (v := (-999)) hx hb dX11_fact_26 (by decide) ?_
        refine lv_sipush (v := 999) hx hb dX11_fact_29 (by decide) ?_
        refine vp_callSi (W.runS (As := [.int p2, .int (-999), .int 999]) (rest := []) ⟨hx, hb, hml, hown, hT⟩ (c_X11_within l p2 (-999) 999) (va_cwS 3 hT (gS t_1 t_3 t_4 t_2) rfl rfl rfl (by decide +kernel) ⟨Nat.le_of_ble_eq_true rfl, Nat.le_of_ble_eq_true rfl⟩) preT rfl rfl hl.1 rfl (lv_room (Nat.le_of_ble_eq_true rfl)) dX11_fact_32 ⟨Nat.le_of_ble_eq_true rfl, Nat.le_of_ble_eq_true rfl⟩) (fun r_8 hr_8 => ?_)
        have hr_8 : BR r_8 ((-999) ≤ p2.toInt ∧ p2.toInt ≤ 999) 1 0 := hr_8
        rcases hr_8 with ⟨rfl, h_9⟩ | ⟨rfl, h_9⟩
        · skip
          refine lv_if_ne (tgt := 40) hx hb dX11_fact_35 (by decide) (fun c_10 => ?_) (fun c_10 => absurd c_10 (by decide))
          refine lv_aload_n hx hb dX11_fact_40 rfl (lv_at hl 0 rfl) ?_
          refine va_get (D := D) (ci := 11) (v := .ref (a 58)) (C := RX11) (T := TX11) (N := 14) hx hb hT iX11 hown hK hP 0 rfl rfl 13 (by decide) (hT _ t_56) (fun _ h9 => h9) rfl dX11_fact_41 ?_
          refine lv_iload_n hx hb dX11_fact_44 rfl (lv_at hl 1 rfl) ?_
          refine lv_iload_n hx hb dX11_fact_45 rfl (lv_at hl 2 rfl) ?_
          refine lv_iload_n hx hb dX11_fact_46 rfl (lv_at hl 3 rfl) ?_
          have hP_11 := hP.sub (ws' := [(a 58, .inr (7, [.int (i 15), .int (i 16), .ref (a 59), .ref (a 60)])), (a 60, .inl (cy 0, 121, .inl (r 60)))]) [58, 60] rfl
          have hD_13 := hD.sub (ws' := [(a 58, .inr (7, [.int (i 15), .int (i 16), .ref (a 59), .ref (a 60)])), (a 60, .inl (cy 0, 121, .inl (r 60)))]) [58, 60] (by decide) rfl
          have hF_12 := va_free (wc := [(a 58, .inr (7, [.int (i 15), .int (i 16), .ref (a 59), .ref (a 60)])), (a 60, .inl (cy 0, 121, .inl (r 60)))]) hD hS hA [58, 60] rfl
          refine va_calli (va_runV (As := [.int p0, .int p1, .int p2]) (rest := []) ⟨hx, hb, hml, hown, hT⟩ (c_X7_add l D cy (a 58) (a 59) (a 60) (i 15) (i 16) (r 60) p0 p1 p2 _ (hf.1 15 (by decide) (by decide)) (hf.1 16 (by decide) (by decide)) (by omega) (by omega) (by omega) hg.2) (cwV 3 hT (gV t_166 t_167 t_168 t_169 t_68) rfl rfl rfl (by decide +kernel) ⟨Nat.le_of_ble_eq_true rfl, Nat.le_of_ble_eq_true rfl⟩) (rQ_v hP_11 hK hD_13 (va_recv hK hP_11 (ci := 7) (q0 := 0) rfl rfl)) rfl rfl hl.1 rfl (lv_room (Nat.le_of_ble_eq_true rfl)) dX11_fact_47 ⟨Nat.le_of_ble_eq_true rfl, Nat.le_of_ble_eq_true rfl⟩) hS (fun q _ h => hF_12 q h) hF_12 (fun r_14 u_15 t H1 locs ht hvm hr_14 hB hz1 hk1 hS => ?_)
          obtain rfl : r_14 = 1 := hr_14
          subst hQ
          exact W.iret (v := 1) hx hb hr (fun t ht hW => ⟨⟨_, (), rfl, Or.inl ⟨rfl, by omega⟩, trivial⟩, hS.F ht⟩) hS.2.2 dX11_fact_50
        · skip
          refine lv_if_ne (tgt := 40) hx hb dX11_fact_35 (by decide) (fun c_16 => absurd (by decide) c_16) (fun c_16 => ?_)
          refine lv_iconst (v := (-1)) hx hb dX11_fact_38 (by decide) ?_
          subst hQ
          exact W.iret (v := (-1)) hx hb hr (fun t ht hW => ⟨⟨_, (), rfl, Or.inr ⟨rfl, by omega⟩, trivial⟩, hS.F ht⟩) hS.2.2 dX11_fact_39
    · skip
      refine lv_if_eq (tgt := 38) hx hb dX11_fact_17 (by decide) (fun c_17 => ?_) (fun c_17 => absurd (by decide) c_17)
      refine lv_iconst (v := (-1)) hx hb dX11_fact_38 (by decide) ?_
      subst hQ
      exact W.iret (v := (-1)) hx hb hr (fun t ht hW => ⟨⟨_, (), rfl, Or.inr ⟨rfl, by omega⟩, trivial⟩, hS.F ht⟩) hS.2.2 dX11_fact_39
  · skip
    refine lv_if_eq (tgt := 38) hx hb dX11_fact_7 (by decide) (fun c_18 => ?_) (fun c_18 => absurd (by decide) c_18)
    refine lv_iconst (v := (-1)) hx hb dX11_fact_38 (by decide) ?_
    subst hQ
    exact W.iret (v := (-1)) hx hb hr (fun t ht hW => ⟨⟨_, (), rfl, Or.inr ⟨rfl, by omega⟩, trivial⟩, hS.F ht⟩) hS.2.2 dX11_fact_39
