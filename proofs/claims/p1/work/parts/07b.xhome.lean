theorem t_170 : Cond.fieldLink RX1 9 "DepositJudge$Docket" "claims" "I" ∈ gT := tm (List.mem_of_getElem? (i := 142) (by decide +kernel)) (by decide +kernel)
theorem t_171 : Cond.fieldLink RX1 47 "DepositJudge$Docket" "x" "I" ∈ gT := tm (List.mem_of_getElem? (i := 164) (by decide +kernel)) (by decide +kernel)
theorem t_172 : Cond.fieldLink RX1 41 "DepositJudge$Docket" "ownerOffers" "[I" ∈ gT := tm (List.mem_of_getElem? (i := 160) (by decide +kernel)) (by decide +kernel)
theorem t_173 : Cond.fieldLink RX1 44 "DepositJudge$Docket" "tenantOffers" "[I" ∈ gT := tm (List.mem_of_getElem? (i := 162) (by decide +kernel)) (by decide +kernel)
theorem t_174 : Cond.fieldLink RX11 65 "DepositJudge" "keptDocket" "LDepositJudge$Docket;" ∈ gT := tm (List.mem_of_getElem? (i := 260) (by decide +kernel)) (by decide +kernel)
theorem t_175 : Cond.code yX1_copyFrom cX1_copyFrom 3 none ∈ gT := tm (List.mem_of_getElem? (i := 890) (by decide +kernel)) (by decide +kernel)
theorem t_176 : Cond.initialized RX1 ∈ gT := tm (List.mem_of_getElem? (i := 7) (by decide +kernel)) (by decide +kernel)
theorem t_177 : Cond.methodLink RX11 332 yX1_copyFrom ∈ gT := tm (List.mem_of_getElem? (i := 887) (by decide +kernel)) (by decide +kernel)
theorem t_178 : Cond.instanceMethod yX1_copyFrom ∈ gT := tm (List.mem_of_getElem? (i := 888) (by decide +kernel)) (by decide +kernel)
theorem t_179 : Cond.selects RX1 yX1_copyFrom yX1_copyFrom ∈ gT := tm (List.mem_of_getElem? (i := 889) (by decide +kernel)) (by decide +kernel)
theorem t_180 : Cond.methodLink RX10 3 objectInit ∈ gT := tm (List.mem_of_getElem? (i := 321) (by decide +kernel)) (by decide +kernel)
theorem t_181 : Cond.instanceMethod objectInit ∈ gT := tm (List.mem_of_getElem? (i := 26) (by decide +kernel)) (by decide +kernel)
theorem t_182 : Cond.code objectInit ⟨#[0xb1]⟩ 1 none ∈ gT := tm (List.mem_of_getElem? (i := 27) (by decide +kernel)) (by decide +kernel)
theorem t_183 : Cond.fieldLink RX10 9 "DepositJudge$Things" "count" "I" ∈ gT := tm (List.mem_of_getElem? (i := 322) (by decide +kernel)) (by decide +kernel)
theorem t_184 : Cond.arrayClass .int ∈ gT := tm (List.mem_of_getElem? (i := 43) (by decide +kernel)) (by decide +kernel)
theorem t_185 : Cond.fieldLink RX10 15 "DepositJudge$Things" "rooms" "[I" ∈ gT := tm (List.mem_of_getElem? (i := 326) (by decide +kernel)) (by decide +kernel)
theorem t_186 : Cond.fieldLink RX10 19 "DepositJudge$Things" "kinds" "[I" ∈ gT := tm (List.mem_of_getElem? (i := 329) (by decide +kernel)) (by decide +kernel)
theorem t_187 : Cond.fieldLink RX10 22 "DepositJudge$Things" "states" "[I" ∈ gT := tm (List.mem_of_getElem? (i := 333) (by decide +kernel)) (by decide +kernel)
theorem t_188 : Cond.fieldLink RX10 25 "DepositJudge$Things" "ages" "[I" ∈ gT := tm (List.mem_of_getElem? (i := 337) (by decide +kernel)) (by decide +kernel)
theorem t_189 : Cond.methodLink RX3 3 objectInit ∈ gT := tm (List.mem_of_getElem? (i := 315) (by decide +kernel)) (by decide +kernel)
theorem t_190 : Cond.fieldLink RX3 9 "DepositJudge$Home" "parts" "[I" ∈ gT := tm (List.mem_of_getElem? (i := 361) (by decide +kernel)) (by decide +kernel)
theorem t_191 : Cond.fieldLink RX3 15 "DepositJudge$Home" "debts" "[I" ∈ gT := tm (List.mem_of_getElem? (i := 364) (by decide +kernel)) (by decide +kernel)
theorem t_192 : Cond.arrayClass .boolean ∈ gT := tm (List.mem_of_getElem? (i := 59) (by decide +kernel)) (by decide +kernel)
theorem t_193 : Cond.fieldLink RX3 18 "DepositJudge$Home" "kin" "[Z" ∈ gT := tm (List.mem_of_getElem? (i := 366) (by decide +kernel)) (by decide +kernel)
theorem t_194 : Cond.classLink RX3 22 RX10 ∈ gT := tm (List.mem_of_getElem? (i := 316) (by decide +kernel)) (by decide +kernel)
theorem t_195 : Cond.instantiable RX10 5 ∈ gT := tm (List.mem_of_getElem? (i := 317) (by decide +kernel)) (by decide +kernel)
theorem t_196 : Cond.initialized RX10 ∈ gT := tm (List.mem_of_getElem? (i := 13) (by decide +kernel)) (by decide +kernel)
theorem t_197 : Cond.code yX10_init cX10_init 1 none ∈ gT := tm (List.mem_of_getElem? (i := 320) (by decide +kernel)) (by decide +kernel)
theorem t_198 : Cond.instanceMethod yX10_init ∈ gT := tm (List.mem_of_getElem? (i := 319) (by decide +kernel)) (by decide +kernel)
theorem t_199 : Cond.fieldLink RX3 25 "DepositJudge$Home" "atFirst" "LDepositJudge$Things;" ∈ gT := tm (List.mem_of_getElem? (i := 368) (by decide +kernel)) (by decide +kernel)
theorem t_200 : Cond.fieldLink RX3 29 "DepositJudge$Home" "atLast" "LDepositJudge$Things;" ∈ gT := tm (List.mem_of_getElem? (i := 371) (by decide +kernel)) (by decide +kernel)
theorem t_201 : Cond.fieldLink RX3 32 "DepositJudge$Home" "joined" "[I" ∈ gT := tm (List.mem_of_getElem? (i := 374) (by decide +kernel)) (by decide +kernel)
theorem t_202 : Cond.fieldLink RX3 35 "DepositJudge$Home" "region" "I" ∈ gT := tm (List.mem_of_getElem? (i := 350) (by decide +kernel)) (by decide +kernel)
theorem t_203 : Cond.fieldLink RX3 39 "DepositJudge$Home" "tenants" "I" ∈ gT := tm (List.mem_of_getElem? (i := 352) (by decide +kernel)) (by decide +kernel)
theorem t_204 : Cond.fieldLink RX3 42 "DepositJudge$Home" "deposit" "I" ∈ gT := tm (List.mem_of_getElem? (i := 355) (by decide +kernel)) (by decide +kernel)
theorem t_205 : Cond.fieldLink RX3 45 "DepositJudge$Home" "from" "I" ∈ gT := tm (List.mem_of_getElem? (i := 357) (by decide +kernel)) (by decide +kernel)
theorem t_206 : Cond.fieldLink RX3 48 "DepositJudge$Home" "to" "I" ∈ gT := tm (List.mem_of_getElem? (i := 358) (by decide +kernel)) (by decide +kernel)
theorem t_207 : Cond.fieldLink RX3 51 "DepositJudge$Home" "kept" "Z" ∈ gT := tm (List.mem_of_getElem? (i := 359) (by decide +kernel)) (by decide +kernel)
theorem t_208 : Cond.constant RX11 104 (999999) ∈ gT := tm (List.mem_of_getElem? (i := 310) (by decide +kernel)) (by decide +kernel)
theorem t_209 : Cond.classLink RX11 16 RX3 ∈ gT := tm (List.mem_of_getElem? (i := 44) (by decide +kernel)) (by decide +kernel)
theorem t_210 : Cond.instantiable RX3 12 ∈ gT := tm (List.mem_of_getElem? (i := 311) (by decide +kernel)) (by decide +kernel)
theorem t_211 : Cond.initialized RX3 ∈ gT := tm (List.mem_of_getElem? (i := 12) (by decide +kernel)) (by decide +kernel)
theorem t_212 : Cond.code yX3_init cX3_init 8 none ∈ gT := tm (List.mem_of_getElem? (i := 314) (by decide +kernel)) (by decide +kernel)
theorem t_213 : Cond.methodLink RX11 105 yX3_init ∈ gT := tm (List.mem_of_getElem? (i := 312) (by decide +kernel)) (by decide +kernel)
theorem t_214 : Cond.instanceMethod yX3_init ∈ gT := tm (List.mem_of_getElem? (i := 313) (by decide +kernel)) (by decide +kernel)
theorem t_215 : Cond.fieldLink RX11 18 "DepositJudge" "homes" "[LDepositJudge$Home;" ∈ gT := tm (List.mem_of_getElem? (i := 252) (by decide +kernel)) (by decide +kernel)
theorem dX10_init_0 : decode cX10_init 0 = .ok (.aload_n 0, 1) := by decide +kernel
theorem dX10_init_1 : decode cX10_init 1 = .ok (.invokespecial 3, 3) := by decide +kernel
theorem dX10_init_4 : decode cX10_init 4 = .ok (.aload_n 0, 1) := by decide +kernel
theorem dX10_init_5 : decode cX10_init 5 = .ok (.iconst 0, 1) := by decide +kernel
theorem dX10_init_6 : decode cX10_init 6 = .ok (.putfield 9, 3) := by decide +kernel
theorem dX10_init_9 : decode cX10_init 9 = .ok (.aload_n 0, 1) := by decide +kernel
theorem dX10_init_10 : decode cX10_init 10 = .ok (.bipush 20, 2) := by decide +kernel
theorem dX10_init_12 : decode cX10_init 12 = .ok (.newarray .int, 2) := by decide +kernel
theorem dX10_init_14 : decode cX10_init 14 = .ok (.putfield 15, 3) := by decide +kernel
theorem dX10_init_17 : decode cX10_init 17 = .ok (.aload_n 0, 1) := by decide +kernel
theorem dX10_init_18 : decode cX10_init 18 = .ok (.bipush 20, 2) := by decide +kernel
theorem dX10_init_20 : decode cX10_init 20 = .ok (.newarray .int, 2) := by decide +kernel
theorem dX10_init_22 : decode cX10_init 22 = .ok (.putfield 19, 3) := by decide +kernel
theorem dX10_init_25 : decode cX10_init 25 = .ok (.aload_n 0, 1) := by decide +kernel
theorem dX10_init_26 : decode cX10_init 26 = .ok (.bipush 20, 2) := by decide +kernel
theorem dX10_init_28 : decode cX10_init 28 = .ok (.newarray .int, 2) := by decide +kernel
theorem dX10_init_30 : decode cX10_init 30 = .ok (.putfield 22, 3) := by decide +kernel
theorem dX10_init_33 : decode cX10_init 33 = .ok (.aload_n 0, 1) := by decide +kernel
theorem dX10_init_34 : decode cX10_init 34 = .ok (.bipush 20, 2) := by decide +kernel
theorem dX10_init_36 : decode cX10_init 36 = .ok (.newarray .int, 2) := by decide +kernel
theorem dX10_init_38 : decode cX10_init 38 = .ok (.putfield 25, 3) := by decide +kernel
theorem dX10_init_41 : decode cX10_init 41 = .ok (.return_, 1) := by decide +kernel
theorem dX11_home_0 : decode cX11_home 0 = .ok (.iload_n 1, 1) := by decide +kernel
theorem dX11_home_1 : decode cX11_home 1 = .ok (.iconst 0, 1) := by decide +kernel
theorem dX11_home_2 : decode cX11_home 2 = .ok (.iconst 3, 1) := by decide +kernel
theorem dX11_home_3 : decode cX11_home 3 = .ok (.invokestatic 93, 3) := by decide +kernel
theorem dX11_home_6 : decode cX11_home 6 = .ok (.ifCond .eq 56, 3) := by decide +kernel
theorem dX11_home_9 : decode cX11_home 9 = .ok (.iload_n 2, 1) := by decide +kernel
theorem dX11_home_10 : decode cX11_home 10 = .ok (.iconst 1, 1) := by decide +kernel
theorem dX11_home_11 : decode cX11_home 11 = .ok (.iconst 4, 1) := by decide +kernel
theorem dX11_home_12 : decode cX11_home 12 = .ok (.invokestatic 93, 3) := by decide +kernel
theorem dX11_home_15 : decode cX11_home 15 = .ok (.ifCond .eq 47, 3) := by decide +kernel
theorem dX11_home_18 : decode cX11_home 18 = .ok (.iload_n 3, 1) := by decide +kernel
theorem dX11_home_19 : decode cX11_home 19 = .ok (.iconst 0, 1) := by decide +kernel
theorem dX11_home_20 : decode cX11_home 20 = .ok (.ldc 104, 2) := by decide +kernel
theorem dX11_home_22 : decode cX11_home 22 = .ok (.invokestatic 93, 3) := by decide +kernel
theorem dX11_home_25 : decode cX11_home 25 = .ok (.ifCond .eq 37, 3) := by decide +kernel
theorem dX11_home_28 : decode cX11_home 28 = .ok (.iload 4, 2) := by decide +kernel
theorem dX11_home_30 : decode cX11_home 30 = .ok (.iconst 0, 1) := by decide +kernel
theorem dX11_home_31 : decode cX11_home 31 = .ok (.sipush 999, 3) := by decide +kernel
theorem dX11_home_34 : decode cX11_home 34 = .ok (.invokestatic 93, 3) := by decide +kernel
theorem dX11_home_37 : decode cX11_home 37 = .ok (.ifCond .eq 25, 3) := by decide +kernel
theorem dX11_home_40 : decode cX11_home 40 = .ok (.iload 5, 2) := by decide +kernel
theorem dX11_home_42 : decode cX11_home 42 = .ok (.iload 4, 2) := by decide +kernel
theorem dX11_home_44 : decode cX11_home 44 = .ok (.sipush 999, 3) := by decide +kernel
theorem dX11_home_47 : decode cX11_home 47 = .ok (.invokestatic 93, 3) := by decide +kernel
theorem dX11_home_50 : decode cX11_home 50 = .ok (.ifCond .eq 12, 3) := by decide +kernel
theorem dX11_home_53 : decode cX11_home 53 = .ok (.aload_n 0, 1) := by decide +kernel
theorem dX11_home_54 : decode cX11_home 54 = .ok (.getfield 22, 3) := by decide +kernel
theorem dX11_home_57 : decode cX11_home 57 = .ok (.bipush 6, 2) := by decide +kernel
theorem dX11_home_59 : decode cX11_home 59 = .ok (.if_icmp .lt 5, 3) := by decide +kernel
theorem dX11_home_62 : decode cX11_home 62 = .ok (.iconst (-1), 1) := by decide +kernel
theorem dX11_home_63 : decode cX11_home 63 = .ok (.ireturn, 1) := by decide +kernel
theorem dX11_home_64 : decode cX11_home 64 = .ok (.new 16, 3) := by decide +kernel
theorem dX11_home_67 : decode cX11_home 67 = .ok (.dup, 1) := by decide +kernel
theorem dX11_home_68 : decode cX11_home 68 = .ok (.iload_n 1, 1) := by decide +kernel
theorem dX11_home_69 : decode cX11_home 69 = .ok (.iload_n 2, 1) := by decide +kernel
theorem dX11_home_70 : decode cX11_home 70 = .ok (.iload_n 3, 1) := by decide +kernel
theorem dX11_home_71 : decode cX11_home 71 = .ok (.iload 4, 2) := by decide +kernel
theorem dX11_home_73 : decode cX11_home 73 = .ok (.iload 5, 2) := by decide +kernel
theorem dX11_home_75 : decode cX11_home 75 = .ok (.iload 6, 2) := by decide +kernel
theorem dX11_home_77 : decode cX11_home 77 = .ok (.invokespecial 105, 3) := by decide +kernel
theorem dX11_home_80 : decode cX11_home 80 = .ok (.astore 7, 2) := by decide +kernel
theorem dX11_home_82 : decode cX11_home 82 = .ok (.aload_n 0, 1) := by decide +kernel
theorem dX11_home_83 : decode cX11_home 83 = .ok (.getfield 18, 3) := by decide +kernel
theorem dX11_home_86 : decode cX11_home 86 = .ok (.aload_n 0, 1) := by decide +kernel
theorem dX11_home_87 : decode cX11_home 87 = .ok (.getfield 22, 3) := by decide +kernel
theorem dX11_home_90 : decode cX11_home 90 = .ok (.aload 7, 2) := by decide +kernel
theorem dX11_home_92 : decode cX11_home 92 = .ok (.aastore, 1) := by decide +kernel
theorem dX11_home_93 : decode cX11_home 93 = .ok (.aload_n 0, 1) := by decide +kernel
theorem dX11_home_94 : decode cX11_home 94 = .ok (.dup, 1) := by decide +kernel
theorem dX11_home_95 : decode cX11_home 95 = .ok (.getfield 22, 3) := by decide +kernel
theorem dX11_home_98 : decode cX11_home 98 = .ok (.iconst 1, 1) := by decide +kernel
theorem dX11_home_99 : decode cX11_home 99 = .ok (.iadd, 1) := by decide +kernel
theorem dX11_home_100 : decode cX11_home 100 = .ok (.putfield 22, 3) := by decide +kernel
theorem dX11_home_103 : decode cX11_home 103 = .ok (.aload_n 0, 1) := by decide +kernel
theorem dX11_home_104 : decode cX11_home 104 = .ok (.getfield 22, 3) := by decide +kernel
theorem dX11_home_107 : decode cX11_home 107 = .ok (.iconst 1, 1) := by decide +kernel
theorem dX11_home_108 : decode cX11_home 108 = .ok (.isub, 1) := by decide +kernel
theorem dX11_home_109 : decode cX11_home 109 = .ok (.ireturn, 1) := by decide +kernel
theorem dX11_keep_0 : decode cX11_keep 0 = .ok (.aload_n 0, 1) := by decide +kernel
theorem dX11_keep_1 : decode cX11_keep 1 = .ok (.getfield 65, 3) := by decide +kernel
theorem dX11_keep_4 : decode cX11_keep 4 = .ok (.aload_n 0, 1) := by decide +kernel
theorem dX11_keep_5 : decode cX11_keep 5 = .ok (.getfield 61, 3) := by decide +kernel
theorem dX11_keep_8 : decode cX11_keep 8 = .ok (.invokevirtual 332, 3) := by decide +kernel
theorem dX11_keep_11 : decode cX11_keep 11 = .ok (.aload_n 0, 1) := by decide +kernel
theorem dX11_keep_12 : decode cX11_keep 12 = .ok (.iconst 1, 1) := by decide +kernel
theorem dX11_keep_13 : decode cX11_keep 13 = .ok (.putfield 68, 3) := by decide +kernel
theorem dX11_keep_16 : decode cX11_keep 16 = .ok (.aload_n 0, 1) := by decide +kernel
theorem dX11_keep_17 : decode cX11_keep 17 = .ok (.getfield 61, 3) := by decide +kernel
theorem dX11_keep_20 : decode cX11_keep 20 = .ok (.getfield 320, 3) := by decide +kernel
theorem dX11_keep_23 : decode cX11_keep 23 = .ok (.ireturn, 1) := by decide +kernel
theorem dX1_copyFrom_0 : decode cX1_copyFrom 0 = .ok (.aload_n 0, 1) := by decide +kernel
theorem dX1_copyFrom_1 : decode cX1_copyFrom 1 = .ok (.aload_n 1, 1) := by decide +kernel
theorem dX1_copyFrom_2 : decode cX1_copyFrom 2 = .ok (.getfield 9, 3) := by decide +kernel
theorem dX1_copyFrom_5 : decode cX1_copyFrom 5 = .ok (.putfield 9, 3) := by decide +kernel
theorem dX1_copyFrom_8 : decode cX1_copyFrom 8 = .ok (.aload_n 0, 1) := by decide +kernel
theorem dX1_copyFrom_9 : decode cX1_copyFrom 9 = .ok (.aload_n 1, 1) := by decide +kernel
theorem dX1_copyFrom_10 : decode cX1_copyFrom 10 = .ok (.getfield 47, 3) := by decide +kernel
theorem dX1_copyFrom_13 : decode cX1_copyFrom 13 = .ok (.putfield 47, 3) := by decide +kernel
theorem dX1_copyFrom_16 : decode cX1_copyFrom 16 = .ok (.iconst 0, 1) := by decide +kernel
theorem dX1_copyFrom_17 : decode cX1_copyFrom 17 = .ok (.istore_n 2, 1) := by decide +kernel
theorem dX1_copyFrom_18 : decode cX1_copyFrom 18 = .ok (.iload_n 2, 1) := by decide +kernel
theorem dX1_copyFrom_19 : decode cX1_copyFrom 19 = .ok (.aload_n 0, 1) := by decide +kernel
theorem dX1_copyFrom_20 : decode cX1_copyFrom 20 = .ok (.getfield 9, 3) := by decide +kernel
theorem dX1_copyFrom_23 : decode cX1_copyFrom 23 = .ok (.if_icmp .ge 105, 3) := by decide +kernel
theorem dX1_copyFrom_128 : decode cX1_copyFrom 128 = .ok (.iconst 0, 1) := by decide +kernel
theorem dX1_copyFrom_129 : decode cX1_copyFrom 129 = .ok (.istore_n 2, 1) := by decide +kernel
theorem dX1_copyFrom_130 : decode cX1_copyFrom 130 = .ok (.iload_n 2, 1) := by decide +kernel
theorem dX1_copyFrom_131 : decode cX1_copyFrom 131 = .ok (.bipush 6, 2) := by decide +kernel
theorem dX1_copyFrom_133 : decode cX1_copyFrom 133 = .ok (.if_icmp .ge 33, 3) := by decide +kernel
theorem dX1_copyFrom_136 : decode cX1_copyFrom 136 = .ok (.aload_n 0, 1) := by decide +kernel
theorem dX1_copyFrom_137 : decode cX1_copyFrom 137 = .ok (.getfield 41, 3) := by decide +kernel
theorem dX1_copyFrom_140 : decode cX1_copyFrom 140 = .ok (.iload_n 2, 1) := by decide +kernel
theorem dX1_copyFrom_141 : decode cX1_copyFrom 141 = .ok (.aload_n 1, 1) := by decide +kernel
theorem dX1_copyFrom_142 : decode cX1_copyFrom 142 = .ok (.getfield 41, 3) := by decide +kernel
theorem dX1_copyFrom_145 : decode cX1_copyFrom 145 = .ok (.iload_n 2, 1) := by decide +kernel
theorem dX1_copyFrom_146 : decode cX1_copyFrom 146 = .ok (.iaload, 1) := by decide +kernel
theorem dX1_copyFrom_147 : decode cX1_copyFrom 147 = .ok (.iastore, 1) := by decide +kernel
theorem dX1_copyFrom_148 : decode cX1_copyFrom 148 = .ok (.aload_n 0, 1) := by decide +kernel
theorem dX1_copyFrom_149 : decode cX1_copyFrom 149 = .ok (.getfield 44, 3) := by decide +kernel
theorem dX1_copyFrom_152 : decode cX1_copyFrom 152 = .ok (.iload_n 2, 1) := by decide +kernel
theorem dX1_copyFrom_153 : decode cX1_copyFrom 153 = .ok (.aload_n 1, 1) := by decide +kernel
theorem dX1_copyFrom_154 : decode cX1_copyFrom 154 = .ok (.getfield 44, 3) := by decide +kernel
theorem dX1_copyFrom_157 : decode cX1_copyFrom 157 = .ok (.iload_n 2, 1) := by decide +kernel
theorem dX1_copyFrom_158 : decode cX1_copyFrom 158 = .ok (.iaload, 1) := by decide +kernel
theorem dX1_copyFrom_159 : decode cX1_copyFrom 159 = .ok (.iastore, 1) := by decide +kernel
theorem dX1_copyFrom_160 : decode cX1_copyFrom 160 = .ok (.iinc 2 1, 3) := by decide +kernel
theorem dX1_copyFrom_163 : decode cX1_copyFrom 163 = .ok (.goto (-33), 3) := by decide +kernel
theorem dX1_copyFrom_166 : decode cX1_copyFrom 166 = .ok (.return_, 1) := by decide +kernel
theorem dX3_init_0 : decode cX3_init 0 = .ok (.aload_n 0, 1) := by decide +kernel
theorem dX3_init_1 : decode cX3_init 1 = .ok (.invokespecial 3, 3) := by decide +kernel
theorem dX3_init_4 : decode cX3_init 4 = .ok (.aload_n 0, 1) := by decide +kernel
theorem dX3_init_5 : decode cX3_init 5 = .ok (.iconst 4, 1) := by decide +kernel
theorem dX3_init_6 : decode cX3_init 6 = .ok (.newarray .int, 2) := by decide +kernel
theorem dX3_init_8 : decode cX3_init 8 = .ok (.putfield 9, 3) := by decide +kernel
theorem dX3_init_11 : decode cX3_init 11 = .ok (.aload_n 0, 1) := by decide +kernel
theorem dX3_init_12 : decode cX3_init 12 = .ok (.iconst 3, 1) := by decide +kernel
theorem dX3_init_13 : decode cX3_init 13 = .ok (.newarray .int, 2) := by decide +kernel
theorem dX3_init_15 : decode cX3_init 15 = .ok (.putfield 15, 3) := by decide +kernel
theorem dX3_init_18 : decode cX3_init 18 = .ok (.aload_n 0, 1) := by decide +kernel
theorem dX3_init_19 : decode cX3_init 19 = .ok (.bipush 6, 2) := by decide +kernel
theorem dX3_init_21 : decode cX3_init 21 = .ok (.newarray .boolean, 2) := by decide +kernel
theorem dX3_init_23 : decode cX3_init 23 = .ok (.putfield 18, 3) := by decide +kernel
theorem dX3_init_26 : decode cX3_init 26 = .ok (.aload_n 0, 1) := by decide +kernel
theorem dX3_init_27 : decode cX3_init 27 = .ok (.new 22, 3) := by decide +kernel
theorem dX3_init_30 : decode cX3_init 30 = .ok (.dup, 1) := by decide +kernel
theorem dX3_init_31 : decode cX3_init 31 = .ok (.invokespecial 24, 3) := by decide +kernel
theorem dX3_init_34 : decode cX3_init 34 = .ok (.putfield 25, 3) := by decide +kernel
theorem dX3_init_37 : decode cX3_init 37 = .ok (.aload_n 0, 1) := by decide +kernel
theorem dX3_init_38 : decode cX3_init 38 = .ok (.new 22, 3) := by decide +kernel
theorem dX3_init_41 : decode cX3_init 41 = .ok (.dup, 1) := by decide +kernel
theorem dX3_init_42 : decode cX3_init 42 = .ok (.invokespecial 24, 3) := by decide +kernel
theorem dX3_init_45 : decode cX3_init 45 = .ok (.putfield 29, 3) := by decide +kernel
theorem dX3_init_48 : decode cX3_init 48 = .ok (.aload_n 0, 1) := by decide +kernel
theorem dX3_init_49 : decode cX3_init 49 = .ok (.bipush 20, 2) := by decide +kernel
theorem dX3_init_51 : decode cX3_init 51 = .ok (.newarray .int, 2) := by decide +kernel
theorem dX3_init_53 : decode cX3_init 53 = .ok (.putfield 32, 3) := by decide +kernel
theorem dX3_init_56 : decode cX3_init 56 = .ok (.aload_n 0, 1) := by decide +kernel
theorem dX3_init_57 : decode cX3_init 57 = .ok (.iload_n 1, 1) := by decide +kernel
theorem dX3_init_58 : decode cX3_init 58 = .ok (.putfield 35, 3) := by decide +kernel
theorem dX3_init_61 : decode cX3_init 61 = .ok (.aload_n 0, 1) := by decide +kernel
theorem dX3_init_62 : decode cX3_init 62 = .ok (.iload_n 2, 1) := by decide +kernel
theorem dX3_init_63 : decode cX3_init 63 = .ok (.putfield 39, 3) := by decide +kernel
theorem dX3_init_66 : decode cX3_init 66 = .ok (.aload_n 0, 1) := by decide +kernel
theorem dX3_init_67 : decode cX3_init 67 = .ok (.iload_n 3, 1) := by decide +kernel
theorem dX3_init_68 : decode cX3_init 68 = .ok (.putfield 42, 3) := by decide +kernel
theorem dX3_init_71 : decode cX3_init 71 = .ok (.aload_n 0, 1) := by decide +kernel
theorem dX3_init_72 : decode cX3_init 72 = .ok (.iload 4, 2) := by decide +kernel
theorem dX3_init_74 : decode cX3_init 74 = .ok (.putfield 45, 3) := by decide +kernel
theorem dX3_init_77 : decode cX3_init 77 = .ok (.aload_n 0, 1) := by decide +kernel
theorem dX3_init_78 : decode cX3_init 78 = .ok (.iload 5, 2) := by decide +kernel
theorem dX3_init_80 : decode cX3_init 80 = .ok (.putfield 48, 3) := by decide +kernel
theorem dX3_init_83 : decode cX3_init 83 = .ok (.aload_n 0, 1) := by decide +kernel
theorem dX3_init_84 : decode cX3_init 84 = .ok (.iload 6, 2) := by decide +kernel
theorem dX3_init_86 : decode cX3_init 86 = .ok (.putfield 51, 3) := by decide +kernel
theorem dX3_init_89 : decode cX3_init 89 = .ok (.iconst 0, 1) := by decide +kernel
theorem dX3_init_90 : decode cX3_init 90 = .ok (.istore 7, 2) := by decide +kernel
theorem dX3_init_92 : decode cX3_init 92 = .ok (.iload 7, 2) := by decide +kernel
theorem dX3_init_94 : decode cX3_init 94 = .ok (.iconst 4, 1) := by decide +kernel
theorem dX3_init_95 : decode cX3_init 95 = .ok (.if_icmp .ge 17, 3) := by decide +kernel
theorem dX3_init_98 : decode cX3_init 98 = .ok (.aload_n 0, 1) := by decide +kernel
theorem dX3_init_99 : decode cX3_init 99 = .ok (.getfield 9, 3) := by decide +kernel
theorem dX3_init_102 : decode cX3_init 102 = .ok (.iload 7, 2) := by decide +kernel
theorem dX3_init_104 : decode cX3_init 104 = .ok (.iconst 1, 1) := by decide +kernel
theorem dX3_init_105 : decode cX3_init 105 = .ok (.iastore, 1) := by decide +kernel
theorem dX3_init_106 : decode cX3_init 106 = .ok (.iinc 7 1, 3) := by decide +kernel
theorem dX3_init_109 : decode cX3_init 109 = .ok (.goto (-17), 3) := by decide +kernel
theorem dX3_init_112 : decode cX3_init 112 = .ok (.return_, 1) := by decide +kernel
set_option maxHeartbeats 4000000 in
set_option maxRecDepth 100000 in
theorem c_X1_copyFrom (l : Launch) (D : va_G) (cy : Nat → ClassId) (a : Nat → Nat) (i : Nat → Int32) (r : Nat → Nat → Int32) (q : Nat → Option Nat) (sz : Nat) (hf : xZ i) (hg : xZr r) : Met l yX1_copyFrom (Cond.code yX1_copyFrom cX1_copyFrom 3 none :: gT) { frames := 1, cells := 0, slots := 0, locals := 24 } (va_Pc [.ref (a 40), .ref (a 29)] (rQ D cy (xW cy a i r q (a 20) (a 12)) sz)) (va_Qv (fun u : (Nat → Int32) × (Nat → Nat → Int32) => u.1 10 = 0) (fun (u : (Nat → Int32) × (Nat → Nat → Int32)) t => va_P D vwCl (xW cy a u.1 u.2 q (a 20) (a 12)) t.heap ∧ va_K D vwCl (vT cy) t ∧ va_D (va_A (xW cy a i r q (a 20) (a 12)) sz) (xW cy a u.1 u.2 q (a 20) (a 12))) (va_A (xW cy a i r q (a 20) (a 12)) sz)) 0 0 (va_A (xW cy a i r q (a 20) (a 12)) sz) := by
  refine Met.ofQ (cc := cX1_copyFrom) (maxL := 3) (ret := none) (by decide) rfl ?_
  intro p e s m args below meth c s₁ B hml hv Q hQ
  obtain ⟨rfl, hsz, hP, hK, hD0⟩ := hv
  have hx := B.exec
  have hb := B.bytes
  have hr := B.returns
  have hlocks := B.notSynchronized
  have hT : ∀ w ∈ gT, w.before _ s = true := fun w h => atoms_spec (ws := (Cond.code yX1_copyFrom cX1_copyFrom 3 none :: gT)) B.pre w (List.mem_cons_of_mem _ h)
  have hown : s.vm.findClass RX1 = some m.cls := findClass_of_methodNamed B.named
  subst hsz
  have hD := hD0.self (sz := s.heap.size)
  generalize hAe : va_A (xW cy a i r q (a 20) (a 12)) s.heap.size = A at hD hQ
  have hA : ∀ q : Nat, s.heap.size ≤ q → A q := fun q h => by rw [← hAe]; exact Or.inr h
  have hS : va_S A s.heap s.heap [] := va_S.rf
  have hl := lv_entry ([.ref (a 40), .ref (a 29)]) (n := 3) (Nat.le_of_ble_eq_true rfl)
  rw [lg_entry_eq]
  generalize (lg_sl ([.ref (a 40), .ref (a 29)]) ++ List.replicate (3 - (lg_sl ([.ref (a 40), .ref (a 29)])).length) Slot.unset).toArray = ls at hl ⊢
  have hl : lv_has ls 3 [(0, .ref (a 40)), (1, .ref (a 29))] := hl
  refine lv_aload_n hx hb dX1_copyFrom_0 rfl (lv_at hl 0 rfl) ?_
  refine lv_aload_n hx hb dX1_copyFrom_1 rfl (lv_at hl 1 rfl) ?_
  refine va_get (D := D) (ci := 1) (v := .int 0) (C := RX1) (T := TX1) (N := 12) hx hb hT iX1 hown hK hP 29 rfl rfl 0 (by decide) (hT _ t_170) (fun _ h9 => h9) (congrArg (fun z => some (Value.int z)) (hf.1 10 (by decide) (by decide))) dX1_copyFrom_2 ?_
  refine va_put (D := D) (ci := 1) (v := .int 0) (ty := .int) (C := RX1) (T := TX1) (N := 12) hx hb hT iX1 tyX1 tyX1_ok nmX1 hown hK hP hD hS 40 rfl rfl 0 (by decide) (hT _ t_170) (fun _ h9 => h9) rfl (by decide +kernel) rfl rfl (Nat.le_of_ble_eq_true rfl) dX1_copyFrom_5 (fun H locs hP hD hS => ?_)
  rw [xP12] at hP hD
  refine lv_aload_n hx hb dX1_copyFrom_8 rfl (lv_at hl 0 rfl) ?_
  refine lv_aload_n hx hb dX1_copyFrom_9 rfl (lv_at hl 1 rfl) ?_
  refine va_get (D := D) (ci := 1) (v := .int 1) (C := RX1) (T := TX1) (N := 12) hx hb hT iX1 hown hK hP 29 rfl rfl 11 (by decide) (hT _ t_171) (fun _ h9 => h9) (congrArg (fun z => some (Value.int z)) (hf.2.1)) dX1_copyFrom_10 ?_
  refine va_put (D := D) (ci := 1) (v := .int 1) (ty := .int) (C := RX1) (T := TX1) (N := 12) hx hb hT iX1 tyX1 tyX1_ok nmX1 hown hK hP hD hS 40 rfl rfl 11 (by decide) (hT _ t_171) (fun _ h9 => h9) rfl (by decide +kernel) rfl rfl (Nat.le_of_ble_eq_true rfl) dX1_copyFrom_13 (fun H locs hP hD hS => ?_)
  rw [xP13] at hP hD
  refine lv_iconst (v := 0) hx hb dX1_copyFrom_16 (by decide) ?_
  refine lv_istore_n (lv' := [(2, .int 0), (0, .ref (a 40)), (1, .ref (a 29))]) hx hb dX1_copyFrom_17 rfl hl (by decide) rfl (fun ls hl => ?_)
  refine lv_iload_n hx hb dX1_copyFrom_18 rfl (lv_at hl 0 rfl) ?_
  refine lv_aload_n hx hb dX1_copyFrom_19 rfl (lv_at hl 1 rfl) ?_
  refine va_get (D := D) (ci := 1) (v := .int 0) (C := RX1) (T := TX1) (N := 12) hx hb hT iX1 hown hK hP 40 rfl rfl 0 (by decide) (hT _ t_170) (fun _ h9 => h9) rfl dX1_copyFrom_20 ?_
  refine lv_icmp_ge (tgt := 128) hx hb dX1_copyFrom_23 (by decide) (fun c_1 => ?_) (fun c_1 => absurd (by decide) c_1)
  refine lv_iconst (v := 0) hx hb dX1_copyFrom_128 (by decide) ?_
  refine lv_istore_n (lv' := [(2, .int 0), (0, .ref (a 40)), (1, .ref (a 29))]) hx hb dX1_copyFrom_129 rfl hl (by decide) rfl (fun ls hl => ?_)
  have loop_2 : ∀ (n j2 : Nat) (x2 : Int32) (r2 : Nat → Nat → Int32) (H : Heap) (locs : List Loc) (ls : Array Slot), j2 + n = 6 → x2 = nI j2 → va_P D vwCl (xW cy a (upd (upd i 12 0) 13 1) r2 q (a 20) (a 12)) H → va_D A (xW cy a (upd (upd i 12 0) 13 1) r2 q (a 20) (a 12)) → va_S A s.heap H locs → lv_has ls 3 [(2, .int x2), (0, .ref (a 40)), (1, .ref (a 29))] → W p l e ({ frames := 1, cells := 0, slots := 0, locals := 24 } : Room) s m ([.ref (a 40), .ref (a 29)] : List Value).toArray below meth c H locs 0 0 Q (F0 m 130 ls []) := by
    intro n
    induction n with
    | zero =>
      intro j2 x2 r2 H locs ls hj2 hq2 hP hD hS hl
      obtain rfl : j2 = 6 := by omega
      obtain rfl : x2 = 6 := hq2.trans (by decide)
      refine lv_iload_n hx hb dX1_copyFrom_130 rfl (lv_at hl 0 rfl) ?_
      refine lv_bipush (v := 6) hx hb dX1_copyFrom_131 (by decide) ?_
      refine lv_icmp_ge (tgt := 166) hx hb dX1_copyFrom_133 (by decide) (fun c_3 => ?_) (fun c_3 => absurd (by decide) c_3)
      subst hQ
      exact W.vret hx hb hr (fun t ht hW => ⟨⟨(upd (upd i 12 0) 13 1, r2), rfl, (hf.1 10 (by decide) (by decide)), by rw [ht]; exact hP, va_K.moved hW.alike hK, hD⟩, hS.F ht⟩) hS.2.2 dX1_copyFrom_166
    | succ n ih2 =>
      intro j2 x2 r2 H locs ls hj2 hq2 hP hD hS hl
      have hx2 : x2.toInt = (j2 : Int) := by rw [hq2]; exact nI_toInt (by omega)
      have hcx2 : x2.toNatClampNeg = j2 := by rw [hq2]; exact nI_clamp (by omega)
      refine lv_iload_n hx hb dX1_copyFrom_130 rfl (lv_at hl 0 rfl) ?_
      refine lv_bipush (v := 6) hx hb dX1_copyFrom_131 (by decide) ?_
      refine lv_icmp_ge (tgt := 166) hx hb dX1_copyFrom_133 (by decide) (fun c_4 => by have c_4 : 6 ≤ x2.toInt := b_le c_4; omega) (fun c_4 => ?_)
      have c_4 : x2.toInt < 6 := b_nle c_4
      refine lv_aload_n hx hb dX1_copyFrom_136 rfl (lv_at hl 1 rfl) ?_
      refine va_get (D := D) (ci := 1) (v := .ref (a 49)) (C := RX1) (T := TX1) (N := 12) hx hb hT iX1 hown hK hP 40 rfl rfl 9 (by decide) (hT _ t_172) (fun _ h9 => h9) rfl dX1_copyFrom_137 ?_
      refine lv_iload_n hx hb dX1_copyFrom_140 rfl (lv_at hl 0 rfl) ?_
      refine lv_aload_n hx hb dX1_copyFrom_141 rfl (lv_at hl 2 rfl) ?_
      refine va_get (D := D) (ci := 1) (v := .ref (a 38)) (C := RX1) (T := TX1) (N := 12) hx hb hT iX1 hown hK hP 29 rfl rfl 9 (by decide) (hT _ t_172) (fun _ h9 => h9) rfl dX1_copyFrom_142 ?_
      refine lv_iload_n hx hb dX1_copyFrom_145 rfl (lv_at hl 0 rfl) ?_
      refine va_iald hx hb hK hP 38 0 rfl rfl (vp_inI (by omega) (by omega)) dX1_copyFrom_146 ?_
      refine lv_topi (fun v_5 ev_5 => ?_)
      refine va_iast hx hb hK hP hD hS 49 0 rfl rfl (vp_inI (by omega) (by omega)) dX1_copyFrom_147 (fun H locs hP hD hS => ?_)
      rw [xS49] at hP hD
      refine lv_aload_n hx hb dX1_copyFrom_148 rfl (lv_at hl 1 rfl) ?_
      refine va_get (D := D) (ci := 1) (v := .ref (a 50)) (C := RX1) (T := TX1) (N := 12) hx hb hT iX1 hown hK hP 40 rfl rfl 10 (by decide) (hT _ t_173) (fun _ h9 => h9) rfl dX1_copyFrom_149 ?_
      refine lv_iload_n hx hb dX1_copyFrom_152 rfl (lv_at hl 0 rfl) ?_
      refine lv_aload_n hx hb dX1_copyFrom_153 rfl (lv_at hl 2 rfl) ?_
      refine va_get (D := D) (ci := 1) (v := .ref (a 39)) (C := RX1) (T := TX1) (N := 12) hx hb hT iX1 hown hK hP 29 rfl rfl 10 (by decide) (hT _ t_173) (fun _ h9 => h9) rfl dX1_copyFrom_154 ?_
      refine lv_iload_n hx hb dX1_copyFrom_157 rfl (lv_at hl 0 rfl) ?_
      refine va_iald hx hb hK hP 39 0 rfl rfl (vp_inI (by omega) (by omega)) dX1_copyFrom_158 ?_
      refine lv_topi (fun v_6 ev_6 => ?_)
      refine va_iast hx hb hK hP hD hS 50 0 rfl rfl (vp_inI (by omega) (by omega)) dX1_copyFrom_159 (fun H locs hP hD hS => ?_)
      rw [xS50] at hP hD
      obtain ⟨x_7, ex_7⟩ : ∃ y : Int32, y = x2 + 1 := ⟨_, rfl⟩
      refine lv_iinc (v := x_7) (lv' := [(2, .int x_7), (0, .ref (a 40)), (1, .ref (a 29))]) hx hb dX1_copyFrom_160 hl (k := 0) rfl (by rw [ex_7]; rfl) (by decide) rfl (fun ls hl => ?_)
      refine lv_goto (tgt := 130) hx hb dX1_copyFrom_163 (by decide) ?_
      exact ih2 (j2 + 1) x_7 (va_up (va_up r2 49 (upd (r2 49) x2.toNatClampNeg v_5)) 50 (upd ((va_up r2 49 (upd (r2 49) x2.toNatClampNeg v_5)) 50) x2.toNatClampNeg v_6)) _ _ _ (by omega) (by rw [ex_7, hq2]; exact nI_1 j2) hP hD hS (lv_sub hl [0, 1, 2] rfl)
  exact loop_2 6 0 0 r _ _ _ (by omega) rfl hP hD hS hl
set_option maxHeartbeats 4000000 in
set_option maxRecDepth 100000 in
theorem c_X11_keep (l : Launch) (D : va_G) (cy : Nat → ClassId) (a : Nat → Nat) (i : Nat → Int32) (r : Nat → Nat → Int32) (q : Nat → Option Nat) (sz : Nat) (hf : xZ i) (hg : xZr r) : Met l yX11_keep (Cond.code yX11_keep cX11_keep 1 (some .int) :: gT) { frames := 2, cells := 0, slots := 0, locals := 46 } (va_Pc [.ref (a 0)] (rQ D cy (xW cy a i r q (a 20) (a 12)) sz)) (va_Qi (fun (z : Int32) (u : Unit) => z = 0) (fun _ _ => True) (va_A (xW cy a i r q (a 20) (a 12)) sz)) 0 0 (va_A (xW cy a i r q (a 20) (a 12)) sz) := by
  refine Met.ofQ (cc := cX11_keep) (maxL := 1) (ret := (some .int)) (by decide) rfl ?_
  intro p e s m args below meth c s₁ B hml hv Q hQ
  obtain ⟨rfl, hsz, hP, hK, hD0⟩ := hv
  have hx := B.exec
  have hb := B.bytes
  have hr := B.returns
  have hlocks := B.notSynchronized
  have hT : ∀ w ∈ gT, w.before _ s = true := fun w h => atoms_spec (ws := (Cond.code yX11_keep cX11_keep 1 (some .int) :: gT)) B.pre w (List.mem_cons_of_mem _ h)
  have hown : s.vm.findClass RX11 = some m.cls := findClass_of_methodNamed B.named
  subst hsz
  have hD := hD0.self (sz := s.heap.size)
  generalize hAe : va_A (xW cy a i r q (a 20) (a 12)) s.heap.size = A at hD hQ
  have hA : ∀ q : Nat, s.heap.size ≤ q → A q := fun q h => by rw [← hAe]; exact Or.inr h
  have hS : va_S A s.heap s.heap [] := va_S.rf
  have hl := lv_entry ([.ref (a 0)]) (n := 1) (Nat.le_of_ble_eq_true rfl)
  rw [lg_entry_eq]
  generalize (lg_sl ([.ref (a 0)]) ++ List.replicate (1 - (lg_sl ([.ref (a 0)])).length) Slot.unset).toArray = ls at hl ⊢
  have hl : lv_has ls 1 [(0, .ref (a 0))] := hl
  refine lv_aload_n hx hb dX11_keep_0 rfl (lv_at hl 0 rfl) ?_
  refine va_get (D := D) (ci := 11) (v := .ref (a 40)) (C := RX11) (T := TX11) (N := 14) hx hb hT iX11 hown hK hP 0 rfl rfl 9 (by decide) (hT _ t_174) (fun _ h9 => h9) rfl dX11_keep_1 ?_
  refine lv_aload_n hx hb dX11_keep_4 rfl (lv_at hl 0 rfl) ?_
  refine va_get (D := D) (ci := 11) (v := .ref (a 29)) (C := RX11) (T := TX11) (N := 14) hx hb hT iX11 hown hK hP 0 rfl rfl 8 (by decide) (hT _ t_40) (fun _ h9 => h9) rfl dX11_keep_5 ?_
  have hF_1 := rF hD hS hA
  refine va_callv (va_runV (As := [.ref (a 29)]) (rest := []) ⟨hx, hb, hml, hown, hT⟩ (c_X1_copyFrom l D cy a i r q _ hf hg) (cwV 1 hT (gV t_175 t_177 t_178 t_179 t_176) rfl rfl rfl (by decide +kernel) ⟨Nat.le_of_ble_eq_true rfl, Nat.le_of_ble_eq_true rfl⟩) (rQ_v hP hK hD (va_recv hK hP (ci := 1) (q0 := 40) rfl rfl)) rfl rfl hl.1 rfl (lv_room (Nat.le_of_ble_eq_true rfl)) dX11_keep_8 ⟨Nat.le_of_ble_eq_true rfl, Nat.le_of_ble_eq_true rfl⟩) hS (fun q _ h => hF_1 q h) hF_1 (fun u_3 t H1 locs ht hvm hr_2 hB hz1 hk1 hS => ?_)
  obtain ⟨i3, r3⟩ := u_3
  obtain ⟨hP, hK1, hD1⟩ := hB
  rw [ht] at hP
  have hD := hD1.weaken (fun k q _ h => hF_1 q.1 h)
  have hP : va_P D vwCl (xW cy a i3 r3 q (a 20) (a 12)) H1 := hP
  have hD : va_D A (xW cy a i3 r3 q (a 20) (a 12)) := hD
  refine lv_aload_n hx hb dX11_keep_11 rfl (lv_at hl 0 rfl) ?_
  refine lv_iconst (v := 1) hx hb dX11_keep_12 (by decide) ?_
  refine va_put (D := D) (ci := 11) (v := .int 1) (ty := .boolean) (C := RX11) (T := TX11) (N := 14) hx hb hT iX11 tyX11 tyX11_ok nmX11 hown hK hP hD hS 0 rfl rfl 10 (by decide) (hT _ t_52) (fun _ h9 => h9) rfl (by decide +kernel) rfl rfl (Nat.le_of_ble_eq_true rfl) dX11_keep_13 (fun H locs hP hD hS => ?_)
  rw [xP1] at hP hD
  refine lv_aload_n hx hb dX11_keep_16 rfl (lv_at hl 0 rfl) ?_
  refine va_get (D := D) (ci := 11) (v := .ref (a 29)) (C := RX11) (T := TX11) (N := 14) hx hb hT iX11 hown hK hP 0 rfl rfl 8 (by decide) (hT _ t_40) (fun _ h9 => h9) rfl dX11_keep_17 ?_
  refine va_get (D := D) (ci := 1) (v := .int 0) (C := RX1) (T := TX1) (N := 12) hx hb hT iX1 hown hK hP 29 rfl rfl 0 (by decide) (hT _ t_41) (fun _ h9 => h9) (congrArg (fun z => some (Value.int z)) (hr_2 : i3 10 = 0)) dX11_keep_20 ?_
  subst hQ
  exact W.iret (v := 0) hx hb hr (fun t ht hW => ⟨⟨_, (), rfl, rfl, trivial⟩, hS.F ht⟩) hS.2.2 dX11_keep_23
set_option maxHeartbeats 4000000 in
set_option maxRecDepth 100000 in
theorem c_X10_init (l : Launch) (D : va_G) (cy : Nat → ClassId) (h0 : Nat) (sz : Nat) : Met l yX10_init (Cond.code yX10_init cX10_init 1 none :: gT) { frames := 1, cells := 4, slots := 80, locals := 24 } (va_Pc [.ref h0] (rQ D cy [(h0, .inr (10, [.int 0, .null, .null, .null, .null]))] sz)) (va_Qv (fun u : List Value => True) (fun (u : List Value) t => va_P D vwCl [(h0, .inr (10, u))] t.heap ∧ va_K D vwCl (vT cy) t ∧ va_D (va_A [(h0, .inr (10, [.int 0, .null, .null, .null, .null]))] sz) [(h0, .inr (10, u))]) (va_A [(h0, .inr (10, [.int 0, .null, .null, .null, .null]))] sz)) 4 80 (va_A [(h0, .inr (10, [.int 0, .null, .null, .null, .null]))] sz) := by
  refine Met.ofQ (cc := cX10_init) (maxL := 1) (ret := none) (by decide) rfl ?_
  intro p e s m args below meth c s₁ B hml hv Q hQ
  obtain ⟨rfl, hsz, hP, hK, hD0⟩ := hv
  have hx := B.exec
  have hb := B.bytes
  have hr := B.returns
  have hlocks := B.notSynchronized
  have hT : ∀ w ∈ gT, w.before _ s = true := fun w h => atoms_spec (ws := (Cond.code yX10_init cX10_init 1 none :: gT)) B.pre w (List.mem_cons_of_mem _ h)
  have hown : s.vm.findClass RX10 = some m.cls := findClass_of_methodNamed B.named
  have hin : meth.name = "<init>" := (name_of_methodNamed B.named B.method).1
  subst hsz
  have hD := hD0.self (sz := s.heap.size)
  generalize hAe : va_A [(h0, .inr (10, [.int 0, .null, .null, .null, .null]))] s.heap.size = A at hD hQ
  have hA : ∀ q : Nat, s.heap.size ≤ q → A q := fun q h => by rw [← hAe]; exact Or.inr h
  have hS : va_S A s.heap s.heap [] := va_S.rf
  have hl := lv_entry ([.ref h0]) (n := 1) (Nat.le_of_ble_eq_true rfl)
  rw [lg_entry_eq]
  generalize (lg_sl ([.ref h0]) ++ List.replicate (1 - (lg_sl ([.ref h0])).length) Slot.unset).toArray = ls at hl ⊢
  have hl : lv_has ls 1 [(0, .ref h0)] := hl
  refine lv_aload_n hx hb dX10_init_0 rfl (lv_at hl 0 rfl) ?_
  refine W.objInit hx hb hown (hT _ t_180) (hT _ t_181) (hT _ t_182) rfl (by rw [hml]; exact hl.1) rfl dX10_init_1 (Nat.le_of_ble_eq_true rfl) (Nat.le_of_ble_eq_true rfl) ?_
  refine W.eq (g2 := F0 m 4 ls []) rfl ?_
  refine lv_aload_n hx hb dX10_init_4 rfl (lv_at hl 0 rfl) ?_
  refine lv_iconst (v := 0) hx hb dX10_init_5 (by decide) ?_
  refine va_put (D := D) (ci := 10) (v := .int 0) (ty := .int) (C := RX10) (T := TX10) (N := 5) hx hb hT iX10 tyX10 tyX10_ok nmX10 hown hK hP hD hS 0 rfl rfl 0 (by decide) (hT _ t_183) (fun _ h9 => h9) rfl (by decide +kernel) rfl rfl (Nat.le_of_ble_eq_true rfl) dX10_init_6 (fun H locs hP hD hS => ?_)
  have hP : va_P D vwCl [(h0, .inr (10, [.int 0, .null, .null, .null, .null]))] H := hP
  have hD : va_D A [(h0, .inr (10, [.int 0, .null, .null, .null, .null]))] := hD
  refine lv_aload_n hx hb dX10_init_9 rfl (lv_at hl 0 rfl) ?_
  refine lv_bipush (v := 20) hx hb dX10_init_10 (by decide) ?_
  refine r_newI (N := 20) hx hb (hT _ t_184) hK hP hD hS hA (by decide) (by decide) (by decide) (Nat.le_of_ble_eq_true rfl) (Nat.le_of_ble_eq_true rfl) dX10_init_12 (fun q_1 H hP hD hS => ?_)
  have hP : va_P D vwCl [(h0, .inr (10, [.int 0, .null, .null, .null, .null])), (q_1, .inl (cy 0, 20, .inl (fun _ => 0)))] H := hP
  have hD : va_D A [(h0, .inr (10, [.int 0, .null, .null, .null, .null])), (q_1, .inl (cy 0, 20, .inl (fun _ => 0)))] := hD
  refine W.widen (k := 1) (n := 20) (Nat.le_of_ble_eq_true rfl) (Nat.le_of_ble_eq_true rfl) ?_
  refine va_putF (D := D) (ci := 10) (v := .ref q_1) (ty := .array .int) (C := RX10) (T := TX10) (N := 5) hx hb hT iX10 tyX10 tyX10_ok nmX10 hown hK hP hD hS 0 rfl rfl 1 (by decide) (hT _ t_185) (fun _ h9 => h9) rfl hin rfl (by decide +kernel) rfl rfl (Nat.le_of_ble_eq_true rfl) dX10_init_14 (fun H locs hP hD hS => ?_)
  have hP : va_P D vwCl [(h0, .inr (10, [.int 0, .ref q_1, .null, .null, .null])), (q_1, .inl (cy 0, 20, .inl (fun _ => 0)))] H := hP
  have hD : va_D A [(h0, .inr (10, [.int 0, .ref q_1, .null, .null, .null])), (q_1, .inl (cy 0, 20, .inl (fun _ => 0)))] := hD
  refine lv_aload_n hx hb dX10_init_17 rfl (lv_at hl 0 rfl) ?_
  refine lv_bipush (v := 20) hx hb dX10_init_18 (by decide) ?_
  refine r_newI (N := 20) hx hb (hT _ t_184) hK hP hD hS hA (by decide) (by decide) (by decide) (Nat.le_of_ble_eq_true rfl) (Nat.le_of_ble_eq_true rfl) dX10_init_20 (fun q_2 H hP hD hS => ?_)
  have hP : va_P D vwCl [(h0, .inr (10, [.int 0, .ref q_1, .null, .null, .null])), (q_1, .inl (cy 0, 20, .inl (fun _ => 0))), (q_2, .inl (cy 0, 20, .inl (fun _ => 0)))] H := hP
  have hD : va_D A [(h0, .inr (10, [.int 0, .ref q_1, .null, .null, .null])), (q_1, .inl (cy 0, 20, .inl (fun _ => 0))), (q_2, .inl (cy 0, 20, .inl (fun _ => 0)))] := hD
  refine W.widen (k := 2) (n := 40) (Nat.le_of_ble_eq_true rfl) (Nat.le_of_ble_eq_true rfl) ?_
  refine va_putF (D := D) (ci := 10) (v := .ref q_2) (ty := .array .int) (C := RX10) (T := TX10) (N := 5) hx hb hT iX10 tyX10 tyX10_ok nmX10 hown hK hP hD hS 0 rfl rfl 2 (by decide) (hT _ t_186) (fun _ h9 => h9) rfl hin rfl (by decide +kernel) rfl rfl (Nat.le_of_ble_eq_true rfl) dX10_init_22 (fun H locs hP hD hS => ?_)
  have hP : va_P D vwCl [(h0, .inr (10, [.int 0, .ref q_1, .ref q_2, .null, .null])), (q_1, .inl (cy 0, 20, .inl (fun _ => 0))), (q_2, .inl (cy 0, 20, .inl (fun _ => 0)))] H := hP
  have hD : va_D A [(h0, .inr (10, [.int 0, .ref q_1, .ref q_2, .null, .null])), (q_1, .inl (cy 0, 20, .inl (fun _ => 0))), (q_2, .inl (cy 0, 20, .inl (fun _ => 0)))] := hD
  refine lv_aload_n hx hb dX10_init_25 rfl (lv_at hl 0 rfl) ?_
  refine lv_bipush (v := 20) hx hb dX10_init_26 (by decide) ?_
  refine r_newI (N := 20) hx hb (hT _ t_184) hK hP hD hS hA (by decide) (by decide) (by decide) (Nat.le_of_ble_eq_true rfl) (Nat.le_of_ble_eq_true rfl) dX10_init_28 (fun q_3 H hP hD hS => ?_)
  have hP : va_P D vwCl [(h0, .inr (10, [.int 0, .ref q_1, .ref q_2, .null, .null])), (q_1, .inl (cy 0, 20, .inl (fun _ => 0))), (q_2, .inl (cy 0, 20, .inl (fun _ => 0))), (q_3, .inl (cy 0, 20, .inl (fun _ => 0)))] H := hP
  have hD : va_D A [(h0, .inr (10, [.int 0, .ref q_1, .ref q_2, .null, .null])), (q_1, .inl (cy 0, 20, .inl (fun _ => 0))), (q_2, .inl (cy 0, 20, .inl (fun _ => 0))), (q_3, .inl (cy 0, 20, .inl (fun _ => 0)))] := hD
  refine W.widen (k := 3) (n := 60) (Nat.le_of_ble_eq_true rfl) (Nat.le_of_ble_eq_true rfl) ?_
  refine va_putF (D := D) (ci := 10) (v := .ref q_3) (ty := .array .int) (C := RX10) (T := TX10) (N := 5) hx hb hT iX10 tyX10 tyX10_ok nmX10 hown hK hP hD hS 0 rfl rfl 3 (by decide) (hT _ t_187) (fun _ h9 => h9) rfl hin rfl (by decide +kernel) rfl rfl (Nat.le_of_ble_eq_true rfl) dX10_init_30 (fun H locs hP hD hS => ?_)
  have hP : va_P D vwCl [(h0, .inr (10, [.int 0, .ref q_1, .ref q_2, .ref q_3, .null])), (q_1, .inl (cy 0, 20, .inl (fun _ => 0))), (q_2, .inl (cy 0, 20, .inl (fun _ => 0))), (q_3, .inl (cy 0, 20, .inl (fun _ => 0)))] H := hP
  have hD : va_D A [(h0, .inr (10, [.int 0, .ref q_1, .ref q_2, .ref q_3, .null])), (q_1, .inl (cy 0, 20, .inl (fun _ => 0))), (q_2, .inl (cy 0, 20, .inl (fun _ => 0))), (q_3, .inl (cy 0, 20, .inl (fun _ => 0)))] := hD
  refine lv_aload_n hx hb dX10_init_33 rfl (lv_at hl 0 rfl) ?_
  refine lv_bipush (v := 20) hx hb dX10_init_34 (by decide) ?_
  refine r_newI (N := 20) hx hb (hT _ t_184) hK hP hD hS hA (by decide) (by decide) (by decide) (Nat.le_of_ble_eq_true rfl) (Nat.le_of_ble_eq_true rfl) dX10_init_36 (fun q_4 H hP hD hS => ?_)
  have hP : va_P D vwCl [(h0, .inr (10, [.int 0, .ref q_1, .ref q_2, .ref q_3, .null])), (q_1, .inl (cy 0, 20, .inl (fun _ => 0))), (q_2, .inl (cy 0, 20, .inl (fun _ => 0))), (q_3, .inl (cy 0, 20, .inl (fun _ => 0))), (q_4, .inl (cy 0, 20, .inl (fun _ => 0)))] H := hP
  have hD : va_D A [(h0, .inr (10, [.int 0, .ref q_1, .ref q_2, .ref q_3, .null])), (q_1, .inl (cy 0, 20, .inl (fun _ => 0))), (q_2, .inl (cy 0, 20, .inl (fun _ => 0))), (q_3, .inl (cy 0, 20, .inl (fun _ => 0))), (q_4, .inl (cy 0, 20, .inl (fun _ => 0)))] := hD
  refine W.widen (k := 4) (n := 80) (Nat.le_of_ble_eq_true rfl) (Nat.le_of_ble_eq_true rfl) ?_
  refine va_putF (D := D) (ci := 10) (v := .ref q_4) (ty := .array .int) (C := RX10) (T := TX10) (N := 5) hx hb hT iX10 tyX10 tyX10_ok nmX10 hown hK hP hD hS 0 rfl rfl 4 (by decide) (hT _ t_188) (fun _ h9 => h9) rfl hin rfl (by decide +kernel) rfl rfl (Nat.le_of_ble_eq_true rfl) dX10_init_38 (fun H locs hP hD hS => ?_)
  have hP : va_P D vwCl [(h0, .inr (10, [.int 0, .ref q_1, .ref q_2, .ref q_3, .ref q_4])), (q_1, .inl (cy 0, 20, .inl (fun _ => 0))), (q_2, .inl (cy 0, 20, .inl (fun _ => 0))), (q_3, .inl (cy 0, 20, .inl (fun _ => 0))), (q_4, .inl (cy 0, 20, .inl (fun _ => 0)))] H := hP
  have hD : va_D A [(h0, .inr (10, [.int 0, .ref q_1, .ref q_2, .ref q_3, .ref q_4])), (q_1, .inl (cy 0, 20, .inl (fun _ => 0))), (q_2, .inl (cy 0, 20, .inl (fun _ => 0))), (q_3, .inl (cy 0, 20, .inl (fun _ => 0))), (q_4, .inl (cy 0, 20, .inl (fun _ => 0)))] := hD
  subst hQ
  have hP9 := hP.sub (ws' := [(h0, .inr (10, [.int 0, .ref q_1, .ref q_2, .ref q_3, .ref q_4]))]) [0] rfl
  have hD9 := hD.sub (ws' := [(h0, .inr (10, [.int 0, .ref q_1, .ref q_2, .ref q_3, .ref q_4]))]) [0] (by decide) rfl
  exact W.vret hx hb hr (fun t ht hW => ⟨⟨[.int 0, .ref q_1, .ref q_2, .ref q_3, .ref q_4], rfl, trivial, by rw [ht]; exact hP9, va_K.moved hW.alike hK, hD9⟩, hS.F ht⟩) hS.2.2 dX10_init_41
set_option maxHeartbeats 4000000 in
set_option maxRecDepth 100000 in
theorem c_X3_init (l : Launch) (D : va_G) (cy : Nat → ClassId) (h0 : Nat) (p0 p1 p2 p3 p4 p5 : Int32) (sz : Nat) (hk : p5 = 0 ∨ p5 = 1) : Met l yX3_init (Cond.code yX3_init cX3_init 8 none :: gT) { frames := 2, cells := 14, slots := 203, locals := 44 } (va_Pc [.ref h0, .int p0, .int p1, .int p2, .int p3, .int p4, .int p5] (rN D cy [(h0, .inr (3, [.int 0, .int 0, .int 0, .int 0, .int 0, .int 0, .null, .null, .null, .null, .null, .null]))] sz)) (va_Qv (fun u : List Value => True) (fun (u : List Value) t => va_P D vwCl [(h0, .inr (3, u))] t.heap ∧ va_K D vwCl (vT cy) t ∧ va_D (va_A [(h0, .inr (3, [.int 0, .int 0, .int 0, .int 0, .int 0, .int 0, .null, .null, .null, .null, .null, .null]))] sz) [(h0, .inr (3, u))]) (va_A [(h0, .inr (3, [.int 0, .int 0, .int 0, .int 0, .int 0, .int 0, .null, .null, .null, .null, .null, .null]))] sz)) 14 203 (va_A [(h0, .inr (3, [.int 0, .int 0, .int 0, .int 0, .int 0, .int 0, .null, .null, .null, .null, .null, .null]))] sz) := by
  refine Met.ofQ (cc := cX3_init) (maxL := 8) (ret := none) (by decide) rfl ?_
  intro p e s m args below meth c s₁ B hml hv Q hQ
  obtain ⟨rfl, hnw, hsz, hP, hK, hD0⟩ := hv
  have hx := B.exec
  have hb := B.bytes
  have hr := B.returns
  have hlocks := B.notSynchronized
  have hT : ∀ w ∈ gT, w.before _ s = true := fun w h => atoms_spec (ws := (Cond.code yX3_init cX3_init 8 none :: gT)) B.pre w (List.mem_cons_of_mem _ h)
  have hown : s.vm.findClass RX3 = some m.cls := findClass_of_methodNamed B.named
  have hin : meth.name = "<init>" := (name_of_methodNamed B.named B.method).1
  subst hsz
  have hD := hD0.self (sz := s.heap.size)
  generalize hAe : va_A [(h0, .inr (3, [.int 0, .int 0, .int 0, .int 0, .int 0, .int 0, .null, .null, .null, .null, .null, .null]))] s.heap.size = A at hD hQ
  have hA : ∀ q : Nat, s.heap.size ≤ q → A q := fun q h => by rw [← hAe]; exact Or.inr h
  have hS : va_S A s.heap s.heap [] := va_S.rf
  have hl := lv_entry ([.ref h0, .int p0, .int p1, .int p2, .int p3, .int p4, .int p5]) (n := 8) (Nat.le_of_ble_eq_true rfl)
  rw [lg_entry_eq]
  generalize (lg_sl ([.ref h0, .int p0, .int p1, .int p2, .int p3, .int p4, .int p5]) ++ List.replicate (8 - (lg_sl ([.ref h0, .int p0, .int p1, .int p2, .int p3, .int p4, .int p5])).length) Slot.unset).toArray = ls at hl ⊢
  have hl : lv_has ls 8 [(0, .ref h0), (1, .int p0), (2, .int p1), (3, .int p2), (4, .int p3), (5, .int p4), (6, .int p5)] := hl
  refine lv_aload_n hx hb dX3_init_0 rfl (lv_at hl 0 rfl) ?_
  refine W.objInit hx hb hown (hT _ t_189) (hT _ t_181) (hT _ t_182) rfl (by rw [hml]; exact hl.1) rfl dX3_init_1 (Nat.le_of_ble_eq_true rfl) (Nat.le_of_ble_eq_true rfl) ?_
  refine W.eq (g2 := F0 m 4 ls []) rfl ?_
  refine lv_aload_n hx hb dX3_init_4 rfl (lv_at hl 0 rfl) ?_
  refine lv_iconst (v := 4) hx hb dX3_init_5 (by decide) ?_
  refine r_newI (N := 4) hx hb (hT _ t_184) hK hP hD hS hA (by decide) (by decide) (by decide) (Nat.le_of_ble_eq_true rfl) (Nat.le_of_ble_eq_true rfl) dX3_init_6 (fun q_1 H hP hD hS => ?_)
  have hP : va_P D vwCl [(h0, .inr (3, [.int 0, .int 0, .int 0, .int 0, .int 0, .int 0, .null, .null, .null, .null, .null, .null])), (q_1, .inl (cy 0, 4, .inl (fun _ => 0)))] H := hP
  have hD : va_D A [(h0, .inr (3, [.int 0, .int 0, .int 0, .int 0, .int 0, .int 0, .null, .null, .null, .null, .null, .null])), (q_1, .inl (cy 0, 4, .inl (fun _ => 0)))] := hD
  refine W.widen (k := 1) (n := 4) (Nat.le_of_ble_eq_true rfl) (Nat.le_of_ble_eq_true rfl) ?_
  refine va_putF (D := D) (ci := 3) (v := .ref q_1) (ty := .array .int) (C := RX3) (T := TX3) (N := 12) hx hb hT iX3 tyX3 tyX3_ok nmX3 hown hK hP hD hS 0 rfl rfl 6 (by decide) (hT _ t_190) (fun _ h9 => h9) rfl hin rfl (by decide +kernel) rfl rfl (Nat.le_of_ble_eq_true rfl) dX3_init_8 (fun H locs hP hD hS => ?_)
  have hP : va_P D vwCl [(h0, .inr (3, [.int 0, .int 0, .int 0, .int 0, .int 0, .int 0, .ref q_1, .null, .null, .null, .null, .null])), (q_1, .inl (cy 0, 4, .inl (fun _ => 0)))] H := hP
  have hD : va_D A [(h0, .inr (3, [.int 0, .int 0, .int 0, .int 0, .int 0, .int 0, .ref q_1, .null, .null, .null, .null, .null])), (q_1, .inl (cy 0, 4, .inl (fun _ => 0)))] := hD
  refine lv_aload_n hx hb dX3_init_11 rfl (lv_at hl 0 rfl) ?_
  refine lv_iconst (v := 3) hx hb dX3_init_12 (by decide) ?_
  refine r_newI (N := 3) hx hb (hT _ t_184) hK hP hD hS hA (by decide) (by decide) (by decide) (Nat.le_of_ble_eq_true rfl) (Nat.le_of_ble_eq_true rfl) dX3_init_13 (fun q_2 H hP hD hS => ?_)
  have hP : va_P D vwCl [(h0, .inr (3, [.int 0, .int 0, .int 0, .int 0, .int 0, .int 0, .ref q_1, .null, .null, .null, .null, .null])), (q_1, .inl (cy 0, 4, .inl (fun _ => 0))), (q_2, .inl (cy 0, 3, .inl (fun _ => 0)))] H := hP
  have hD : va_D A [(h0, .inr (3, [.int 0, .int 0, .int 0, .int 0, .int 0, .int 0, .ref q_1, .null, .null, .null, .null, .null])), (q_1, .inl (cy 0, 4, .inl (fun _ => 0))), (q_2, .inl (cy 0, 3, .inl (fun _ => 0)))] := hD
  refine W.widen (k := 2) (n := 7) (Nat.le_of_ble_eq_true rfl) (Nat.le_of_ble_eq_true rfl) ?_
  refine va_putF (D := D) (ci := 3) (v := .ref q_2) (ty := .array .int) (C := RX3) (T := TX3) (N := 12) hx hb hT iX3 tyX3 tyX3_ok nmX3 hown hK hP hD hS 0 rfl rfl 7 (by decide) (hT _ t_191) (fun _ h9 => h9) rfl hin rfl (by decide +kernel) rfl rfl (Nat.le_of_ble_eq_true rfl) dX3_init_15 (fun H locs hP hD hS => ?_)
  have hP : va_P D vwCl [(h0, .inr (3, [.int 0, .int 0, .int 0, .int 0, .int 0, .int 0, .ref q_1, .ref q_2, .null, .null, .null, .null])), (q_1, .inl (cy 0, 4, .inl (fun _ => 0))), (q_2, .inl (cy 0, 3, .inl (fun _ => 0)))] H := hP
  have hD : va_D A [(h0, .inr (3, [.int 0, .int 0, .int 0, .int 0, .int 0, .int 0, .ref q_1, .ref q_2, .null, .null, .null, .null])), (q_1, .inl (cy 0, 4, .inl (fun _ => 0))), (q_2, .inl (cy 0, 3, .inl (fun _ => 0)))] := hD
  refine lv_aload_n hx hb dX3_init_18 rfl (lv_at hl 0 rfl) ?_
  refine lv_bipush (v := 6) hx hb dX3_init_19 (by decide) ?_
  refine r_newZ (N := 6) hx hb (hT _ t_192) hK hP hD hS hA (by decide) (by decide) (by decide) (Nat.le_of_ble_eq_true rfl) (Nat.le_of_ble_eq_true rfl) dX3_init_21 (fun q_3 H hP hD hS => ?_)
  have hP : va_P D vwCl [(h0, .inr (3, [.int 0, .int 0, .int 0, .int 0, .int 0, .int 0, .ref q_1, .ref q_2, .null, .null, .null, .null])), (q_1, .inl (cy 0, 4, .inl (fun _ => 0))), (q_2, .inl (cy 0, 3, .inl (fun _ => 0))), (q_3, .inl (cy 2, 6, .inl (fun _ => 0)))] H := hP
  have hD : va_D A [(h0, .inr (3, [.int 0, .int 0, .int 0, .int 0, .int 0, .int 0, .ref q_1, .ref q_2, .null, .null, .null, .null])), (q_1, .inl (cy 0, 4, .inl (fun _ => 0))), (q_2, .inl (cy 0, 3, .inl (fun _ => 0))), (q_3, .inl (cy 2, 6, .inl (fun _ => 0)))] := hD
  refine W.widen (k := 3) (n := 13) (Nat.le_of_ble_eq_true rfl) (Nat.le_of_ble_eq_true rfl) ?_
  refine va_putF (D := D) (ci := 3) (v := .ref q_3) (ty := .array .boolean) (C := RX3) (T := TX3) (N := 12) hx hb hT iX3 tyX3 tyX3_ok nmX3 hown hK hP hD hS 0 rfl rfl 8 (by decide) (hT _ t_193) (fun _ h9 => h9) rfl hin rfl (by decide +kernel) rfl rfl (Nat.le_of_ble_eq_true rfl) dX3_init_23 (fun H locs hP hD hS => ?_)
  have hP : va_P D vwCl [(h0, .inr (3, [.int 0, .int 0, .int 0, .int 0, .int 0, .int 0, .ref q_1, .ref q_2, .ref q_3, .null, .null, .null])), (q_1, .inl (cy 0, 4, .inl (fun _ => 0))), (q_2, .inl (cy 0, 3, .inl (fun _ => 0))), (q_3, .inl (cy 2, 6, .inl (fun _ => 0)))] H := hP
  have hD : va_D A [(h0, .inr (3, [.int 0, .int 0, .int 0, .int 0, .int 0, .int 0, .ref q_1, .ref q_2, .ref q_3, .null, .null, .null])), (q_1, .inl (cy 0, 4, .inl (fun _ => 0))), (q_2, .inl (cy 0, 3, .inl (fun _ => 0))), (q_3, .inl (cy 2, 6, .inl (fun _ => 0)))] := hD
  refine lv_aload_n hx hb dX3_init_26 rfl (lv_at hl 0 rfl) ?_
  refine va_new (ci := 10) (fs := [.int 0, .null, .null, .null, .null]) (C := RX10) (T := TX10) (N := 5) hx hb hT iX10 tyX10 tyX10_ok hown (hT _ t_194) (hT _ t_195) (hT _ t_196) hK hP hD hS hA rfl (fun j hj => dfl10 j hj) (Nat.le_of_ble_eq_true rfl) (Nat.le_of_ble_eq_true rfl) dX3_init_27 (fun q_4 H hP hD hS => ?_)
  have hP : va_P D vwCl [(h0, .inr (3, [.int 0, .int 0, .int 0, .int 0, .int 0, .int 0, .ref q_1, .ref q_2, .ref q_3, .null, .null, .null])), (q_1, .inl (cy 0, 4, .inl (fun _ => 0))), (q_2, .inl (cy 0, 3, .inl (fun _ => 0))), (q_3, .inl (cy 2, 6, .inl (fun _ => 0))), (q_4, .inr (10, [.int 0, .null, .null, .null, .null]))] H := hP
  have hD : va_D A [(h0, .inr (3, [.int 0, .int 0, .int 0, .int 0, .int 0, .int 0, .ref q_1, .ref q_2, .ref q_3, .null, .null, .null])), (q_1, .inl (cy 0, 4, .inl (fun _ => 0))), (q_2, .inl (cy 0, 3, .inl (fun _ => 0))), (q_3, .inl (cy 2, 6, .inl (fun _ => 0))), (q_4, .inr (10, [.int 0, .null, .null, .null, .null]))] := hD
  refine W.widen (k := 4) (n := 18) (Nat.le_of_ble_eq_true rfl) (Nat.le_of_ble_eq_true rfl) ?_
  refine lv_dup hx hb dX3_init_30 rfl ?_
  have hP_5 := hP.sub (ws' := [(q_4, .inr (10, [.int 0, .null, .null, .null, .null]))]) [4] rfl
  have hD_7 := hD.sub (ws' := [(q_4, .inr (10, [.int 0, .null, .null, .null, .null]))]) [4] (by decide) rfl
  have hF_6 := va_free (wc := [(q_4, .inr (10, [.int 0, .null, .null, .null, .null]))]) hD hS hA [4] rfl
  refine va_callv (va_runIN (As := []) (rest := [.ref q_4, .ref h0]) ⟨hx, hb, hml, hown, hT⟩ (c_X10_init l D cy q_4 _) ⟨va_cnB 0 hT (gI t_197) rfl rfl rfl (hnw.2.2.2.2.2.2.2.1) (hT _ t_196) (by decide +kernel) ⟨Nat.le_of_ble_eq_true rfl, Nat.le_of_ble_eq_true rfl⟩, rfl, (hT _ t_198)⟩ (rQ_s hP_5 hK hD_7) rfl rfl hl.1 rfl (lv_room (Nat.le_of_ble_eq_true rfl)) dX3_init_31 ⟨Nat.le_of_ble_eq_true rfl, Nat.le_of_ble_eq_true rfl⟩) hS (fun q _ h => hF_6 q h) hF_6 (fun u_9 t H1 locs ht hvm hr_8 hB hz1 hk1 hS => ?_)
  obtain ⟨hP1, hK1, hD1⟩ := hB
  rw [ht] at hP1
  obtain ⟨hP, hD⟩ := va_join (wr := [(h0, .inr (3, [.int 0, .int 0, .int 0, .int 0, .int 0, .int 0, .ref q_1, .ref q_2, .ref q_3, .null, .null, .null])), (q_1, .inl (cy 0, 4, .inl (fun _ => 0))), (q_2, .inl (cy 0, 3, .inl (fun _ => 0))), (q_3, .inl (cy 2, 6, .inl (fun _ => 0)))]) (w1 := [(q_4, .inr (10, u_9))]) hP hD [4] [0, 1, 2, 3] rfl rfl (by decide) (by decide) hk1 hF_6 hP1 hD1
  have hP : va_P D vwCl [(h0, .inr (3, [.int 0, .int 0, .int 0, .int 0, .int 0, .int 0, .ref q_1, .ref q_2, .ref q_3, .null, .null, .null])), (q_1, .inl (cy 0, 4, .inl (fun _ => 0))), (q_2, .inl (cy 0, 3, .inl (fun _ => 0))), (q_3, .inl (cy 2, 6, .inl (fun _ => 0))), (q_4, .inr (10, u_9))] H1 := hP
  have hD : va_D A [(h0, .inr (3, [.int 0, .int 0, .int 0, .int 0, .int 0, .int 0, .ref q_1, .ref q_2, .ref q_3, .null, .null, .null])), (q_1, .inl (cy 0, 4, .inl (fun _ => 0))), (q_2, .inl (cy 0, 3, .inl (fun _ => 0))), (q_3, .inl (cy 2, 6, .inl (fun _ => 0))), (q_4, .inr (10, u_9))] := hD
  refine W.widen (k := 8) (n := 98) (Nat.le_of_ble_eq_true rfl) (Nat.le_of_ble_eq_true rfl) ?_
  refine va_putF (D := D) (ci := 3) (v := .ref q_4) (ty := .object "DepositJudge$Things") (C := RX3) (T := TX3) (N := 12) hx hb hT iX3 tyX3 tyX3_ok nmX3 hown hK hP hD hS 0 rfl rfl 9 (by decide) (hT _ t_199) (fun _ h9 => h9) rfl hin rfl (by decide +kernel) rfl rfl (Nat.le_of_ble_eq_true rfl) dX3_init_34 (fun H locs hP hD hS => ?_)
  have hP : va_P D vwCl [(h0, .inr (3, [.int 0, .int 0, .int 0, .int 0, .int 0, .int 0, .ref q_1, .ref q_2, .ref q_3, .ref q_4, .null, .null])), (q_1, .inl (cy 0, 4, .inl (fun _ => 0))), (q_2, .inl (cy 0, 3, .inl (fun _ => 0))), (q_3, .inl (cy 2, 6, .inl (fun _ => 0))), (q_4, .inr (10, u_9))] H := hP
  have hD : va_D A [(h0, .inr (3, [.int 0, .int 0, .int 0, .int 0, .int 0, .int 0, .ref q_1, .ref q_2, .ref q_3, .ref q_4, .null, .null])), (q_1, .inl (cy 0, 4, .inl (fun _ => 0))), (q_2, .inl (cy 0, 3, .inl (fun _ => 0))), (q_3, .inl (cy 2, 6, .inl (fun _ => 0))), (q_4, .inr (10, u_9))] := hD
  refine lv_aload_n hx hb dX3_init_37 rfl (lv_at hl 0 rfl) ?_
  refine va_new (ci := 10) (fs := [.int 0, .null, .null, .null, .null]) (C := RX10) (T := TX10) (N := 5) hx hb hT iX10 tyX10 tyX10_ok hown (hT _ t_194) (hT _ t_195) (hT _ t_196) hK hP hD hS hA rfl (fun j hj => dfl10 j hj) (Nat.le_of_ble_eq_true rfl) (Nat.le_of_ble_eq_true rfl) dX3_init_38 (fun q_10 H hP hD hS => ?_)
  have hP : va_P D vwCl [(h0, .inr (3, [.int 0, .int 0, .int 0, .int 0, .int 0, .int 0, .ref q_1, .ref q_2, .ref q_3, .ref q_4, .null, .null])), (q_1, .inl (cy 0, 4, .inl (fun _ => 0))), (q_2, .inl (cy 0, 3, .inl (fun _ => 0))), (q_3, .inl (cy 2, 6, .inl (fun _ => 0))), (q_4, .inr (10, u_9)), (q_10, .inr (10, [.int 0, .null, .null, .null, .null]))] H := hP
  have hD : va_D A [(h0, .inr (3, [.int 0, .int 0, .int 0, .int 0, .int 0, .int 0, .ref q_1, .ref q_2, .ref q_3, .ref q_4, .null, .null])), (q_1, .inl (cy 0, 4, .inl (fun _ => 0))), (q_2, .inl (cy 0, 3, .inl (fun _ => 0))), (q_3, .inl (cy 2, 6, .inl (fun _ => 0))), (q_4, .inr (10, u_9)), (q_10, .inr (10, [.int 0, .null, .null, .null, .null]))] := hD
  refine W.widen (k := 9) (n := 103) (Nat.le_of_ble_eq_true rfl) (Nat.le_of_ble_eq_true rfl) ?_
  refine lv_dup hx hb dX3_init_41 rfl ?_
  have hP_11 := hP.sub (ws' := [(q_10, .inr (10, [.int 0, .null, .null, .null, .null]))]) [5] rfl
  have hD_13 := hD.sub (ws' := [(q_10, .inr (10, [.int 0, .null, .null, .null, .null]))]) [5] (by decide) rfl
  have hF_12 := va_free (wc := [(q_10, .inr (10, [.int 0, .null, .null, .null, .null]))]) hD hS hA [5] rfl
  refine va_callv (va_runIN (As := []) (rest := [.ref q_10, .ref h0]) ⟨hx, hb, hml, hown, hT⟩ (c_X10_init l D cy q_10 _) ⟨va_cnB 0 hT (gI t_197) rfl rfl rfl (hnw.2.2.2.2.2.2.2.1) (hT _ t_196) (by decide +kernel) ⟨Nat.le_of_ble_eq_true rfl, Nat.le_of_ble_eq_true rfl⟩, rfl, (hT _ t_198)⟩ (rQ_s hP_11 hK hD_13) rfl rfl hl.1 rfl (lv_room (Nat.le_of_ble_eq_true rfl)) dX3_init_42 ⟨Nat.le_of_ble_eq_true rfl, Nat.le_of_ble_eq_true rfl⟩) hS (fun q _ h => hF_12 q h) hF_12 (fun u_15 t H1 locs ht hvm hr_14 hB hz1 hk1 hS => ?_)
  obtain ⟨hP1, hK1, hD1⟩ := hB
  rw [ht] at hP1
  obtain ⟨hP, hD⟩ := va_join (wr := [(h0, .inr (3, [.int 0, .int 0, .int 0, .int 0, .int 0, .int 0, .ref q_1, .ref q_2, .ref q_3, .ref q_4, .null, .null])), (q_1, .inl (cy 0, 4, .inl (fun _ => 0))), (q_2, .inl (cy 0, 3, .inl (fun _ => 0))), (q_3, .inl (cy 2, 6, .inl (fun _ => 0))), (q_4, .inr (10, u_9))]) (w1 := [(q_10, .inr (10, u_15))]) hP hD [5] [0, 1, 2, 3, 4] rfl rfl (by decide) (by decide) hk1 hF_12 hP1 hD1
  have hP : va_P D vwCl [(h0, .inr (3, [.int 0, .int 0, .int 0, .int 0, .int 0, .int 0, .ref q_1, .ref q_2, .ref q_3, .ref q_4, .null, .null])), (q_1, .inl (cy 0, 4, .inl (fun _ => 0))), (q_2, .inl (cy 0, 3, .inl (fun _ => 0))), (q_3, .inl (cy 2, 6, .inl (fun _ => 0))), (q_4, .inr (10, u_9)), (q_10, .inr (10, u_15))] H1 := hP
  have hD : va_D A [(h0, .inr (3, [.int 0, .int 0, .int 0, .int 0, .int 0, .int 0, .ref q_1, .ref q_2, .ref q_3, .ref q_4, .null, .null])), (q_1, .inl (cy 0, 4, .inl (fun _ => 0))), (q_2, .inl (cy 0, 3, .inl (fun _ => 0))), (q_3, .inl (cy 2, 6, .inl (fun _ => 0))), (q_4, .inr (10, u_9)), (q_10, .inr (10, u_15))] := hD
  refine W.widen (k := 13) (n := 183) (Nat.le_of_ble_eq_true rfl) (Nat.le_of_ble_eq_true rfl) ?_
  refine va_putF (D := D) (ci := 3) (v := .ref q_10) (ty := .object "DepositJudge$Things") (C := RX3) (T := TX3) (N := 12) hx hb hT iX3 tyX3 tyX3_ok nmX3 hown hK hP hD hS 0 rfl rfl 10 (by decide) (hT _ t_200) (fun _ h9 => h9) rfl hin rfl (by decide +kernel) rfl rfl (Nat.le_of_ble_eq_true rfl) dX3_init_45 (fun H locs hP hD hS => ?_)
  have hP : va_P D vwCl [(h0, .inr (3, [.int 0, .int 0, .int 0, .int 0, .int 0, .int 0, .ref q_1, .ref q_2, .ref q_3, .ref q_4, .ref q_10, .null])), (q_1, .inl (cy 0, 4, .inl (fun _ => 0))), (q_2, .inl (cy 0, 3, .inl (fun _ => 0))), (q_3, .inl (cy 2, 6, .inl (fun _ => 0))), (q_4, .inr (10, u_9)), (q_10, .inr (10, u_15))] H := hP
  have hD : va_D A [(h0, .inr (3, [.int 0, .int 0, .int 0, .int 0, .int 0, .int 0, .ref q_1, .ref q_2, .ref q_3, .ref q_4, .ref q_10, .null])), (q_1, .inl (cy 0, 4, .inl (fun _ => 0))), (q_2, .inl (cy 0, 3, .inl (fun _ => 0))), (q_3, .inl (cy 2, 6, .inl (fun _ => 0))), (q_4, .inr (10, u_9)), (q_10, .inr (10, u_15))] := hD
  refine lv_aload_n hx hb dX3_init_48 rfl (lv_at hl 0 rfl) ?_
  refine lv_bipush (v := 20) hx hb dX3_init_49 (by decide) ?_
  refine r_newI (N := 20) hx hb (hT _ t_184) hK hP hD hS hA (by decide) (by decide) (by decide) (Nat.le_of_ble_eq_true rfl) (Nat.le_of_ble_eq_true rfl) dX3_init_51 (fun q_16 H hP hD hS => ?_)
  have hP : va_P D vwCl [(h0, .inr (3, [.int 0, .int 0, .int 0, .int 0, .int 0, .int 0, .ref q_1, .ref q_2, .ref q_3, .ref q_4, .ref q_10, .null])), (q_1, .inl (cy 0, 4, .inl (fun _ => 0))), (q_2, .inl (cy 0, 3, .inl (fun _ => 0))), (q_3, .inl (cy 2, 6, .inl (fun _ => 0))), (q_4, .inr (10, u_9)), (q_10, .inr (10, u_15)), (q_16, .inl (cy 0, 20, .inl (fun _ => 0)))] H := hP
  have hD : va_D A [(h0, .inr (3, [.int 0, .int 0, .int 0, .int 0, .int 0, .int 0, .ref q_1, .ref q_2, .ref q_3, .ref q_4, .ref q_10, .null])), (q_1, .inl (cy 0, 4, .inl (fun _ => 0))), (q_2, .inl (cy 0, 3, .inl (fun _ => 0))), (q_3, .inl (cy 2, 6, .inl (fun _ => 0))), (q_4, .inr (10, u_9)), (q_10, .inr (10, u_15)), (q_16, .inl (cy 0, 20, .inl (fun _ => 0)))] := hD
  refine W.widen (k := 14) (n := 203) (Nat.le_of_ble_eq_true rfl) (Nat.le_of_ble_eq_true rfl) ?_
  refine va_putF (D := D) (ci := 3) (v := .ref q_16) (ty := .array .int) (C := RX3) (T := TX3) (N := 12) hx hb hT iX3 tyX3 tyX3_ok nmX3 hown hK hP hD hS 0 rfl rfl 11 (by decide) (hT _ t_201) (fun _ h9 => h9) rfl hin rfl (by decide +kernel) rfl rfl (Nat.le_of_ble_eq_true rfl) dX3_init_53 (fun H locs hP hD hS => ?_)
  have hP : va_P D vwCl [(h0, .inr (3, [.int 0, .int 0, .int 0, .int 0, .int 0, .int 0, .ref q_1, .ref q_2, .ref q_3, .ref q_4, .ref q_10, .ref q_16])), (q_1, .inl (cy 0, 4, .inl (fun _ => 0))), (q_2, .inl (cy 0, 3, .inl (fun _ => 0))), (q_3, .inl (cy 2, 6, .inl (fun _ => 0))), (q_4, .inr (10, u_9)), (q_10, .inr (10, u_15)), (q_16, .inl (cy 0, 20, .inl (fun _ => 0)))] H := hP
  have hD : va_D A [(h0, .inr (3, [.int 0, .int 0, .int 0, .int 0, .int 0, .int 0, .ref q_1, .ref q_2, .ref q_3, .ref q_4, .ref q_10, .ref q_16])), (q_1, .inl (cy 0, 4, .inl (fun _ => 0))), (q_2, .inl (cy 0, 3, .inl (fun _ => 0))), (q_3, .inl (cy 2, 6, .inl (fun _ => 0))), (q_4, .inr (10, u_9)), (q_10, .inr (10, u_15)), (q_16, .inl (cy 0, 20, .inl (fun _ => 0)))] := hD
  refine lv_aload_n hx hb dX3_init_56 rfl (lv_at hl 0 rfl) ?_
  refine lv_iload_n hx hb dX3_init_57 rfl (lv_at hl 1 rfl) ?_
  refine va_putF (D := D) (ci := 3) (v := .int p0) (ty := .int) (C := RX3) (T := TX3) (N := 12) hx hb hT iX3 tyX3 tyX3_ok nmX3 hown hK hP hD hS 0 rfl rfl 0 (by decide) (hT _ t_202) (fun _ h9 => h9) rfl hin rfl (by decide +kernel) rfl rfl (Nat.le_of_ble_eq_true rfl) dX3_init_58 (fun H locs hP hD hS => ?_)
  have hP : va_P D vwCl [(h0, .inr (3, [.int p0, .int 0, .int 0, .int 0, .int 0, .int 0, .ref q_1, .ref q_2, .ref q_3, .ref q_4, .ref q_10, .ref q_16])), (q_1, .inl (cy 0, 4, .inl (fun _ => 0))), (q_2, .inl (cy 0, 3, .inl (fun _ => 0))), (q_3, .inl (cy 2, 6, .inl (fun _ => 0))), (q_4, .inr (10, u_9)), (q_10, .inr (10, u_15)), (q_16, .inl (cy 0, 20, .inl (fun _ => 0)))] H := hP
  have hD : va_D A [(h0, .inr (3, [.int p0, .int 0, .int 0, .int 0, .int 0, .int 0, .ref q_1, .ref q_2, .ref q_3, .ref q_4, .ref q_10, .ref q_16])), (q_1, .inl (cy 0, 4, .inl (fun _ => 0))), (q_2, .inl (cy 0, 3, .inl (fun _ => 0))), (q_3, .inl (cy 2, 6, .inl (fun _ => 0))), (q_4, .inr (10, u_9)), (q_10, .inr (10, u_15)), (q_16, .inl (cy 0, 20, .inl (fun _ => 0)))] := hD
  refine lv_aload_n hx hb dX3_init_61 rfl (lv_at hl 0 rfl) ?_
  refine lv_iload_n hx hb dX3_init_62 rfl (lv_at hl 2 rfl) ?_
  refine va_putF (D := D) (ci := 3) (v := .int p1) (ty := .int) (C := RX3) (T := TX3) (N := 12) hx hb hT iX3 tyX3 tyX3_ok nmX3 hown hK hP hD hS 0 rfl rfl 1 (by decide) (hT _ t_203) (fun _ h9 => h9) rfl hin rfl (by decide +kernel) rfl rfl (Nat.le_of_ble_eq_true rfl) dX3_init_63 (fun H locs hP hD hS => ?_)
  have hP : va_P D vwCl [(h0, .inr (3, [.int p0, .int p1, .int 0, .int 0, .int 0, .int 0, .ref q_1, .ref q_2, .ref q_3, .ref q_4, .ref q_10, .ref q_16])), (q_1, .inl (cy 0, 4, .inl (fun _ => 0))), (q_2, .inl (cy 0, 3, .inl (fun _ => 0))), (q_3, .inl (cy 2, 6, .inl (fun _ => 0))), (q_4, .inr (10, u_9)), (q_10, .inr (10, u_15)), (q_16, .inl (cy 0, 20, .inl (fun _ => 0)))] H := hP
  have hD : va_D A [(h0, .inr (3, [.int p0, .int p1, .int 0, .int 0, .int 0, .int 0, .ref q_1, .ref q_2, .ref q_3, .ref q_4, .ref q_10, .ref q_16])), (q_1, .inl (cy 0, 4, .inl (fun _ => 0))), (q_2, .inl (cy 0, 3, .inl (fun _ => 0))), (q_3, .inl (cy 2, 6, .inl (fun _ => 0))), (q_4, .inr (10, u_9)), (q_10, .inr (10, u_15)), (q_16, .inl (cy 0, 20, .inl (fun _ => 0)))] := hD
  refine lv_aload_n hx hb dX3_init_66 rfl (lv_at hl 0 rfl) ?_
  refine lv_iload_n hx hb dX3_init_67 rfl (lv_at hl 3 rfl) ?_
  refine va_putF (D := D) (ci := 3) (v := .int p2) (ty := .int) (C := RX3) (T := TX3) (N := 12) hx hb hT iX3 tyX3 tyX3_ok nmX3 hown hK hP hD hS 0 rfl rfl 2 (by decide) (hT _ t_204) (fun _ h9 => h9) rfl hin rfl (by decide +kernel) rfl rfl (Nat.le_of_ble_eq_true rfl) dX3_init_68 (fun H locs hP hD hS => ?_)
  have hP : va_P D vwCl [(h0, .inr (3, [.int p0, .int p1, .int p2, .int 0, .int 0, .int 0, .ref q_1, .ref q_2, .ref q_3, .ref q_4, .ref q_10, .ref q_16])), (q_1, .inl (cy 0, 4, .inl (fun _ => 0))), (q_2, .inl (cy 0, 3, .inl (fun _ => 0))), (q_3, .inl (cy 2, 6, .inl (fun _ => 0))), (q_4, .inr (10, u_9)), (q_10, .inr (10, u_15)), (q_16, .inl (cy 0, 20, .inl (fun _ => 0)))] H := hP
  have hD : va_D A [(h0, .inr (3, [.int p0, .int p1, .int p2, .int 0, .int 0, .int 0, .ref q_1, .ref q_2, .ref q_3, .ref q_4, .ref q_10, .ref q_16])), (q_1, .inl (cy 0, 4, .inl (fun _ => 0))), (q_2, .inl (cy 0, 3, .inl (fun _ => 0))), (q_3, .inl (cy 2, 6, .inl (fun _ => 0))), (q_4, .inr (10, u_9)), (q_10, .inr (10, u_15)), (q_16, .inl (cy 0, 20, .inl (fun _ => 0)))] := hD
  refine lv_aload_n hx hb dX3_init_71 rfl (lv_at hl 0 rfl) ?_
  refine lv_iload hx hb dX3_init_72 (lv_at hl 4 rfl) ?_
  refine va_putF (D := D) (ci := 3) (v := .int p3) (ty := .int) (C := RX3) (T := TX3) (N := 12) hx hb hT iX3 tyX3 tyX3_ok nmX3 hown hK hP hD hS 0 rfl rfl 3 (by decide) (hT _ t_205) (fun _ h9 => h9) rfl hin rfl (by decide +kernel) rfl rfl (Nat.le_of_ble_eq_true rfl) dX3_init_74 (fun H locs hP hD hS => ?_)
  have hP : va_P D vwCl [(h0, .inr (3, [.int p0, .int p1, .int p2, .int p3, .int 0, .int 0, .ref q_1, .ref q_2, .ref q_3, .ref q_4, .ref q_10, .ref q_16])), (q_1, .inl (cy 0, 4, .inl (fun _ => 0))), (q_2, .inl (cy 0, 3, .inl (fun _ => 0))), (q_3, .inl (cy 2, 6, .inl (fun _ => 0))), (q_4, .inr (10, u_9)), (q_10, .inr (10, u_15)), (q_16, .inl (cy 0, 20, .inl (fun _ => 0)))] H := hP
  have hD : va_D A [(h0, .inr (3, [.int p0, .int p1, .int p2, .int p3, .int 0, .int 0, .ref q_1, .ref q_2, .ref q_3, .ref q_4, .ref q_10, .ref q_16])), (q_1, .inl (cy 0, 4, .inl (fun _ => 0))), (q_2, .inl (cy 0, 3, .inl (fun _ => 0))), (q_3, .inl (cy 2, 6, .inl (fun _ => 0))), (q_4, .inr (10, u_9)), (q_10, .inr (10, u_15)), (q_16, .inl (cy 0, 20, .inl (fun _ => 0)))] := hD
  refine lv_aload_n hx hb dX3_init_77 rfl (lv_at hl 0 rfl) ?_
  refine lv_iload hx hb dX3_init_78 (lv_at hl 5 rfl) ?_
  refine va_putF (D := D) (ci := 3) (v := .int p4) (ty := .int) (C := RX3) (T := TX3) (N := 12) hx hb hT iX3 tyX3 tyX3_ok nmX3 hown hK hP hD hS 0 rfl rfl 4 (by decide) (hT _ t_206) (fun _ h9 => h9) rfl hin rfl (by decide +kernel) rfl rfl (Nat.le_of_ble_eq_true rfl) dX3_init_80 (fun H locs hP hD hS => ?_)
  have hP : va_P D vwCl [(h0, .inr (3, [.int p0, .int p1, .int p2, .int p3, .int p4, .int 0, .ref q_1, .ref q_2, .ref q_3, .ref q_4, .ref q_10, .ref q_16])), (q_1, .inl (cy 0, 4, .inl (fun _ => 0))), (q_2, .inl (cy 0, 3, .inl (fun _ => 0))), (q_3, .inl (cy 2, 6, .inl (fun _ => 0))), (q_4, .inr (10, u_9)), (q_10, .inr (10, u_15)), (q_16, .inl (cy 0, 20, .inl (fun _ => 0)))] H := hP
  have hD : va_D A [(h0, .inr (3, [.int p0, .int p1, .int p2, .int p3, .int p4, .int 0, .ref q_1, .ref q_2, .ref q_3, .ref q_4, .ref q_10, .ref q_16])), (q_1, .inl (cy 0, 4, .inl (fun _ => 0))), (q_2, .inl (cy 0, 3, .inl (fun _ => 0))), (q_3, .inl (cy 2, 6, .inl (fun _ => 0))), (q_4, .inr (10, u_9)), (q_10, .inr (10, u_15)), (q_16, .inl (cy 0, 20, .inl (fun _ => 0)))] := hD
  refine lv_aload_n hx hb dX3_init_83 rfl (lv_at hl 0 rfl) ?_
  refine lv_iload hx hb dX3_init_84 (lv_at hl 6 rfl) ?_
  refine va_putF (D := D) (ci := 3) (v := .int p5) (ty := .boolean) (C := RX3) (T := TX3) (N := 12) hx hb hT iX3 tyX3 tyX3_ok nmX3 hown hK hP hD hS 0 rfl rfl 5 (by decide) (hT _ t_207) (fun _ h9 => h9) rfl hin rfl (by decide +kernel) (by rcases hk with rfl | rfl <;> rfl) (by rcases hk with rfl | rfl <;> rfl) (Nat.le_of_ble_eq_true rfl) dX3_init_86 (fun H locs hP hD hS => ?_)
  have hP : va_P D vwCl [(h0, .inr (3, [.int p0, .int p1, .int p2, .int p3, .int p4, .int p5, .ref q_1, .ref q_2, .ref q_3, .ref q_4, .ref q_10, .ref q_16])), (q_1, .inl (cy 0, 4, .inl (fun _ => 0))), (q_2, .inl (cy 0, 3, .inl (fun _ => 0))), (q_3, .inl (cy 2, 6, .inl (fun _ => 0))), (q_4, .inr (10, u_9)), (q_10, .inr (10, u_15)), (q_16, .inl (cy 0, 20, .inl (fun _ => 0)))] H := hP
  have hD : va_D A [(h0, .inr (3, [.int p0, .int p1, .int p2, .int p3, .int p4, .int p5, .ref q_1, .ref q_2, .ref q_3, .ref q_4, .ref q_10, .ref q_16])), (q_1, .inl (cy 0, 4, .inl (fun _ => 0))), (q_2, .inl (cy 0, 3, .inl (fun _ => 0))), (q_3, .inl (cy 2, 6, .inl (fun _ => 0))), (q_4, .inr (10, u_9)), (q_10, .inr (10, u_15)), (q_16, .inl (cy 0, 20, .inl (fun _ => 0)))] := hD
  refine lv_iconst (v := 0) hx hb dX3_init_89 (by decide) ?_
  refine lv_istore (lv' := [(7, .int 0), (0, .ref h0), (1, .int p0), (2, .int p1), (3, .int p2), (4, .int p3), (5, .int p4), (6, .int p5)]) hx hb dX3_init_90 hl (by decide) rfl (fun ls hl => ?_)
  refine lv_iload hx hb dX3_init_92 (lv_at hl 0 rfl) ?_
  refine lv_iconst (v := 4) hx hb dX3_init_94 (by decide) ?_
  refine lv_icmp_ge (tgt := 112) hx hb dX3_init_95 (by decide) (fun c_17 => absurd c_17 (by decide)) (fun c_17 => ?_)
  refine lv_aload_n hx hb dX3_init_98 rfl (lv_at hl 1 rfl) ?_
  refine va_get (D := D) (ci := 3) (v := .ref q_1) (C := RX3) (T := TX3) (N := 12) hx hb hT iX3 hown hK hP 0 rfl rfl 6 (by decide) (hT _ t_190) (fun _ h9 => h9) rfl dX3_init_99 ?_
  refine lv_iload hx hb dX3_init_102 (lv_at hl 0 rfl) ?_
  refine lv_iconst (v := 1) hx hb dX3_init_104 (by decide) ?_
  refine va_iast hx hb hK hP hD hS 1 0 rfl rfl (vp_inI (by decide) (by decide)) dX3_init_105 (fun H locs hP hD hS => ?_)
  have hP : va_P D vwCl [(h0, .inr (3, [.int p0, .int p1, .int p2, .int p3, .int p4, .int p5, .ref q_1, .ref q_2, .ref q_3, .ref q_4, .ref q_10, .ref q_16])), (q_1, .inl (cy 0, 4, .inl (upd (fun _ => 0) ((0 : Int32).toNatClampNeg) 1))), (q_2, .inl (cy 0, 3, .inl (fun _ => 0))), (q_3, .inl (cy 2, 6, .inl (fun _ => 0))), (q_4, .inr (10, u_9)), (q_10, .inr (10, u_15)), (q_16, .inl (cy 0, 20, .inl (fun _ => 0)))] H := hP
  have hD : va_D A [(h0, .inr (3, [.int p0, .int p1, .int p2, .int p3, .int p4, .int p5, .ref q_1, .ref q_2, .ref q_3, .ref q_4, .ref q_10, .ref q_16])), (q_1, .inl (cy 0, 4, .inl (upd (fun _ => 0) ((0 : Int32).toNatClampNeg) 1))), (q_2, .inl (cy 0, 3, .inl (fun _ => 0))), (q_3, .inl (cy 2, 6, .inl (fun _ => 0))), (q_4, .inr (10, u_9)), (q_10, .inr (10, u_15)), (q_16, .inl (cy 0, 20, .inl (fun _ => 0)))] := hD
  obtain ⟨x_18, ex_18⟩ : ∃ y : Int32, y = (0 : Int32) + 1 := ⟨_, rfl⟩
  refine lv_iinc (v := x_18) (lv' := [(7, .int x_18), (0, .ref h0), (1, .int p0), (2, .int p1), (3, .int p2), (4, .int p3), (5, .int p4), (6, .int p5)]) hx hb dX3_init_106 hl (k := 0) rfl (by rw [ex_18]; rfl) (by decide) rfl (fun ls hl => ?_)
  obtain rfl : x_18 = 1 := ex_18.trans (by decide)
  refine lv_goto (tgt := 92) hx hb dX3_init_109 (by decide) ?_
  refine lv_iload hx hb dX3_init_92 (lv_at hl 0 rfl) ?_
  refine lv_iconst (v := 4) hx hb dX3_init_94 (by decide) ?_
  refine lv_icmp_ge (tgt := 112) hx hb dX3_init_95 (by decide) (fun c_19 => absurd c_19 (by decide)) (fun c_19 => ?_)
  refine lv_aload_n hx hb dX3_init_98 rfl (lv_at hl 1 rfl) ?_
  refine va_get (D := D) (ci := 3) (v := .ref q_1) (C := RX3) (T := TX3) (N := 12) hx hb hT iX3 hown hK hP 0 rfl rfl 6 (by decide) (hT _ t_190) (fun _ h9 => h9) rfl dX3_init_99 ?_
  refine lv_iload hx hb dX3_init_102 (lv_at hl 0 rfl) ?_
  refine lv_iconst (v := 1) hx hb dX3_init_104 (by decide) ?_
  refine va_iast hx hb hK hP hD hS 1 0 rfl rfl (vp_inI (by decide) (by decide)) dX3_init_105 (fun H locs hP hD hS => ?_)
  have hP : va_P D vwCl [(h0, .inr (3, [.int p0, .int p1, .int p2, .int p3, .int p4, .int p5, .ref q_1, .ref q_2, .ref q_3, .ref q_4, .ref q_10, .ref q_16])), (q_1, .inl (cy 0, 4, .inl (upd (upd (fun _ => 0) ((0 : Int32).toNatClampNeg) 1) ((1 : Int32).toNatClampNeg) 1))), (q_2, .inl (cy 0, 3, .inl (fun _ => 0))), (q_3, .inl (cy 2, 6, .inl (fun _ => 0))), (q_4, .inr (10, u_9)), (q_10, .inr (10, u_15)), (q_16, .inl (cy 0, 20, .inl (fun _ => 0)))] H := hP
  have hD : va_D A [(h0, .inr (3, [.int p0, .int p1, .int p2, .int p3, .int p4, .int p5, .ref q_1, .ref q_2, .ref q_3, .ref q_4, .ref q_10, .ref q_16])), (q_1, .inl (cy 0, 4, .inl (upd (upd (fun _ => 0) ((0 : Int32).toNatClampNeg) 1) ((1 : Int32).toNatClampNeg) 1))), (q_2, .inl (cy 0, 3, .inl (fun _ => 0))), (q_3, .inl (cy 2, 6, .inl (fun _ => 0))), (q_4, .inr (10, u_9)), (q_10, .inr (10, u_15)), (q_16, .inl (cy 0, 20, .inl (fun _ => 0)))] := hD
  obtain ⟨x_20, ex_20⟩ : ∃ y : Int32, y = (1 : Int32) + 1 := ⟨_, rfl⟩
  refine lv_iinc (v := x_20) (lv' := [(7, .int x_20), (0, .ref h0), (1, .int p0), (2, .int p1), (3, .int p2), (4, .int p3), (5, .int p4), (6, .int p5)]) hx hb dX3_init_106 hl (k := 0) rfl (by rw [ex_20]; rfl) (by decide) rfl (fun ls hl => ?_)
  obtain rfl : x_20 = 2 := ex_20.trans (by decide)
  refine lv_goto (tgt := 92) hx hb dX3_init_109 (by decide) ?_
  refine lv_iload hx hb dX3_init_92 (lv_at hl 0 rfl) ?_
  refine lv_iconst (v := 4) hx hb dX3_init_94 (by decide) ?_
  refine lv_icmp_ge (tgt := 112) hx hb dX3_init_95 (by decide) (fun c_21 => absurd c_21 (by decide)) (fun c_21 => ?_)
  refine lv_aload_n hx hb dX3_init_98 rfl (lv_at hl 1 rfl) ?_
  refine va_get (D := D) (ci := 3) (v := .ref q_1) (C := RX3) (T := TX3) (N := 12) hx hb hT iX3 hown hK hP 0 rfl rfl 6 (by decide) (hT _ t_190) (fun _ h9 => h9) rfl dX3_init_99 ?_
  refine lv_iload hx hb dX3_init_102 (lv_at hl 0 rfl) ?_
  refine lv_iconst (v := 1) hx hb dX3_init_104 (by decide) ?_
  refine va_iast hx hb hK hP hD hS 1 0 rfl rfl (vp_inI (by decide) (by decide)) dX3_init_105 (fun H locs hP hD hS => ?_)
  have hP : va_P D vwCl [(h0, .inr (3, [.int p0, .int p1, .int p2, .int p3, .int p4, .int p5, .ref q_1, .ref q_2, .ref q_3, .ref q_4, .ref q_10, .ref q_16])), (q_1, .inl (cy 0, 4, .inl (upd (upd (upd (fun _ => 0) ((0 : Int32).toNatClampNeg) 1) ((1 : Int32).toNatClampNeg) 1) ((2 : Int32).toNatClampNeg) 1))), (q_2, .inl (cy 0, 3, .inl (fun _ => 0))), (q_3, .inl (cy 2, 6, .inl (fun _ => 0))), (q_4, .inr (10, u_9)), (q_10, .inr (10, u_15)), (q_16, .inl (cy 0, 20, .inl (fun _ => 0)))] H := hP
  have hD : va_D A [(h0, .inr (3, [.int p0, .int p1, .int p2, .int p3, .int p4, .int p5, .ref q_1, .ref q_2, .ref q_3, .ref q_4, .ref q_10, .ref q_16])), (q_1, .inl (cy 0, 4, .inl (upd (upd (upd (fun _ => 0) ((0 : Int32).toNatClampNeg) 1) ((1 : Int32).toNatClampNeg) 1) ((2 : Int32).toNatClampNeg) 1))), (q_2, .inl (cy 0, 3, .inl (fun _ => 0))), (q_3, .inl (cy 2, 6, .inl (fun _ => 0))), (q_4, .inr (10, u_9)), (q_10, .inr (10, u_15)), (q_16, .inl (cy 0, 20, .inl (fun _ => 0)))] := hD
  obtain ⟨x_22, ex_22⟩ : ∃ y : Int32, y = (2 : Int32) + 1 := ⟨_, rfl⟩
  refine lv_iinc (v := x_22) (lv' := [(7, .int x_22), (0, .ref h0), (1, .int p0), (2, .int p1), (3, .int p2), (4, .int p3), (5, .int p4), (6, .int p5)]) hx hb dX3_init_106 hl (k := 0) rfl (by rw [ex_22]; rfl) (by decide) rfl (fun ls hl => ?_)
  obtain rfl : x_22 = 3 := ex_22.trans (by decide)
  refine lv_goto (tgt := 92) hx hb dX3_init_109 (by decide) ?_
  refine lv_iload hx hb dX3_init_92 (lv_at hl 0 rfl) ?_
  refine lv_iconst (v := 4) hx hb dX3_init_94 (by decide) ?_
  refine lv_icmp_ge (tgt := 112) hx hb dX3_init_95 (by decide) (fun c_23 => absurd c_23 (by decide)) (fun c_23 => ?_)
  refine lv_aload_n hx hb dX3_init_98 rfl (lv_at hl 1 rfl) ?_
  refine va_get (D := D) (ci := 3) (v := .ref q_1) (C := RX3) (T := TX3) (N := 12) hx hb hT iX3 hown hK hP 0 rfl rfl 6 (by decide) (hT _ t_190) (fun _ h9 => h9) rfl dX3_init_99 ?_
  refine lv_iload hx hb dX3_init_102 (lv_at hl 0 rfl) ?_
  refine lv_iconst (v := 1) hx hb dX3_init_104 (by decide) ?_
  refine va_iast hx hb hK hP hD hS 1 0 rfl rfl (vp_inI (by decide) (by decide)) dX3_init_105 (fun H locs hP hD hS => ?_)
  have hP : va_P D vwCl [(h0, .inr (3, [.int p0, .int p1, .int p2, .int p3, .int p4, .int p5, .ref q_1, .ref q_2, .ref q_3, .ref q_4, .ref q_10, .ref q_16])), (q_1, .inl (cy 0, 4, .inl (upd (upd (upd (upd (fun _ => 0) ((0 : Int32).toNatClampNeg) 1) ((1 : Int32).toNatClampNeg) 1) ((2 : Int32).toNatClampNeg) 1) ((3 : Int32).toNatClampNeg) 1))), (q_2, .inl (cy 0, 3, .inl (fun _ => 0))), (q_3, .inl (cy 2, 6, .inl (fun _ => 0))), (q_4, .inr (10, u_9)), (q_10, .inr (10, u_15)), (q_16, .inl (cy 0, 20, .inl (fun _ => 0)))] H := hP
  have hD : va_D A [(h0, .inr (3, [.int p0, .int p1, .int p2, .int p3, .int p4, .int p5, .ref q_1, .ref q_2, .ref q_3, .ref q_4, .ref q_10, .ref q_16])), (q_1, .inl (cy 0, 4, .inl (upd (upd (upd (upd (fun _ => 0) ((0 : Int32).toNatClampNeg) 1) ((1 : Int32).toNatClampNeg) 1) ((2 : Int32).toNatClampNeg) 1) ((3 : Int32).toNatClampNeg) 1))), (q_2, .inl (cy 0, 3, .inl (fun _ => 0))), (q_3, .inl (cy 2, 6, .inl (fun _ => 0))), (q_4, .inr (10, u_9)), (q_10, .inr (10, u_15)), (q_16, .inl (cy 0, 20, .inl (fun _ => 0)))] := hD
  obtain ⟨x_24, ex_24⟩ : ∃ y : Int32, y = (3 : Int32) + 1 := ⟨_, rfl⟩
  refine lv_iinc (v := x_24) (lv' := [(7, .int x_24), (0, .ref h0), (1, .int p0), (2, .int p1), (3, .int p2), (4, .int p3), (5, .int p4), (6, .int p5)]) hx hb dX3_init_106 hl (k := 0) rfl (by rw [ex_24]; rfl) (by decide) rfl (fun ls hl => ?_)
  obtain rfl : x_24 = 4 := ex_24.trans (by decide)
  refine lv_goto (tgt := 92) hx hb dX3_init_109 (by decide) ?_
  refine lv_iload hx hb dX3_init_92 (lv_at hl 0 rfl) ?_
  refine lv_iconst (v := 4) hx hb dX3_init_94 (by decide) ?_
  refine lv_icmp_ge (tgt := 112) hx hb dX3_init_95 (by decide) (fun c_25 => ?_) (fun c_25 => absurd (by decide) c_25)
  subst hQ
  have hP9 := hP.sub (ws' := [(h0, .inr (3, [.int p0, .int p1, .int p2, .int p3, .int p4, .int p5, .ref q_1, .ref q_2, .ref q_3, .ref q_4, .ref q_10, .ref q_16]))]) [0] rfl
  have hD9 := hD.sub (ws' := [(h0, .inr (3, [.int p0, .int p1, .int p2, .int p3, .int p4, .int p5, .ref q_1, .ref q_2, .ref q_3, .ref q_4, .ref q_10, .ref q_16]))]) [0] (by decide) rfl
  exact W.vret hx hb hr (fun t ht hW => ⟨⟨[.int p0, .int p1, .int p2, .int p3, .int p4, .int p5, .ref q_1, .ref q_2, .ref q_3, .ref q_4, .ref q_10, .ref q_16], rfl, trivial, by rw [ht]; exact hP9, va_K.moved hW.alike hK, hD9⟩, hS.F ht⟩) hS.2.2 dX3_init_112
set_option maxHeartbeats 4000000 in
set_option maxRecDepth 100000 in
theorem c_X11_home (l : Launch) (D : va_G) (cy : Nat → ClassId) (h0 : Nat) (k0 : Nat) (k1 : Nat) (f2 : Int32) (k3 : Nat) (k4 : Nat) (k5 : Nat) (k6 : Nat) (k7 : Nat) (k8 : Nat) (k9 : Nat) (f10 : Int32) (k11 : Nat) (k12 : Nat) (k13 : Nat) (q : Nat → Option Nat) (p0 p1 p2 p3 p4 p5 : Int32) (sz : Nat) (e2 : f2 = 0) (hk : p5 = 0 ∨ p5 = 1) : Met l yX11_home (Cond.code yX11_home cX11_home 8 (some .int) :: gT) { frames := 3, cells := 15, slots := 215, locals := 71 } (va_Pc [.ref h0, .int p0, .int p1, .int p2, .int p3, .int p4, .int p5] (rN D cy [(h0, .inr (11, [.ref k0, .ref k1, .int f2, .ref k3, .ref k4, .ref k5, .ref k6, .ref k7, .ref k8, .ref k9, .int f10, .ref k11, .ref k12, .ref k13])), (k1, .inl (cy 4, 6, .inr (.inr (.inr (.inr q)))))] sz)) (va_Qi (fun (z : Int32) (u : Unit) => BR z ((0 ≤ p0.toInt ∧ p0.toInt ≤ 3) ∧ (1 ≤ p1.toInt ∧ p1.toInt ≤ 4) ∧ (0 ≤ p2.toInt ∧ p2.toInt ≤ 999999) ∧ (0 ≤ p3.toInt ∧ p3.toInt ≤ 999) ∧ p3.toInt ≤ p4.toInt ∧ p4.toInt ≤ 999) 0 (-1)) (fun _ _ => True) (va_A [(h0, .inr (11, [.ref k0, .ref k1, .int f2, .ref k3, .ref k4, .ref k5, .ref k6, .ref k7, .ref k8, .ref k9, .int f10, .ref k11, .ref k12, .ref k13])), (k1, .inl (cy 4, 6, .inr (.inr (.inr (.inr q)))))] sz)) 15 215 (va_A [(h0, .inr (11, [.ref k0, .ref k1, .int f2, .ref k3, .ref k4, .ref k5, .ref k6, .ref k7, .ref k8, .ref k9, .int f10, .ref k11, .ref k12, .ref k13])), (k1, .inl (cy 4, 6, .inr (.inr (.inr (.inr q)))))] sz) := by
  refine Met.ofQ (cc := cX11_home) (maxL := 8) (ret := (some .int)) (by decide) rfl ?_
  intro p e s m args below meth c s₁ B hml hv Q hQ
  obtain ⟨rfl, hnw, hsz, hP, hK, hD0⟩ := hv
  have hx := B.exec
  have hb := B.bytes
  have hr := B.returns
  have hlocks := B.notSynchronized
  have hT : ∀ w ∈ gT, w.before _ s = true := fun w h => atoms_spec (ws := (Cond.code yX11_home cX11_home 8 (some .int) :: gT)) B.pre w (List.mem_cons_of_mem _ h)
  have hown : s.vm.findClass RX11 = some m.cls := findClass_of_methodNamed B.named
  subst hsz
  have hD := hD0.self (sz := s.heap.size)
  generalize hAe : va_A [(h0, .inr (11, [.ref k0, .ref k1, .int f2, .ref k3, .ref k4, .ref k5, .ref k6, .ref k7, .ref k8, .ref k9, .int f10, .ref k11, .ref k12, .ref k13])), (k1, .inl (cy 4, 6, .inr (.inr (.inr (.inr q)))))] s.heap.size = A at hD hQ
  have hA : ∀ q : Nat, s.heap.size ≤ q → A q := fun q h => by rw [← hAe]; exact Or.inr h
  have hS : va_S A s.heap s.heap [] := va_S.rf
  have hl := lv_entry ([.ref h0, .int p0, .int p1, .int p2, .int p3, .int p4, .int p5]) (n := 8) (Nat.le_of_ble_eq_true rfl)
  rw [lg_entry_eq]
  generalize (lg_sl ([.ref h0, .int p0, .int p1, .int p2, .int p3, .int p4, .int p5]) ++ List.replicate (8 - (lg_sl ([.ref h0, .int p0, .int p1, .int p2, .int p3, .int p4, .int p5])).length) Slot.unset).toArray = ls at hl ⊢
  have hl : lv_has ls 8 [(0, .ref h0), (1, .int p0), (2, .int p1), (3, .int p2), (4, .int p3), (5, .int p4), (6, .int p5)] := hl
  refine lv_iload_n hx hb dX11_home_0 rfl (lv_at hl 1 rfl) ?_
  refine lv_iconst (v := 0) hx hb dX11_home_1 (by decide) ?_
  refine lv_iconst (v := 3) hx hb dX11_home_2 (by decide) ?_
  refine vp_callSi (W.runS (As := [.int p0, .int 0, .int 3]) (rest := []) ⟨hx, hb, hml, hown, hT⟩ (c_X11_within l p0 0 3) (va_cwS 3 hT (gS t_1 t_3 t_4 t_2) rfl rfl rfl (by decide +kernel) ⟨Nat.le_of_ble_eq_true rfl, Nat.le_of_ble_eq_true rfl⟩) preT rfl rfl hl.1 rfl (lv_room (Nat.le_of_ble_eq_true rfl)) dX11_home_3 ⟨Nat.le_of_ble_eq_true rfl, Nat.le_of_ble_eq_true rfl⟩) (fun r_1 hr_1 => ?_)
  have hr_1 : BR r_1 (0 ≤ p0.toInt ∧ p0.toInt ≤ 3) 1 0 := hr_1
  rcases hr_1 with ⟨rfl, h_2⟩ | ⟨rfl, h_2⟩
  · skip
    refine lv_if_eq (tgt := 62) hx hb dX11_home_6 (by decide) (fun c_3 => absurd c_3 (by decide)) (fun c_3 => ?_)
    refine lv_iload_n hx hb dX11_home_9 rfl (lv_at hl 2 rfl) ?_
    refine lv_iconst (v := 1) hx hb dX11_home_10 (by decide) ?_
    refine lv_iconst (v := 4) hx hb dX11_home_11 (by decide) ?_
    refine vp_callSi (W.runS (As := [.int p1, .int 1, .int 4]) (rest := []) ⟨hx, hb, hml, hown, hT⟩ (c_X11_within l p1 1 4) (va_cwS 3 hT (gS t_1 t_3 t_4 t_2) rfl rfl rfl (by decide +kernel) ⟨Nat.le_of_ble_eq_true rfl, Nat.le_of_ble_eq_true rfl⟩) preT rfl rfl hl.1 rfl (lv_room (Nat.le_of_ble_eq_true rfl)) dX11_home_12 ⟨Nat.le_of_ble_eq_true rfl, Nat.le_of_ble_eq_true rfl⟩) (fun r_4 hr_4 => ?_)
    have hr_4 : BR r_4 (1 ≤ p1.toInt ∧ p1.toInt ≤ 4) 1 0 := hr_4
    rcases hr_4 with ⟨rfl, h_5⟩ | ⟨rfl, h_5⟩
    · skip
      refine lv_if_eq (tgt := 62) hx hb dX11_home_15 (by decide) (fun c_6 => absurd c_6 (by decide)) (fun c_6 => ?_)
      refine lv_iload_n hx hb dX11_home_18 rfl (lv_at hl 3 rfl) ?_
      refine lv_iconst (v := 0) hx hb dX11_home_19 (by decide) ?_
      refine lv_ldc (v := 999999) hx hb hown (hT _ t_208) dX11_home_20 ?_
      refine vp_callSi (W.runS (As := [.int p2, .int 0, .int 999999]) (rest := []) ⟨hx, hb, hml, hown, hT⟩ (c_X11_within l p2 0 999999) (va_cwS 3 hT (gS t_1 t_3 t_4 t_2) rfl rfl rfl (by decide +kernel) ⟨Nat.le_of_ble_eq_true rfl, Nat.le_of_ble_eq_true rfl⟩) preT rfl rfl hl.1 rfl (lv_room (Nat.le_of_ble_eq_true rfl)) dX11_home_22 ⟨Nat.le_of_ble_eq_true rfl, Nat.le_of_ble_eq_true rfl⟩) (fun r_7 hr_7 => ?_)
      have hr_7 : BR r_7 (0 ≤ p2.toInt ∧ p2.toInt ≤ 999999) 1 0 := hr_7
      rcases hr_7 with ⟨rfl, h_8⟩ | ⟨rfl, h_8⟩
      · skip
        refine lv_if_eq (tgt := 62) hx hb dX11_home_25 (by decide) (fun c_9 => absurd c_9 (by decide)) (fun c_9 => ?_)
        refine lv_iload hx hb dX11_home_28 (lv_at hl 4 rfl) ?_
        refine lv_iconst (v := 0) hx hb dX11_home_30 (by decide) ?_
        refine lv_sipush (v := 999) hx hb dX11_home_31 (by decide) ?_
        refine vp_callSi (W.runS (As := [.int p3, .int 0, .int 999]) (rest := []) ⟨hx, hb, hml, hown, hT⟩ (c_X11_within l p3 0 999) (va_cwS 3 hT (gS t_1 t_3 t_4 t_2) rfl rfl rfl (by decide +kernel) ⟨Nat.le_of_ble_eq_true rfl, Nat.le_of_ble_eq_true rfl⟩) preT rfl rfl hl.1 rfl (lv_room (Nat.le_of_ble_eq_true rfl)) dX11_home_34 ⟨Nat.le_of_ble_eq_true rfl, Nat.le_of_ble_eq_true rfl⟩) (fun r_10 hr_10 => ?_)
        have hr_10 : BR r_10 (0 ≤ p3.toInt ∧ p3.toInt ≤ 999) 1 0 := hr_10
        rcases hr_10 with ⟨rfl, h_11⟩ | ⟨rfl, h_11⟩
        · skip
          refine lv_if_eq (tgt := 62) hx hb dX11_home_37 (by decide) (fun c_12 => absurd c_12 (by decide)) (fun c_12 => ?_)
          refine lv_iload hx hb dX11_home_40 (lv_at hl 5 rfl) ?_
          refine lv_iload hx hb dX11_home_42 (lv_at hl 4 rfl) ?_
          refine lv_sipush (v := 999) hx hb dX11_home_44 (by decide) ?_
          refine vp_callSi (W.runS (As := [.int p4, .int p3, .int 999]) (rest := []) ⟨hx, hb, hml, hown, hT⟩ (c_X11_within l p4 p3 999) (va_cwS 3 hT (gS t_1 t_3 t_4 t_2) rfl rfl rfl (by decide +kernel) ⟨Nat.le_of_ble_eq_true rfl, Nat.le_of_ble_eq_true rfl⟩) preT rfl rfl hl.1 rfl (lv_room (Nat.le_of_ble_eq_true rfl)) dX11_home_47 ⟨Nat.le_of_ble_eq_true rfl, Nat.le_of_ble_eq_true rfl⟩) (fun r_13 hr_13 => ?_)
          have hr_13 : BR r_13 (p3.toInt ≤ p4.toInt ∧ p4.toInt ≤ 999) 1 0 := hr_13
          rcases hr_13 with ⟨rfl, h_14⟩ | ⟨rfl, h_14⟩
          · skip
            refine lv_if_eq (tgt := 62) hx hb dX11_home_50 (by decide) (fun c_15 => absurd c_15 (by decide)) (fun c_15 => ?_)
            refine lv_aload_n hx hb dX11_home_53 rfl (lv_at hl 0 rfl) ?_
            refine va_get (D := D) (ci := 11) (v := .int 0) (C := RX11) (T := TX11) (N := 14) hx hb hT iX11 hown hK hP 0 rfl rfl 2 (by decide) (hT _ t_39) (fun _ h9 => h9) (congrArg (fun z => some (Value.int z)) e2) dX11_home_54 ?_
            refine lv_bipush (v := 6) hx hb dX11_home_57 (by decide) ?_
            refine lv_icmp_lt (tgt := 64) hx hb dX11_home_59 (by decide) (fun c_16 => ?_) (fun c_16 => absurd (by decide) c_16)
            refine va_new (ci := 3) (fs := [.int 0, .int 0, .int 0, .int 0, .int 0, .int 0, .null, .null, .null, .null, .null, .null]) (C := RX3) (T := TX3) (N := 12) hx hb hT iX3 tyX3 tyX3_ok hown (hT _ t_209) (hT _ t_210) (hT _ t_211) hK hP hD hS hA rfl (fun j hj => dfl3 j hj) (Nat.le_of_ble_eq_true rfl) (Nat.le_of_ble_eq_true rfl) dX11_home_64 (fun q_17 H hP hD hS => ?_)
            have hP : va_P D vwCl [(h0, .inr (11, [.ref k0, .ref k1, .int f2, .ref k3, .ref k4, .ref k5, .ref k6, .ref k7, .ref k8, .ref k9, .int f10, .ref k11, .ref k12, .ref k13])), (k1, .inl (cy 4, 6, .inr (.inr (.inr (.inr q))))), (q_17, .inr (3, [.int 0, .int 0, .int 0, .int 0, .int 0, .int 0, .null, .null, .null, .null, .null, .null]))] H := hP
            have hD : va_D A [(h0, .inr (11, [.ref k0, .ref k1, .int f2, .ref k3, .ref k4, .ref k5, .ref k6, .ref k7, .ref k8, .ref k9, .int f10, .ref k11, .ref k12, .ref k13])), (k1, .inl (cy 4, 6, .inr (.inr (.inr (.inr q))))), (q_17, .inr (3, [.int 0, .int 0, .int 0, .int 0, .int 0, .int 0, .null, .null, .null, .null, .null, .null]))] := hD
            refine W.widen (k := 1) (n := 12) (Nat.le_of_ble_eq_true rfl) (Nat.le_of_ble_eq_true rfl) ?_
            refine lv_dup hx hb dX11_home_67 rfl ?_
            refine lv_iload_n hx hb dX11_home_68 rfl (lv_at hl 1 rfl) ?_
            refine lv_iload_n hx hb dX11_home_69 rfl (lv_at hl 2 rfl) ?_
            refine lv_iload_n hx hb dX11_home_70 rfl (lv_at hl 3 rfl) ?_
            refine lv_iload hx hb dX11_home_71 (lv_at hl 4 rfl) ?_
            refine lv_iload hx hb dX11_home_73 (lv_at hl 5 rfl) ?_
            refine lv_iload hx hb dX11_home_75 (lv_at hl 6 rfl) ?_
            have hP_18 := hP.sub (ws' := [(q_17, .inr (3, [.int 0, .int 0, .int 0, .int 0, .int 0, .int 0, .null, .null, .null, .null, .null, .null]))]) [2] rfl
            have hD_20 := hD.sub (ws' := [(q_17, .inr (3, [.int 0, .int 0, .int 0, .int 0, .int 0, .int 0, .null, .null, .null, .null, .null, .null]))]) [2] (by decide) rfl
            have hF_19 := va_free (wc := [(q_17, .inr (3, [.int 0, .int 0, .int 0, .int 0, .int 0, .int 0, .null, .null, .null, .null, .null, .null]))]) hD hS hA [2] rfl
            refine va_callv (va_runI (As := [.int p0, .int p1, .int p2, .int p3, .int p4, .int p5]) (rest := [.ref q_17]) ⟨hx, hb, hml, hown, hT⟩ (c_X3_init l D cy q_17 p0 p1 p2 p3 p4 p5 _ hk) (cwI 6 hT (gI t_212) rfl rfl rfl (hT _ t_211) (hT _ t_213) (hT _ t_214) rfl (by decide +kernel) ⟨Nat.le_of_ble_eq_true rfl, Nat.le_of_ble_eq_true rfl⟩) (rN_s hnw hP_18 hK hD_20) rfl rfl hl.1 rfl (lv_room (Nat.le_of_ble_eq_true rfl)) dX11_home_77 ⟨Nat.le_of_ble_eq_true rfl, Nat.le_of_ble_eq_true rfl⟩) hS (fun q _ h => hF_19 q h) hF_19 (fun u_22 t H1 locs ht hvm hr_21 hB hz1 hk1 hS => ?_)
            obtain ⟨hP1, hK1, hD1⟩ := hB
            rw [ht] at hP1
            obtain ⟨hP, hD⟩ := va_join (wr := [(h0, .inr (11, [.ref k0, .ref k1, .int f2, .ref k3, .ref k4, .ref k5, .ref k6, .ref k7, .ref k8, .ref k9, .int f10, .ref k11, .ref k12, .ref k13])), (k1, .inl (cy 4, 6, .inr (.inr (.inr (.inr q)))))]) (w1 := [(q_17, .inr (3, u_22))]) hP hD [2] [0, 1] rfl rfl (by decide) (by decide) hk1 hF_19 hP1 hD1
            have hP : va_P D vwCl [(h0, .inr (11, [.ref k0, .ref k1, .int f2, .ref k3, .ref k4, .ref k5, .ref k6, .ref k7, .ref k8, .ref k9, .int f10, .ref k11, .ref k12, .ref k13])), (k1, .inl (cy 4, 6, .inr (.inr (.inr (.inr q))))), (q_17, .inr (3, u_22))] H1 := hP
            have hD : va_D A [(h0, .inr (11, [.ref k0, .ref k1, .int f2, .ref k3, .ref k4, .ref k5, .ref k6, .ref k7, .ref k8, .ref k9, .int f10, .ref k11, .ref k12, .ref k13])), (k1, .inl (cy 4, 6, .inr (.inr (.inr (.inr q))))), (q_17, .inr (3, u_22))] := hD
            refine W.widen (k := 15) (n := 215) (Nat.le_of_ble_eq_true rfl) (Nat.le_of_ble_eq_true rfl) ?_
            refine lv_astore (lv' := [(7, .ref q_17), (0, .ref h0), (1, .int p0), (2, .int p1), (3, .int p2), (4, .int p3), (5, .int p4), (6, .int p5)]) hx hb dX11_home_80 hl (by decide) rfl (fun ls hl => ?_)
            refine lv_aload_n hx hb dX11_home_82 rfl (lv_at hl 1 rfl) ?_
            refine va_get (D := D) (ci := 11) (v := .ref k1) (C := RX11) (T := TX11) (N := 14) hx hb hT iX11 hown hK hP 0 rfl rfl 1 (by decide) (hT _ t_215) (fun _ h9 => h9) rfl dX11_home_83 ?_
            refine lv_aload_n hx hb dX11_home_86 rfl (lv_at hl 1 rfl) ?_
            refine va_get (D := D) (ci := 11) (v := .int 0) (C := RX11) (T := TX11) (N := 14) hx hb hT iX11 hown hK hP 0 rfl rfl 2 (by decide) (hT _ t_39) (fun _ h9 => h9) (congrArg (fun z => some (Value.int z)) e2) dX11_home_87 ?_
            refine lv_aload hx hb dX11_home_90 (lv_at hl 0 rfl) ?_
            refine va_astq hx hb hK hP hD hS 1 4 2 3 rfl rfl rfl rfl (vp_inI (by decide) (by decide)) dX11_home_92 (fun H locs hP hD hS => ?_)
            have hP : va_P D vwCl [(h0, .inr (11, [.ref k0, .ref k1, .int f2, .ref k3, .ref k4, .ref k5, .ref k6, .ref k7, .ref k8, .ref k9, .int f10, .ref k11, .ref k12, .ref k13])), (k1, .inl (cy 4, 6, .inr (.inr (.inr (.inr (va_up q ((0 : Int32).toNatClampNeg) (some q_17))))))), (q_17, .inr (3, u_22))] H := hP
            have hD : va_D A [(h0, .inr (11, [.ref k0, .ref k1, .int f2, .ref k3, .ref k4, .ref k5, .ref k6, .ref k7, .ref k8, .ref k9, .int f10, .ref k11, .ref k12, .ref k13])), (k1, .inl (cy 4, 6, .inr (.inr (.inr (.inr (va_up q ((0 : Int32).toNatClampNeg) (some q_17))))))), (q_17, .inr (3, u_22))] := hD
            refine lv_aload_n hx hb dX11_home_93 rfl (lv_at hl 1 rfl) ?_
            refine lv_dup hx hb dX11_home_94 rfl ?_
            refine va_get (D := D) (ci := 11) (v := .int 0) (C := RX11) (T := TX11) (N := 14) hx hb hT iX11 hown hK hP 0 rfl rfl 2 (by decide) (hT _ t_39) (fun _ h9 => h9) (congrArg (fun z => some (Value.int z)) e2) dX11_home_95 ?_
            refine lv_iconst (v := 1) hx hb dX11_home_98 (by decide) ?_
            refine lv_iadd hx hb dX11_home_99 ?_
            refine lv_topi (fun v_23 ev_23 => ?_)
            obtain rfl : v_23 = 1 := ev_23.trans (by decide)
            refine va_put (D := D) (ci := 11) (v := .int 1) (ty := .int) (C := RX11) (T := TX11) (N := 14) hx hb hT iX11 tyX11 tyX11_ok nmX11 hown hK hP hD hS 0 rfl rfl 2 (by decide) (hT _ t_39) (fun _ h9 => h9) rfl (by decide +kernel) rfl rfl (Nat.le_of_ble_eq_true rfl) dX11_home_100 (fun H locs hP hD hS => ?_)
            have hP : va_P D vwCl [(h0, .inr (11, [.ref k0, .ref k1, .int 1, .ref k3, .ref k4, .ref k5, .ref k6, .ref k7, .ref k8, .ref k9, .int f10, .ref k11, .ref k12, .ref k13])), (k1, .inl (cy 4, 6, .inr (.inr (.inr (.inr (va_up q ((0 : Int32).toNatClampNeg) (some q_17))))))), (q_17, .inr (3, u_22))] H := hP
            have hD : va_D A [(h0, .inr (11, [.ref k0, .ref k1, .int 1, .ref k3, .ref k4, .ref k5, .ref k6, .ref k7, .ref k8, .ref k9, .int f10, .ref k11, .ref k12, .ref k13])), (k1, .inl (cy 4, 6, .inr (.inr (.inr (.inr (va_up q ((0 : Int32).toNatClampNeg) (some q_17))))))), (q_17, .inr (3, u_22))] := hD
            refine lv_aload_n hx hb dX11_home_103 rfl (lv_at hl 1 rfl) ?_
            refine va_get (D := D) (ci := 11) (v := .int 1) (C := RX11) (T := TX11) (N := 14) hx hb hT iX11 hown hK hP 0 rfl rfl 2 (by decide) (hT _ t_39) (fun _ h9 => h9) rfl dX11_home_104 ?_
            refine lv_iconst (v := 1) hx hb dX11_home_107 (by decide) ?_
            refine lv_isub hx hb dX11_home_108 ?_
            refine lv_topi (fun v_24 ev_24 => ?_)
            obtain rfl : v_24 = 0 := ev_24.trans (by decide)
            subst hQ
            exact W.iret (v := 0) hx hb hr (fun t ht hW => ⟨⟨_, (), rfl, Or.inl ⟨rfl, by omega⟩, trivial⟩, hS.F ht⟩) hS.2.2 dX11_home_109
          · skip
            refine lv_if_eq (tgt := 62) hx hb dX11_home_50 (by decide) (fun c_25 => ?_) (fun c_25 => absurd (by decide) c_25)
            refine lv_iconst (v := (-1)) hx hb dX11_home_62 (by decide) ?_
            subst hQ
            refine W.widen (k := 15) (n := 215) (Nat.le_of_ble_eq_true rfl) (Nat.le_of_ble_eq_true rfl) ?_
            exact W.iret (v := (-1)) hx hb hr (fun t ht hW => ⟨⟨_, (), rfl, Or.inr ⟨rfl, by omega⟩, trivial⟩, hS.F ht⟩) hS.2.2 dX11_home_63
        · skip
          refine lv_if_eq (tgt := 62) hx hb dX11_home_37 (by decide) (fun c_26 => ?_) (fun c_26 => absurd (by decide) c_26)
          refine lv_iconst (v := (-1)) hx hb dX11_home_62 (by decide) ?_
          subst hQ
          refine W.widen (k := 15) (n := 215) (Nat.le_of_ble_eq_true rfl) (Nat.le_of_ble_eq_true rfl) ?_
          exact W.iret (v := (-1)) hx hb hr (fun t ht hW => ⟨⟨_, (), rfl, Or.inr ⟨rfl, by omega⟩, trivial⟩, hS.F ht⟩) hS.2.2 dX11_home_63
      · skip
        refine lv_if_eq (tgt := 62) hx hb dX11_home_25 (by decide) (fun c_27 => ?_) (fun c_27 => absurd (by decide) c_27)
        refine lv_iconst (v := (-1)) hx hb dX11_home_62 (by decide) ?_
        subst hQ
        refine W.widen (k := 15) (n := 215) (Nat.le_of_ble_eq_true rfl) (Nat.le_of_ble_eq_true rfl) ?_
        exact W.iret (v := (-1)) hx hb hr (fun t ht hW => ⟨⟨_, (), rfl, Or.inr ⟨rfl, by omega⟩, trivial⟩, hS.F ht⟩) hS.2.2 dX11_home_63
    · skip
      refine lv_if_eq (tgt := 62) hx hb dX11_home_15 (by decide) (fun c_28 => ?_) (fun c_28 => absurd (by decide) c_28)
      refine lv_iconst (v := (-1)) hx hb dX11_home_62 (by decide) ?_
      subst hQ
      refine W.widen (k := 15) (n := 215) (Nat.le_of_ble_eq_true rfl) (Nat.le_of_ble_eq_true rfl) ?_
      exact W.iret (v := (-1)) hx hb hr (fun t ht hW => ⟨⟨_, (), rfl, Or.inr ⟨rfl, by omega⟩, trivial⟩, hS.F ht⟩) hS.2.2 dX11_home_63
  · skip
    refine lv_if_eq (tgt := 62) hx hb dX11_home_6 (by decide) (fun c_29 => ?_) (fun c_29 => absurd (by decide) c_29)
    refine lv_iconst (v := (-1)) hx hb dX11_home_62 (by decide) ?_
    subst hQ
    refine W.widen (k := 15) (n := 215) (Nat.le_of_ble_eq_true rfl) (Nat.le_of_ble_eq_true rfl) ?_
    exact W.iret (v := (-1)) hx hb hr (fun t ht hW => ⟨⟨_, (), rfl, Or.inr ⟨rfl, by omega⟩, trivial⟩, hS.F ht⟩) hS.2.2 dX11_home_63
