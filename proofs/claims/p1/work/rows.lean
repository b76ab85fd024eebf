section
-- ===== PART A: goes FIRST, ahead of the names: the tables' words, and 'selects' of the private methods out of them =====
/-- a private method of a class that the tables say can be made, by its rows of tables_1 -/
def lw_okq (q : MethodName × Nat) : Prop := (q.1.cls ≠ "java/lang/invoke/MethodHandle" ∧ q.1.cls ≠ "java/lang/invoke/VarHandle") ∧ Cond.instantiable q.1.cls q.2 ∈ tables_1 ∧ Cond.privateMethod q.1 ∈ tables_1 ∧ Cond.instanceMethod q.1 ∈ tables_1
theorem lw_p0 : lw_okq (⟨"DepositJudge", "homeAt", "(I)LDepositJudge$Home;"⟩, 14) := ⟨⟨by decide +kernel, by decide +kernel⟩, List.mem_of_getElem? (i := 21) (by decide +kernel), List.mem_of_getElem? (i := 407) (by decide +kernel), List.mem_of_getElem? (i := 408) (by decide +kernel)⟩
theorem lw_p1 : lw_okq (⟨"DepositJudge", "listed", "(LDepositJudge$Home;III)I"⟩, 14) := ⟨⟨by decide +kernel, by decide +kernel⟩, List.mem_of_getElem? (i := 21) (by decide +kernel), List.mem_of_getElem? (i := 426) (by decide +kernel), List.mem_of_getElem? (i := 427) (by decide +kernel)⟩
theorem lw_p2 : lw_okq (⟨"DepositJudge$Joiner", "begin", "(LDepositJudge$Home;II)V"⟩, 2) := ⟨⟨by decide +kernel, by decide +kernel⟩, List.mem_of_getElem? (i := 47) (by decide +kernel), List.mem_of_getElem? (i := 434) (by decide +kernel), List.mem_of_getElem? (i := 435) (by decide +kernel)⟩
theorem lw_p3 : lw_okq (⟨"DepositJudge$Joiner", "change", "(II)V"⟩, 2) := ⟨⟨by decide +kernel, by decide +kernel⟩, List.mem_of_getElem? (i := 47) (by decide +kernel), List.mem_of_getElem? (i := 442) (by decide +kernel), List.mem_of_getElem? (i := 443) (by decide +kernel)⟩
theorem lw_p4 : lw_okq (⟨"DepositJudge$Joiner", "lowestFit", "(LDepositJudge$Home;I)I"⟩, 2) := ⟨⟨by decide +kernel, by decide +kernel⟩, List.mem_of_getElem? (i := 47) (by decide +kernel), List.mem_of_getElem? (i := 446) (by decide +kernel), List.mem_of_getElem? (i := 447) (by decide +kernel)⟩
theorem lw_p5 : lw_okq (⟨"DepositJudge$Joiner", "fits", "(II)Z"⟩, 2) := ⟨⟨by decide +kernel, by decide +kernel⟩, List.mem_of_getElem? (i := 47) (by decide +kernel), List.mem_of_getElem? (i := 450) (by decide +kernel), List.mem_of_getElem? (i := 451) (by decide +kernel)⟩
theorem lw_p6 : lw_okq (⟨"DepositJudge$LawReader", "peek", "()I"⟩, 5) := ⟨⟨by decide +kernel, by decide +kernel⟩, List.mem_of_getElem? (i := 77) (by decide +kernel), List.mem_of_getElem? (i := 481) (by decide +kernel), List.mem_of_getElem? (i := 482) (by decide +kernel)⟩
theorem lw_p7 : lw_okq (⟨"DepositJudge$LawReader", "beginClause", "(I)Z"⟩, 5) := ⟨⟨by decide +kernel, by decide +kernel⟩, List.mem_of_getElem? (i := 77) (by decide +kernel), List.mem_of_getElem? (i := 485) (by decide +kernel), List.mem_of_getElem? (i := 486) (by decide +kernel)⟩
theorem lw_p8 : lw_okq (⟨"DepositJudge$LawReader", "refuse", "(I)Z"⟩, 5) := ⟨⟨by decide +kernel, by decide +kernel⟩, List.mem_of_getElem? (i := 77) (by decide +kernel), List.mem_of_getElem? (i := 489) (by decide +kernel), List.mem_of_getElem? (i := 490) (by decide +kernel)⟩
theorem lw_p9 : lw_okq (⟨"DepositJudge$LawReader", "expression", "(IZ)Z"⟩, 5) := ⟨⟨by decide +kernel, by decide +kernel⟩, List.mem_of_getElem? (i := 77) (by decide +kernel), List.mem_of_getElem? (i := 502) (by decide +kernel), List.mem_of_getElem? (i := 503) (by decide +kernel)⟩
theorem lw_p10 : lw_okq (⟨"DepositJudge$LawReader", "factor", "(I)Z"⟩, 5) := ⟨⟨by decide +kernel, by decide +kernel⟩, List.mem_of_getElem? (i := 77) (by decide +kernel), List.mem_of_getElem? (i := 506) (by decide +kernel), List.mem_of_getElem? (i := 507) (by decide +kernel)⟩
theorem lw_p11 : lw_okq (⟨"DepositJudge$LawReader", "pass", "(C)Z"⟩, 5) := ⟨⟨by decide +kernel, by decide +kernel⟩, List.mem_of_getElem? (i := 77) (by decide +kernel), List.mem_of_getElem? (i := 510) (by decide +kernel), List.mem_of_getElem? (i := 511) (by decide +kernel)⟩
theorem lw_p12 : lw_okq (⟨"DepositJudge$LawReader", "number", "()Z"⟩, 5) := ⟨⟨by decide +kernel, by decide +kernel⟩, List.mem_of_getElem? (i := 77) (by decide +kernel), List.mem_of_getElem? (i := 514) (by decide +kernel), List.mem_of_getElem? (i := 515) (by decide +kernel)⟩
theorem lw_p13 : lw_okq (⟨"DepositJudge$LawReader", "beginTest", "()Z"⟩, 5) := ⟨⟨by decide +kernel, by decide +kernel⟩, List.mem_of_getElem? (i := 77) (by decide +kernel), List.mem_of_getElem? (i := 607) (by decide +kernel), List.mem_of_getElem? (i := 608) (by decide +kernel)⟩
theorem lw_p14 : lw_okq (⟨"DepositJudge$LawReader", "condition", "(IC)Z"⟩, 5) := ⟨⟨by decide +kernel, by decide +kernel⟩, List.mem_of_getElem? (i := 77) (by decide +kernel), List.mem_of_getElem? (i := 615) (by decide +kernel), List.mem_of_getElem? (i := 616) (by decide +kernel)⟩
theorem lw_p15 : lw_okq (⟨"DepositJudge$LawReader", "piece", "(I)Z"⟩, 5) := ⟨⟨by decide +kernel, by decide +kernel⟩, List.mem_of_getElem? (i := 77) (by decide +kernel), List.mem_of_getElem? (i := 619) (by decide +kernel), List.mem_of_getElem? (i := 620) (by decide +kernel)⟩
def lw_privs_1 : List (MethodName × Nat) := [(⟨"DepositJudge", "homeAt", "(I)LDepositJudge$Home;"⟩, 14), (⟨"DepositJudge", "listed", "(LDepositJudge$Home;III)I"⟩, 14), (⟨"DepositJudge$Joiner", "begin", "(LDepositJudge$Home;II)V"⟩, 2), (⟨"DepositJudge$Joiner", "change", "(II)V"⟩, 2), (⟨"DepositJudge$Joiner", "lowestFit", "(LDepositJudge$Home;I)I"⟩, 2), (⟨"DepositJudge$Joiner", "fits", "(II)Z"⟩, 2), (⟨"DepositJudge$LawReader", "peek", "()I"⟩, 5), (⟨"DepositJudge$LawReader", "beginClause", "(I)Z"⟩, 5), (⟨"DepositJudge$LawReader", "refuse", "(I)Z"⟩, 5), (⟨"DepositJudge$LawReader", "expression", "(IZ)Z"⟩, 5), (⟨"DepositJudge$LawReader", "factor", "(I)Z"⟩, 5), (⟨"DepositJudge$LawReader", "pass", "(C)Z"⟩, 5), (⟨"DepositJudge$LawReader", "number", "()Z"⟩, 5), (⟨"DepositJudge$LawReader", "beginTest", "()Z"⟩, 5), (⟨"DepositJudge$LawReader", "condition", "(IC)Z"⟩, 5), (⟨"DepositJudge$LawReader", "piece", "(I)Z"⟩, 5)]
theorem lw_r1 : ∀ q ∈ lw_privs_1, lw_okq q := List.forall_mem_cons.mpr ⟨lw_p0, List.forall_mem_cons.mpr ⟨lw_p1, List.forall_mem_cons.mpr ⟨lw_p2, List.forall_mem_cons.mpr ⟨lw_p3, List.forall_mem_cons.mpr ⟨lw_p4, List.forall_mem_cons.mpr ⟨lw_p5, List.forall_mem_cons.mpr ⟨lw_p6, List.forall_mem_cons.mpr ⟨lw_p7, List.forall_mem_cons.mpr ⟨lw_p8, List.forall_mem_cons.mpr ⟨lw_p9, List.forall_mem_cons.mpr ⟨lw_p10, List.forall_mem_cons.mpr ⟨lw_p11, List.forall_mem_cons.mpr ⟨lw_p12, List.forall_mem_cons.mpr ⟨lw_p13, List.forall_mem_cons.mpr ⟨lw_p14, List.forall_mem_cons.mpr ⟨lw_p15, fun _ h => absurd h List.not_mem_nil⟩⟩⟩⟩⟩⟩⟩⟩⟩⟩⟩⟩⟩⟩⟩⟩
theorem lw_p16 : lw_okq (⟨"DepositJudge$LawReader", "endClause", "()Z"⟩, 5) := ⟨⟨by decide +kernel, by decide +kernel⟩, List.mem_of_getElem? (i := 77) (by decide +kernel), List.mem_of_getElem? (i := 627) (by decide +kernel), List.mem_of_getElem? (i := 628) (by decide +kernel)⟩
theorem lw_p17 : lw_okq (⟨"DepositJudge", "fairWear", "(LDepositJudge$Home;I)I"⟩, 14) := ⟨⟨by decide +kernel, by decide +kernel⟩, List.mem_of_getElem? (i := 21) (by decide +kernel), List.mem_of_getElem? (i := 651) (by decide +kernel), List.mem_of_getElem? (i := 652) (by decide +kernel)⟩
theorem lw_p18 : lw_okq (⟨"DepositJudge", "describe", "(LDepositJudge$Home;III)V"⟩, 14) := ⟨⟨by decide +kernel, by decide +kernel⟩, List.mem_of_getElem? (i := 21) (by decide +kernel), List.mem_of_getElem? (i := 655) (by decide +kernel), List.mem_of_getElem? (i := 656) (by decide +kernel)⟩
theorem lw_p19 : lw_okq (⟨"DepositJudge", "describeHome", "(LDepositJudge$Home;)V"⟩, 14) := ⟨⟨by decide +kernel, by decide +kernel⟩, List.mem_of_getElem? (i := 21) (by decide +kernel), List.mem_of_getElem? (i := 664) (by decide +kernel), List.mem_of_getElem? (i := 665) (by decide +kernel)⟩
theorem lw_p20 : lw_okq (⟨"DepositJudge$Law", "run", "(II[I)I"⟩, 9) := ⟨⟨by decide +kernel, by decide +kernel⟩, List.mem_of_getElem? (i := 83) (by decide +kernel), List.mem_of_getElem? (i := 672) (by decide +kernel), List.mem_of_getElem? (i := 673) (by decide +kernel)⟩
theorem lw_p21 : lw_okq (⟨"DepositJudge", "worth", "(LDepositJudge$Home;II)I"⟩, 14) := ⟨⟨by decide +kernel, by decide +kernel⟩, List.mem_of_getElem? (i := 21) (by decide +kernel), List.mem_of_getElem? (i := 682) (by decide +kernel), List.mem_of_getElem? (i := 683) (by decide +kernel)⟩
theorem lw_p22 : lw_okq (⟨"DepositJudge", "lost", "(LDepositJudge$Home;II)I"⟩, 14) := ⟨⟨by decide +kernel, by decide +kernel⟩, List.mem_of_getElem? (i := 21) (by decide +kernel), List.mem_of_getElem? (i := 690) (by decide +kernel), List.mem_of_getElem? (i := 691) (by decide +kernel)⟩
theorem lw_p23 : lw_okq (⟨"DepositJudge", "isClaim", "(I)Z"⟩, 14) := ⟨⟨by decide +kernel, by decide +kernel⟩, List.mem_of_getElem? (i := 21) (by decide +kernel), List.mem_of_getElem? (i := 726) (by decide +kernel), List.mem_of_getElem? (i := 727) (by decide +kernel)⟩
theorem lw_p24 : lw_okq (⟨"DepositJudge", "reason", "(III)I"⟩, 14) := ⟨⟨by decide +kernel, by decide +kernel⟩, List.mem_of_getElem? (i := 21) (by decide +kernel), List.mem_of_getElem? (i := 738) (by decide +kernel), List.mem_of_getElem? (i := 739) (by decide +kernel)⟩
theorem lw_p25 : lw_okq (⟨"DepositJudge", "awarded", "(III)I"⟩, 14) := ⟨⟨by decide +kernel, by decide +kernel⟩, List.mem_of_getElem? (i := 21) (by decide +kernel), List.mem_of_getElem? (i := 750) (by decide +kernel), List.mem_of_getElem? (i := 751) (by decide +kernel)⟩
theorem lw_p26 : lw_okq (⟨"DepositJudge", "awards", "(II)I"⟩, 14) := ⟨⟨by decide +kernel, by decide +kernel⟩, List.mem_of_getElem? (i := 21) (by decide +kernel), List.mem_of_getElem? (i := 758) (by decide +kernel), List.mem_of_getElem? (i := 759) (by decide +kernel)⟩
theorem lw_p27 : lw_okq (⟨"DepositJudge", "paidBack", "(LDepositJudge$Home;I)I"⟩, 14) := ⟨⟨by decide +kernel, by decide +kernel⟩, List.mem_of_getElem? (i := 21) (by decide +kernel), List.mem_of_getElem? (i := 763) (by decide +kernel), List.mem_of_getElem? (i := 764) (by decide +kernel)⟩
theorem lw_p28 : lw_okq (⟨"DepositJudge", "toOwner", "(LDepositJudge$Home;I)I"⟩, 14) := ⟨⟨by decide +kernel, by decide +kernel⟩, List.mem_of_getElem? (i := 21) (by decide +kernel), List.mem_of_getElem? (i := 767) (by decide +kernel), List.mem_of_getElem? (i := 768) (by decide +kernel)⟩
theorem lw_p29 : lw_okq (⟨"DepositJudge", "penalty", "(LDepositJudge$Home;)I"⟩, 14) := ⟨⟨by decide +kernel, by decide +kernel⟩, List.mem_of_getElem? (i := 21) (by decide +kernel), List.mem_of_getElem? (i := 776) (by decide +kernel), List.mem_of_getElem? (i := 777) (by decide +kernel)⟩
theorem lw_p30 : lw_okq (⟨"DepositJudge$Division", "greatestRest", "(I)I"⟩, 2) := ⟨⟨by decide +kernel, by decide +kernel⟩, List.mem_of_getElem? (i := 192) (by decide +kernel), List.mem_of_getElem? (i := 784) (by decide +kernel), List.mem_of_getElem? (i := 785) (by decide +kernel)⟩
theorem lw_p31 : lw_okq (⟨"DepositJudge$Pictures", "stretch", "(III)V"⟩, 4) := ⟨⟨by decide +kernel, by decide +kernel⟩, List.mem_of_getElem? (i := 229) (by decide +kernel), List.mem_of_getElem? (i := 865) (by decide +kernel), List.mem_of_getElem? (i := 866) (by decide +kernel)⟩
def lw_privs_2 : List (MethodName × Nat) := [(⟨"DepositJudge$LawReader", "endClause", "()Z"⟩, 5), (⟨"DepositJudge", "fairWear", "(LDepositJudge$Home;I)I"⟩, 14), (⟨"DepositJudge", "describe", "(LDepositJudge$Home;III)V"⟩, 14), (⟨"DepositJudge", "describeHome", "(LDepositJudge$Home;)V"⟩, 14), (⟨"DepositJudge$Law", "run", "(II[I)I"⟩, 9), (⟨"DepositJudge", "worth", "(LDepositJudge$Home;II)I"⟩, 14), (⟨"DepositJudge", "lost", "(LDepositJudge$Home;II)I"⟩, 14), (⟨"DepositJudge", "isClaim", "(I)Z"⟩, 14), (⟨"DepositJudge", "reason", "(III)I"⟩, 14), (⟨"DepositJudge", "awarded", "(III)I"⟩, 14), (⟨"DepositJudge", "awards", "(II)I"⟩, 14), (⟨"DepositJudge", "paidBack", "(LDepositJudge$Home;I)I"⟩, 14), (⟨"DepositJudge", "toOwner", "(LDepositJudge$Home;I)I"⟩, 14), (⟨"DepositJudge", "penalty", "(LDepositJudge$Home;)I"⟩, 14), (⟨"DepositJudge$Division", "greatestRest", "(I)I"⟩, 2), (⟨"DepositJudge$Pictures", "stretch", "(III)V"⟩, 4)]
theorem lw_r2 : ∀ q ∈ lw_privs_2, lw_okq q := List.forall_mem_cons.mpr ⟨lw_p16, List.forall_mem_cons.mpr ⟨lw_p17, List.forall_mem_cons.mpr ⟨lw_p18, List.forall_mem_cons.mpr ⟨lw_p19, List.forall_mem_cons.mpr ⟨lw_p20, List.forall_mem_cons.mpr ⟨lw_p21, List.forall_mem_cons.mpr ⟨lw_p22, List.forall_mem_cons.mpr ⟨lw_p23, List.forall_mem_cons.mpr ⟨lw_p24, List.forall_mem_cons.mpr ⟨lw_p25, List.forall_mem_cons.mpr ⟨lw_p26, List.forall_mem_cons.mpr ⟨lw_p27, List.forall_mem_cons.mpr ⟨lw_p28, List.forall_mem_cons.mpr ⟨lw_p29, List.forall_mem_cons.mpr ⟨lw_p30, List.forall_mem_cons.mpr ⟨lw_p31, fun _ h => absurd h List.not_mem_nil⟩⟩⟩⟩⟩⟩⟩⟩⟩⟩⟩⟩⟩⟩⟩⟩
theorem lw_p32 : lw_okq (⟨"DepositJudgeModel", "isHome", "(I)Z"⟩, 91) := ⟨⟨by decide +kernel, by decide +kernel⟩, List.mem_of_getElem? (i := 912) (by decide +kernel), List.mem_of_getElem? (i := 1220) (by decide +kernel), List.mem_of_getElem? (i := 1221) (by decide +kernel)⟩
theorem lw_p33 : lw_okq (⟨"DepositJudgeModel", "types", "(I)V"⟩, 91) := ⟨⟨by decide +kernel, by decide +kernel⟩, List.mem_of_getElem? (i := 912) (by decide +kernel), List.mem_of_getElem? (i := 1243) (by decide +kernel), List.mem_of_getElem? (i := 1244) (by decide +kernel)⟩
theorem lw_p34 : lw_okq (⟨"DepositJudgeModel", "readsClause", "()Z"⟩, 91) := ⟨⟨by decide +kernel, by decide +kernel⟩, List.mem_of_getElem? (i := 912) (by decide +kernel), List.mem_of_getElem? (i := 1251) (by decide +kernel), List.mem_of_getElem? (i := 1252) (by decide +kernel)⟩
theorem lw_p35 : lw_okq (⟨"DepositJudgeModel", "here", "()I"⟩, 91) := ⟨⟨by decide +kernel, by decide +kernel⟩, List.mem_of_getElem? (i := 912) (by decide +kernel), List.mem_of_getElem? (i := 1255) (by decide +kernel), List.mem_of_getElem? (i := 1256) (by decide +kernel)⟩
theorem lw_p36 : lw_okq (⟨"DepositJudgeModel", "wrongAt", "(II)Z"⟩, 91) := ⟨⟨by decide +kernel, by decide +kernel⟩, List.mem_of_getElem? (i := 912) (by decide +kernel), List.mem_of_getElem? (i := 1259) (by decide +kernel), List.mem_of_getElem? (i := 1260) (by decide +kernel)⟩
theorem lw_p37 : lw_okq (⟨"DepositJudgeModel", "readsSum", "()Z"⟩, 91) := ⟨⟨by decide +kernel, by decide +kernel⟩, List.mem_of_getElem? (i := 912) (by decide +kernel), List.mem_of_getElem? (i := 1263) (by decide +kernel), List.mem_of_getElem? (i := 1264) (by decide +kernel)⟩
theorem lw_p38 : lw_okq (⟨"DepositJudgeModel", "readsFactor", "()Z"⟩, 91) := ⟨⟨by decide +kernel, by decide +kernel⟩, List.mem_of_getElem? (i := 912) (by decide +kernel), List.mem_of_getElem? (i := 1267) (by decide +kernel), List.mem_of_getElem? (i := 1268) (by decide +kernel)⟩
theorem lw_p39 : lw_okq (⟨"DepositJudgeModel", "opens", "(I)Z"⟩, 91) := ⟨⟨by decide +kernel, by decide +kernel⟩, List.mem_of_getElem? (i := 912) (by decide +kernel), List.mem_of_getElem? (i := 1271) (by decide +kernel), List.mem_of_getElem? (i := 1272) (by decide +kernel)⟩
theorem lw_p40 : lw_okq (⟨"DepositJudgeModel", "isDigit", "()Z"⟩, 91) := ⟨⟨by decide +kernel, by decide +kernel⟩, List.mem_of_getElem? (i := 912) (by decide +kernel), List.mem_of_getElem? (i := 1276) (by decide +kernel), List.mem_of_getElem? (i := 1277) (by decide +kernel)⟩
theorem lw_p41 : lw_okq (⟨"DepositJudgeModel", "readsNumber", "()Z"⟩, 91) := ⟨⟨by decide +kernel, by decide +kernel⟩, List.mem_of_getElem? (i := 912) (by decide +kernel), List.mem_of_getElem? (i := 1280) (by decide +kernel), List.mem_of_getElem? (i := 1281) (by decide +kernel)⟩
theorem lw_p42 : lw_okq (⟨"DepositJudgeModel", "notes", "(II)V"⟩, 91) := ⟨⟨by decide +kernel, by decide +kernel⟩, List.mem_of_getElem? (i := 912) (by decide +kernel), List.mem_of_getElem? (i := 1284) (by decide +kernel), List.mem_of_getElem? (i := 1285) (by decide +kernel)⟩
theorem lw_p43 : lw_okq (⟨"DepositJudgeModel", "closesSums", "(Z)V"⟩, 91) := ⟨⟨by decide +kernel, by decide +kernel⟩, List.mem_of_getElem? (i := 912) (by decide +kernel), List.mem_of_getElem? (i := 1294) (by decide +kernel), List.mem_of_getElem? (i := 1295) (by decide +kernel)⟩
theorem lw_p44 : lw_okq (⟨"DepositJudgeModel", "top", "()I"⟩, 91) := ⟨⟨by decide +kernel, by decide +kernel⟩, List.mem_of_getElem? (i := 912) (by decide +kernel), List.mem_of_getElem? (i := 1298) (by decide +kernel), List.mem_of_getElem? (i := 1299) (by decide +kernel)⟩
theorem lw_p45 : lw_okq (⟨"DepositJudgeModel", "hasOpenSum", "(I)Z"⟩, 91) := ⟨⟨by decide +kernel, by decide +kernel⟩, List.mem_of_getElem? (i := 912) (by decide +kernel), List.mem_of_getElem? (i := 1302) (by decide +kernel), List.mem_of_getElem? (i := 1303) (by decide +kernel)⟩
theorem lw_p46 : lw_okq (⟨"DepositJudgeModel", "readsCondition", "()Z"⟩, 91) := ⟨⟨by decide +kernel, by decide +kernel⟩, List.mem_of_getElem? (i := 912) (by decide +kernel), List.mem_of_getElem? (i := 1306) (by decide +kernel), List.mem_of_getElem? (i := 1307) (by decide +kernel)⟩
theorem lw_p47 : lw_okq (⟨"DepositJudgeModel", "readsCompared", "()Z"⟩, 91) := ⟨⟨by decide +kernel, by decide +kernel⟩, List.mem_of_getElem? (i := 912) (by decide +kernel), List.mem_of_getElem? (i := 1310) (by decide +kernel), List.mem_of_getElem? (i := 1311) (by decide +kernel)⟩
def lw_privs_3 : List (MethodName × Nat) := [(⟨"DepositJudgeModel", "isHome", "(I)Z"⟩, 91), (⟨"DepositJudgeModel", "types", "(I)V"⟩, 91), (⟨"DepositJudgeModel", "readsClause", "()Z"⟩, 91), (⟨"DepositJudgeModel", "here", "()I"⟩, 91), (⟨"DepositJudgeModel", "wrongAt", "(II)Z"⟩, 91), (⟨"DepositJudgeModel", "readsSum", "()Z"⟩, 91), (⟨"DepositJudgeModel", "readsFactor", "()Z"⟩, 91), (⟨"DepositJudgeModel", "opens", "(I)Z"⟩, 91), (⟨"DepositJudgeModel", "isDigit", "()Z"⟩, 91), (⟨"DepositJudgeModel", "readsNumber", "()Z"⟩, 91), (⟨"DepositJudgeModel", "notes", "(II)V"⟩, 91), (⟨"DepositJudgeModel", "closesSums", "(Z)V"⟩, 91), (⟨"DepositJudgeModel", "top", "()I"⟩, 91), (⟨"DepositJudgeModel", "hasOpenSum", "(I)Z"⟩, 91), (⟨"DepositJudgeModel", "readsCondition", "()Z"⟩, 91), (⟨"DepositJudgeModel", "readsCompared", "()Z"⟩, 91)]
theorem lw_r3 : ∀ q ∈ lw_privs_3, lw_okq q := List.forall_mem_cons.mpr ⟨lw_p32, List.forall_mem_cons.mpr ⟨lw_p33, List.forall_mem_cons.mpr ⟨lw_p34, List.forall_mem_cons.mpr ⟨lw_p35, List.forall_mem_cons.mpr ⟨lw_p36, List.forall_mem_cons.mpr ⟨lw_p37, List.forall_mem_cons.mpr ⟨lw_p38, List.forall_mem_cons.mpr ⟨lw_p39, List.forall_mem_cons.mpr ⟨lw_p40, List.forall_mem_cons.mpr ⟨lw_p41, List.forall_mem_cons.mpr ⟨lw_p42, List.forall_mem_cons.mpr ⟨lw_p43, List.forall_mem_cons.mpr ⟨lw_p44, List.forall_mem_cons.mpr ⟨lw_p45, List.forall_mem_cons.mpr ⟨lw_p46, List.forall_mem_cons.mpr ⟨lw_p47, fun _ h => absurd h List.not_mem_nil⟩⟩⟩⟩⟩⟩⟩⟩⟩⟩⟩⟩⟩⟩⟩⟩
theorem lw_p48 : lw_okq (⟨"DepositJudgeModel", "endsPiece", "()V"⟩, 91) := ⟨⟨by decide +kernel, by decide +kernel⟩, List.mem_of_getElem? (i := 912) (by decide +kernel), List.mem_of_getElem? (i := 1314) (by decide +kernel), List.mem_of_getElem? (i := 1315) (by decide +kernel)⟩
theorem lw_p49 : lw_okq (⟨"DepositJudgeModel", "lands", "(Z)V"⟩, 91) := ⟨⟨by decide +kernel, by decide +kernel⟩, List.mem_of_getElem? (i := 912) (by decide +kernel), List.mem_of_getElem? (i := 1318) (by decide +kernel), List.mem_of_getElem? (i := 1319) (by decide +kernel)⟩
theorem lw_p50 : lw_okq (⟨"DepositJudgeModel", "jumps", "(I)V"⟩, 91) := ⟨⟨by decide +kernel, by decide +kernel⟩, List.mem_of_getElem? (i := 912) (by decide +kernel), List.mem_of_getElem? (i := 1322) (by decide +kernel), List.mem_of_getElem? (i := 1323) (by decide +kernel)⟩
theorem lw_p51 : lw_okq (⟨"DepositJudgeModel", "takes", "(I)Z"⟩, 91) := ⟨⟨by decide +kernel, by decide +kernel⟩, List.mem_of_getElem? (i := 912) (by decide +kernel), List.mem_of_getElem? (i := 1326) (by decide +kernel), List.mem_of_getElem? (i := 1327) (by decide +kernel)⟩
theorem lw_p52 : lw_okq (⟨"DepositJudgeModel", "isFirst", "(II)Z"⟩, 91) := ⟨⟨by decide +kernel, by decide +kernel⟩, List.mem_of_getElem? (i := 912) (by decide +kernel), List.mem_of_getElem? (i := 1334) (by decide +kernel), List.mem_of_getElem? (i := 1335) (by decide +kernel)⟩
theorem lw_p53 : lw_okq (⟨"DepositJudgeModel", "laysJoined", "(I)V"⟩, 91) := ⟨⟨by decide +kernel, by decide +kernel⟩, List.mem_of_getElem? (i := 912) (by decide +kernel), List.mem_of_getElem? (i := 1338) (by decide +kernel), List.mem_of_getElem? (i := 1339) (by decide +kernel)⟩
theorem lw_p54 : lw_okq (⟨"DepositJudgeModel", "joinsAll", "(II)V"⟩, 91) := ⟨⟨by decide +kernel, by decide +kernel⟩, List.mem_of_getElem? (i := 912) (by decide +kernel), List.mem_of_getElem? (i := 1342) (by decide +kernel), List.mem_of_getElem? (i := 1343) (by decide +kernel)⟩
theorem lw_p55 : lw_okq (⟨"DepositJudgeModel", "isLike", "(IIII)Z"⟩, 91) := ⟨⟨by decide +kernel, by decide +kernel⟩, List.mem_of_getElem? (i := 912) (by decide +kernel), List.mem_of_getElem? (i := 1346) (by decide +kernel), List.mem_of_getElem? (i := 1347) (by decide +kernel)⟩
theorem lw_p56 : lw_okq (⟨"DepositJudgeModel", "isOf", "(IIII)Z"⟩, 91) := ⟨⟨by decide +kernel, by decide +kernel⟩, List.mem_of_getElem? (i := 912) (by decide +kernel), List.mem_of_getElem? (i := 1350) (by decide +kernel), List.mem_of_getElem? (i := 1351) (by decide +kernel)⟩
theorem lw_p57 : lw_okq (⟨"DepositJudgeModel", "keptMost", "()I"⟩, 91) := ⟨⟨by decide +kernel, by decide +kernel⟩, List.mem_of_getElem? (i := 912) (by decide +kernel), List.mem_of_getElem? (i := 1354) (by decide +kernel), List.mem_of_getElem? (i := 1355) (by decide +kernel)⟩
theorem lw_p58 : lw_okq (⟨"DepositJudgeModel", "joinsOne", "(IIIII)I"⟩, 91) := ⟨⟨by decide +kernel, by decide +kernel⟩, List.mem_of_getElem? (i := 912) (by decide +kernel), List.mem_of_getElem? (i := 1358) (by decide +kernel), List.mem_of_getElem? (i := 1359) (by decide +kernel)⟩
theorem lw_p59 : lw_okq (⟨"DepositJudgeModel", "changeOf", "(II)I"⟩, 91) := ⟨⟨by decide +kernel, by decide +kernel⟩, List.mem_of_getElem? (i := 912) (by decide +kernel), List.mem_of_getElem? (i := 1362) (by decide +kernel), List.mem_of_getElem? (i := 1363) (by decide +kernel)⟩
theorem lw_p60 : lw_okq (⟨"DepositJudgeModel", "stateAtLast", "(II)I"⟩, 91) := ⟨⟨by decide +kernel, by decide +kernel⟩, List.mem_of_getElem? (i := 912) (by decide +kernel), List.mem_of_getElem? (i := 1366) (by decide +kernel), List.mem_of_getElem? (i := 1367) (by decide +kernel)⟩
theorem lw_p61 : lw_okq (⟨"DepositJudgeModel", "wearOf", "(II)I"⟩, 91) := ⟨⟨by decide +kernel, by decide +kernel⟩, List.mem_of_getElem? (i := 912) (by decide +kernel), List.mem_of_getElem? (i := 1370) (by decide +kernel), List.mem_of_getElem? (i := 1371) (by decide +kernel)⟩
theorem lw_p62 : lw_okq (⟨"DepositJudgeModel", "feelsThing", "(II)V"⟩, 91) := ⟨⟨by decide +kernel, by decide +kernel⟩, List.mem_of_getElem? (i := 912) (by decide +kernel), List.mem_of_getElem? (i := 1374) (by decide +kernel), List.mem_of_getElem? (i := 1375) (by decide +kernel)⟩
theorem lw_p63 : lw_okq (⟨"DepositJudgeModel", "feelsHome", "(I)V"⟩, 91) := ⟨⟨by decide +kernel, by decide +kernel⟩, List.mem_of_getElem? (i := 912) (by decide +kernel), List.mem_of_getElem? (i := 1378) (by decide +kernel), List.mem_of_getElem? (i := 1379) (by decide +kernel)⟩
def lw_privs_4 : List (MethodName × Nat) := [(⟨"DepositJudgeModel", "endsPiece", "()V"⟩, 91), (⟨"DepositJudgeModel", "lands", "(Z)V"⟩, 91), (⟨"DepositJudgeModel", "jumps", "(I)V"⟩, 91), (⟨"DepositJudgeModel", "takes", "(I)Z"⟩, 91), (⟨"DepositJudgeModel", "isFirst", "(II)Z"⟩, 91), (⟨"DepositJudgeModel", "laysJoined", "(I)V"⟩, 91), (⟨"DepositJudgeModel", "joinsAll", "(II)V"⟩, 91), (⟨"DepositJudgeModel", "isLike", "(IIII)Z"⟩, 91), (⟨"DepositJudgeModel", "isOf", "(IIII)Z"⟩, 91), (⟨"DepositJudgeModel", "keptMost", "()I"⟩, 91), (⟨"DepositJudgeModel", "joinsOne", "(IIIII)I"⟩, 91), (⟨"DepositJudgeModel", "changeOf", "(II)I"⟩, 91), (⟨"DepositJudgeModel", "stateAtLast", "(II)I"⟩, 91), (⟨"DepositJudgeModel", "wearOf", "(II)I"⟩, 91), (⟨"DepositJudgeModel", "feelsThing", "(II)V"⟩, 91), (⟨"DepositJudgeModel", "feelsHome", "(I)V"⟩, 91)]
theorem lw_r4 : ∀ q ∈ lw_privs_4, lw_okq q := List.forall_mem_cons.mpr ⟨lw_p48, List.forall_mem_cons.mpr ⟨lw_p49, List.forall_mem_cons.mpr ⟨lw_p50, List.forall_mem_cons.mpr ⟨lw_p51, List.forall_mem_cons.mpr ⟨lw_p52, List.forall_mem_cons.mpr ⟨lw_p53, List.forall_mem_cons.mpr ⟨lw_p54, List.forall_mem_cons.mpr ⟨lw_p55, List.forall_mem_cons.mpr ⟨lw_p56, List.forall_mem_cons.mpr ⟨lw_p57, List.forall_mem_cons.mpr ⟨lw_p58, List.forall_mem_cons.mpr ⟨lw_p59, List.forall_mem_cons.mpr ⟨lw_p60, List.forall_mem_cons.mpr ⟨lw_p61, List.forall_mem_cons.mpr ⟨lw_p62, List.forall_mem_cons.mpr ⟨lw_p63, fun _ h => absurd h List.not_mem_nil⟩⟩⟩⟩⟩⟩⟩⟩⟩⟩⟩⟩⟩⟩⟩⟩
theorem lw_p64 : lw_okq (⟨"DepositJudgeModel", "monthsOf", "(I)I"⟩, 91) := ⟨⟨by decide +kernel, by decide +kernel⟩, List.mem_of_getElem? (i := 912) (by decide +kernel), List.mem_of_getElem? (i := 1382) (by decide +kernel), List.mem_of_getElem? (i := 1383) (by decide +kernel)⟩
theorem lw_p65 : lw_okq (⟨"DepositJudgeModel", "agedOf", "(II)I"⟩, 91) := ⟨⟨by decide +kernel, by decide +kernel⟩, List.mem_of_getElem? (i := 912) (by decide +kernel), List.mem_of_getElem? (i := 1386) (by decide +kernel), List.mem_of_getElem? (i := 1387) (by decide +kernel)⟩
theorem lw_p66 : lw_okq (⟨"DepositJudgeModel", "byLaw", "(III)I"⟩, 91) := ⟨⟨by decide +kernel, by decide +kernel⟩, List.mem_of_getElem? (i := 912) (by decide +kernel), List.mem_of_getElem? (i := 1390) (by decide +kernel), List.mem_of_getElem? (i := 1391) (by decide +kernel)⟩
theorem lw_p67 : lw_okq (⟨"DepositJudgeModel", "comesTo", "(II)I"⟩, 91) := ⟨⟨by decide +kernel, by decide +kernel⟩, List.mem_of_getElem? (i := 912) (by decide +kernel), List.mem_of_getElem? (i := 1394) (by decide +kernel), List.mem_of_getElem? (i := 1395) (by decide +kernel)⟩
theorem lw_p68 : lw_okq (⟨"DepositJudgeModel", "worthAt", "(III)I"⟩, 91) := ⟨⟨by decide +kernel, by decide +kernel⟩, List.mem_of_getElem? (i := 912) (by decide +kernel), List.mem_of_getElem? (i := 1401) (by decide +kernel), List.mem_of_getElem? (i := 1402) (by decide +kernel)⟩
theorem lw_p69 : lw_okq (⟨"DepositJudgeModel", "lostOf", "(II)I"⟩, 91) := ⟨⟨by decide +kernel, by decide +kernel⟩, List.mem_of_getElem? (i := 912) (by decide +kernel), List.mem_of_getElem? (i := 1405) (by decide +kernel), List.mem_of_getElem? (i := 1406) (by decide +kernel)⟩
theorem lw_p70 : lw_okq (⟨"DepositJudgeModel", "isClaim", "(I)Z"⟩, 91) := ⟨⟨by decide +kernel, by decide +kernel⟩, List.mem_of_getElem? (i := 912) (by decide +kernel), List.mem_of_getElem? (i := 1428) (by decide +kernel), List.mem_of_getElem? (i := 1429) (by decide +kernel)⟩
theorem lw_p71 : lw_okq (⟨"DepositJudgeModel", "awardOf", "(II)I"⟩, 91) := ⟨⟨by decide +kernel, by decide +kernel⟩, List.mem_of_getElem? (i := 912) (by decide +kernel), List.mem_of_getElem? (i := 1440) (by decide +kernel), List.mem_of_getElem? (i := 1441) (by decide +kernel)⟩
theorem lw_p72 : lw_okq (⟨"DepositJudgeModel", "awards", "(II)I"⟩, 91) := ⟨⟨by decide +kernel, by decide +kernel⟩, List.mem_of_getElem? (i := 912) (by decide +kernel), List.mem_of_getElem? (i := 1444) (by decide +kernel), List.mem_of_getElem? (i := 1445) (by decide +kernel)⟩
theorem lw_p73 : lw_okq (⟨"DepositJudgeModel", "feelsClaim", "(I)V"⟩, 91) := ⟨⟨by decide +kernel, by decide +kernel⟩, List.mem_of_getElem? (i := 912) (by decide +kernel), List.mem_of_getElem? (i := 1448) (by decide +kernel), List.mem_of_getElem? (i := 1449) (by decide +kernel)⟩
theorem lw_p74 : lw_okq (⟨"DepositJudgeModel", "anyB", "()Z"⟩, 91) := ⟨⟨by decide +kernel, by decide +kernel⟩, List.mem_of_getElem? (i := 912) (by decide +kernel), List.mem_of_getElem? (i := 1452) (by decide +kernel), List.mem_of_getElem? (i := 1453) (by decide +kernel)⟩
theorem lw_p75 : lw_okq (⟨"DepositJudgeModel", "partOfLost", "(III)I"⟩, 91) := ⟨⟨by decide +kernel, by decide +kernel⟩, List.mem_of_getElem? (i := 912) (by decide +kernel), List.mem_of_getElem? (i := 1456) (by decide +kernel), List.mem_of_getElem? (i := 1457) (by decide +kernel)⟩
theorem lw_p76 : lw_okq (⟨"DepositJudgeModel", "hasEvidence", "(I)Z"⟩, 91) := ⟨⟨by decide +kernel, by decide +kernel⟩, List.mem_of_getElem? (i := 912) (by decide +kernel), List.mem_of_getElem? (i := 1460) (by decide +kernel), List.mem_of_getElem? (i := 1461) (by decide +kernel)⟩
theorem lw_p77 : lw_okq (⟨"DepositJudgeModel", "ownerGets", "(II)I"⟩, 91) := ⟨⟨by decide +kernel, by decide +kernel⟩, List.mem_of_getElem? (i := 912) (by decide +kernel), List.mem_of_getElem? (i := 1468) (by decide +kernel), List.mem_of_getElem? (i := 1469) (by decide +kernel)⟩
theorem lw_p78 : lw_okq (⟨"DepositJudgeModel", "awardsAll", "(II)I"⟩, 91) := ⟨⟨by decide +kernel, by decide +kernel⟩, List.mem_of_getElem? (i := 912) (by decide +kernel), List.mem_of_getElem? (i := 1472) (by decide +kernel), List.mem_of_getElem? (i := 1473) (by decide +kernel)⟩
theorem lw_p79 : lw_okq (⟨"DepositJudgeModel", "backOf", "(II)I"⟩, 91) := ⟨⟨by decide +kernel, by decide +kernel⟩, List.mem_of_getElem? (i := 912) (by decide +kernel), List.mem_of_getElem? (i := 1476) (by decide +kernel), List.mem_of_getElem? (i := 1477) (by decide +kernel)⟩
def lw_privs_5 : List (MethodName × Nat) := [(⟨"DepositJudgeModel", "monthsOf", "(I)I"⟩, 91), (⟨"DepositJudgeModel", "agedOf", "(II)I"⟩, 91), (⟨"DepositJudgeModel", "byLaw", "(III)I"⟩, 91), (⟨"DepositJudgeModel", "comesTo", "(II)I"⟩, 91), (⟨"DepositJudgeModel", "worthAt", "(III)I"⟩, 91), (⟨"DepositJudgeModel", "lostOf", "(II)I"⟩, 91), (⟨"DepositJudgeModel", "isClaim", "(I)Z"⟩, 91), (⟨"DepositJudgeModel", "awardOf", "(II)I"⟩, 91), (⟨"DepositJudgeModel", "awards", "(II)I"⟩, 91), (⟨"DepositJudgeModel", "feelsClaim", "(I)V"⟩, 91), (⟨"DepositJudgeModel", "anyB", "()Z"⟩, 91), (⟨"DepositJudgeModel", "partOfLost", "(III)I"⟩, 91), (⟨"DepositJudgeModel", "hasEvidence", "(I)Z"⟩, 91), (⟨"DepositJudgeModel", "ownerGets", "(II)I"⟩, 91), (⟨"DepositJudgeModel", "awardsAll", "(II)I"⟩, 91), (⟨"DepositJudgeModel", "backOf", "(II)I"⟩, 91)]
theorem lw_r5 : ∀ q ∈ lw_privs_5, lw_okq q := List.forall_mem_cons.mpr ⟨lw_p64, List.forall_mem_cons.mpr ⟨lw_p65, List.forall_mem_cons.mpr ⟨lw_p66, List.forall_mem_cons.mpr ⟨lw_p67, List.forall_mem_cons.mpr ⟨lw_p68, List.forall_mem_cons.mpr ⟨lw_p69, List.forall_mem_cons.mpr ⟨lw_p70, List.forall_mem_cons.mpr ⟨lw_p71, List.forall_mem_cons.mpr ⟨lw_p72, List.forall_mem_cons.mpr ⟨lw_p73, List.forall_mem_cons.mpr ⟨lw_p74, List.forall_mem_cons.mpr ⟨lw_p75, List.forall_mem_cons.mpr ⟨lw_p76, List.forall_mem_cons.mpr ⟨lw_p77, List.forall_mem_cons.mpr ⟨lw_p78, List.forall_mem_cons.mpr ⟨lw_p79, fun _ h => absurd h List.not_mem_nil⟩⟩⟩⟩⟩⟩⟩⟩⟩⟩⟩⟩⟩⟩⟩⟩
theorem lw_p80 : lw_okq (⟨"DepositJudgeModel", "penaltyOf", "(I)I"⟩, 91) := ⟨⟨by decide +kernel, by decide +kernel⟩, List.mem_of_getElem? (i := 912) (by decide +kernel), List.mem_of_getElem? (i := 1480) (by decide +kernel), List.mem_of_getElem? (i := 1481) (by decide +kernel)⟩
theorem lw_p81 : lw_okq (⟨"DepositJudgeModel", "sharesOut", "(IJ)V"⟩, 91) := ⟨⟨by decide +kernel, by decide +kernel⟩, List.mem_of_getElem? (i := 912) (by decide +kernel), List.mem_of_getElem? (i := 1484) (by decide +kernel), List.mem_of_getElem? (i := 1485) (by decide +kernel)⟩
theorem lw_p82 : lw_okq (⟨"DepositJudgeModel", "laysHarmed", "()V"⟩, 91) := ⟨⟨by decide +kernel, by decide +kernel⟩, List.mem_of_getElem? (i := 912) (by decide +kernel), List.mem_of_getElem? (i := 1533) (by decide +kernel), List.mem_of_getElem? (i := 1534) (by decide +kernel)⟩
theorem lw_p83 : lw_okq (⟨"DepositJudgeModel", "distance", "(II)I"⟩, 91) := ⟨⟨by decide +kernel, by decide +kernel⟩, List.mem_of_getElem? (i := 912) (by decide +kernel), List.mem_of_getElem? (i := 1537) (by decide +kernel), List.mem_of_getElem? (i := 1538) (by decide +kernel)⟩
theorem lw_p84 : lw_okq (⟨"DepositJudgeModel", "laysFacts", "()V"⟩, 91) := ⟨⟨by decide +kernel, by decide +kernel⟩, List.mem_of_getElem? (i := 912) (by decide +kernel), List.mem_of_getElem? (i := 1550) (by decide +kernel), List.mem_of_getElem? (i := 1551) (by decide +kernel)⟩
theorem lw_p85 : lw_okq (⟨"DepositJudgeModel", "tellsFact", "(I)V"⟩, 91) := ⟨⟨by decide +kernel, by decide +kernel⟩, List.mem_of_getElem? (i := 912) (by decide +kernel), List.mem_of_getElem? (i := 1555) (by decide +kernel), List.mem_of_getElem? (i := 1556) (by decide +kernel)⟩
theorem lw_p86 : lw_okq (⟨"DepositJudgeModel", "tapeNumber", "(I)I"⟩, 91) := ⟨⟨by decide +kernel, by decide +kernel⟩, List.mem_of_getElem? (i := 912) (by decide +kernel), List.mem_of_getElem? (i := 1585) (by decide +kernel), List.mem_of_getElem? (i := 1586) (by decide +kernel)⟩
def lw_privs_6 : List (MethodName × Nat) := [(⟨"DepositJudgeModel", "penaltyOf", "(I)I"⟩, 91), (⟨"DepositJudgeModel", "sharesOut", "(IJ)V"⟩, 91), (⟨"DepositJudgeModel", "laysHarmed", "()V"⟩, 91), (⟨"DepositJudgeModel", "distance", "(II)I"⟩, 91), (⟨"DepositJudgeModel", "laysFacts", "()V"⟩, 91), (⟨"DepositJudgeModel", "tellsFact", "(I)V"⟩, 91), (⟨"DepositJudgeModel", "tapeNumber", "(I)I"⟩, 91)]
theorem lw_r6 : ∀ q ∈ lw_privs_6, lw_okq q := List.forall_mem_cons.mpr ⟨lw_p80, List.forall_mem_cons.mpr ⟨lw_p81, List.forall_mem_cons.mpr ⟨lw_p82, List.forall_mem_cons.mpr ⟨lw_p83, List.forall_mem_cons.mpr ⟨lw_p84, List.forall_mem_cons.mpr ⟨lw_p85, List.forall_mem_cons.mpr ⟨lw_p86, fun _ h => absurd h List.not_mem_nil⟩⟩⟩⟩⟩⟩⟩
def lw_privs : List (MethodName × Nat) := lw_privs_1 ++ (lw_privs_2 ++ (lw_privs_3 ++ (lw_privs_4 ++ (lw_privs_5 ++ (lw_privs_6)))))
def lw_tbl : List Cond := k2_sels lw_privs ++ tables_1
theorem lw_privs_ok : ∀ q ∈ lw_privs, lw_okq q := by
  show ∀ q ∈ lw_privs_1 ++ (lw_privs_2 ++ (lw_privs_3 ++ (lw_privs_4 ++ (lw_privs_5 ++ (lw_privs_6))))), lw_okq q
  exact List.forall_mem_append.mpr ⟨lw_r1, List.forall_mem_append.mpr ⟨lw_r2, List.forall_mem_append.mpr ⟨lw_r3, List.forall_mem_append.mpr ⟨lw_r4, List.forall_mem_append.mpr ⟨lw_r5, lw_r6⟩⟩⟩⟩⟩
-- ===== end of PART A; then your names; then what follows =====
end
section
def RX0 : String := "DepositJudge$Division"
def TX0 : u_T := fun k => match k with
  | 0 => ("DepositJudge$Division", "shares", "[I", true)
  | _ => ("DepositJudge$Division", "rests", "[I", true)
def tyX0 : Nat → FieldType := fun k => match k with
  | 0 => .array .int
  | _ => .array .int
abbrev wsX00 : List Cond := u_ws RX0 TX0 2
theorem nmX0 : ∀ a, a < 2 → ∀ b, b < 2 → a ≠ b → (TX0 a).2.1 ≠ (TX0 b).2.1 := by decide +kernel
theorem tyX0_ok : ∀ k, k < 2 → parseFieldDescriptor (TX0 k).2.2.1 = some (tyX0 k) := by decide +kernel
abbrev cX0_init : ByteArray := prog_2_method_1_code
def yX0_init : MethodName := ⟨RX0, "<init>", "()V"⟩
abbrev cX0_divide : ByteArray := prog_2_method_2_code
def yX0_divide : MethodName := ⟨RX0, "divide", "(ILDepositJudge$Home;)V"⟩
abbrev cX0_firstUnlike : ByteArray := prog_2_method_3_code
def yX0_firstUnlike : MethodName := ⟨RX0, "firstUnlike", "(LDepositJudge$Tape;I)I"⟩
abbrev cX0_greatestRest : ByteArray := prog_2_method_4_code
def yX0_greatestRest : MethodName := ⟨RX0, "greatestRest", "(I)I"⟩
def RX1 : String := "DepositJudge$Docket"
def TX1 : u_T := fun k => match k with
  | 0 => ("DepositJudge$Docket", "claims", "I", false)
  | 1 => ("DepositJudge$Docket", "homes", "[I", true)
  | 2 => ("DepositJudge$Docket", "things", "[I", true)
  | 3 => ("DepositJudge$Docket", "causes", "[I", true)
  | 4 => ("DepositJudge$Docket", "evidences", "[I", true)
  | 5 => ("DepositJudge$Docket", "madeOn", "[I", true)
  | 6 => ("DepositJudge$Docket", "agreed", "[I", true)
  | 7 => ("DepositJudge$Docket", "answeredOn", "[I", true)
  | 8 => ("DepositJudge$Docket", "proof", "[Z", true)
  | 9 => ("DepositJudge$Docket", "ownerOffers", "[I", true)
  | 10 => ("DepositJudge$Docket", "tenantOffers", "[I", true)
  | _ => ("DepositJudge$Docket", "x", "I", false)
def tyX1 : Nat → FieldType := fun k => match k with
  | 0 => .int
  | 1 => .array .int
  | 2 => .array .int
  | 3 => .array .int
  | 4 => .array .int
  | 5 => .array .int
  | 6 => .array .int
  | 7 => .array .int
  | 8 => .array .boolean
  | 9 => .array .int
  | 10 => .array .int
  | _ => .int
abbrev wsX10 : List Cond := u_ws RX1 TX1 12
theorem nmX1 : ∀ a, a < 12 → ∀ b, b < 12 → a ≠ b → (TX1 a).2.1 ≠ (TX1 b).2.1 := by decide +kernel
theorem tyX1_ok : ∀ k, k < 12 → parseFieldDescriptor (TX1 k).2.2.1 = some (tyX1 k) := by decide +kernel
abbrev cX1_init : ByteArray := prog_3_method_1_code
def yX1_init : MethodName := ⟨RX1, "<init>", "()V"⟩
abbrev cX1_add : ByteArray := prog_3_method_2_code
def yX1_add : MethodName := ⟨RX1, "add", "(IIIII)I"⟩
abbrev cX1_isClaimed : ByteArray := prog_3_method_3_code
def yX1_isClaimed : MethodName := ⟨RX1, "isClaimed", "(II)Z"⟩
abbrev cX1_isAnsweredBy : ByteArray := prog_3_method_4_code
def yX1_isAnsweredBy : MethodName := ⟨RX1, "isAnsweredBy", "(II)Z"⟩
abbrev cX1_hasBothOffers : ByteArray := prog_3_method_5_code
def yX1_hasBothOffers : MethodName := ⟨RX1, "hasBothOffers", "(I)Z"⟩
abbrev cX1_dropOffers : ByteArray := prog_3_method_6_code
def yX1_dropOffers : MethodName := ⟨RX1, "dropOffers", "(I)V"⟩
abbrev cX1_copyFrom : ByteArray := prog_3_method_7_code
def yX1_copyFrom : MethodName := ⟨RX1, "copyFrom", "(LDepositJudge$Docket;)V"⟩
def RX2 : String := "DepositJudge$Doubles"
def TX2 : u_T := fun k => match k with
  | 0 => ("DepositJudge$Doubles", "count", "I", false)
  | 1 => ("DepositJudge$Doubles", "times", "[I", true)
  | 2 => ("DepositJudge$Doubles", "apart", "[I", true)
  | _ => ("DepositJudge$Doubles", "more", "[I", true)
def tyX2 : Nat → FieldType := fun k => match k with
  | 0 => .int
  | 1 => .array .int
  | 2 => .array .int
  | _ => .array .int
abbrev wsX20 : List Cond := u_ws RX2 TX2 4
theorem nmX2 : ∀ a, a < 4 → ∀ b, b < 4 → a ≠ b → (TX2 a).2.1 ≠ (TX2 b).2.1 := by decide +kernel
theorem tyX2_ok : ∀ k, k < 4 → parseFieldDescriptor (TX2 k).2.2.1 = some (tyX2 k) := by decide +kernel
abbrev cX2_init : ByteArray := prog_4_method_1_code
def yX2_init : MethodName := ⟨RX2, "<init>", "()V"⟩
abbrev cX2_add : ByteArray := prog_4_method_2_code
def yX2_add : MethodName := ⟨RX2, "add", "(II)V"⟩
def RX3 : String := "DepositJudge$Home"
def TX3 : u_T := fun k => match k with
  | 0 => ("DepositJudge$Home", "region", "I", true)
  | 1 => ("DepositJudge$Home", "tenants", "I", true)
  | 2 => ("DepositJudge$Home", "deposit", "I", true)
  | 3 => ("DepositJudge$Home", "from", "I", true)
  | 4 => ("DepositJudge$Home", "to", "I", true)
  | 5 => ("DepositJudge$Home", "kept", "Z", true)
  | 6 => ("DepositJudge$Home", "parts", "[I", true)
  | 7 => ("DepositJudge$Home", "debts", "[I", true)
  | 8 => ("DepositJudge$Home", "kin", "[Z", true)
  | 9 => ("DepositJudge$Home", "atFirst", "LDepositJudge$Things;", true)
  | 10 => ("DepositJudge$Home", "atLast", "LDepositJudge$Things;", true)
  | _ => ("DepositJudge$Home", "joined", "[I", true)
def tyX3 : Nat → FieldType := fun k => match k with
  | 0 => .int
  | 1 => .int
  | 2 => .int
  | 3 => .int
  | 4 => .int
  | 5 => .boolean
  | 6 => .array .int
  | 7 => .array .int
  | 8 => .array .boolean
  | 9 => .object "DepositJudge$Things"
  | 10 => .object "DepositJudge$Things"
  | _ => .array .int
abbrev wsX30 : List Cond := u_ws RX3 TX3 12
theorem nmX3 : ∀ a, a < 12 → ∀ b, b < 12 → a ≠ b → (TX3 a).2.1 ≠ (TX3 b).2.1 := by decide +kernel
theorem tyX3_ok : ∀ k, k < 12 → parseFieldDescriptor (TX3 k).2.2.1 = some (tyX3 k) := by decide +kernel
abbrev cX3_init : ByteArray := prog_5_method_1_code
def yX3_init : MethodName := ⟨RX3, "<init>", "(IIIIIZ)V"⟩
abbrev cX3_months : ByteArray := prog_5_method_2_code
def yX3_months : MethodName := ⟨RX3, "months", "()I"⟩
abbrev cX3_owed : ByteArray := prog_5_method_3_code
def yX3_owed : MethodName := ⟨RX3, "owed", "()I"⟩
abbrev cX3_allAreKin : ByteArray := prog_5_method_4_code
def yX3_allAreKin : MethodName := ⟨RX3, "allAreKin", "()Z"⟩
abbrev cX3_isGone : ByteArray := prog_5_method_5_code
def yX3_isGone : MethodName := ⟨RX3, "isGone", "(I)Z"⟩
abbrev cX3_stateAtLast : ByteArray := prog_5_method_6_code
def yX3_stateAtLast : MethodName := ⟨RX3, "stateAtLast", "(I)I"⟩
abbrev cX3_change : ByteArray := prog_5_method_7_code
def yX3_change : MethodName := ⟨RX3, "change", "(I)I"⟩
abbrev cX3_isJoinedTo : ByteArray := prog_5_method_8_code
def yX3_isJoinedTo : MethodName := ⟨RX3, "isJoinedTo", "(I)Z"⟩
abbrev cX3_worsened : ByteArray := prog_5_method_9_code
def yX3_worsened : MethodName := ⟨RX3, "worsened", "(I)I"⟩
def RX4 : String := "DepositJudge$Joiner"
def TX4 : u_T := fun k => match k with
  | 0 => ("DepositJudge$Joiner", "lack", "[I", true)
  | _ => ("DepositJudge$Joiner", "taken", "[Z", true)
def tyX4 : Nat → FieldType := fun k => match k with
  | 0 => .array .int
  | _ => .array .boolean
abbrev wsX40 : List Cond := u_ws RX4 TX4 2
theorem nmX4 : ∀ a, a < 2 → ∀ b, b < 2 → a ≠ b → (TX4 a).2.1 ≠ (TX4 b).2.1 := by decide +kernel
theorem tyX4_ok : ∀ k, k < 2 → parseFieldDescriptor (TX4 k).2.2.1 = some (tyX4 k) := by decide +kernel
abbrev cX4_init : ByteArray := prog_6_method_1_code
def yX4_init : MethodName := ⟨RX4, "<init>", "()V"⟩
abbrev cX4_join : ByteArray := prog_6_method_2_code
def yX4_join : MethodName := ⟨RX4, "join", "(LDepositJudge$Home;II)V"⟩
abbrev cX4_begin : ByteArray := prog_6_method_3_code
def yX4_begin : MethodName := ⟨RX4, "begin", "(LDepositJudge$Home;II)V"⟩
abbrev cX4_change : ByteArray := prog_6_method_4_code
def yX4_change : MethodName := ⟨RX4, "change", "(II)V"⟩
abbrev cX4_lowestFit : ByteArray := prog_6_method_5_code
def yX4_lowestFit : MethodName := ⟨RX4, "lowestFit", "(LDepositJudge$Home;I)I"⟩
abbrev cX4_fits : ByteArray := prog_6_method_6_code
def yX4_fits : MethodName := ⟨RX4, "fits", "(II)Z"⟩
def RX5 : String := "DepositJudge$Law"
def TX5 : u_T := fun k => match k with
  | 0 => ("DepositJudge$Law", "clauses", "I", false)
  | 1 => ("DepositJudge$Law", "steps", "I", false)
  | 2 => ("DepositJudge$Law", "clauseLetters", "[I", true)
  | 3 => ("DepositJudge$Law", "amountsFrom", "[I", true)
  | 4 => ("DepositJudge$Law", "testsFrom", "[I", true)
  | 5 => ("DepositJudge$Law", "testsTo", "[I", true)
  | 6 => ("DepositJudge$Law", "signs", "[I", true)
  | 7 => ("DepositJudge$Law", "operands", "[I", true)
  | _ => ("DepositJudge$Law", "stack", "[I", true)
def tyX5 : Nat → FieldType := fun k => match k with
  | 0 => .int
  | 1 => .int
  | 2 => .array .int
  | 3 => .array .int
  | 4 => .array .int
  | 5 => .array .int
  | 6 => .array .int
  | 7 => .array .int
  | _ => .array .int
abbrev wsX50 : List Cond := u_ws RX5 TX5 9
theorem nmX5 : ∀ a, a < 9 → ∀ b, b < 9 → a ≠ b → (TX5 a).2.1 ≠ (TX5 b).2.1 := by decide +kernel
theorem tyX5_ok : ∀ k, k < 9 → parseFieldDescriptor (TX5 k).2.2.1 = some (tyX5 k) := by decide +kernel
abbrev cX5_init : ByteArray := prog_7_method_1_code
def yX5_init : MethodName := ⟨RX5, "<init>", "()V"⟩
abbrev cX5_clear : ByteArray := prog_7_method_2_code
def yX5_clear : MethodName := ⟨RX5, "clear", "()V"⟩
abbrev cX5_isFull : ByteArray := prog_7_method_3_code
def yX5_isFull : MethodName := ⟨RX5, "isFull", "()Z"⟩
abbrev cX5_beginClause : ByteArray := prog_7_method_4_code
def yX5_beginClause : MethodName := ⟨RX5, "beginClause", "(I)V"⟩
abbrev cX5_beginTest : ByteArray := prog_7_method_5_code
def yX5_beginTest : MethodName := ⟨RX5, "beginTest", "()V"⟩
abbrev cX5_endClause : ByteArray := prog_7_method_6_code
def yX5_endClause : MethodName := ⟨RX5, "endClause", "()V"⟩
abbrev cX5_add : ByteArray := prog_7_method_7_code
def yX5_add : MethodName := ⟨RX5, "add", "(II)I"⟩
abbrev cX5_aim : ByteArray := prog_7_method_8_code
def yX5_aim : MethodName := ⟨RX5, "aim", "(I)V"⟩
abbrev cX5_amount : ByteArray := prog_7_method_9_code
def yX5_amount : MethodName := ⟨RX5, "amount", "(I[III)I"⟩
abbrev cX5_someHolds : ByteArray := prog_7_method_10_code
def yX5_someHolds : MethodName := ⟨RX5, "someHolds", "(I[I)Z"⟩
abbrev cX5_run : ByteArray := prog_7_method_11_code
def yX5_run : MethodName := ⟨RX5, "run", "(II[I)I"⟩
abbrev cX5_combine : ByteArray := prog_7_method_12_code
def yX5_combine : MethodName := ⟨RX5, "combine", "(III)I"⟩
def RX6 : String := "DepositJudge$LawReader"
def TX6 : u_T := fun k => match k with
  | 0 => ("DepositJudge$LawReader", "draft", "LDepositJudge$Law;", false)
  | 1 => ("DepositJudge$LawReader", "text", "[B", true)
  | 2 => ("DepositJudge$LawReader", "end", "I", false)
  | 3 => ("DepositJudge$LawReader", "at", "I", false)
  | _ => ("DepositJudge$LawReader", "fault", "I", false)
def tyX6 : Nat → FieldType := fun k => match k with
  | 0 => .object "DepositJudge$Law"
  | 1 => .array .byte
  | 2 => .int
  | 3 => .int
  | _ => .int
abbrev wsX60 : List Cond := u_ws RX6 TX6 5
theorem nmX6 : ∀ a, a < 5 → ∀ b, b < 5 → a ≠ b → (TX6 a).2.1 ≠ (TX6 b).2.1 := by decide +kernel
theorem tyX6_ok : ∀ k, k < 5 → parseFieldDescriptor (TX6 k).2.2.1 = some (tyX6 k) := by decide +kernel
abbrev cX6_init : ByteArray := prog_8_method_1_code
def yX6_init : MethodName := ⟨RX6, "<init>", "()V"⟩
abbrev cX6_read : ByteArray := prog_8_method_2_code
def yX6_read : MethodName := ⟨RX6, "read", "(LDepositJudge$Tape;I)I"⟩
abbrev cX6_beginClause : ByteArray := prog_8_method_3_code
def yX6_beginClause : MethodName := ⟨RX6, "beginClause", "(I)Z"⟩
abbrev cX6_beginTest : ByteArray := prog_8_method_4_code
def yX6_beginTest : MethodName := ⟨RX6, "beginTest", "()Z"⟩
abbrev cX6_endClause : ByteArray := prog_8_method_5_code
def yX6_endClause : MethodName := ⟨RX6, "endClause", "()Z"⟩
abbrev cX6_condition : ByteArray := prog_8_method_6_code
def yX6_condition : MethodName := ⟨RX6, "condition", "(IC)Z"⟩
abbrev cX6_piece : ByteArray := prog_8_method_7_code
def yX6_piece : MethodName := ⟨RX6, "piece", "(I)Z"⟩
abbrev cX6_expression : ByteArray := prog_8_method_8_code
def yX6_expression : MethodName := ⟨RX6, "expression", "(IZ)Z"⟩
abbrev cX6_factor : ByteArray := prog_8_method_9_code
def yX6_factor : MethodName := ⟨RX6, "factor", "(I)Z"⟩
abbrev cX6_number : ByteArray := prog_8_method_10_code
def yX6_number : MethodName := ⟨RX6, "number", "()Z"⟩
abbrev cX6_pass : ByteArray := prog_8_method_11_code
def yX6_pass : MethodName := ⟨RX6, "pass", "(C)Z"⟩
abbrev cX6_peek : ByteArray := prog_8_method_12_code
def yX6_peek : MethodName := ⟨RX6, "peek", "()I"⟩
abbrev cX6_refuse : ByteArray := prog_8_method_13_code
def yX6_refuse : MethodName := ⟨RX6, "refuse", "(I)Z"⟩
def RX7 : String := "DepositJudge$Pictures"
def TX7 : u_T := fun k => match k with
  | 0 => ("DepositJudge$Pictures", "facts", "I", false)
  | 1 => ("DepositJudge$Pictures", "wrongCount", "I", false)
  | 2 => ("DepositJudge$Pictures", "wrongFacts", "[I", true)
  | _ => ("DepositJudge$Pictures", "gaps", "[I", true)
def tyX7 : Nat → FieldType := fun k => match k with
  | 0 => .int
  | 1 => .int
  | 2 => .array .int
  | _ => .array .int
abbrev wsX70 : List Cond := u_ws RX7 TX7 4
theorem nmX7 : ∀ a, a < 4 → ∀ b, b < 4 → a ≠ b → (TX7 a).2.1 ≠ (TX7 b).2.1 := by decide +kernel
theorem tyX7_ok : ∀ k, k < 4 → parseFieldDescriptor (TX7 k).2.2.1 = some (tyX7 k) := by decide +kernel
abbrev cX7_init : ByteArray := prog_9_method_1_code
def yX7_init : MethodName := ⟨RX7, "<init>", "()V"⟩
abbrev cX7_gap : ByteArray := prog_9_method_2_code
def yX7_gap : MethodName := ⟨RX7, "gap", "(II)I"⟩
abbrev cX7_add : ByteArray := prog_9_method_3_code
def yX7_add : MethodName := ⟨RX7, "add", "(III)I"⟩
abbrev cX7_stretch : ByteArray := prog_9_method_4_code
def yX7_stretch : MethodName := ⟨RX7, "stretch", "(III)V"⟩
def RX8 : String := "DepositJudge$PriceList"
def TX8 : u_T := fun k => match k with
  | 0 => ("DepositJudge$PriceList", "lives", "[I", true)
  | _ => ("DepositJudge$PriceList", "pence", "[I", true)
def tyX8 : Nat → FieldType := fun k => match k with
  | 0 => .array .int
  | _ => .array .int
abbrev wsX80 : List Cond := u_ws RX8 TX8 2
theorem nmX8 : ∀ a, a < 2 → ∀ b, b < 2 → a ≠ b → (TX8 a).2.1 ≠ (TX8 b).2.1 := by decide +kernel
theorem tyX8_ok : ∀ k, k < 2 → parseFieldDescriptor (TX8 k).2.2.1 = some (tyX8 k) := by decide +kernel
abbrev cX8_init : ByteArray := prog_10_method_1_code
def yX8_init : MethodName := ⟨RX8, "<init>", "()V"⟩
abbrev cX8_worth : ByteArray := prog_10_method_2_code
def yX8_worth : MethodName := ⟨RX8, "worth", "(III)I"⟩
def RX9 : String := "DepositJudge$Tape"
def TX9 : u_T := fun k => match k with
  | 0 => ("DepositJudge$Tape", "bytes", "[B", true)
  | _ => ("DepositJudge$Tape", "length", "I", false)
def tyX9 : Nat → FieldType := fun k => match k with
  | 0 => .array .byte
  | _ => .int
abbrev wsX90 : List Cond := u_ws RX9 TX9 2
theorem nmX9 : ∀ a, a < 2 → ∀ b, b < 2 → a ≠ b → (TX9 a).2.1 ≠ (TX9 b).2.1 := by decide +kernel
theorem tyX9_ok : ∀ k, k < 2 → parseFieldDescriptor (TX9 k).2.2.1 = some (tyX9 k) := by decide +kernel
abbrev cX9_init : ByteArray := prog_11_method_1_code
def yX9_init : MethodName := ⟨RX9, "<init>", "()V"⟩
abbrev cX9_add : ByteArray := prog_11_method_2_code
def yX9_add : MethodName := ⟨RX9, "add", "(I)V"⟩
abbrev cX9_numberAt : ByteArray := prog_11_method_3_code
def yX9_numberAt : MethodName := ⟨RX9, "numberAt", "(I)I"⟩
def RX10 : String := "DepositJudge$Things"
def TX10 : u_T := fun k => match k with
  | 0 => ("DepositJudge$Things", "count", "I", false)
  | 1 => ("DepositJudge$Things", "rooms", "[I", true)
  | 2 => ("DepositJudge$Things", "kinds", "[I", true)
  | 3 => ("DepositJudge$Things", "states", "[I", true)
  | _ => ("DepositJudge$Things", "ages", "[I", true)
def tyX10 : Nat → FieldType := fun k => match k with
  | 0 => .int
  | 1 => .array .int
  | 2 => .array .int
  | 3 => .array .int
  | _ => .array .int
abbrev wsX100 : List Cond := u_ws RX10 TX10 5
theorem nmX10 : ∀ a, a < 5 → ∀ b, b < 5 → a ≠ b → (TX10 a).2.1 ≠ (TX10 b).2.1 := by decide +kernel
theorem tyX10_ok : ∀ k, k < 5 → parseFieldDescriptor (TX10 k).2.2.1 = some (tyX10 k) := by decide +kernel
abbrev cX10_init : ByteArray := prog_12_method_1_code
def yX10_init : MethodName := ⟨RX10, "<init>", "()V"⟩
abbrev cX10_add : ByteArray := prog_12_method_2_code
def yX10_add : MethodName := ⟨RX10, "add", "(IIII)I"⟩
abbrev cX10_isOf : ByteArray := prog_12_method_3_code
def yX10_isOf : MethodName := ⟨RX10, "isOf", "(III)Z"⟩
def RX11 : String := "DepositJudge"
def TX11 : u_T := fun k => match k with
  | 0 => ("DepositJudge", "prices", "LDepositJudge$PriceList;", true)
  | 1 => ("DepositJudge", "homes", "[LDepositJudge$Home;", true)
  | 2 => ("DepositJudge", "homeCount", "I", false)
  | 3 => ("DepositJudge", "joiner", "LDepositJudge$Joiner;", true)
  | 4 => ("DepositJudge", "tape", "LDepositJudge$Tape;", true)
  | 5 => ("DepositJudge", "reader", "LDepositJudge$LawReader;", true)
  | 6 => ("DepositJudge", "lawInForce", "LDepositJudge$Law;", false)
  | 7 => ("DepositJudge", "letters", "[I", true)
  | 8 => ("DepositJudge", "docket", "LDepositJudge$Docket;", true)
  | 9 => ("DepositJudge", "keptDocket", "LDepositJudge$Docket;", true)
  | 10 => ("DepositJudge", "wasKept", "Z", false)
  | 11 => ("DepositJudge", "division", "LDepositJudge$Division;", true)
  | 12 => ("DepositJudge", "doubles", "LDepositJudge$Doubles;", true)
  | _ => ("DepositJudge", "pictures", "LDepositJudge$Pictures;", true)
def tyX11 : Nat → FieldType := fun k => match k with
  | 0 => .object "DepositJudge$PriceList"
  | 1 => .array (.object "DepositJudge$Home")
  | 2 => .int
  | 3 => .object "DepositJudge$Joiner"
  | 4 => .object "DepositJudge$Tape"
  | 5 => .object "DepositJudge$LawReader"
  | 6 => .object "DepositJudge$Law"
  | 7 => .array .int
  | 8 => .object "DepositJudge$Docket"
  | 9 => .object "DepositJudge$Docket"
  | 10 => .boolean
  | 11 => .object "DepositJudge$Division"
  | 12 => .object "DepositJudge$Doubles"
  | _ => .object "DepositJudge$Pictures"
abbrev wsX110 : List Cond := u_ws RX11 TX11 14
theorem nmX11 : ∀ a, a < 14 → ∀ b, b < 14 → a ≠ b → (TX11 a).2.1 ≠ (TX11 b).2.1 := by decide +kernel
theorem tyX11_ok : ∀ k, k < 14 → parseFieldDescriptor (TX11 k).2.2.1 = some (tyX11 k) := by decide +kernel
abbrev cX11_init : ByteArray := prog_1_method_1_code
def yX11_init : MethodName := ⟨RX11, "<init>", "()V"⟩
abbrev cX11_life : ByteArray := prog_1_method_2_code
def yX11_life : MethodName := ⟨RX11, "life", "(II)Z"⟩
abbrev cX11_price : ByteArray := prog_1_method_3_code
def yX11_price : MethodName := ⟨RX11, "price", "(III)Z"⟩
abbrev cX11_home : ByteArray := prog_1_method_4_code
def yX11_home : MethodName := ⟨RX11, "home", "(IIIIIZ)I"⟩
abbrev cX11_part : ByteArray := prog_1_method_5_code
def yX11_part : MethodName := ⟨RX11, "part", "(III)Z"⟩
abbrev cX11_owes : ByteArray := prog_1_method_6_code
def yX11_owes : MethodName := ⟨RX11, "owes", "(III)Z"⟩
abbrev cX11_first : ByteArray := prog_1_method_7_code
def yX11_first : MethodName := ⟨RX11, "first", "(IIIII)I"⟩
abbrev cX11_last : ByteArray := prog_1_method_8_code
def yX11_last : MethodName := ⟨RX11, "last", "(IIII)I"⟩
abbrev cX11_feed : ByteArray := prog_1_method_9_code
def yX11_feed : MethodName := ⟨RX11, "feed", "(IIIII)I"⟩
abbrev cX11_law : ByteArray := prog_1_method_10_code
def yX11_law : MethodName := ⟨RX11, "law", "(I)I"⟩
abbrev cX11_thing : ByteArray := prog_1_method_11_code
def yX11_thing : MethodName := ⟨RX11, "thing", "(III)I"⟩
abbrev cX11_isNew : ByteArray := prog_1_method_12_code
def yX11_isNew : MethodName := ⟨RX11, "isNew", "(II)I"⟩
abbrev cX11_led : ByteArray := prog_1_method_13_code
def yX11_led : MethodName := ⟨RX11, "led", "(III)I"⟩
abbrev cX11_claim : ByteArray := prog_1_method_14_code
def yX11_claim : MethodName := ⟨RX11, "claim", "(IIIII)I"⟩
abbrev cX11_agree : ByteArray := prog_1_method_15_code
def yX11_agree : MethodName := ⟨RX11, "agree", "(II)Z"⟩
abbrev cX11_answer : ByteArray := prog_1_method_16_code
def yX11_answer : MethodName := ⟨RX11, "answer", "(IIZ)Z"⟩
abbrev cX11_award : ByteArray := prog_1_method_17_code
def yX11_award : MethodName := ⟨RX11, "award", "(III)I"⟩
abbrev cX11_judged : ByteArray := prog_1_method_18_code
def yX11_judged : MethodName := ⟨RX11, "judged", "(III)I"⟩
abbrev cX11_offer : ByteArray := prog_1_method_19_code
def yX11_offer : MethodName := ⟨RX11, "offer", "(IZI)I"⟩
abbrev cX11_met : ByteArray := prog_1_method_20_code
def yX11_met : MethodName := ⟨RX11, "met", "(I)I"⟩
abbrev cX11_kin : ByteArray := prog_1_method_21_code
def yX11_kin : MethodName := ⟨RX11, "kin", "(IIZ)Z"⟩
abbrev cX11_seed : ByteArray := prog_1_method_22_code
def yX11_seed : MethodName := ⟨RX11, "seed", "(I)Z"⟩
abbrev cX11_draw : ByteArray := prog_1_method_23_code
def yX11_draw : MethodName := ⟨RX11, "draw", "(I)I"⟩
abbrev cX11_twice : ByteArray := prog_1_method_24_code
def yX11_twice : MethodName := ⟨RX11, "twice", "(IIII)I"⟩
abbrev cX11_spread : ByteArray := prog_1_method_25_code
def yX11_spread : MethodName := ⟨RX11, "spread", "(II)I"⟩
abbrev cX11_like : ByteArray := prog_1_method_26_code
def yX11_like : MethodName := ⟨RX11, "like", "(II)I"⟩
abbrev cX11_fact : ByteArray := prog_1_method_27_code
def yX11_fact : MethodName := ⟨RX11, "fact", "(III)I"⟩
abbrev cX11_dated : ByteArray := prog_1_method_28_code
def yX11_dated : MethodName := ⟨RX11, "dated", "(II)I"⟩
abbrev cX11_wrong : ByteArray := prog_1_method_29_code
def yX11_wrong : MethodName := ⟨RX11, "wrong", "(I)I"⟩
abbrev cX11_byKind : ByteArray := prog_1_method_30_code
def yX11_byKind : MethodName := ⟨RX11, "byKind", "(II)I"⟩
abbrev cX11_keep : ByteArray := prog_1_method_31_code
def yX11_keep : MethodName := ⟨RX11, "keep", "()I"⟩
abbrev cX11_undo : ByteArray := prog_1_method_32_code
def yX11_undo : MethodName := ⟨RX11, "undo", "()Z"⟩
abbrev cX11_check : ByteArray := prog_1_method_33_code
def yX11_check : MethodName := ⟨RX11, "check", "(III)I"⟩
abbrev cX11_count : ByteArray := prog_1_method_34_code
def yX11_count : MethodName := ⟨RX11, "count", "(I)I"⟩
abbrev cX11_within : ByteArray := prog_1_method_35_code
def yX11_within : MethodName := ⟨RX11, "within", "(III)Z"⟩
abbrev cX11_isDay : ByteArray := prog_1_method_36_code
def yX11_isDay : MethodName := ⟨RX11, "isDay", "(I)Z"⟩
abbrev cX11_isThing : ByteArray := prog_1_method_37_code
def yX11_isThing : MethodName := ⟨RX11, "isThing", "(III)Z"⟩
abbrev cX11_isClaim : ByteArray := prog_1_method_38_code
def yX11_isClaim : MethodName := ⟨RX11, "isClaim", "(I)Z"⟩
abbrev cX11_homeAt : ByteArray := prog_1_method_39_code
def yX11_homeAt : MethodName := ⟨RX11, "homeAt", "(I)LDepositJudge$Home;"⟩
abbrev cX11_listed : ByteArray := prog_1_method_40_code
def yX11_listed : MethodName := ⟨RX11, "listed", "(LDepositJudge$Home;III)I"⟩
abbrev cX11_worth : ByteArray := prog_1_method_41_code
def yX11_worth : MethodName := ⟨RX11, "worth", "(LDepositJudge$Home;II)I"⟩
abbrev cX11_fairWear : ByteArray := prog_1_method_42_code
def yX11_fairWear : MethodName := ⟨RX11, "fairWear", "(LDepositJudge$Home;I)I"⟩
abbrev cX11_lost : ByteArray := prog_1_method_43_code
def yX11_lost : MethodName := ⟨RX11, "lost", "(LDepositJudge$Home;II)I"⟩
abbrev cX11_describe : ByteArray := prog_1_method_44_code
def yX11_describe : MethodName := ⟨RX11, "describe", "(LDepositJudge$Home;III)V"⟩
abbrev cX11_describeHome : ByteArray := prog_1_method_45_code
def yX11_describeHome : MethodName := ⟨RX11, "describeHome", "(LDepositJudge$Home;)V"⟩
abbrev cX11_reason : ByteArray := prog_1_method_46_code
def yX11_reason : MethodName := ⟨RX11, "reason", "(III)I"⟩
abbrev cX11_awarded : ByteArray := prog_1_method_47_code
def yX11_awarded : MethodName := ⟨RX11, "awarded", "(III)I"⟩
abbrev cX11_awards : ByteArray := prog_1_method_48_code
def yX11_awards : MethodName := ⟨RX11, "awards", "(II)I"⟩
abbrev cX11_toOwner : ByteArray := prog_1_method_49_code
def yX11_toOwner : MethodName := ⟨RX11, "toOwner", "(LDepositJudge$Home;I)I"⟩
abbrev cX11_penalty : ByteArray := prog_1_method_50_code
def yX11_penalty : MethodName := ⟨RX11, "penalty", "(LDepositJudge$Home;)I"⟩
abbrev cX11_paidBack : ByteArray := prog_1_method_51_code
def yX11_paidBack : MethodName := ⟨RX11, "paidBack", "(LDepositJudge$Home;I)I"⟩
abbrev cX11_distance : ByteArray := prog_1_method_52_code
def yX11_distance : MethodName := ⟨RX11, "distance", "(LDepositJudge$Home;LDepositJudge$Home;)I"⟩
abbrev cX11_commonDivisor : ByteArray := prog_1_method_53_code
def yX11_commonDivisor : MethodName := ⟨RX11, "commonDivisor", "(II)I"⟩
def RX12 : String := "DepositJudgeModel"
def TX12 : u_T := fun k => match k with
  | 0 => ("DepositJudgeModel", "homes", "I", false)
  | 1 => ("DepositJudgeModel", "x0", "I", false)
  | 2 => ("DepositJudgeModel", "lifeOf", "[I", true)
  | 3 => ("DepositJudgeModel", "priceOf", "[I", true)
  | 4 => ("DepositJudgeModel", "regionOf", "[I", true)
  | 5 => ("DepositJudgeModel", "tenantsOf", "[I", true)
  | 6 => ("DepositJudgeModel", "depositOf", "[I", true)
  | 7 => ("DepositJudgeModel", "fromOf", "[I", true)
  | 8 => ("DepositJudgeModel", "toOf", "[I", true)
  | 9 => ("DepositJudgeModel", "partOf", "[I", true)
  | 10 => ("DepositJudgeModel", "owedOf", "[I", true)
  | 11 => ("DepositJudgeModel", "firstMany", "[I", true)
  | 12 => ("DepositJudgeModel", "lastMany", "[I", true)
  | 13 => ("DepositJudgeModel", "firstRoom", "[I", true)
  | 14 => ("DepositJudgeModel", "firstKind", "[I", true)
  | 15 => ("DepositJudgeModel", "firstState", "[I", true)
  | 16 => ("DepositJudgeModel", "firstAge", "[I", true)
  | 17 => ("DepositJudgeModel", "lastRoom", "[I", true)
  | 18 => ("DepositJudgeModel", "lastKind", "[I", true)
  | 19 => ("DepositJudgeModel", "lastState", "[I", true)
  | 20 => ("DepositJudgeModel", "wasKept", "[Z", true)
  | 21 => ("DepositJudgeModel", "tape", "[B", true)
  | 22 => ("DepositJudgeModel", "taped", "I", false)
  | 23 => ("DepositJudgeModel", "place0", "I", false)
  | 24 => ("DepositJudgeModel", "length0", "I", false)
  | 25 => ("DepositJudgeModel", "fault", "I", false)
  | 26 => ("DepositJudgeModel", "open", "I", false)
  | 27 => ("DepositJudgeModel", "codeMany", "I", false)
  | 28 => ("DepositJudgeModel", "waiting", "I", false)
  | 29 => ("DepositJudgeModel", "saidMany", "I", false)
  | 30 => ("DepositJudgeModel", "number0", "I", false)
  | 31 => ("DepositJudgeModel", "clauses", "I", false)
  | 32 => ("DepositJudgeModel", "said", "[I", true)
  | 33 => ("DepositJudgeModel", "waits", "[I", true)
  | 34 => ("DepositJudgeModel", "saidLetter", "[I", true)
  | 35 => ("DepositJudgeModel", "saidFrom", "[I", true)
  | 36 => ("DepositJudgeModel", "saidHalf", "[I", true)
  | 37 => ("DepositJudgeModel", "saidTo", "[I", true)
  | 38 => ("DepositJudgeModel", "codes", "[I", true)
  | 39 => ("DepositJudgeModel", "clauseOf", "[I", true)
  | 40 => ("DepositJudgeModel", "codeFrom", "[I", true)
  | 41 => ("DepositJudgeModel", "codeHalf", "[I", true)
  | 42 => ("DepositJudgeModel", "codeTo", "[I", true)
  | 43 => ("DepositJudgeModel", "stack", "[I", true)
  | 44 => ("DepositJudgeModel", "facts", "[I", true)
  | 45 => ("DepositJudgeModel", "joined", "[I", true)
  | 46 => ("DepositJudgeModel", "leftFirst", "[I", true)
  | 47 => ("DepositJudgeModel", "leftLast", "[I", true)
  | 48 => ("DepositJudgeModel", "pairFirst", "[I", true)
  | 49 => ("DepositJudgeModel", "pairLast", "[I", true)
  | 50 => ("DepositJudgeModel", "isTaken", "[Z", true)
  | 51 => ("DepositJudgeModel", "claims", "I", false)
  | 52 => ("DepositJudgeModel", "claimHome", "[I", true)
  | 53 => ("DepositJudgeModel", "claimThing", "[I", true)
  | 54 => ("DepositJudgeModel", "causeOf", "[I", true)
  | 55 => ("DepositJudgeModel", "evidenceOf", "[I", true)
  | 56 => ("DepositJudgeModel", "claimDay", "[I", true)
  | 57 => ("DepositJudgeModel", "agreedOf", "[I", true)
  | 58 => ("DepositJudgeModel", "answerDay", "[I", true)
  | 59 => ("DepositJudgeModel", "isProof", "[Z", true)
  | 60 => ("DepositJudgeModel", "reason0", "I", false)
  | 61 => ("DepositJudgeModel", "restOf", "[J", true)
  | 62 => ("DepositJudgeModel", "getsOf", "[I", true)
  | 63 => ("DepositJudgeModel", "doubles", "I", false)
  | 64 => ("DepositJudgeModel", "ownerOffer", "[I", true)
  | 65 => ("DepositJudgeModel", "tenantOffer", "[I", true)
  | 66 => ("DepositJudgeModel", "doubleA", "[I", true)
  | 67 => ("DepositJudgeModel", "doubleB", "[I", true)
  | 68 => ("DepositJudgeModel", "doubleByA", "[I", true)
  | 69 => ("DepositJudgeModel", "doubleByB", "[I", true)
  | 70 => ("DepositJudgeModel", "isKin", "[Z", true)
  | 71 => ("DepositJudgeModel", "harmed", "[I", true)
  | 72 => ("DepositJudgeModel", "facts0", "I", false)
  | 73 => ("DepositJudgeModel", "factA", "[I", true)
  | 74 => ("DepositJudgeModel", "factB", "[I", true)
  | 75 => ("DepositJudgeModel", "factDays", "[I", true)
  | 76 => ("DepositJudgeModel", "behind", "[I", true)
  | 77 => ("DepositJudgeModel", "isWrong", "[Z", true)
  | 78 => ("DepositJudgeModel", "isKept", "Z", false)
  | 79 => ("DepositJudgeModel", "keptClaims", "I", false)
  | 80 => ("DepositJudgeModel", "keptX", "I", false)
  | 81 => ("DepositJudgeModel", "keptHome", "[I", true)
  | 82 => ("DepositJudgeModel", "keptThing", "[I", true)
  | 83 => ("DepositJudgeModel", "keptCause", "[I", true)
  | 84 => ("DepositJudgeModel", "keptEvidence", "[I", true)
  | 85 => ("DepositJudgeModel", "keptDay", "[I", true)
  | 86 => ("DepositJudgeModel", "keptAgreed", "[I", true)
  | 87 => ("DepositJudgeModel", "keptAnswer", "[I", true)
  | 88 => ("DepositJudgeModel", "keptOwner", "[I", true)
  | 89 => ("DepositJudgeModel", "keptTenant", "[I", true)
  | _ => ("DepositJudgeModel", "keptProof", "[Z", true)
def tyX12 : Nat → FieldType := fun k => match k with
  | 0 => .int
  | 1 => .int
  | 2 => .array .int
  | 3 => .array .int
  | 4 => .array .int
  | 5 => .array .int
  | 6 => .array .int
  | 7 => .array .int
  | 8 => .array .int
  | 9 => .array .int
  | 10 => .array .int
  | 11 => .array .int
  | 12 => .array .int
  | 13 => .array .int
  | 14 => .array .int
  | 15 => .array .int
  | 16 => .array .int
  | 17 => .array .int
  | 18 => .array .int
  | 19 => .array .int
  | 20 => .array .boolean
  | 21 => .array .byte
  | 22 => .int
  | 23 => .int
  | 24 => .int
  | 25 => .int
  | 26 => .int
  | 27 => .int
  | 28 => .int
  | 29 => .int
  | 30 => .int
  | 31 => .int
  | 32 => .array .int
  | 33 => .array .int
  | 34 => .array .int
  | 35 => .array .int
  | 36 => .array .int
  | 37 => .array .int
  | 38 => .array .int
  | 39 => .array .int
  | 40 => .array .int
  | 41 => .array .int
  | 42 => .array .int
  | 43 => .array .int
  | 44 => .array .int
  | 45 => .array .int
  | 46 => .array .int
  | 47 => .array .int
  | 48 => .array .int
  | 49 => .array .int
  | 50 => .array .boolean
  | 51 => .int
  | 52 => .array .int
  | 53 => .array .int
  | 54 => .array .int
  | 55 => .array .int
  | 56 => .array .int
  | 57 => .array .int
  | 58 => .array .int
  | 59 => .array .boolean
  | 60 => .int
  | 61 => .array .long
  | 62 => .array .int
  | 63 => .int
  | 64 => .array .int
  | 65 => .array .int
  | 66 => .array .int
  | 67 => .array .int
  | 68 => .array .int
  | 69 => .array .int
  | 70 => .array .boolean
  | 71 => .array .int
  | 72 => .int
  | 73 => .array .int
  | 74 => .array .int
  | 75 => .array .int
  | 76 => .array .int
  | 77 => .array .boolean
  | 78 => .boolean
  | 79 => .int
  | 80 => .int
  | 81 => .array .int
  | 82 => .array .int
  | 83 => .array .int
  | 84 => .array .int
  | 85 => .array .int
  | 86 => .array .int
  | 87 => .array .int
  | 88 => .array .int
  | 89 => .array .int
  | _ => .array .boolean
abbrev wsX120 : List Cond := u_ws RX12 TX12 91
theorem nmX12 : ∀ a, a < 91 → ∀ b, b < 91 → a ≠ b → (TX12 a).2.1 ≠ (TX12 b).2.1 := by decide +kernel
theorem tyX12_ok : ∀ k, k < 91 → parseFieldDescriptor (TX12 k).2.2.1 = some (tyX12 k) := by decide +kernel
abbrev cX12_init : ByteArray := prog_14_method_1_code
def yX12_init : MethodName := ⟨RX12, "<init>", "()V"⟩
abbrev cX12_in : ByteArray := prog_14_method_2_code
def yX12_in : MethodName := ⟨RX12, "in", "(III)Z"⟩
abbrev cX12_size : ByteArray := prog_14_method_3_code
def yX12_size : MethodName := ⟨RX12, "size", "(I)I"⟩
abbrev cX12_isPence : ByteArray := prog_14_method_4_code
def yX12_isPence : MethodName := ⟨RX12, "isPence", "(I)Z"⟩
abbrev cX12_isKind : ByteArray := prog_14_method_5_code
def yX12_isKind : MethodName := ⟨RX12, "isKind", "(I)Z"⟩
abbrev cX12_isHome : ByteArray := prog_14_method_6_code
def yX12_isHome : MethodName := ⟨RX12, "isHome", "(I)Z"⟩
abbrev cX12_life : ByteArray := prog_14_method_7_code
def yX12_life : MethodName := ⟨RX12, "life", "(II)Z"⟩
abbrev cX12_price : ByteArray := prog_14_method_8_code
def yX12_price : MethodName := ⟨RX12, "price", "(III)Z"⟩
abbrev cX12_home : ByteArray := prog_14_method_9_code
def yX12_home : MethodName := ⟨RX12, "home", "(IIIIIZ)I"⟩
abbrev cX12_part : ByteArray := prog_14_method_10_code
def yX12_part : MethodName := ⟨RX12, "part", "(III)Z"⟩
abbrev cX12_owes : ByteArray := prog_14_method_11_code
def yX12_owes : MethodName := ⟨RX12, "owes", "(III)Z"⟩
abbrev cX12_isThing : ByteArray := prog_14_method_12_code
def yX12_isThing : MethodName := ⟨RX12, "isThing", "(III)Z"⟩
abbrev cX12_first : ByteArray := prog_14_method_13_code
def yX12_first : MethodName := ⟨RX12, "first", "(IIIII)I"⟩
abbrev cX12_last : ByteArray := prog_14_method_14_code
def yX12_last : MethodName := ⟨RX12, "last", "(IIII)I"⟩
abbrev cX12_isFirst : ByteArray := prog_14_method_15_code
def yX12_isFirst : MethodName := ⟨RX12, "isFirst", "(II)Z"⟩
abbrev cX12_monthsOf : ByteArray := prog_14_method_16_code
def yX12_monthsOf : MethodName := ⟨RX12, "monthsOf", "(I)I"⟩
abbrev cX12_types : ByteArray := prog_14_method_17_code
def yX12_types : MethodName := ⟨RX12, "types", "(I)V"⟩
abbrev cX12_feed : ByteArray := prog_14_method_18_code
def yX12_feed : MethodName := ⟨RX12, "feed", "(IIIII)I"⟩
abbrev cX12_here : ByteArray := prog_14_method_19_code
def yX12_here : MethodName := ⟨RX12, "here", "()I"⟩
abbrev cX12_isDigit : ByteArray := prog_14_method_20_code
def yX12_isDigit : MethodName := ⟨RX12, "isDigit", "()Z"⟩
abbrev cX12_wrongAt : ByteArray := prog_14_method_21_code
def yX12_wrongAt : MethodName := ⟨RX12, "wrongAt", "(II)Z"⟩
abbrev cX12_takes : ByteArray := prog_14_method_22_code
def yX12_takes : MethodName := ⟨RX12, "takes", "(I)Z"⟩
abbrev cX12_readsNumber : ByteArray := prog_14_method_23_code
def yX12_readsNumber : MethodName := ⟨RX12, "readsNumber", "()Z"⟩
abbrev cX12_notes : ByteArray := prog_14_method_24_code
def yX12_notes : MethodName := ⟨RX12, "notes", "(II)V"⟩
abbrev cX12_opens : ByteArray := prog_14_method_25_code
def yX12_opens : MethodName := ⟨RX12, "opens", "(I)Z"⟩
abbrev cX12_top : ByteArray := prog_14_method_26_code
def yX12_top : MethodName := ⟨RX12, "top", "()I"⟩
abbrev cX12_factOf : ByteArray := prog_14_method_27_code
def yX12_factOf : MethodName := ⟨RX12, "factOf", "(I)I"⟩
abbrev cX12_sumSign : ByteArray := prog_14_method_28_code
def yX12_sumSign : MethodName := ⟨RX12, "sumSign", "(I)I"⟩
abbrev cX12_closesSums : ByteArray := prog_14_method_29_code
def yX12_closesSums : MethodName := ⟨RX12, "closesSums", "(Z)V"⟩
abbrev cX12_readsFactor : ByteArray := prog_14_method_30_code
def yX12_readsFactor : MethodName := ⟨RX12, "readsFactor", "()Z"⟩
abbrev cX12_hasOpenSum : ByteArray := prog_14_method_31_code
def yX12_hasOpenSum : MethodName := ⟨RX12, "hasOpenSum", "(I)Z"⟩
abbrev cX12_readsSum : ByteArray := prog_14_method_32_code
def yX12_readsSum : MethodName := ⟨RX12, "readsSum", "()Z"⟩
abbrev cX12_endsPiece : ByteArray := prog_14_method_33_code
def yX12_endsPiece : MethodName := ⟨RX12, "endsPiece", "()V"⟩
abbrev cX12_lands : ByteArray := prog_14_method_34_code
def yX12_lands : MethodName := ⟨RX12, "lands", "(Z)V"⟩
abbrev cX12_jumps : ByteArray := prog_14_method_35_code
def yX12_jumps : MethodName := ⟨RX12, "jumps", "(I)V"⟩
abbrev cX12_readsCompared : ByteArray := prog_14_method_36_code
def yX12_readsCompared : MethodName := ⟨RX12, "readsCompared", "()Z"⟩
abbrev cX12_readsCondition : ByteArray := prog_14_method_37_code
def yX12_readsCondition : MethodName := ⟨RX12, "readsCondition", "()Z"⟩
abbrev cX12_readsClause : ByteArray := prog_14_method_38_code
def yX12_readsClause : MethodName := ⟨RX12, "readsClause", "()Z"⟩
abbrev cX12_law : ByteArray := prog_14_method_39_code
def yX12_law : MethodName := ⟨RX12, "law", "(I)I"⟩
abbrev cX12_reckon : ByteArray := prog_14_method_40_code
def yX12_reckon : MethodName := ⟨RX12, "reckon", "(III)I"⟩
abbrev cX12_comesTo : ByteArray := prog_14_method_41_code
def yX12_comesTo : MethodName := ⟨RX12, "comesTo", "(II)I"⟩
abbrev cX12_byLaw : ByteArray := prog_14_method_42_code
def yX12_byLaw : MethodName := ⟨RX12, "byLaw", "(III)I"⟩
abbrev cX12_anyB : ByteArray := prog_14_method_43_code
def yX12_anyB : MethodName := ⟨RX12, "anyB", "()Z"⟩
abbrev cX12_feelsHome : ByteArray := prog_14_method_44_code
def yX12_feelsHome : MethodName := ⟨RX12, "feelsHome", "(I)V"⟩
abbrev cX12_feelsThing : ByteArray := prog_14_method_45_code
def yX12_feelsThing : MethodName := ⟨RX12, "feelsThing", "(II)V"⟩
abbrev cX12_feelsClaim : ByteArray := prog_14_method_46_code
def yX12_feelsClaim : MethodName := ⟨RX12, "feelsClaim", "(I)V"⟩
abbrev cX12_keptMost : ByteArray := prog_14_method_47_code
def yX12_keptMost : MethodName := ⟨RX12, "keptMost", "()I"⟩
abbrev cX12_isOf : ByteArray := prog_14_method_48_code
def yX12_isOf : MethodName := ⟨RX12, "isOf", "(IIII)Z"⟩
abbrev cX12_joinsAll : ByteArray := prog_14_method_49_code
def yX12_joinsAll : MethodName := ⟨RX12, "joinsAll", "(II)V"⟩
abbrev cX12_isLike : ByteArray := prog_14_method_50_code
def yX12_isLike : MethodName := ⟨RX12, "isLike", "(IIII)Z"⟩
abbrev cX12_joinsOne : ByteArray := prog_14_method_51_code
def yX12_joinsOne : MethodName := ⟨RX12, "joinsOne", "(IIIII)I"⟩
abbrev cX12_laysJoined : ByteArray := prog_14_method_52_code
def yX12_laysJoined : MethodName := ⟨RX12, "laysJoined", "(I)V"⟩
abbrev cX12_stateAtLast : ByteArray := prog_14_method_53_code
def yX12_stateAtLast : MethodName := ⟨RX12, "stateAtLast", "(II)I"⟩
abbrev cX12_changeOf : ByteArray := prog_14_method_54_code
def yX12_changeOf : MethodName := ⟨RX12, "changeOf", "(II)I"⟩
abbrev cX12_agedOf : ByteArray := prog_14_method_55_code
def yX12_agedOf : MethodName := ⟨RX12, "agedOf", "(II)I"⟩
abbrev cX12_worthAt : ByteArray := prog_14_method_56_code
def yX12_worthAt : MethodName := ⟨RX12, "worthAt", "(III)I"⟩
abbrev cX12_wearOf : ByteArray := prog_14_method_57_code
def yX12_wearOf : MethodName := ⟨RX12, "wearOf", "(II)I"⟩
abbrev cX12_lostOf : ByteArray := prog_14_method_58_code
def yX12_lostOf : MethodName := ⟨RX12, "lostOf", "(II)I"⟩
abbrev cX12_thing : ByteArray := prog_14_method_59_code
def yX12_thing : MethodName := ⟨RX12, "thing", "(III)I"⟩
abbrev cX12_isNew : ByteArray := prog_14_method_60_code
def yX12_isNew : MethodName := ⟨RX12, "isNew", "(II)I"⟩
abbrev cX12_led : ByteArray := prog_14_method_61_code
def yX12_led : MethodName := ⟨RX12, "led", "(III)I"⟩
abbrev cX12_isDay : ByteArray := prog_14_method_62_code
def yX12_isDay : MethodName := ⟨RX12, "isDay", "(I)Z"⟩
abbrev cX12_isClaim : ByteArray := prog_14_method_63_code
def yX12_isClaim : MethodName := ⟨RX12, "isClaim", "(I)Z"⟩
abbrev cX12_claim : ByteArray := prog_14_method_64_code
def yX12_claim : MethodName := ⟨RX12, "claim", "(IIIII)I"⟩
abbrev cX12_agree : ByteArray := prog_14_method_65_code
def yX12_agree : MethodName := ⟨RX12, "agree", "(II)Z"⟩
abbrev cX12_answer : ByteArray := prog_14_method_66_code
def yX12_answer : MethodName := ⟨RX12, "answer", "(IIZ)Z"⟩
abbrev cX12_awards : ByteArray := prog_14_method_67_code
def yX12_awards : MethodName := ⟨RX12, "awards", "(II)I"⟩
abbrev cX12_partOfLost : ByteArray := prog_14_method_68_code
def yX12_partOfLost : MethodName := ⟨RX12, "partOfLost", "(III)I"⟩
abbrev cX12_hasEvidence : ByteArray := prog_14_method_69_code
def yX12_hasEvidence : MethodName := ⟨RX12, "hasEvidence", "(I)Z"⟩
abbrev cX12_awardOf : ByteArray := prog_14_method_70_code
def yX12_awardOf : MethodName := ⟨RX12, "awardOf", "(II)I"⟩
abbrev cX12_award : ByteArray := prog_14_method_71_code
def yX12_award : MethodName := ⟨RX12, "award", "(III)I"⟩
abbrev cX12_awardsAll : ByteArray := prog_14_method_72_code
def yX12_awardsAll : MethodName := ⟨RX12, "awardsAll", "(II)I"⟩
abbrev cX12_ownerGets : ByteArray := prog_14_method_73_code
def yX12_ownerGets : MethodName := ⟨RX12, "ownerGets", "(II)I"⟩
abbrev cX12_penaltyOf : ByteArray := prog_14_method_74_code
def yX12_penaltyOf : MethodName := ⟨RX12, "penaltyOf", "(I)I"⟩
abbrev cX12_sharesOut : ByteArray := prog_14_method_75_code
def yX12_sharesOut : MethodName := ⟨RX12, "sharesOut", "(IJ)V"⟩
abbrev cX12_backOf : ByteArray := prog_14_method_76_code
def yX12_backOf : MethodName := ⟨RX12, "backOf", "(II)I"⟩
abbrev cX12_judged : ByteArray := prog_14_method_77_code
def yX12_judged : MethodName := ⟨RX12, "judged", "(III)I"⟩
abbrev cX12_offer : ByteArray := prog_14_method_78_code
def yX12_offer : MethodName := ⟨RX12, "offer", "(IZI)I"⟩
abbrev cX12_met : ByteArray := prog_14_method_79_code
def yX12_met : MethodName := ⟨RX12, "met", "(I)I"⟩
abbrev cX12_isJudge : ByteArray := prog_14_method_80_code
def yX12_isJudge : MethodName := ⟨RX12, "isJudge", "(I)Z"⟩
abbrev cX12_kin : ByteArray := prog_14_method_81_code
def yX12_kin : MethodName := ⟨RX12, "kin", "(IIZ)Z"⟩
abbrev cX12_seed : ByteArray := prog_14_method_82_code
def yX12_seed : MethodName := ⟨RX12, "seed", "(I)Z"⟩
abbrev cX12_draw : ByteArray := prog_14_method_83_code
def yX12_draw : MethodName := ⟨RX12, "draw", "(I)I"⟩
abbrev cX12_twice : ByteArray := prog_14_method_84_code
def yX12_twice : MethodName := ⟨RX12, "twice", "(IIII)I"⟩
abbrev cX12_gcd : ByteArray := prog_14_method_85_code
def yX12_gcd : MethodName := ⟨RX12, "gcd", "(II)I"⟩
abbrev cX12_spread : ByteArray := prog_14_method_86_code
def yX12_spread : MethodName := ⟨RX12, "spread", "(II)I"⟩
abbrev cX12_laysHarmed : ByteArray := prog_14_method_87_code
def yX12_laysHarmed : MethodName := ⟨RX12, "laysHarmed", "()V"⟩
abbrev cX12_distance : ByteArray := prog_14_method_88_code
def yX12_distance : MethodName := ⟨RX12, "distance", "(II)I"⟩
abbrev cX12_like : ByteArray := prog_14_method_89_code
def yX12_like : MethodName := ⟨RX12, "like", "(II)I"⟩
abbrev cX12_fact : ByteArray := prog_14_method_90_code
def yX12_fact : MethodName := ⟨RX12, "fact", "(III)I"⟩
abbrev cX12_sum : ByteArray := prog_14_method_91_code
def yX12_sum : MethodName := ⟨RX12, "sum", "(II)I"⟩
abbrev cX12_tellsFact : ByteArray := prog_14_method_92_code
def yX12_tellsFact : MethodName := ⟨RX12, "tellsFact", "(I)V"⟩
abbrev cX12_laysFacts : ByteArray := prog_14_method_93_code
def yX12_laysFacts : MethodName := ⟨RX12, "laysFacts", "()V"⟩
abbrev cX12_dated : ByteArray := prog_14_method_94_code
def yX12_dated : MethodName := ⟨RX12, "dated", "(II)I"⟩
abbrev cX12_wrong : ByteArray := prog_14_method_95_code
def yX12_wrong : MethodName := ⟨RX12, "wrong", "(I)I"⟩
abbrev cX12_byKind : ByteArray := prog_14_method_96_code
def yX12_byKind : MethodName := ⟨RX12, "byKind", "(II)I"⟩
abbrev cX12_copies : ByteArray := prog_14_method_97_code
def yX12_copies : MethodName := ⟨RX12, "copies", "([I[II)V"⟩
abbrev cX12_keep : ByteArray := prog_14_method_98_code
def yX12_keep : MethodName := ⟨RX12, "keep", "()I"⟩
abbrev cX12_undo : ByteArray := prog_14_method_99_code
def yX12_undo : MethodName := ⟨RX12, "undo", "()Z"⟩
abbrev cX12_tapeNumber : ByteArray := prog_14_method_100_code
def yX12_tapeNumber : MethodName := ⟨RX12, "tapeNumber", "(I)I"⟩
abbrev cX12_check : ByteArray := prog_14_method_101_code
def yX12_check : MethodName := ⟨RX12, "check", "(III)I"⟩
abbrev cX12_count : ByteArray := prog_14_method_102_code
def yX12_count : MethodName := ⟨RX12, "count", "(I)I"⟩
def RJ11 : String := "java/lang/Character"
def TJ11 : u_T := fun k => match k with
  | _ => ("", "", "", false)
def tyJ11 : Nat → FieldType := fun k => match k with
  | _ => .int
abbrev wsJ110 : List Cond := u_ws RJ11 TJ11 0
theorem nmJ11 : ∀ a, a < 0 → ∀ b, b < 0 → a ≠ b → (TJ11 a).2.1 ≠ (TJ11 b).2.1 := by decide +kernel
theorem tyJ11_ok : ∀ k, k < 0 → parseFieldDescriptor (TJ11 k).2.2.1 = some (tyJ11 k) := by decide +kernel
abbrev cJ11_isValidCodePoint_9a6ad : ByteArray := prog_15_method_11_code
def yJ11_isValidCodePoint_9a6ad : MethodName := ⟨RJ11, "isValidCodePoint", "(I)Z"⟩
abbrev cJ11_highSurrogate_5068e : ByteArray := prog_15_method_28_code
def yJ11_highSurrogate_5068e : MethodName := ⟨RJ11, "highSurrogate", "(I)C"⟩
abbrev cJ11_lowSurrogate_5068e : ByteArray := prog_15_method_29_code
def yJ11_lowSurrogate_5068e : MethodName := ⟨RJ11, "lowSurrogate", "(I)C"⟩
def RJ9 : String := "java/lang/Math"
def TJ9 : u_T := fun k => match k with
  | _ => ("", "", "", false)
def tyJ9 : Nat → FieldType := fun k => match k with
  | _ => .int
abbrev wsJ90 : List Cond := u_ws RJ9 TJ9 0
theorem nmJ9 : ∀ a, a < 0 → ∀ b, b < 0 → a ≠ b → (TJ9 a).2.1 ≠ (TJ9 b).2.1 := by decide +kernel
theorem tyJ9_ok : ∀ k, k < 0 → parseFieldDescriptor (TJ9 k).2.2.1 = some (tyJ9 k) := by decide +kernel
abbrev cJ9_abs_0f7a4 : ByteArray := prog_16_method_59_code
def yJ9_abs_0f7a4 : MethodName := ⟨RJ9, "abs", "(I)I"⟩
abbrev cJ9_max_7cf53 : ByteArray := prog_16_method_65_code
def yJ9_max_7cf53 : MethodName := ⟨RJ9, "max", "(II)I"⟩
abbrev cJ9_min_7cf53 : ByteArray := prog_16_method_69_code
def yJ9_min_7cf53 : MethodName := ⟨RJ9, "min", "(II)I"⟩
def RJ0 : String := "java/lang/String"
def TJ0 : u_T := fun k => match k with
  | _ => ("", "", "", false)
def tyJ0 : Nat → FieldType := fun k => match k with
  | _ => .int
abbrev wsJ00 : List Cond := u_ws RJ0 TJ0 0
theorem nmJ0 : ∀ a, a < 0 → ∀ b, b < 0 → a ≠ b → (TJ0 a).2.1 ≠ (TJ0 b).2.1 := by decide +kernel
theorem tyJ0_ok : ∀ k, k < 0 → parseFieldDescriptor (TJ0 k).2.2.1 = some (tyJ0 k) := by decide +kernel
abbrev cJ0_length_8abf5 : ByteArray := prog_17_method_54_code
def yJ0_length_8abf5 : MethodName := ⟨RJ0, "length", "()I"⟩
abbrev cJ0_indexOf_0f7a4 : ByteArray := prog_17_method_79_code
def yJ0_indexOf_0f7a4 : MethodName := ⟨RJ0, "indexOf", "(I)I"⟩
abbrev cJ0_indexOf_7cf53 : ByteArray := prog_17_method_80_code
def yJ0_indexOf_7cf53 : MethodName := ⟨RJ0, "indexOf", "(II)I"⟩
abbrev cJ0_coder_7d493 : ByteArray := prog_17_method_152_code
def yJ0_coder_7d493 : MethodName := ⟨RJ0, "coder", "()B"⟩
abbrev cJ0_isLatin1_aae02 : ByteArray := prog_17_method_154_code
def yJ0_isLatin1_aae02 : MethodName := ⟨RJ0, "isLatin1", "()Z"⟩
abbrev cJ0_checkBoundsBeginEnd_23922 : ByteArray := prog_17_method_158_code
def yJ0_checkBoundsBeginEnd_23922 : MethodName := ⟨RJ0, "checkBoundsBeginEnd", "(III)V"⟩
def RJ1 : String := "java/lang/StringLatin1"
def TJ1 : u_T := fun k => match k with
  | _ => ("", "", "", false)
def tyJ1 : Nat → FieldType := fun k => match k with
  | _ => .int
abbrev wsJ10 : List Cond := u_ws RJ1 TJ1 0
theorem nmJ1 : ∀ a, a < 0 → ∀ b, b < 0 → a ≠ b → (TJ1 a).2.1 ≠ (TJ1 b).2.1 := by decide +kernel
theorem tyJ1_ok : ∀ k, k < 0 → parseFieldDescriptor (TJ1 k).2.2.1 = some (tyJ1 k) := by decide +kernel
abbrev cJ1_canEncode_9a6ad : ByteArray := prog_18_method_4_code
def yJ1_canEncode_9a6ad : MethodName := ⟨RJ1, "canEncode", "(I)Z"⟩
abbrev cJ1_indexOf_4cfef : ByteArray := prog_18_method_22_code
def yJ1_indexOf_4cfef : MethodName := ⟨RJ1, "indexOf", "([BIII)I"⟩
abbrev cJ1_indexOfChar_4cfef : ByteArray := prog_18_method_23_code
def yJ1_indexOfChar_4cfef : MethodName := ⟨RJ1, "indexOfChar", "([BIII)I"⟩
def RJ2 : String := "java/lang/StringUTF16"
def TJ2 : u_T := fun k => match k with
  | _ => ("", "", "", false)
def tyJ2 : Nat → FieldType := fun k => match k with
  | _ => .int
abbrev wsJ20 : List Cond := u_ws RJ2 TJ2 0
theorem nmJ2 : ∀ a, a < 0 → ∀ b, b < 0 → a ≠ b → (TJ2 a).2.1 ≠ (TJ2 b).2.1 := by decide +kernel
theorem tyJ2_ok : ∀ k, k < 0 → parseFieldDescriptor (TJ2 k).2.2.1 = some (tyJ2 k) := by decide +kernel
abbrev cJ2_getChar_3b067 : ByteArray := prog_19_method_5_code
def yJ2_getChar_3b067 : MethodName := ⟨RJ2, "getChar", "([BI)C"⟩
abbrev cJ2_length_9d52b : ByteArray := prog_19_method_6_code
def yJ2_length_9d52b : MethodName := ⟨RJ2, "length", "([B)I"⟩
abbrev cJ2_indexOf_4cfef : ByteArray := prog_19_method_40_code
def yJ2_indexOf_4cfef : MethodName := ⟨RJ2, "indexOf", "([BIII)I"⟩
abbrev cJ2_indexOfChar_4cfef : ByteArray := prog_19_method_47_code
def yJ2_indexOfChar_4cfef : MethodName := ⟨RJ2, "indexOfChar", "([BIII)I"⟩
abbrev cJ2_indexOfCharUnsafe_4cfef : ByteArray := prog_19_method_48_code
def yJ2_indexOfCharUnsafe_4cfef : MethodName := ⟨RJ2, "indexOfCharUnsafe", "([BIII)I"⟩
abbrev cJ2_indexOfSupplementary_4cfef : ByteArray := prog_19_method_49_code
def yJ2_indexOfSupplementary_4cfef : MethodName := ⟨RJ2, "indexOfSupplementary", "([BIII)I"⟩
abbrev cJ2_checkBoundsBeginEnd_d044e : ByteArray := prog_19_method_93_code
def yJ2_checkBoundsBeginEnd_d044e : MethodName := ⟨RJ2, "checkBoundsBeginEnd", "(II[B)V"⟩
def RJ3 : String := "jdk/internal/util/Preconditions"
def TJ3 : u_T := fun k => match k with
  | _ => ("", "", "", false)
def tyJ3 : Nat → FieldType := fun k => match k with
  | _ => .int
abbrev wsJ30 : List Cond := u_ws RJ3 TJ3 0
theorem nmJ3 : ∀ a, a < 0 → ∀ b, b < 0 → a ≠ b → (TJ3 a).2.1 ≠ (TJ3 b).2.1 := by decide +kernel
theorem tyJ3_ok : ∀ k, k < 0 → parseFieldDescriptor (TJ3 k).2.2.1 = some (tyJ3 k) := by decide +kernel
abbrev cJ3_checkFromToIndex_8c36e : ByteArray := prog_20_method_12_code
def yJ3_checkFromToIndex_8c36e : MethodName := ⟨RJ3, "checkFromToIndex", "(IIILjava/util/function/BiFunction;)I"⟩
def RL : String := "DepositJudgeLaw"
abbrev cL_law : ByteArray := code
def yL_law : MethodName := ⟨RL, "law", "([I)Z"⟩
abbrev vwCl : List vw_C := [(RX0, TX0, 2), (RX1, TX1, 12), (RX2, TX2, 4), (RX3, TX3, 12), (RX4, TX4, 2), (RX5, TX5, 9), (RX6, TX6, 5), (RX7, TX7, 4), (RX8, TX8, 2), (RX9, TX9, 2), (RX10, TX10, 5), (RX11, TX11, 14), (RX12, TX12, 91)]
def gT : List Cond := lw_tbl.filter goodWord
theorem gT_in : ∀ w ∈ gT, w ∈ lw_tbl := fun w h => (List.mem_filter.mp h).1
theorem gT_ok : ∀ w ∈ gT, (w.onTables && w.keeps) = true ∨ ∃ ty, w = .arrayClass ty := fun w h => good_of_word (List.mem_filter.mp h).2
theorem tm {w : Cond} (h : w ∈ tables_1) (g : goodWord w = true) : w ∈ gT := List.mem_filter.mpr ⟨List.mem_append_right _ h, g⟩
theorem tmp {w : Cond} (h : w ∈ k2_sels lw_privs) (g : goodWord w = true) : w ∈ gT := List.mem_filter.mpr ⟨List.mem_append_left _ h, g⟩
theorem gI {y : MethodName} {b : ByteArray} {n : Nat} {r : Option FieldType} (h : Cond.code y b n r ∈ gT) : GoodIn gT (Cond.code y b n r :: gT) := fun w hw => (List.mem_cons.mp hw).elim (fun e => by subst e; exact ⟨h, gT_ok _ h⟩) (fun h2 => ⟨h2, gT_ok _ h2⟩)
theorem gV {own C : String} {x : Nat} {y : MethodName} {b : ByteArray} {n : Nat} {r : Option FieldType} (h : Cond.code y b n r ∈ gT) (h1 : Cond.methodLink own x y ∈ gT) (h2 : Cond.instanceMethod y ∈ gT) (h3 : Cond.selects C y y ∈ gT) (h4 : Cond.initialized C ∈ gT) : GoodIn gT (wsV own x C y (Cond.code y b n r :: gT)) := by
  intro w hw
  unfold wsV at hw
  rcases List.mem_append.mp hw with h5 | h5
  · simp only [List.mem_cons, List.not_mem_nil, or_false] at h5
    rcases h5 with rfl | rfl | rfl | rfl
    · exact ⟨h1, gT_ok _ h1⟩
    · exact ⟨h2, gT_ok _ h2⟩
    · exact ⟨h3, gT_ok _ h3⟩
    · exact ⟨h4, gT_ok _ h4⟩
  · exact gI h w h5
theorem gS {own : String} {x : Nat} {y : MethodName} {b : ByteArray} {n : Nat} {r : Option FieldType} (h : Cond.code y b n r ∈ gT) (h1 : Cond.methodLink own x y ∈ gT) (h2 : Cond.static y ∈ gT) (h4 : Cond.initialized y.cls ∈ gT) : GoodIn gT (va_wsS own x y (Cond.code y b n r :: gT)) := by
  intro w hw
  unfold va_wsS at hw
  rcases List.mem_append.mp hw with h5 | h5
  · simp only [List.mem_cons, List.not_mem_nil, or_false] at h5
    rcases h5 with rfl | rfl | rfl
    · exact ⟨h1, gT_ok _ h1⟩
    · exact ⟨h2, gT_ok _ h2⟩
    · exact ⟨h4, gT_ok _ h4⟩
  · exact gI h w h5
theorem ofpl {ws : List Cond} {ps : List Nat} (hp : ws = ps.filterMap (fun i => tables_1[i]?)) (h : ws.all goodWord = true) : ∀ w ∈ ws, w ∈ gT := by
  intro w hw
  have h1 := List.all_eq_true.mp h w hw
  rw [hp] at hw
  obtain ⟨i, -, hi⟩ := List.mem_filterMap.mp hw
  exact tm (by first | exact List.mem_of_getElem? hi | exact List.getElem?_mem hi) h1
theorem jX0 : wsX00 = [200, 202].filterMap (fun i => tables_1[i]?) := by decide +kernel
theorem iX0 : ∀ w ∈ wsX00, w ∈ gT := ofpl jX0 (by decide +kernel)
theorem jX1 : wsX10 = [166, 168, 170, 172, 174, 176, 178, 180, 182, 184, 186, 188].filterMap (fun i => tables_1[i]?) := by decide +kernel
theorem iX1 : ∀ w ∈ wsX10, w ∈ gT := ofpl jX1 (by decide +kernel)
theorem jX2 : wsX20 = [219, 221, 223, 225].filterMap (fun i => tables_1[i]?) := by decide +kernel
theorem iX2 : ∀ w ∈ wsX20, w ∈ gT := ofpl jX2 (by decide +kernel)
theorem jX3 : wsX30 = [377, 379, 381, 383, 385, 387, 389, 391, 393, 395, 397, 399].filterMap (fun i => tables_1[i]?) := by decide +kernel
theorem iX3 : ∀ w ∈ wsX30, w ∈ gT := ofpl jX3 (by decide +kernel)
theorem jX4 : wsX40 = [54, 56].filterMap (fun i => tables_1[i]?) := by decide +kernel
theorem iX4 : ∀ w ∈ wsX40, w ∈ gT := ofpl jX4 (by decide +kernel)
theorem jX5 : wsX50 = [98, 100, 102, 104, 106, 108, 110, 112, 114].filterMap (fun i => tables_1[i]?) := by decide +kernel
theorem iX5 : ∀ w ∈ wsX50, w ∈ gT := ofpl jX5 (by decide +kernel)
theorem jX6 : wsX60 = [123, 125, 127, 129, 131].filterMap (fun i => tables_1[i]?) := by decide +kernel
theorem iX6 : ∀ w ∈ wsX60, w ∈ gT := ofpl jX6 (by decide +kernel)
theorem jX7 : wsX70 = [242, 244, 246, 248].filterMap (fun i => tables_1[i]?) := by decide +kernel
theorem iX7 : ∀ w ∈ wsX70, w ∈ gT := ofpl jX7 (by decide +kernel)
theorem jX8 : wsX80 = [38, 40].filterMap (fun i => tables_1[i]?) := by decide +kernel
theorem iX8 : ∀ w ∈ wsX80, w ∈ gT := ofpl jX8 (by decide +kernel)
theorem jX9 : wsX90 = [70, 72].filterMap (fun i => tables_1[i]?) := by decide +kernel
theorem iX9 : ∀ w ∈ wsX90, w ∈ gT := ofpl jX9 (by decide +kernel)
theorem jX10 : wsX100 = [339, 341, 343, 345, 347].filterMap (fun i => tables_1[i]?) := by decide +kernel
theorem iX10 : ∀ w ∈ wsX100, w ∈ gT := ofpl jX10 (by decide +kernel)
theorem jX11 : wsX110 = [265, 267, 269, 271, 273, 275, 277, 279, 281, 283, 285, 287, 289, 291].filterMap (fun i => tables_1[i]?) := by decide +kernel
theorem iX11 : ∀ w ∈ wsX110, w ∈ gT := ofpl jX11 (by decide +kernel)
theorem jX12 : wsX120 = [1008, 1010, 1012, 1014, 1016, 1018, 1020, 1022, 1024, 1026, 1028, 1030, 1032, 1034, 1036, 1038, 1040, 1042, 1044, 1046, 1048, 1050, 1052, 1054, 1056, 1058, 1060, 1062, 1064, 1066, 1068, 1070, 1072, 1074, 1076, 1078, 1080, 1082, 1084, 1086, 1088, 1090, 1092, 1094, 1096, 1098, 1100, 1102, 1104, 1106, 1108, 1110, 1112, 1114, 1116, 1118, 1120, 1122, 1124, 1126, 1128, 1130, 1132, 1134, 1136, 1138, 1140, 1142, 1144, 1146, 1148, 1150, 1152, 1154, 1156, 1158, 1160, 1162, 1164, 1166, 1168, 1170, 1172, 1174, 1176, 1178, 1180, 1182, 1184, 1186, 1188].filterMap (fun i => tables_1[i]?) := by decide +kernel
theorem iX12 : ∀ w ∈ wsX120, w ∈ gT := ofpl jX12 (by decide +kernel)
end
section
/-! numbers -/
theorem b_lt {x y : Int32} (h : x < y) : x.toInt < y.toInt := Int32.lt_iff_toInt_lt.mp h
theorem b_le {x y : Int32} (h : x ≤ y) : x.toInt ≤ y.toInt := Int32.le_iff_toInt_le.mp h
theorem b_nlt {x y : Int32} (h : ¬ x < y) : y.toInt ≤ x.toInt := by rw [Int32.lt_iff_toInt_lt] at h; omega
theorem b_nle {x y : Int32} (h : ¬ x ≤ y) : y.toInt < x.toInt := by rw [Int32.le_iff_toInt_le] at h; omega
theorem b_eq {x y : Int32} (h : x = y) : x.toInt = y.toInt := congrArg _ h
theorem b_nne {x y : Int32} (h : x = y) : x.toInt = y.toInt := congrArg _ h
theorem b_ne {x y : Int32} (h : ¬ x = y) : x.toInt ≠ y.toInt := fun e => h (Int32.toInt_inj.mp e)
theorem vp_inI {x : Int32} {n : Nat} (h0 : 0 ≤ x.toInt) (h1 : x.toInt < n) : vp_in x n := vp_in_iff.mpr ⟨h0, h1⟩
/-- an answer that is u where C holds, else v -/
def BR (r : Int32) (C : Prop) (u v : Int32) : Prop := (r = u ∧ C) ∨ (r = v ∧ ¬ C)
theorem BR_eq {r r2 u v : Int32} {C : Prop} (h : BR r C u v) (h2 : BR r2 C u v) : r = r2 := by
  rcases h with ⟨rfl, h⟩ | ⟨rfl, h⟩ <;> rcases h2 with ⟨rfl, h2⟩ | ⟨rfl, h2⟩ <;> first | rfl | exact absurd h h2 | exact absurd h2 h
/-! the classes of the arrays -/
def vT (cy : Nat → ClassId) : List (ClassId × FieldType) := [(cy 0, .int), (cy 1, .byte), (cy 2, .boolean), (cy 3, .long), (cy 4, .object "DepositJudge$Home")]
/-! the private constructors that nest mates call, and the array class over Home -/
def nw (U : State) : Prop := va_Nw (.methodLinkNest RX11 28 yX4_init RX11) U ∧ va_Nw (.methodLinkNest RX11 35 yX9_init RX11) U ∧ va_Nw (.methodLinkNest RX11 42 yX6_init RX11) U ∧ va_Nw (.methodLinkNest RX6 11 yX5_init RX11) U ∧ va_Nw (.methodLinkNest RX11 49 yX5_init RX11) U ∧ va_Nw (.methodLinkNest RX11 74 yX0_init RX11) U ∧ va_Nw (.methodLinkNest RX11 81 yX2_init RX11) U ∧ va_Nw (.methodLinkNest RX3 24 yX10_init RX11) U ∧ va_AO "DepositJudge$Home" U
theorem nw_same {u U : State} (h : u.vm = U.vm) (q : nw u) : nw U := ⟨va_Nw.same rfl h q.1, va_Nw.same rfl h q.2.1, va_Nw.same rfl h q.2.2.1, va_Nw.same rfl h q.2.2.2.1, va_Nw.same rfl h q.2.2.2.2.1, va_Nw.same rfl h q.2.2.2.2.2.1, va_Nw.same rfl h q.2.2.2.2.2.2.1, va_Nw.same rfl h q.2.2.2.2.2.2.2.1, va_AO.moved (by rw [h]; exact Vm.Alike.refl U.vm) q.2.2.2.2.2.2.2.2⟩
theorem nw_warm {s U : State} (h : s.WarmedH U.vm) (q : nw s) : nw U := ⟨va_Nw.warmM h q.1, va_Nw.warmM h q.2.1, va_Nw.warmM h q.2.2.1, va_Nw.warmM h q.2.2.2.1, va_Nw.warmM h q.2.2.2.2.1, va_Nw.warmM h q.2.2.2.2.2.1, va_Nw.warmM h q.2.2.2.2.2.2.1, va_Nw.warmM h q.2.2.2.2.2.2.2.1, va_AO.moved h.alike q.2.2.2.2.2.2.2.2⟩
/-! what a method asks of the heap: to read (rP), to write (rQ), to make (rN) -/
def rP (D : va_G) (cy : Nat → ClassId) (W : va_W) (U : State) : Prop := va_P D vwCl W U.heap ∧ va_K D vwCl (vT cy) U
def rQ (D : va_G) (cy : Nat → ClassId) (W : va_W) (sz : Nat) (U : State) : Prop := U.heap.size = sz ∧ va_P D vwCl W U.heap ∧ va_K D vwCl (vT cy) U ∧ va_D (fun _ => True) W
def rN (D : va_G) (cy : Nat → ClassId) (W : va_W) (sz : Nat) (U : State) : Prop := nw U ∧ rQ D cy W sz U
theorem preT {s : State} {H : Heap} {av : List Value} : PreS s H (va_Pc av (fun _ => True)) av := ⟨fun _ _ _ _ q => q, fun _ _ _ => ⟨rfl, trivial⟩⟩
section PRE
variable {D : va_G} {cy : Nat → ClassId} {W : va_W} {sz : Nat} {s : State} {H : Heap} {av : List Value} {b : Addr} {C : String} {A : Nat → Prop}
theorem rP_b : FrameBlind (va_Pc av (rP D cy W)) := fun a U g mk q => ⟨q.1, q.2.1, va_K.moved (u := U) (U := U.calling g mk a) (Vm.Alike.refl U.vm) q.2.2⟩
theorem rQ_b : FrameBlind (va_Pc av (rQ D cy W sz)) := fun a U g mk q => ⟨q.1, q.2.1, q.2.2.1, va_K.moved (u := U) (U := U.calling g mk a) (Vm.Alike.refl U.vm) q.2.2.2.1, q.2.2.2.2⟩
theorem rN_b : FrameBlind (va_Pc av (rN D cy W sz)) := fun a U g mk q => ⟨q.1, nw_same (u := U) (U := U.calling g mk a) rfl q.2.1, q.2.2.1, q.2.2.2.1, va_K.moved (u := U) (U := U.calling g mk a) (Vm.Alike.refl U.vm) q.2.2.2.2.1, q.2.2.2.2.2⟩
theorem rP_s (hP : va_P D vwCl W H) (hK : va_K D vwCl (vT cy) s) : PreS s H (va_Pc av (rP D cy W)) av := ⟨rP_b, fun U hU hW => ⟨rfl, by rw [hU]; exact hP, va_K.moved hW.alike hK⟩⟩
theorem rP_v (hP : va_P D vwCl W H) (hK : va_K D vwCl (vT cy) s) (hr : ∃ cell : Cell, H[b]? = some cell ∧ cell.vm.isStatics = false ∧ s.vm.findClass C = some cell.cls) : PreV s H C b (va_Pc (.ref b :: av) (rP D cy W)) av := ⟨rP_b, hr, fun U hU hW => ⟨rfl, by rw [hU]; exact hP, va_K.moved hW.alike hK⟩⟩
theorem rQ_s (hP : va_P D vwCl W H) (hK : va_K D vwCl (vT cy) s) (hD : va_D A W) : PreS s H (va_Pc av (rQ D cy W H.size)) av := ⟨rQ_b, fun U hU hW => ⟨rfl, by rw [hU], by rw [hU]; exact hP, va_K.moved hW.alike hK, hD.weaken (fun _ _ _ _ => trivial)⟩⟩
theorem rQ_v (hP : va_P D vwCl W H) (hK : va_K D vwCl (vT cy) s) (hD : va_D A W) (hr : ∃ cell : Cell, H[b]? = some cell ∧ cell.vm.isStatics = false ∧ s.vm.findClass C = some cell.cls) : PreV s H C b (va_Pc (.ref b :: av) (rQ D cy W H.size)) av := ⟨rQ_b, hr, fun U hU hW => ⟨rfl, by rw [hU], by rw [hU]; exact hP, va_K.moved hW.alike hK, hD.weaken (fun _ _ _ _ => trivial)⟩⟩
theorem rN_s (hn : nw s) (hP : va_P D vwCl W H) (hK : va_K D vwCl (vT cy) s) (hD : va_D A W) : PreS s H (va_Pc av (rN D cy W H.size)) av := ⟨rN_b, fun U hU hW => ⟨rfl, nw_warm hW hn, by rw [hU], by rw [hU]; exact hP, va_K.moved hW.alike hK, hD.weaken (fun _ _ _ _ => trivial)⟩⟩
theorem rN_v (hn : nw s) (hP : va_P D vwCl W H) (hK : va_K D vwCl (vT cy) s) (hD : va_D A W) (hr : ∃ cell : Cell, H[b]? = some cell ∧ cell.vm.isStatics = false ∧ s.vm.findClass C = some cell.cls) : PreV s H C b (va_Pc (.ref b :: av) (rN D cy W H.size)) av := ⟨rN_b, hr, fun U hU hW => ⟨rfl, nw_warm hW hn, by rw [hU], by rw [hU]; exact hP, va_K.moved hW.alike hK, hD.weaken (fun _ _ _ _ => trivial)⟩⟩
end PRE
/-! new arrays: their classes are those of vT -/
section NEWA
variable {p : Program} {l : Launch} {e : Env} {R : Room} {s : State} {m : MethodId} {args : Array Value} {below : List Frame} {meth : Method} {c : Code} {H : Heap} {locs : List Loc} {cells slots : Nat} {Q : State → Prop}
variable {cc : ByteArray} {pc : Nat} {ls : Array Slot} {rest : List Value} {D : va_G} {cl : List vw_C} {A : Nat → Prop} {ws : va_W} {H0 : Heap} {cy : Nat → ClassId}
theorem r_newI (hexec : p.tables.exec = Jvm.exec) (hb : c.code = cc) (harr : (Cond.arrayClass .int).before args s = true) (hK : va_K D cl (vT cy) s) (hP : va_P D cl ws H) (hD : va_D A ws) (hS : va_S A H0 H locs) (hA : ∀ q, H0.size ≤ q → A q)
    {n : Int32} {N : Nat} (hn : ¬ n < 0) (hN : n.toNatClampNeg = N) (hbytes : N * 4 ≤ 536870912) (hcells : cells + 1 ≤ R.cells) (hslots : slots + N ≤ R.slots) (hdg : decode cc pc = .ok (.newarray .int, 2))
    (kk : ∀ (q : Nat) (H1 : Heap), va_P D cl (ws ++ [(q, .inl (cy 0, N, .inl (fun _ => 0)))]) H1 → va_D A (ws ++ [(q, .inl (cy 0, N, .inl (fun _ => 0)))]) → va_S A H0 H1 locs → W p l e R s m args below meth c H1 locs (cells + 1) (slots + N) Q (F0 m (pc + 2) ls (.ref q :: rest))) : W p l e R s m args below meth c H locs cells slots Q (F0 m pc ls (.int n :: rest)) := by
  refine va_newa (atype := .int) hexec hb harr rfl hK hP hD hS hA (a0 := (N, .inl (fun _ => 0))) (fun cA => rfl) hn hN hbytes hcells hslots hdg (fun q cA H1 hK1 hP1 hD1 hS1 => ?_)
  have e1 : cA = cy 0 := Option.some.inj ((va_nm_int (hK1.2 5 (cA, .int) rfl).2).symm.trans (va_nm_int (hK.2 0 (cy 0, .int) rfl).2))
  subst e1
  exact kk q H1 hP1 hD1 hS1
theorem r_newB (hexec : p.tables.exec = Jvm.exec) (hb : c.code = cc) (harr : (Cond.arrayClass .byte).before args s = true) (hK : va_K D cl (vT cy) s) (hP : va_P D cl ws H) (hD : va_D A ws) (hS : va_S A H0 H locs) (hA : ∀ q, H0.size ≤ q → A q)
    {n : Int32} {N : Nat} (hn : ¬ n < 0) (hN : n.toNatClampNeg = N) (hbytes : N * 1 ≤ 536870912) (hcells : cells + 1 ≤ R.cells) (hslots : slots + N ≤ R.slots) (hdg : decode cc pc = .ok (.newarray .byte, 2))
    (kk : ∀ (q : Nat) (H1 : Heap), va_P D cl (ws ++ [(q, .inl (cy 1, N, .inl (fun _ => 0)))]) H1 → va_D A (ws ++ [(q, .inl (cy 1, N, .inl (fun _ => 0)))]) → va_S A H0 H1 locs → W p l e R s m args below meth c H1 locs (cells + 1) (slots + N) Q (F0 m (pc + 2) ls (.ref q :: rest))) : W p l e R s m args below meth c H locs cells slots Q (F0 m pc ls (.int n :: rest)) := by
  refine va_newa (atype := .byte) hexec hb harr rfl hK hP hD hS hA (a0 := (N, .inl (fun _ => 0))) (fun cA => rfl) hn hN hbytes hcells hslots hdg (fun q cA H1 hK1 hP1 hD1 hS1 => ?_)
  have e1 : cA = cy 1 := Option.some.inj ((va_nm_byte (hK1.2 5 (cA, .byte) rfl).2).symm.trans (va_nm_byte (hK.2 1 (cy 1, .byte) rfl).2))
  subst e1
  exact kk q H1 hP1 hD1 hS1
theorem r_newZ (hexec : p.tables.exec = Jvm.exec) (hb : c.code = cc) (harr : (Cond.arrayClass .boolean).before args s = true) (hK : va_K D cl (vT cy) s) (hP : va_P D cl ws H) (hD : va_D A ws) (hS : va_S A H0 H locs) (hA : ∀ q, H0.size ≤ q → A q)
    {n : Int32} {N : Nat} (hn : ¬ n < 0) (hN : n.toNatClampNeg = N) (hbytes : N * 1 ≤ 536870912) (hcells : cells + 1 ≤ R.cells) (hslots : slots + N ≤ R.slots) (hdg : decode cc pc = .ok (.newarray .boolean, 2))
    (kk : ∀ (q : Nat) (H1 : Heap), va_P D cl (ws ++ [(q, .inl (cy 2, N, .inl (fun _ => 0)))]) H1 → va_D A (ws ++ [(q, .inl (cy 2, N, .inl (fun _ => 0)))]) → va_S A H0 H1 locs → W p l e R s m args below meth c H1 locs (cells + 1) (slots + N) Q (F0 m (pc + 2) ls (.ref q :: rest))) : W p l e R s m args below meth c H locs cells slots Q (F0 m pc ls (.int n :: rest)) := by
  refine va_newa (atype := .boolean) hexec hb harr rfl hK hP hD hS hA (a0 := (N, .inl (fun _ => 0))) (fun cA => rfl) hn hN hbytes hcells hslots hdg (fun q cA H1 hK1 hP1 hD1 hS1 => ?_)
  have e1 : cA = cy 2 := Option.some.inj ((va_nm_boolean (hK1.2 5 (cA, .boolean) rfl).2).symm.trans (va_nm_boolean (hK.2 2 (cy 2, .boolean) rfl).2))
  subst e1
  exact kk q H1 hP1 hD1 hS1
theorem r_newJ (hexec : p.tables.exec = Jvm.exec) (hb : c.code = cc) (harr : (Cond.arrayClass .long).before args s = true) (hK : va_K D cl (vT cy) s) (hP : va_P D cl ws H) (hD : va_D A ws) (hS : va_S A H0 H locs) (hA : ∀ q, H0.size ≤ q → A q)
    {n : Int32} {N : Nat} (hn : ¬ n < 0) (hN : n.toNatClampNeg = N) (hbytes : N * 8 ≤ 536870912) (hcells : cells + 1 ≤ R.cells) (hslots : slots + N ≤ R.slots) (hdg : decode cc pc = .ok (.newarray .long, 2))
    (kk : ∀ (q : Nat) (H1 : Heap), va_P D cl (ws ++ [(q, .inl (cy 3, N, .inr (.inl (fun _ => 0))))]) H1 → va_D A (ws ++ [(q, .inl (cy 3, N, .inr (.inl (fun _ => 0))))]) → va_S A H0 H1 locs → W p l e R s m args below meth c H1 locs (cells + 1) (slots + N) Q (F0 m (pc + 2) ls (.ref q :: rest))) : W p l e R s m args below meth c H locs cells slots Q (F0 m pc ls (.int n :: rest)) := by
  refine va_newa (atype := .long) hexec hb harr rfl hK hP hD hS hA (a0 := (N, .inr (.inl (fun _ => 0)))) (fun cA => rfl) hn hN hbytes hcells hslots hdg (fun q cA H1 hK1 hP1 hD1 hS1 => ?_)
  have e1 : cA = cy 3 := Option.some.inj ((va_nm_long (hK1.2 5 (cA, .long) rfl).2).symm.trans (va_nm_long (hK.2 3 (cy 3, .long) rfl).2))
  subst e1
  exact kk q H1 hP1 hD1 hS1
end NEWA
/-! behind a call: what it did not touch, and what it changed in place -/
theorem rk {A : Nat → Prop} {D : va_G} {cl : List vw_C} {w1 w2 : va_W} {H H1 : Heap} (hD : va_D A (w1 ++ w2)) (hP : va_P D cl w2 H) (hk : ∀ q : Nat, q < H.size → ¬ va_A w1 H.size q → H1[q]? = H[q]?) : va_P D cl w2 H1 := by
  refine hP.kept (fun k q hq => hk q.1 ((hP k q hq).lt) ?_)
  rintro (⟨j, e, hj⟩ | h)
  · have hl : j < w1.length := (List.getElem?_eq_some_iff.mp hj).1
    have h1 : (w1 ++ w2)[j]? = some (q.1, e) := by rw [List.getElem?_append_left hl]; exact hj
    have h2 : (w1 ++ w2)[w1.length + k]? = some q := by rw [List.getElem?_append_right (by omega)]; rw [show w1.length + k - w1.length = k by omega]; exact hq
    have := hD.1 _ _ _ _ h1 h2 rfl
    omega
  · exact absurd (hP k q hq).lt (by omega)
theorem vaD_fst {A : Nat → Prop} {w w1 : va_W} (h : w1.map Prod.fst = w.map Prod.fst) (hD : va_D A w) : va_D A w1 := by
  have key : ∀ (k : Nat) (q : Nat × va_E), w1[k]? = some q → ∃ q2 : Nat × va_E, w[k]? = some q2 ∧ q2.1 = q.1 := by
    intro k q hq
    have e1 : (w1.map Prod.fst)[k]? = some q.1 := by rw [List.getElem?_map, hq]; rfl
    rw [h, List.getElem?_map] at e1
    cases hw : w[k]? with
    | none => rw [hw] at e1; cases e1
    | some q2 => rw [hw] at e1; exact ⟨q2, rfl, Option.some.inj e1⟩
  refine ⟨fun i j p q hp hq hpq => ?_, fun k q hq => ?_⟩
  · obtain ⟨p2, h1, e1⟩ := key i p hp
    obtain ⟨q2, h2, e2⟩ := key j q hq
    exact hD.1 i j p2 q2 h1 h2 (by rw [e1, e2, hpq])
  · obtain ⟨q2, h2, e2⟩ := key k q hq
    rw [← e2]; exact hD.2 k q2 h2
def setL : va_W → List Nat → va_W → va_W
  | ws, k :: ks, e :: es => setL (ws.set k e) ks es
  | ws, _, _ => ws
theorem setL_get : ∀ (is : List Nat) (w1 ws : va_W) (k : Nat) (q : Nat × va_E), is.length = w1.length → (setL ws is w1)[k]? = some q → (ws[k]? = some q ∧ k ∉ is) ∨ q ∈ w1 := by
  intro is
  induction is with
  | nil => intro w1 ws k q hl h; left; cases w1 with
    | nil => exact ⟨h, List.not_mem_nil⟩
    | cons e es => cases hl
  | cons k0 ks ih =>
    intro w1 ws k q hl h
    cases w1 with
    | nil => cases hl
    | cons e es =>
      rcases ih es (ws.set k0 e) k q (by simpa using hl) h with ⟨h1, h2⟩ | h1
      · by_cases hk : k0 = k
        · subst hk
          rw [List.getElem?_set] at h1
          simp only [if_true] at h1
          split at h1
          · right; rw [← Option.some.inj h1]; exact List.mem_cons_self
          · cases h1
        · rw [List.getElem?_set_ne hk] at h1
          left
          exact ⟨h1, fun h3 => (List.mem_cons.mp h3).elim (fun h4 => hk h4.symm) h2⟩
      · right; exact List.mem_cons_of_mem _ h1
theorem setL_fst : ∀ (is : List Nat) (w1 ws : va_W), is.map (fun i => (ws[i]?).map Prod.fst) = w1.map (fun e => some e.1) → (setL ws is w1).map Prod.fst = ws.map Prod.fst := by
  intro is
  induction is with
  | nil => intro w1 ws _; cases w1 <;> rfl
  | cons k0 ks ih =>
    intro w1 ws h
    cases w1 with
    | nil => rfl
    | cons e es =>
      simp only [List.map_cons, List.cons.injEq] at h
      have hs : (ws.set k0 e).map Prod.fst = ws.map Prod.fst := by
        rw [List.map_set]
        apply List.ext_getElem?
        intro j
        by_cases hj : k0 = j
        · subst hj
          rw [List.getElem?_set, List.getElem?_map, h.1]
          simp only [if_true]
          split
          · rfl
          · rename_i hlt
            have : ws[k0]? = none := List.getElem?_eq_none (by simpa using hlt)
            rw [this] at h; cases h.1
        · rw [List.getElem?_set_ne hj]
      show (setL (ws.set k0 e) ks es).map Prod.fst = _
      rw [ih es (ws.set k0 e) ?_, hs]
      rw [← h.2]
      apply List.map_congr_left
      intro j _
      rw [← List.getElem?_map, ← List.getElem?_map, hs]
theorem rj {A : Nat → Prop} {D : va_G} {cl : List vw_C} {ws wc w1 : va_W} {H H1 : Heap} (hP : va_P D cl ws H) (hD : va_D A ws) (is : List Nat) (hC : is.map (fun i => ws[i]?) = wc.map some) (hF : w1.map Prod.fst = wc.map Prod.fst) (hk : ∀ q : Nat, q < H.size → ¬ va_A wc H.size q → H1[q]? = H[q]?) (hP1 : va_P D cl w1 H1) : va_P D cl (setL ws is w1) H1 ∧ va_D A (setL ws is w1) := by
  have hl : is.length = w1.length := by
    have e1 := congrArg List.length hC
    have e2 := congrArg List.length hF
    simp only [List.length_map] at e1 e2
    omega
  refine ⟨fun k q hq => ?_, vaD_fst (setL_fst is w1 ws ?_) hD⟩
  · rcases setL_get is w1 ws k q hl hq with ⟨h1, h2⟩ | h1
    · refine (hP k q h1).kept (hk q.1 (hP k q h1).lt ?_)
      rintro (⟨j, e, hj⟩ | h)
      · have e1 : (is.map (fun i => ws[i]?))[j]? = some (some (q.1, e)) := by rw [hC, List.getElem?_map, hj]; rfl
        rw [List.getElem?_map] at e1
        cases hi : is[j]? with
        | none => rw [hi] at e1; cases e1
        | some i0 =>
          rw [hi] at e1
          have e2 : ws[i0]? = some (q.1, e) := Option.some.inj e1
          have e3 := hD.1 k i0 q (q.1, e) h1 e2 rfl
          exact h2 (by rw [e3]; exact List.mem_of_getElem? hi)
      · exact absurd (hP k q h1).lt (by omega)
    · obtain ⟨j, hj⟩ := List.mem_iff_getElem?.mp h1
      exact hP1 j q hj
  · have e1 : is.map (fun i => (ws[i]?).map Prod.fst) = (is.map (fun i => ws[i]?)).map (fun o => o.map Prod.fst) := by rw [List.map_map]; rfl
    rw [e1, hC, List.map_map]
    have e2 : w1.map (fun e => some e.1) = (w1.map Prod.fst).map some := by rw [List.map_map]; rfl
    rw [e2, hF, List.map_map]
    rfl
/-! the worlds: the reference (mW), the class without its homes (xW) -/
def mF (a : Nat → Nat) (i : Nat → Int32) : List Value := [.int (i 0), .int (i 1), .ref (a 1), .ref (a 2), .ref (a 3), .ref (a 4), .ref (a 5), .ref (a 6), .ref (a 7), .ref (a 8), .ref (a 9), .ref (a 10), .ref (a 11), .ref (a 12), .ref (a 13), .ref (a 14), .ref (a 15), .ref (a 16), .ref (a 17), .ref (a 18), .ref (a 19), .ref (a 20), .int (i 22), .int (i 23), .int (i 24), .int (i 25), .int (i 26), .int (i 27), .int (i 28), .int (i 29), .int (i 30), .int (i 31), .ref (a 21), .ref (a 22), .ref (a 23), .ref (a 24), .ref (a 25), .ref (a 26), .ref (a 27), .ref (a 28), .ref (a 29), .ref (a 30), .ref (a 31), .ref (a 32), .ref (a 33), .ref (a 34), .ref (a 35), .ref (a 36), .ref (a 37), .ref (a 38), .ref (a 39), .int (i 51), .ref (a 40), .ref (a 41), .ref (a 42), .ref (a 43), .ref (a 44), .ref (a 45), .ref (a 46), .ref (a 47), .int (i 60), .ref (a 48), .ref (a 49), .int (i 63), .ref (a 50), .ref (a 51), .ref (a 52), .ref (a 53), .ref (a 54), .ref (a 55), .ref (a 56), .ref (a 57), .int (i 72), .ref (a 58), .ref (a 59), .ref (a 60), .ref (a 61), .ref (a 62), .int (i 78), .int (i 79), .int (i 80), .ref (a 63), .ref (a 64), .ref (a 65), .ref (a 66), .ref (a 67), .ref (a 68), .ref (a 69), .ref (a 70), .ref (a 71), .ref (a 72)]
def mW (cy : Nat → ClassId) (a : Nat → Nat) (i : Nat → Int32) (r : Nat → Nat → Int32) (rl : Nat → Int64) : va_W := [(a 0, .inr (12, (mF a i))), (a 1, .inl (cy 0, 8, .inl (r 1))), (a 2, .inl (cy 0, 32, .inl (r 2))), (a 3, .inl (cy 0, 6, .inl (r 3))), (a 4, .inl (cy 0, 6, .inl (r 4))), (a 5, .inl (cy 0, 6, .inl (r 5))), (a 6, .inl (cy 0, 6, .inl (r 6))), (a 7, .inl (cy 0, 6, .inl (r 7))), (a 8, .inl (cy 0, 24, .inl (r 8))), (a 9, .inl (cy 0, 18, .inl (r 9))), (a 10, .inl (cy 0, 6, .inl (r 10))), (a 11, .inl (cy 0, 6, .inl (r 11))), (a 12, .inl (cy 0, 120, .inl (r 12))), (a 13, .inl (cy 0, 120, .inl (r 13))), (a 14, .inl (cy 0, 120, .inl (r 14))), (a 15, .inl (cy 0, 120, .inl (r 15))), (a 16, .inl (cy 0, 120, .inl (r 16))), (a 17, .inl (cy 0, 120, .inl (r 17))), (a 18, .inl (cy 0, 120, .inl (r 18))), (a 19, .inl (cy 2, 6, .inl (r 19))), (a 20, .inl (cy 1, 220, .inl (r 20))), (a 21, .inl (cy 0, 220, .inl (r 21))), (a 22, .inl (cy 0, 220, .inl (r 22))), (a 23, .inl (cy 0, 14, .inl (r 23))), (a 24, .inl (cy 0, 14, .inl (r 24))), (a 25, .inl (cy 0, 14, .inl (r 25))), (a 26, .inl (cy 0, 14, .inl (r 26))), (a 27, .inl (cy 0, 220, .inl (r 27))), (a 28, .inl (cy 0, 14, .inl (r 28))), (a 29, .inl (cy 0, 14, .inl (r 29))), (a 30, .inl (cy 0, 14, .inl (r 30))), (a 31, .inl (cy 0, 14, .inl (r 31))), (a 32, .inl (cy 0, 220, .inl (r 32))), (a 33, .inl (cy 0, 10, .inl (r 33))), (a 34, .inl (cy 0, 20, .inl (r 34))), (a 35, .inl (cy 0, 10, .inl (r 35))), (a 36, .inl (cy 0, 10, .inl (r 36))), (a 37, .inl (cy 0, 10, .inl (r 37))), (a 38, .inl (cy 0, 10, .inl (r 38))), (a 39, .inl (cy 2, 20, .inl (r 39))), (a 40, .inl (cy 0, 30, .inl (r 40))), (a 41, .inl (cy 0, 30, .inl (r 41))), (a 42, .inl (cy 0, 30, .inl (r 42))), (a 43, .inl (cy 0, 30, .inl (r 43))), (a 44, .inl (cy 0, 30, .inl (r 44))), (a 45, .inl (cy 0, 30, .inl (r 45))), (a 46, .inl (cy 0, 30, .inl (r 46))), (a 47, .inl (cy 2, 30, .inl (r 47))), (a 48, .inl (cy 3, 4, .inr (.inl rl))), (a 49, .inl (cy 0, 4, .inl (r 49))), (a 50, .inl (cy 0, 6, .inl (r 50))), (a 51, .inl (cy 0, 6, .inl (r 51))), (a 52, .inl (cy 0, 40, .inl (r 52))), (a 53, .inl (cy 0, 40, .inl (r 53))), (a 54, .inl (cy 0, 40, .inl (r 54))), (a 55, .inl (cy 0, 40, .inl (r 55))), (a 56, .inl (cy 2, 36, .inl (r 56))), (a 57, .inl (cy 0, 48, .inl (r 57))), (a 58, .inl (cy 0, 30, .inl (r 58))), (a 59, .inl (cy 0, 30, .inl (r 59))), (a 60, .inl (cy 0, 30, .inl (r 60))), (a 61, .inl (cy 0, 121, .inl (r 61))), (a 62, .inl (cy 2, 30, .inl (r 62))), (a 63, .inl (cy 0, 30, .inl (r 63))), (a 64, .inl (cy 0, 30, .inl (r 64))), (a 65, .inl (cy 0, 30, .inl (r 65))), (a 66, .inl (cy 0, 30, .inl (r 66))), (a 67, .inl (cy 0, 30, .inl (r 67))), (a 68, .inl (cy 0, 30, .inl (r 68))), (a 69, .inl (cy 0, 30, .inl (r 69))), (a 70, .inl (cy 0, 6, .inl (r 70))), (a 71, .inl (cy 0, 6, .inl (r 71))), (a 72, .inl (cy 2, 30, .inl (r 72)))]
def xF0 (a : Nat → Nat) (i : Nat → Int32) (lf : Nat) : List Value := [.ref (a 1), .ref (a 4), .int (i 0), .ref (a 5), .ref (a 8), .ref (a 10), .ref lf, .ref (a 28), .ref (a 29), .ref (a 40), .int (i 1), .ref (a 51), .ref (a 54), .ref (a 58)]
def xF1 (a : Nat → Nat) (i : Nat → Int32) : List Value := [.ref (a 2), .ref (a 3)]
def xF5 (a : Nat → Nat) (i : Nat → Int32) : List Value := [.ref (a 6), .ref (a 7)]
def xF8 (a : Nat → Nat) (i : Nat → Int32) : List Value := [.ref (a 9), .int (i 2)]
def xF10 (a : Nat → Nat) (i : Nat → Int32) (ld : Nat) : List Value := [.ref ld, .ref (a 11), .int (i 3), .int (i 4), .int (i 5)]
def xF12 (a : Nat → Nat) (i : Nat → Int32) : List Value := [.int (i 6), .int (i 7), .ref (a 13), .ref (a 14), .ref (a 15), .ref (a 16), .ref (a 17), .ref (a 18), .ref (a 19)]
def xF20 (a : Nat → Nat) (i : Nat → Int32) : List Value := [.int (i 8), .int (i 9), .ref (a 21), .ref (a 22), .ref (a 23), .ref (a 24), .ref (a 25), .ref (a 26), .ref (a 27)]
def xF29 (a : Nat → Nat) (i : Nat → Int32) : List Value := [.int (i 10), .ref (a 30), .ref (a 31), .ref (a 32), .ref (a 33), .ref (a 34), .ref (a 35), .ref (a 36), .ref (a 37), .ref (a 38), .ref (a 39), .int (i 11)]
def xF40 (a : Nat → Nat) (i : Nat → Int32) : List Value := [.int (i 12), .ref (a 41), .ref (a 42), .ref (a 43), .ref (a 44), .ref (a 45), .ref (a 46), .ref (a 47), .ref (a 48), .ref (a 49), .ref (a 50), .int (i 13)]
def xF51 (a : Nat → Nat) (i : Nat → Int32) : List Value := [.ref (a 52), .ref (a 53)]
def xF54 (a : Nat → Nat) (i : Nat → Int32) : List Value := [.int (i 14), .ref (a 55), .ref (a 56), .ref (a 57)]
def xF58 (a : Nat → Nat) (i : Nat → Int32) : List Value := [.int (i 15), .int (i 16), .ref (a 59), .ref (a 60)]
def xW (cy : Nat → ClassId) (a : Nat → Nat) (i : Nat → Int32) (r : Nat → Nat → Int32) (q : Nat → Option Nat) (lf ld : Nat) : va_W := [(a 0, .inr (11, (xF0 a i lf))), (a 1, .inr (8, (xF1 a i))), (a 2, .inl (cy 0, 8, .inl (r 2))), (a 3, .inl (cy 0, 32, .inl (r 3))), (a 4, .inl (cy 4, 6, .inr (.inr (.inr (.inr q))))), (a 5, .inr (4, (xF5 a i))), (a 6, .inl (cy 0, 10, .inl (r 6))), (a 7, .inl (cy 2, 20, .inl (r 7))), (a 8, .inr (9, (xF8 a i))), (a 9, .inl (cy 1, 220, .inl (r 9))), (a 10, .inr (6, (xF10 a i ld))), (a 11, .inl (cy 1, 200, .inl (r 11))), (a 12, .inr (5, (xF12 a i))), (a 13, .inl (cy 0, 14, .inl (r 13))), (a 14, .inl (cy 0, 14, .inl (r 14))), (a 15, .inl (cy 0, 14, .inl (r 15))), (a 16, .inl (cy 0, 14, .inl (r 16))), (a 17, .inl (cy 0, 200, .inl (r 17))), (a 18, .inl (cy 0, 200, .inl (r 18))), (a 19, .inl (cy 0, 200, .inl (r 19))), (a 20, .inr (5, (xF20 a i))), (a 21, .inl (cy 0, 14, .inl (r 21))), (a 22, .inl (cy 0, 14, .inl (r 22))), (a 23, .inl (cy 0, 14, .inl (r 23))), (a 24, .inl (cy 0, 14, .inl (r 24))), (a 25, .inl (cy 0, 200, .inl (r 25))), (a 26, .inl (cy 0, 200, .inl (r 26))), (a 27, .inl (cy 0, 200, .inl (r 27))), (a 28, .inl (cy 0, 10, .inl (r 28))), (a 29, .inr (1, (xF29 a i))), (a 30, .inl (cy 0, 30, .inl (r 30))), (a 31, .inl (cy 0, 30, .inl (r 31))), (a 32, .inl (cy 0, 30, .inl (r 32))), (a 33, .inl (cy 0, 30, .inl (r 33))), (a 34, .inl (cy 0, 30, .inl (r 34))), (a 35, .inl (cy 0, 30, .inl (r 35))), (a 36, .inl (cy 0, 30, .inl (r 36))), (a 37, .inl (cy 2, 30, .inl (r 37))), (a 38, .inl (cy 0, 6, .inl (r 38))), (a 39, .inl (cy 0, 6, .inl (r 39))), (a 40, .inr (1, (xF40 a i))), (a 41, .inl (cy 0, 30, .inl (r 41))), (a 42, .inl (cy 0, 30, .inl (r 42))), (a 43, .inl (cy 0, 30, .inl (r 43))), (a 44, .inl (cy 0, 30, .inl (r 44))), (a 45, .inl (cy 0, 30, .inl (r 45))), (a 46, .inl (cy 0, 30, .inl (r 46))), (a 47, .inl (cy 0, 30, .inl (r 47))), (a 48, .inl (cy 2, 30, .inl (r 48))), (a 49, .inl (cy 0, 6, .inl (r 49))), (a 50, .inl (cy 0, 6, .inl (r 50))), (a 51, .inr (0, (xF51 a i))), (a 52, .inl (cy 0, 4, .inl (r 52))), (a 53, .inl (cy 0, 4, .inl (r 53))), (a 54, .inr (2, (xF54 a i))), (a 55, .inl (cy 0, 6, .inl (r 55))), (a 56, .inl (cy 0, 6, .inl (r 56))), (a 57, .inl (cy 0, 6, .inl (r 57))), (a 58, .inr (7, (xF58 a i))), (a 59, .inl (cy 0, 30, .inl (r 59))), (a 60, .inl (cy 0, 121, .inl (r 60)))]
theorem mS1 (cy : Nat → ClassId) (a : Nat → Nat) (i : Nat → Int32) (r : Nat → Nat → Int32) (rl : Nat → Int64) (f : Nat → Int32) : (mW cy a i r rl).set 1 (a 1, .inl (cy 0, 8, .inl f)) = mW cy a i (va_up r 1 f) rl := rfl
theorem mS2 (cy : Nat → ClassId) (a : Nat → Nat) (i : Nat → Int32) (r : Nat → Nat → Int32) (rl : Nat → Int64) (f : Nat → Int32) : (mW cy a i r rl).set 2 (a 2, .inl (cy 0, 32, .inl f)) = mW cy a i (va_up r 2 f) rl := rfl
theorem mS3 (cy : Nat → ClassId) (a : Nat → Nat) (i : Nat → Int32) (r : Nat → Nat → Int32) (rl : Nat → Int64) (f : Nat → Int32) : (mW cy a i r rl).set 3 (a 3, .inl (cy 0, 6, .inl f)) = mW cy a i (va_up r 3 f) rl := rfl
theorem mS4 (cy : Nat → ClassId) (a : Nat → Nat) (i : Nat → Int32) (r : Nat → Nat → Int32) (rl : Nat → Int64) (f : Nat → Int32) : (mW cy a i r rl).set 4 (a 4, .inl (cy 0, 6, .inl f)) = mW cy a i (va_up r 4 f) rl := rfl
theorem mS5 (cy : Nat → ClassId) (a : Nat → Nat) (i : Nat → Int32) (r : Nat → Nat → Int32) (rl : Nat → Int64) (f : Nat → Int32) : (mW cy a i r rl).set 5 (a 5, .inl (cy 0, 6, .inl f)) = mW cy a i (va_up r 5 f) rl := rfl
theorem mS6 (cy : Nat → ClassId) (a : Nat → Nat) (i : Nat → Int32) (r : Nat → Nat → Int32) (rl : Nat → Int64) (f : Nat → Int32) : (mW cy a i r rl).set 6 (a 6, .inl (cy 0, 6, .inl f)) = mW cy a i (va_up r 6 f) rl := rfl
theorem mS7 (cy : Nat → ClassId) (a : Nat → Nat) (i : Nat → Int32) (r : Nat → Nat → Int32) (rl : Nat → Int64) (f : Nat → Int32) : (mW cy a i r rl).set 7 (a 7, .inl (cy 0, 6, .inl f)) = mW cy a i (va_up r 7 f) rl := rfl
theorem mS8 (cy : Nat → ClassId) (a : Nat → Nat) (i : Nat → Int32) (r : Nat → Nat → Int32) (rl : Nat → Int64) (f : Nat → Int32) : (mW cy a i r rl).set 8 (a 8, .inl (cy 0, 24, .inl f)) = mW cy a i (va_up r 8 f) rl := rfl
theorem mS9 (cy : Nat → ClassId) (a : Nat → Nat) (i : Nat → Int32) (r : Nat → Nat → Int32) (rl : Nat → Int64) (f : Nat → Int32) : (mW cy a i r rl).set 9 (a 9, .inl (cy 0, 18, .inl f)) = mW cy a i (va_up r 9 f) rl := rfl
theorem mS10 (cy : Nat → ClassId) (a : Nat → Nat) (i : Nat → Int32) (r : Nat → Nat → Int32) (rl : Nat → Int64) (f : Nat → Int32) : (mW cy a i r rl).set 10 (a 10, .inl (cy 0, 6, .inl f)) = mW cy a i (va_up r 10 f) rl := rfl
theorem mS11 (cy : Nat → ClassId) (a : Nat → Nat) (i : Nat → Int32) (r : Nat → Nat → Int32) (rl : Nat → Int64) (f : Nat → Int32) : (mW cy a i r rl).set 11 (a 11, .inl (cy 0, 6, .inl f)) = mW cy a i (va_up r 11 f) rl := rfl
theorem mS12 (cy : Nat → ClassId) (a : Nat → Nat) (i : Nat → Int32) (r : Nat → Nat → Int32) (rl : Nat → Int64) (f : Nat → Int32) : (mW cy a i r rl).set 12 (a 12, .inl (cy 0, 120, .inl f)) = mW cy a i (va_up r 12 f) rl := rfl
theorem mS13 (cy : Nat → ClassId) (a : Nat → Nat) (i : Nat → Int32) (r : Nat → Nat → Int32) (rl : Nat → Int64) (f : Nat → Int32) : (mW cy a i r rl).set 13 (a 13, .inl (cy 0, 120, .inl f)) = mW cy a i (va_up r 13 f) rl := rfl
theorem mS14 (cy : Nat → ClassId) (a : Nat → Nat) (i : Nat → Int32) (r : Nat → Nat → Int32) (rl : Nat → Int64) (f : Nat → Int32) : (mW cy a i r rl).set 14 (a 14, .inl (cy 0, 120, .inl f)) = mW cy a i (va_up r 14 f) rl := rfl
theorem mS15 (cy : Nat → ClassId) (a : Nat → Nat) (i : Nat → Int32) (r : Nat → Nat → Int32) (rl : Nat → Int64) (f : Nat → Int32) : (mW cy a i r rl).set 15 (a 15, .inl (cy 0, 120, .inl f)) = mW cy a i (va_up r 15 f) rl := rfl
theorem mS16 (cy : Nat → ClassId) (a : Nat → Nat) (i : Nat → Int32) (r : Nat → Nat → Int32) (rl : Nat → Int64) (f : Nat → Int32) : (mW cy a i r rl).set 16 (a 16, .inl (cy 0, 120, .inl f)) = mW cy a i (va_up r 16 f) rl := rfl
theorem mS17 (cy : Nat → ClassId) (a : Nat → Nat) (i : Nat → Int32) (r : Nat → Nat → Int32) (rl : Nat → Int64) (f : Nat → Int32) : (mW cy a i r rl).set 17 (a 17, .inl (cy 0, 120, .inl f)) = mW cy a i (va_up r 17 f) rl := rfl
theorem mS18 (cy : Nat → ClassId) (a : Nat → Nat) (i : Nat → Int32) (r : Nat → Nat → Int32) (rl : Nat → Int64) (f : Nat → Int32) : (mW cy a i r rl).set 18 (a 18, .inl (cy 0, 120, .inl f)) = mW cy a i (va_up r 18 f) rl := rfl
theorem mS19 (cy : Nat → ClassId) (a : Nat → Nat) (i : Nat → Int32) (r : Nat → Nat → Int32) (rl : Nat → Int64) (f : Nat → Int32) : (mW cy a i r rl).set 19 (a 19, .inl (cy 2, 6, .inl f)) = mW cy a i (va_up r 19 f) rl := rfl
theorem mS20 (cy : Nat → ClassId) (a : Nat → Nat) (i : Nat → Int32) (r : Nat → Nat → Int32) (rl : Nat → Int64) (f : Nat → Int32) : (mW cy a i r rl).set 20 (a 20, .inl (cy 1, 220, .inl f)) = mW cy a i (va_up r 20 f) rl := rfl
theorem mS21 (cy : Nat → ClassId) (a : Nat → Nat) (i : Nat → Int32) (r : Nat → Nat → Int32) (rl : Nat → Int64) (f : Nat → Int32) : (mW cy a i r rl).set 21 (a 21, .inl (cy 0, 220, .inl f)) = mW cy a i (va_up r 21 f) rl := rfl
theorem mS22 (cy : Nat → ClassId) (a : Nat → Nat) (i : Nat → Int32) (r : Nat → Nat → Int32) (rl : Nat → Int64) (f : Nat → Int32) : (mW cy a i r rl).set 22 (a 22, .inl (cy 0, 220, .inl f)) = mW cy a i (va_up r 22 f) rl := rfl
theorem mS23 (cy : Nat → ClassId) (a : Nat → Nat) (i : Nat → Int32) (r : Nat → Nat → Int32) (rl : Nat → Int64) (f : Nat → Int32) : (mW cy a i r rl).set 23 (a 23, .inl (cy 0, 14, .inl f)) = mW cy a i (va_up r 23 f) rl := rfl
theorem mS24 (cy : Nat → ClassId) (a : Nat → Nat) (i : Nat → Int32) (r : Nat → Nat → Int32) (rl : Nat → Int64) (f : Nat → Int32) : (mW cy a i r rl).set 24 (a 24, .inl (cy 0, 14, .inl f)) = mW cy a i (va_up r 24 f) rl := rfl
theorem mS25 (cy : Nat → ClassId) (a : Nat → Nat) (i : Nat → Int32) (r : Nat → Nat → Int32) (rl : Nat → Int64) (f : Nat → Int32) : (mW cy a i r rl).set 25 (a 25, .inl (cy 0, 14, .inl f)) = mW cy a i (va_up r 25 f) rl := rfl
theorem mS26 (cy : Nat → ClassId) (a : Nat → Nat) (i : Nat → Int32) (r : Nat → Nat → Int32) (rl : Nat → Int64) (f : Nat → Int32) : (mW cy a i r rl).set 26 (a 26, .inl (cy 0, 14, .inl f)) = mW cy a i (va_up r 26 f) rl := rfl
theorem mS27 (cy : Nat → ClassId) (a : Nat → Nat) (i : Nat → Int32) (r : Nat → Nat → Int32) (rl : Nat → Int64) (f : Nat → Int32) : (mW cy a i r rl).set 27 (a 27, .inl (cy 0, 220, .inl f)) = mW cy a i (va_up r 27 f) rl := rfl
theorem mS28 (cy : Nat → ClassId) (a : Nat → Nat) (i : Nat → Int32) (r : Nat → Nat → Int32) (rl : Nat → Int64) (f : Nat → Int32) : (mW cy a i r rl).set 28 (a 28, .inl (cy 0, 14, .inl f)) = mW cy a i (va_up r 28 f) rl := rfl
theorem mS29 (cy : Nat → ClassId) (a : Nat → Nat) (i : Nat → Int32) (r : Nat → Nat → Int32) (rl : Nat → Int64) (f : Nat → Int32) : (mW cy a i r rl).set 29 (a 29, .inl (cy 0, 14, .inl f)) = mW cy a i (va_up r 29 f) rl := rfl
theorem mS30 (cy : Nat → ClassId) (a : Nat → Nat) (i : Nat → Int32) (r : Nat → Nat → Int32) (rl : Nat → Int64) (f : Nat → Int32) : (mW cy a i r rl).set 30 (a 30, .inl (cy 0, 14, .inl f)) = mW cy a i (va_up r 30 f) rl := rfl
theorem mS31 (cy : Nat → ClassId) (a : Nat → Nat) (i : Nat → Int32) (r : Nat → Nat → Int32) (rl : Nat → Int64) (f : Nat → Int32) : (mW cy a i r rl).set 31 (a 31, .inl (cy 0, 14, .inl f)) = mW cy a i (va_up r 31 f) rl := rfl
theorem mS32 (cy : Nat → ClassId) (a : Nat → Nat) (i : Nat → Int32) (r : Nat → Nat → Int32) (rl : Nat → Int64) (f : Nat → Int32) : (mW cy a i r rl).set 32 (a 32, .inl (cy 0, 220, .inl f)) = mW cy a i (va_up r 32 f) rl := rfl
theorem mS33 (cy : Nat → ClassId) (a : Nat → Nat) (i : Nat → Int32) (r : Nat → Nat → Int32) (rl : Nat → Int64) (f : Nat → Int32) : (mW cy a i r rl).set 33 (a 33, .inl (cy 0, 10, .inl f)) = mW cy a i (va_up r 33 f) rl := rfl
theorem mS34 (cy : Nat → ClassId) (a : Nat → Nat) (i : Nat → Int32) (r : Nat → Nat → Int32) (rl : Nat → Int64) (f : Nat → Int32) : (mW cy a i r rl).set 34 (a 34, .inl (cy 0, 20, .inl f)) = mW cy a i (va_up r 34 f) rl := rfl
theorem mS35 (cy : Nat → ClassId) (a : Nat → Nat) (i : Nat → Int32) (r : Nat → Nat → Int32) (rl : Nat → Int64) (f : Nat → Int32) : (mW cy a i r rl).set 35 (a 35, .inl (cy 0, 10, .inl f)) = mW cy a i (va_up r 35 f) rl := rfl
theorem mS36 (cy : Nat → ClassId) (a : Nat → Nat) (i : Nat → Int32) (r : Nat → Nat → Int32) (rl : Nat → Int64) (f : Nat → Int32) : (mW cy a i r rl).set 36 (a 36, .inl (cy 0, 10, .inl f)) = mW cy a i (va_up r 36 f) rl := rfl
theorem mS37 (cy : Nat → ClassId) (a : Nat → Nat) (i : Nat → Int32) (r : Nat → Nat → Int32) (rl : Nat → Int64) (f : Nat → Int32) : (mW cy a i r rl).set 37 (a 37, .inl (cy 0, 10, .inl f)) = mW cy a i (va_up r 37 f) rl := rfl
theorem mS38 (cy : Nat → ClassId) (a : Nat → Nat) (i : Nat → Int32) (r : Nat → Nat → Int32) (rl : Nat → Int64) (f : Nat → Int32) : (mW cy a i r rl).set 38 (a 38, .inl (cy 0, 10, .inl f)) = mW cy a i (va_up r 38 f) rl := rfl
theorem mS39 (cy : Nat → ClassId) (a : Nat → Nat) (i : Nat → Int32) (r : Nat → Nat → Int32) (rl : Nat → Int64) (f : Nat → Int32) : (mW cy a i r rl).set 39 (a 39, .inl (cy 2, 20, .inl f)) = mW cy a i (va_up r 39 f) rl := rfl
theorem mS40 (cy : Nat → ClassId) (a : Nat → Nat) (i : Nat → Int32) (r : Nat → Nat → Int32) (rl : Nat → Int64) (f : Nat → Int32) : (mW cy a i r rl).set 40 (a 40, .inl (cy 0, 30, .inl f)) = mW cy a i (va_up r 40 f) rl := rfl
theorem mS41 (cy : Nat → ClassId) (a : Nat → Nat) (i : Nat → Int32) (r : Nat → Nat → Int32) (rl : Nat → Int64) (f : Nat → Int32) : (mW cy a i r rl).set 41 (a 41, .inl (cy 0, 30, .inl f)) = mW cy a i (va_up r 41 f) rl := rfl
theorem mS42 (cy : Nat → ClassId) (a : Nat → Nat) (i : Nat → Int32) (r : Nat → Nat → Int32) (rl : Nat → Int64) (f : Nat → Int32) : (mW cy a i r rl).set 42 (a 42, .inl (cy 0, 30, .inl f)) = mW cy a i (va_up r 42 f) rl := rfl
theorem mS43 (cy : Nat → ClassId) (a : Nat → Nat) (i : Nat → Int32) (r : Nat → Nat → Int32) (rl : Nat → Int64) (f : Nat → Int32) : (mW cy a i r rl).set 43 (a 43, .inl (cy 0, 30, .inl f)) = mW cy a i (va_up r 43 f) rl := rfl
theorem mS44 (cy : Nat → ClassId) (a : Nat → Nat) (i : Nat → Int32) (r : Nat → Nat → Int32) (rl : Nat → Int64) (f : Nat → Int32) : (mW cy a i r rl).set 44 (a 44, .inl (cy 0, 30, .inl f)) = mW cy a i (va_up r 44 f) rl := rfl
theorem mS45 (cy : Nat → ClassId) (a : Nat → Nat) (i : Nat → Int32) (r : Nat → Nat → Int32) (rl : Nat → Int64) (f : Nat → Int32) : (mW cy a i r rl).set 45 (a 45, .inl (cy 0, 30, .inl f)) = mW cy a i (va_up r 45 f) rl := rfl
theorem mS46 (cy : Nat → ClassId) (a : Nat → Nat) (i : Nat → Int32) (r : Nat → Nat → Int32) (rl : Nat → Int64) (f : Nat → Int32) : (mW cy a i r rl).set 46 (a 46, .inl (cy 0, 30, .inl f)) = mW cy a i (va_up r 46 f) rl := rfl
theorem mS47 (cy : Nat → ClassId) (a : Nat → Nat) (i : Nat → Int32) (r : Nat → Nat → Int32) (rl : Nat → Int64) (f : Nat → Int32) : (mW cy a i r rl).set 47 (a 47, .inl (cy 2, 30, .inl f)) = mW cy a i (va_up r 47 f) rl := rfl
theorem mS49 (cy : Nat → ClassId) (a : Nat → Nat) (i : Nat → Int32) (r : Nat → Nat → Int32) (rl : Nat → Int64) (f : Nat → Int32) : (mW cy a i r rl).set 49 (a 49, .inl (cy 0, 4, .inl f)) = mW cy a i (va_up r 49 f) rl := rfl
theorem mS50 (cy : Nat → ClassId) (a : Nat → Nat) (i : Nat → Int32) (r : Nat → Nat → Int32) (rl : Nat → Int64) (f : Nat → Int32) : (mW cy a i r rl).set 50 (a 50, .inl (cy 0, 6, .inl f)) = mW cy a i (va_up r 50 f) rl := rfl
theorem mS51 (cy : Nat → ClassId) (a : Nat → Nat) (i : Nat → Int32) (r : Nat → Nat → Int32) (rl : Nat → Int64) (f : Nat → Int32) : (mW cy a i r rl).set 51 (a 51, .inl (cy 0, 6, .inl f)) = mW cy a i (va_up r 51 f) rl := rfl
theorem mS52 (cy : Nat → ClassId) (a : Nat → Nat) (i : Nat → Int32) (r : Nat → Nat → Int32) (rl : Nat → Int64) (f : Nat → Int32) : (mW cy a i r rl).set 52 (a 52, .inl (cy 0, 40, .inl f)) = mW cy a i (va_up r 52 f) rl := rfl
theorem mS53 (cy : Nat → ClassId) (a : Nat → Nat) (i : Nat → Int32) (r : Nat → Nat → Int32) (rl : Nat → Int64) (f : Nat → Int32) : (mW cy a i r rl).set 53 (a 53, .inl (cy 0, 40, .inl f)) = mW cy a i (va_up r 53 f) rl := rfl
theorem mS54 (cy : Nat → ClassId) (a : Nat → Nat) (i : Nat → Int32) (r : Nat → Nat → Int32) (rl : Nat → Int64) (f : Nat → Int32) : (mW cy a i r rl).set 54 (a 54, .inl (cy 0, 40, .inl f)) = mW cy a i (va_up r 54 f) rl := rfl
theorem mS55 (cy : Nat → ClassId) (a : Nat → Nat) (i : Nat → Int32) (r : Nat → Nat → Int32) (rl : Nat → Int64) (f : Nat → Int32) : (mW cy a i r rl).set 55 (a 55, .inl (cy 0, 40, .inl f)) = mW cy a i (va_up r 55 f) rl := rfl
theorem mS56 (cy : Nat → ClassId) (a : Nat → Nat) (i : Nat → Int32) (r : Nat → Nat → Int32) (rl : Nat → Int64) (f : Nat → Int32) : (mW cy a i r rl).set 56 (a 56, .inl (cy 2, 36, .inl f)) = mW cy a i (va_up r 56 f) rl := rfl
theorem mS57 (cy : Nat → ClassId) (a : Nat → Nat) (i : Nat → Int32) (r : Nat → Nat → Int32) (rl : Nat → Int64) (f : Nat → Int32) : (mW cy a i r rl).set 57 (a 57, .inl (cy 0, 48, .inl f)) = mW cy a i (va_up r 57 f) rl := rfl
theorem mS58 (cy : Nat → ClassId) (a : Nat → Nat) (i : Nat → Int32) (r : Nat → Nat → Int32) (rl : Nat → Int64) (f : Nat → Int32) : (mW cy a i r rl).set 58 (a 58, .inl (cy 0, 30, .inl f)) = mW cy a i (va_up r 58 f) rl := rfl
theorem mS59 (cy : Nat → ClassId) (a : Nat → Nat) (i : Nat → Int32) (r : Nat → Nat → Int32) (rl : Nat → Int64) (f : Nat → Int32) : (mW cy a i r rl).set 59 (a 59, .inl (cy 0, 30, .inl f)) = mW cy a i (va_up r 59 f) rl := rfl
theorem mS60 (cy : Nat → ClassId) (a : Nat → Nat) (i : Nat → Int32) (r : Nat → Nat → Int32) (rl : Nat → Int64) (f : Nat → Int32) : (mW cy a i r rl).set 60 (a 60, .inl (cy 0, 30, .inl f)) = mW cy a i (va_up r 60 f) rl := rfl
theorem mS61 (cy : Nat → ClassId) (a : Nat → Nat) (i : Nat → Int32) (r : Nat → Nat → Int32) (rl : Nat → Int64) (f : Nat → Int32) : (mW cy a i r rl).set 61 (a 61, .inl (cy 0, 121, .inl f)) = mW cy a i (va_up r 61 f) rl := rfl
theorem mS62 (cy : Nat → ClassId) (a : Nat → Nat) (i : Nat → Int32) (r : Nat → Nat → Int32) (rl : Nat → Int64) (f : Nat → Int32) : (mW cy a i r rl).set 62 (a 62, .inl (cy 2, 30, .inl f)) = mW cy a i (va_up r 62 f) rl := rfl
theorem mS63 (cy : Nat → ClassId) (a : Nat → Nat) (i : Nat → Int32) (r : Nat → Nat → Int32) (rl : Nat → Int64) (f : Nat → Int32) : (mW cy a i r rl).set 63 (a 63, .inl (cy 0, 30, .inl f)) = mW cy a i (va_up r 63 f) rl := rfl
theorem mS64 (cy : Nat → ClassId) (a : Nat → Nat) (i : Nat → Int32) (r : Nat → Nat → Int32) (rl : Nat → Int64) (f : Nat → Int32) : (mW cy a i r rl).set 64 (a 64, .inl (cy 0, 30, .inl f)) = mW cy a i (va_up r 64 f) rl := rfl
theorem mS65 (cy : Nat → ClassId) (a : Nat → Nat) (i : Nat → Int32) (r : Nat → Nat → Int32) (rl : Nat → Int64) (f : Nat → Int32) : (mW cy a i r rl).set 65 (a 65, .inl (cy 0, 30, .inl f)) = mW cy a i (va_up r 65 f) rl := rfl
theorem mS66 (cy : Nat → ClassId) (a : Nat → Nat) (i : Nat → Int32) (r : Nat → Nat → Int32) (rl : Nat → Int64) (f : Nat → Int32) : (mW cy a i r rl).set 66 (a 66, .inl (cy 0, 30, .inl f)) = mW cy a i (va_up r 66 f) rl := rfl
theorem mS67 (cy : Nat → ClassId) (a : Nat → Nat) (i : Nat → Int32) (r : Nat → Nat → Int32) (rl : Nat → Int64) (f : Nat → Int32) : (mW cy a i r rl).set 67 (a 67, .inl (cy 0, 30, .inl f)) = mW cy a i (va_up r 67 f) rl := rfl
theorem mS68 (cy : Nat → ClassId) (a : Nat → Nat) (i : Nat → Int32) (r : Nat → Nat → Int32) (rl : Nat → Int64) (f : Nat → Int32) : (mW cy a i r rl).set 68 (a 68, .inl (cy 0, 30, .inl f)) = mW cy a i (va_up r 68 f) rl := rfl
theorem mS69 (cy : Nat → ClassId) (a : Nat → Nat) (i : Nat → Int32) (r : Nat → Nat → Int32) (rl : Nat → Int64) (f : Nat → Int32) : (mW cy a i r rl).set 69 (a 69, .inl (cy 0, 30, .inl f)) = mW cy a i (va_up r 69 f) rl := rfl
theorem mS70 (cy : Nat → ClassId) (a : Nat → Nat) (i : Nat → Int32) (r : Nat → Nat → Int32) (rl : Nat → Int64) (f : Nat → Int32) : (mW cy a i r rl).set 70 (a 70, .inl (cy 0, 6, .inl f)) = mW cy a i (va_up r 70 f) rl := rfl
theorem mS71 (cy : Nat → ClassId) (a : Nat → Nat) (i : Nat → Int32) (r : Nat → Nat → Int32) (rl : Nat → Int64) (f : Nat → Int32) : (mW cy a i r rl).set 71 (a 71, .inl (cy 0, 6, .inl f)) = mW cy a i (va_up r 71 f) rl := rfl
theorem mS72 (cy : Nat → ClassId) (a : Nat → Nat) (i : Nat → Int32) (r : Nat → Nat → Int32) (rl : Nat → Int64) (f : Nat → Int32) : (mW cy a i r rl).set 72 (a 72, .inl (cy 2, 30, .inl f)) = mW cy a i (va_up r 72 f) rl := rfl
theorem mP0 (cy : Nat → ClassId) (a : Nat → Nat) (i : Nat → Int32) (r : Nat → Nat → Int32) (rl : Nat → Int64) (v : Int32) : (mW cy a i r rl).set 0 (a 0, .inr (12, (mF a i).set 0 (.int v))) = mW cy a (upd i 0 v) r rl := rfl
theorem mP1 (cy : Nat → ClassId) (a : Nat → Nat) (i : Nat → Int32) (r : Nat → Nat → Int32) (rl : Nat → Int64) (v : Int32) : (mW cy a i r rl).set 0 (a 0, .inr (12, (mF a i).set 1 (.int v))) = mW cy a (upd i 1 v) r rl := rfl
theorem mP22 (cy : Nat → ClassId) (a : Nat → Nat) (i : Nat → Int32) (r : Nat → Nat → Int32) (rl : Nat → Int64) (v : Int32) : (mW cy a i r rl).set 0 (a 0, .inr (12, (mF a i).set 22 (.int v))) = mW cy a (upd i 22 v) r rl := rfl
theorem mP23 (cy : Nat → ClassId) (a : Nat → Nat) (i : Nat → Int32) (r : Nat → Nat → Int32) (rl : Nat → Int64) (v : Int32) : (mW cy a i r rl).set 0 (a 0, .inr (12, (mF a i).set 23 (.int v))) = mW cy a (upd i 23 v) r rl := rfl
theorem mP24 (cy : Nat → ClassId) (a : Nat → Nat) (i : Nat → Int32) (r : Nat → Nat → Int32) (rl : Nat → Int64) (v : Int32) : (mW cy a i r rl).set 0 (a 0, .inr (12, (mF a i).set 24 (.int v))) = mW cy a (upd i 24 v) r rl := rfl
theorem mP25 (cy : Nat → ClassId) (a : Nat → Nat) (i : Nat → Int32) (r : Nat → Nat → Int32) (rl : Nat → Int64) (v : Int32) : (mW cy a i r rl).set 0 (a 0, .inr (12, (mF a i).set 25 (.int v))) = mW cy a (upd i 25 v) r rl := rfl
theorem mP26 (cy : Nat → ClassId) (a : Nat → Nat) (i : Nat → Int32) (r : Nat → Nat → Int32) (rl : Nat → Int64) (v : Int32) : (mW cy a i r rl).set 0 (a 0, .inr (12, (mF a i).set 26 (.int v))) = mW cy a (upd i 26 v) r rl := rfl
theorem mP27 (cy : Nat → ClassId) (a : Nat → Nat) (i : Nat → Int32) (r : Nat → Nat → Int32) (rl : Nat → Int64) (v : Int32) : (mW cy a i r rl).set 0 (a 0, .inr (12, (mF a i).set 27 (.int v))) = mW cy a (upd i 27 v) r rl := rfl
theorem mP28 (cy : Nat → ClassId) (a : Nat → Nat) (i : Nat → Int32) (r : Nat → Nat → Int32) (rl : Nat → Int64) (v : Int32) : (mW cy a i r rl).set 0 (a 0, .inr (12, (mF a i).set 28 (.int v))) = mW cy a (upd i 28 v) r rl := rfl
theorem mP29 (cy : Nat → ClassId) (a : Nat → Nat) (i : Nat → Int32) (r : Nat → Nat → Int32) (rl : Nat → Int64) (v : Int32) : (mW cy a i r rl).set 0 (a 0, .inr (12, (mF a i).set 29 (.int v))) = mW cy a (upd i 29 v) r rl := rfl
theorem mP30 (cy : Nat → ClassId) (a : Nat → Nat) (i : Nat → Int32) (r : Nat → Nat → Int32) (rl : Nat → Int64) (v : Int32) : (mW cy a i r rl).set 0 (a 0, .inr (12, (mF a i).set 30 (.int v))) = mW cy a (upd i 30 v) r rl := rfl
theorem mP31 (cy : Nat → ClassId) (a : Nat → Nat) (i : Nat → Int32) (r : Nat → Nat → Int32) (rl : Nat → Int64) (v : Int32) : (mW cy a i r rl).set 0 (a 0, .inr (12, (mF a i).set 31 (.int v))) = mW cy a (upd i 31 v) r rl := rfl
theorem mP51 (cy : Nat → ClassId) (a : Nat → Nat) (i : Nat → Int32) (r : Nat → Nat → Int32) (rl : Nat → Int64) (v : Int32) : (mW cy a i r rl).set 0 (a 0, .inr (12, (mF a i).set 51 (.int v))) = mW cy a (upd i 51 v) r rl := rfl
theorem mP60 (cy : Nat → ClassId) (a : Nat → Nat) (i : Nat → Int32) (r : Nat → Nat → Int32) (rl : Nat → Int64) (v : Int32) : (mW cy a i r rl).set 0 (a 0, .inr (12, (mF a i).set 60 (.int v))) = mW cy a (upd i 60 v) r rl := rfl
theorem mP63 (cy : Nat → ClassId) (a : Nat → Nat) (i : Nat → Int32) (r : Nat → Nat → Int32) (rl : Nat → Int64) (v : Int32) : (mW cy a i r rl).set 0 (a 0, .inr (12, (mF a i).set 63 (.int v))) = mW cy a (upd i 63 v) r rl := rfl
theorem mP72 (cy : Nat → ClassId) (a : Nat → Nat) (i : Nat → Int32) (r : Nat → Nat → Int32) (rl : Nat → Int64) (v : Int32) : (mW cy a i r rl).set 0 (a 0, .inr (12, (mF a i).set 72 (.int v))) = mW cy a (upd i 72 v) r rl := rfl
theorem mP78 (cy : Nat → ClassId) (a : Nat → Nat) (i : Nat → Int32) (r : Nat → Nat → Int32) (rl : Nat → Int64) (v : Int32) : (mW cy a i r rl).set 0 (a 0, .inr (12, (mF a i).set 78 (.int v))) = mW cy a (upd i 78 v) r rl := rfl
theorem mP79 (cy : Nat → ClassId) (a : Nat → Nat) (i : Nat → Int32) (r : Nat → Nat → Int32) (rl : Nat → Int64) (v : Int32) : (mW cy a i r rl).set 0 (a 0, .inr (12, (mF a i).set 79 (.int v))) = mW cy a (upd i 79 v) r rl := rfl
theorem mP80 (cy : Nat → ClassId) (a : Nat → Nat) (i : Nat → Int32) (r : Nat → Nat → Int32) (rl : Nat → Int64) (v : Int32) : (mW cy a i r rl).set 0 (a 0, .inr (12, (mF a i).set 80 (.int v))) = mW cy a (upd i 80 v) r rl := rfl
theorem xP0 (cy : Nat → ClassId) (a : Nat → Nat) (i : Nat → Int32) (r : Nat → Nat → Int32) (q : Nat → Option Nat) (lf ld : Nat) (v : Int32) : (xW cy a i r q lf ld).set 0 (a 0, .inr (11, (xF0 a i lf).set 2 (.int v))) = xW cy a (upd i 0 v) r q lf ld := rfl
theorem xP1 (cy : Nat → ClassId) (a : Nat → Nat) (i : Nat → Int32) (r : Nat → Nat → Int32) (q : Nat → Option Nat) (lf ld : Nat) (v : Int32) : (xW cy a i r q lf ld).set 0 (a 0, .inr (11, (xF0 a i lf).set 10 (.int v))) = xW cy a (upd i 1 v) r q lf ld := rfl
theorem xS2 (cy : Nat → ClassId) (a : Nat → Nat) (i : Nat → Int32) (r : Nat → Nat → Int32) (q : Nat → Option Nat) (lf ld : Nat) (f : Nat → Int32) : (xW cy a i r q lf ld).set 2 (a 2, .inl (cy 0, 8, .inl f)) = xW cy a i (va_up r 2 f) q lf ld := rfl
theorem xS3 (cy : Nat → ClassId) (a : Nat → Nat) (i : Nat → Int32) (r : Nat → Nat → Int32) (q : Nat → Option Nat) (lf ld : Nat) (f : Nat → Int32) : (xW cy a i r q lf ld).set 3 (a 3, .inl (cy 0, 32, .inl f)) = xW cy a i (va_up r 3 f) q lf ld := rfl
theorem xS6 (cy : Nat → ClassId) (a : Nat → Nat) (i : Nat → Int32) (r : Nat → Nat → Int32) (q : Nat → Option Nat) (lf ld : Nat) (f : Nat → Int32) : (xW cy a i r q lf ld).set 6 (a 6, .inl (cy 0, 10, .inl f)) = xW cy a i (va_up r 6 f) q lf ld := rfl
theorem xS7 (cy : Nat → ClassId) (a : Nat → Nat) (i : Nat → Int32) (r : Nat → Nat → Int32) (q : Nat → Option Nat) (lf ld : Nat) (f : Nat → Int32) : (xW cy a i r q lf ld).set 7 (a 7, .inl (cy 2, 20, .inl f)) = xW cy a i (va_up r 7 f) q lf ld := rfl
theorem xP2 (cy : Nat → ClassId) (a : Nat → Nat) (i : Nat → Int32) (r : Nat → Nat → Int32) (q : Nat → Option Nat) (lf ld : Nat) (v : Int32) : (xW cy a i r q lf ld).set 8 (a 8, .inr (9, (xF8 a i).set 1 (.int v))) = xW cy a (upd i 2 v) r q lf ld := rfl
theorem xS9 (cy : Nat → ClassId) (a : Nat → Nat) (i : Nat → Int32) (r : Nat → Nat → Int32) (q : Nat → Option Nat) (lf ld : Nat) (f : Nat → Int32) : (xW cy a i r q lf ld).set 9 (a 9, .inl (cy 1, 220, .inl f)) = xW cy a i (va_up r 9 f) q lf ld := rfl
theorem xP3 (cy : Nat → ClassId) (a : Nat → Nat) (i : Nat → Int32) (r : Nat → Nat → Int32) (q : Nat → Option Nat) (lf ld : Nat) (v : Int32) : (xW cy a i r q lf ld).set 10 (a 10, .inr (6, (xF10 a i ld).set 2 (.int v))) = xW cy a (upd i 3 v) r q lf ld := rfl
theorem xP4 (cy : Nat → ClassId) (a : Nat → Nat) (i : Nat → Int32) (r : Nat → Nat → Int32) (q : Nat → Option Nat) (lf ld : Nat) (v : Int32) : (xW cy a i r q lf ld).set 10 (a 10, .inr (6, (xF10 a i ld).set 3 (.int v))) = xW cy a (upd i 4 v) r q lf ld := rfl
theorem xP5 (cy : Nat → ClassId) (a : Nat → Nat) (i : Nat → Int32) (r : Nat → Nat → Int32) (q : Nat → Option Nat) (lf ld : Nat) (v : Int32) : (xW cy a i r q lf ld).set 10 (a 10, .inr (6, (xF10 a i ld).set 4 (.int v))) = xW cy a (upd i 5 v) r q lf ld := rfl
theorem xS11 (cy : Nat → ClassId) (a : Nat → Nat) (i : Nat → Int32) (r : Nat → Nat → Int32) (q : Nat → Option Nat) (lf ld : Nat) (f : Nat → Int32) : (xW cy a i r q lf ld).set 11 (a 11, .inl (cy 1, 200, .inl f)) = xW cy a i (va_up r 11 f) q lf ld := rfl
theorem xP6 (cy : Nat → ClassId) (a : Nat → Nat) (i : Nat → Int32) (r : Nat → Nat → Int32) (q : Nat → Option Nat) (lf ld : Nat) (v : Int32) : (xW cy a i r q lf ld).set 12 (a 12, .inr (5, (xF12 a i).set 0 (.int v))) = xW cy a (upd i 6 v) r q lf ld := rfl
theorem xP7 (cy : Nat → ClassId) (a : Nat → Nat) (i : Nat → Int32) (r : Nat → Nat → Int32) (q : Nat → Option Nat) (lf ld : Nat) (v : Int32) : (xW cy a i r q lf ld).set 12 (a 12, .inr (5, (xF12 a i).set 1 (.int v))) = xW cy a (upd i 7 v) r q lf ld := rfl
theorem xS13 (cy : Nat → ClassId) (a : Nat → Nat) (i : Nat → Int32) (r : Nat → Nat → Int32) (q : Nat → Option Nat) (lf ld : Nat) (f : Nat → Int32) : (xW cy a i r q lf ld).set 13 (a 13, .inl (cy 0, 14, .inl f)) = xW cy a i (va_up r 13 f) q lf ld := rfl
theorem xS14 (cy : Nat → ClassId) (a : Nat → Nat) (i : Nat → Int32) (r : Nat → Nat → Int32) (q : Nat → Option Nat) (lf ld : Nat) (f : Nat → Int32) : (xW cy a i r q lf ld).set 14 (a 14, .inl (cy 0, 14, .inl f)) = xW cy a i (va_up r 14 f) q lf ld := rfl
theorem xS15 (cy : Nat → ClassId) (a : Nat → Nat) (i : Nat → Int32) (r : Nat → Nat → Int32) (q : Nat → Option Nat) (lf ld : Nat) (f : Nat → Int32) : (xW cy a i r q lf ld).set 15 (a 15, .inl (cy 0, 14, .inl f)) = xW cy a i (va_up r 15 f) q lf ld := rfl
theorem xS16 (cy : Nat → ClassId) (a : Nat → Nat) (i : Nat → Int32) (r : Nat → Nat → Int32) (q : Nat → Option Nat) (lf ld : Nat) (f : Nat → Int32) : (xW cy a i r q lf ld).set 16 (a 16, .inl (cy 0, 14, .inl f)) = xW cy a i (va_up r 16 f) q lf ld := rfl
theorem xS17 (cy : Nat → ClassId) (a : Nat → Nat) (i : Nat → Int32) (r : Nat → Nat → Int32) (q : Nat → Option Nat) (lf ld : Nat) (f : Nat → Int32) : (xW cy a i r q lf ld).set 17 (a 17, .inl (cy 0, 200, .inl f)) = xW cy a i (va_up r 17 f) q lf ld := rfl
theorem xS18 (cy : Nat → ClassId) (a : Nat → Nat) (i : Nat → Int32) (r : Nat → Nat → Int32) (q : Nat → Option Nat) (lf ld : Nat) (f : Nat → Int32) : (xW cy a i r q lf ld).set 18 (a 18, .inl (cy 0, 200, .inl f)) = xW cy a i (va_up r 18 f) q lf ld := rfl
theorem xS19 (cy : Nat → ClassId) (a : Nat → Nat) (i : Nat → Int32) (r : Nat → Nat → Int32) (q : Nat → Option Nat) (lf ld : Nat) (f : Nat → Int32) : (xW cy a i r q lf ld).set 19 (a 19, .inl (cy 0, 200, .inl f)) = xW cy a i (va_up r 19 f) q lf ld := rfl
theorem xP8 (cy : Nat → ClassId) (a : Nat → Nat) (i : Nat → Int32) (r : Nat → Nat → Int32) (q : Nat → Option Nat) (lf ld : Nat) (v : Int32) : (xW cy a i r q lf ld).set 20 (a 20, .inr (5, (xF20 a i).set 0 (.int v))) = xW cy a (upd i 8 v) r q lf ld := rfl
theorem xP9 (cy : Nat → ClassId) (a : Nat → Nat) (i : Nat → Int32) (r : Nat → Nat → Int32) (q : Nat → Option Nat) (lf ld : Nat) (v : Int32) : (xW cy a i r q lf ld).set 20 (a 20, .inr (5, (xF20 a i).set 1 (.int v))) = xW cy a (upd i 9 v) r q lf ld := rfl
theorem xS21 (cy : Nat → ClassId) (a : Nat → Nat) (i : Nat → Int32) (r : Nat → Nat → Int32) (q : Nat → Option Nat) (lf ld : Nat) (f : Nat → Int32) : (xW cy a i r q lf ld).set 21 (a 21, .inl (cy 0, 14, .inl f)) = xW cy a i (va_up r 21 f) q lf ld := rfl
theorem xS22 (cy : Nat → ClassId) (a : Nat → Nat) (i : Nat → Int32) (r : Nat → Nat → Int32) (q : Nat → Option Nat) (lf ld : Nat) (f : Nat → Int32) : (xW cy a i r q lf ld).set 22 (a 22, .inl (cy 0, 14, .inl f)) = xW cy a i (va_up r 22 f) q lf ld := rfl
theorem xS23 (cy : Nat → ClassId) (a : Nat → Nat) (i : Nat → Int32) (r : Nat → Nat → Int32) (q : Nat → Option Nat) (lf ld : Nat) (f : Nat → Int32) : (xW cy a i r q lf ld).set 23 (a 23, .inl (cy 0, 14, .inl f)) = xW cy a i (va_up r 23 f) q lf ld := rfl
theorem xS24 (cy : Nat → ClassId) (a : Nat → Nat) (i : Nat → Int32) (r : Nat → Nat → Int32) (q : Nat → Option Nat) (lf ld : Nat) (f : Nat → Int32) : (xW cy a i r q lf ld).set 24 (a 24, .inl (cy 0, 14, .inl f)) = xW cy a i (va_up r 24 f) q lf ld := rfl
theorem xS25 (cy : Nat → ClassId) (a : Nat → Nat) (i : Nat → Int32) (r : Nat → Nat → Int32) (q : Nat → Option Nat) (lf ld : Nat) (f : Nat → Int32) : (xW cy a i r q lf ld).set 25 (a 25, .inl (cy 0, 200, .inl f)) = xW cy a i (va_up r 25 f) q lf ld := rfl
theorem xS26 (cy : Nat → ClassId) (a : Nat → Nat) (i : Nat → Int32) (r : Nat → Nat → Int32) (q : Nat → Option Nat) (lf ld : Nat) (f : Nat → Int32) : (xW cy a i r q lf ld).set 26 (a 26, .inl (cy 0, 200, .inl f)) = xW cy a i (va_up r 26 f) q lf ld := rfl
theorem xS27 (cy : Nat → ClassId) (a : Nat → Nat) (i : Nat → Int32) (r : Nat → Nat → Int32) (q : Nat → Option Nat) (lf ld : Nat) (f : Nat → Int32) : (xW cy a i r q lf ld).set 27 (a 27, .inl (cy 0, 200, .inl f)) = xW cy a i (va_up r 27 f) q lf ld := rfl
theorem xS28 (cy : Nat → ClassId) (a : Nat → Nat) (i : Nat → Int32) (r : Nat → Nat → Int32) (q : Nat → Option Nat) (lf ld : Nat) (f : Nat → Int32) : (xW cy a i r q lf ld).set 28 (a 28, .inl (cy 0, 10, .inl f)) = xW cy a i (va_up r 28 f) q lf ld := rfl
theorem xP10 (cy : Nat → ClassId) (a : Nat → Nat) (i : Nat → Int32) (r : Nat → Nat → Int32) (q : Nat → Option Nat) (lf ld : Nat) (v : Int32) : (xW cy a i r q lf ld).set 29 (a 29, .inr (1, (xF29 a i).set 0 (.int v))) = xW cy a (upd i 10 v) r q lf ld := rfl
theorem xP11 (cy : Nat → ClassId) (a : Nat → Nat) (i : Nat → Int32) (r : Nat → Nat → Int32) (q : Nat → Option Nat) (lf ld : Nat) (v : Int32) : (xW cy a i r q lf ld).set 29 (a 29, .inr (1, (xF29 a i).set 11 (.int v))) = xW cy a (upd i 11 v) r q lf ld := rfl
theorem xS30 (cy : Nat → ClassId) (a : Nat → Nat) (i : Nat → Int32) (r : Nat → Nat → Int32) (q : Nat → Option Nat) (lf ld : Nat) (f : Nat → Int32) : (xW cy a i r q lf ld).set 30 (a 30, .inl (cy 0, 30, .inl f)) = xW cy a i (va_up r 30 f) q lf ld := rfl
theorem xS31 (cy : Nat → ClassId) (a : Nat → Nat) (i : Nat → Int32) (r : Nat → Nat → Int32) (q : Nat → Option Nat) (lf ld : Nat) (f : Nat → Int32) : (xW cy a i r q lf ld).set 31 (a 31, .inl (cy 0, 30, .inl f)) = xW cy a i (va_up r 31 f) q lf ld := rfl
theorem xS32 (cy : Nat → ClassId) (a : Nat → Nat) (i : Nat → Int32) (r : Nat → Nat → Int32) (q : Nat → Option Nat) (lf ld : Nat) (f : Nat → Int32) : (xW cy a i r q lf ld).set 32 (a 32, .inl (cy 0, 30, .inl f)) = xW cy a i (va_up r 32 f) q lf ld := rfl
theorem xS33 (cy : Nat → ClassId) (a : Nat → Nat) (i : Nat → Int32) (r : Nat → Nat → Int32) (q : Nat → Option Nat) (lf ld : Nat) (f : Nat → Int32) : (xW cy a i r q lf ld).set 33 (a 33, .inl (cy 0, 30, .inl f)) = xW cy a i (va_up r 33 f) q lf ld := rfl
theorem xS34 (cy : Nat → ClassId) (a : Nat → Nat) (i : Nat → Int32) (r : Nat → Nat → Int32) (q : Nat → Option Nat) (lf ld : Nat) (f : Nat → Int32) : (xW cy a i r q lf ld).set 34 (a 34, .inl (cy 0, 30, .inl f)) = xW cy a i (va_up r 34 f) q lf ld := rfl
theorem xS35 (cy : Nat → ClassId) (a : Nat → Nat) (i : Nat → Int32) (r : Nat → Nat → Int32) (q : Nat → Option Nat) (lf ld : Nat) (f : Nat → Int32) : (xW cy a i r q lf ld).set 35 (a 35, .inl (cy 0, 30, .inl f)) = xW cy a i (va_up r 35 f) q lf ld := rfl
theorem xS36 (cy : Nat → ClassId) (a : Nat → Nat) (i : Nat → Int32) (r : Nat → Nat → Int32) (q : Nat → Option Nat) (lf ld : Nat) (f : Nat → Int32) : (xW cy a i r q lf ld).set 36 (a 36, .inl (cy 0, 30, .inl f)) = xW cy a i (va_up r 36 f) q lf ld := rfl
theorem xS37 (cy : Nat → ClassId) (a : Nat → Nat) (i : Nat → Int32) (r : Nat → Nat → Int32) (q : Nat → Option Nat) (lf ld : Nat) (f : Nat → Int32) : (xW cy a i r q lf ld).set 37 (a 37, .inl (cy 2, 30, .inl f)) = xW cy a i (va_up r 37 f) q lf ld := rfl
theorem xS38 (cy : Nat → ClassId) (a : Nat → Nat) (i : Nat → Int32) (r : Nat → Nat → Int32) (q : Nat → Option Nat) (lf ld : Nat) (f : Nat → Int32) : (xW cy a i r q lf ld).set 38 (a 38, .inl (cy 0, 6, .inl f)) = xW cy a i (va_up r 38 f) q lf ld := rfl
theorem xS39 (cy : Nat → ClassId) (a : Nat → Nat) (i : Nat → Int32) (r : Nat → Nat → Int32) (q : Nat → Option Nat) (lf ld : Nat) (f : Nat → Int32) : (xW cy a i r q lf ld).set 39 (a 39, .inl (cy 0, 6, .inl f)) = xW cy a i (va_up r 39 f) q lf ld := rfl
theorem xP12 (cy : Nat → ClassId) (a : Nat → Nat) (i : Nat → Int32) (r : Nat → Nat → Int32) (q : Nat → Option Nat) (lf ld : Nat) (v : Int32) : (xW cy a i r q lf ld).set 40 (a 40, .inr (1, (xF40 a i).set 0 (.int v))) = xW cy a (upd i 12 v) r q lf ld := rfl
theorem xP13 (cy : Nat → ClassId) (a : Nat → Nat) (i : Nat → Int32) (r : Nat → Nat → Int32) (q : Nat → Option Nat) (lf ld : Nat) (v : Int32) : (xW cy a i r q lf ld).set 40 (a 40, .inr (1, (xF40 a i).set 11 (.int v))) = xW cy a (upd i 13 v) r q lf ld := rfl
theorem xS41 (cy : Nat → ClassId) (a : Nat → Nat) (i : Nat → Int32) (r : Nat → Nat → Int32) (q : Nat → Option Nat) (lf ld : Nat) (f : Nat → Int32) : (xW cy a i r q lf ld).set 41 (a 41, .inl (cy 0, 30, .inl f)) = xW cy a i (va_up r 41 f) q lf ld := rfl
theorem xS42 (cy : Nat → ClassId) (a : Nat → Nat) (i : Nat → Int32) (r : Nat → Nat → Int32) (q : Nat → Option Nat) (lf ld : Nat) (f : Nat → Int32) : (xW cy a i r q lf ld).set 42 (a 42, .inl (cy 0, 30, .inl f)) = xW cy a i (va_up r 42 f) q lf ld := rfl
theorem xS43 (cy : Nat → ClassId) (a : Nat → Nat) (i : Nat → Int32) (r : Nat → Nat → Int32) (q : Nat → Option Nat) (lf ld : Nat) (f : Nat → Int32) : (xW cy a i r q lf ld).set 43 (a 43, .inl (cy 0, 30, .inl f)) = xW cy a i (va_up r 43 f) q lf ld := rfl
theorem xS44 (cy : Nat → ClassId) (a : Nat → Nat) (i : Nat → Int32) (r : Nat → Nat → Int32) (q : Nat → Option Nat) (lf ld : Nat) (f : Nat → Int32) : (xW cy a i r q lf ld).set 44 (a 44, .inl (cy 0, 30, .inl f)) = xW cy a i (va_up r 44 f) q lf ld := rfl
theorem xS45 (cy : Nat → ClassId) (a : Nat → Nat) (i : Nat → Int32) (r : Nat → Nat → Int32) (q : Nat → Option Nat) (lf ld : Nat) (f : Nat → Int32) : (xW cy a i r q lf ld).set 45 (a 45, .inl (cy 0, 30, .inl f)) = xW cy a i (va_up r 45 f) q lf ld := rfl
theorem xS46 (cy : Nat → ClassId) (a : Nat → Nat) (i : Nat → Int32) (r : Nat → Nat → Int32) (q : Nat → Option Nat) (lf ld : Nat) (f : Nat → Int32) : (xW cy a i r q lf ld).set 46 (a 46, .inl (cy 0, 30, .inl f)) = xW cy a i (va_up r 46 f) q lf ld := rfl
theorem xS47 (cy : Nat → ClassId) (a : Nat → Nat) (i : Nat → Int32) (r : Nat → Nat → Int32) (q : Nat → Option Nat) (lf ld : Nat) (f : Nat → Int32) : (xW cy a i r q lf ld).set 47 (a 47, .inl (cy 0, 30, .inl f)) = xW cy a i (va_up r 47 f) q lf ld := rfl
theorem xS48 (cy : Nat → ClassId) (a : Nat → Nat) (i : Nat → Int32) (r : Nat → Nat → Int32) (q : Nat → Option Nat) (lf ld : Nat) (f : Nat → Int32) : (xW cy a i r q lf ld).set 48 (a 48, .inl (cy 2, 30, .inl f)) = xW cy a i (va_up r 48 f) q lf ld := rfl
theorem xS49 (cy : Nat → ClassId) (a : Nat → Nat) (i : Nat → Int32) (r : Nat → Nat → Int32) (q : Nat → Option Nat) (lf ld : Nat) (f : Nat → Int32) : (xW cy a i r q lf ld).set 49 (a 49, .inl (cy 0, 6, .inl f)) = xW cy a i (va_up r 49 f) q lf ld := rfl
theorem xS50 (cy : Nat → ClassId) (a : Nat → Nat) (i : Nat → Int32) (r : Nat → Nat → Int32) (q : Nat → Option Nat) (lf ld : Nat) (f : Nat → Int32) : (xW cy a i r q lf ld).set 50 (a 50, .inl (cy 0, 6, .inl f)) = xW cy a i (va_up r 50 f) q lf ld := rfl
theorem xS52 (cy : Nat → ClassId) (a : Nat → Nat) (i : Nat → Int32) (r : Nat → Nat → Int32) (q : Nat → Option Nat) (lf ld : Nat) (f : Nat → Int32) : (xW cy a i r q lf ld).set 52 (a 52, .inl (cy 0, 4, .inl f)) = xW cy a i (va_up r 52 f) q lf ld := rfl
theorem xS53 (cy : Nat → ClassId) (a : Nat → Nat) (i : Nat → Int32) (r : Nat → Nat → Int32) (q : Nat → Option Nat) (lf ld : Nat) (f : Nat → Int32) : (xW cy a i r q lf ld).set 53 (a 53, .inl (cy 0, 4, .inl f)) = xW cy a i (va_up r 53 f) q lf ld := rfl
theorem xP14 (cy : Nat → ClassId) (a : Nat → Nat) (i : Nat → Int32) (r : Nat → Nat → Int32) (q : Nat → Option Nat) (lf ld : Nat) (v : Int32) : (xW cy a i r q lf ld).set 54 (a 54, .inr (2, (xF54 a i).set 0 (.int v))) = xW cy a (upd i 14 v) r q lf ld := rfl
theorem xS55 (cy : Nat → ClassId) (a : Nat → Nat) (i : Nat → Int32) (r : Nat → Nat → Int32) (q : Nat → Option Nat) (lf ld : Nat) (f : Nat → Int32) : (xW cy a i r q lf ld).set 55 (a 55, .inl (cy 0, 6, .inl f)) = xW cy a i (va_up r 55 f) q lf ld := rfl
theorem xS56 (cy : Nat → ClassId) (a : Nat → Nat) (i : Nat → Int32) (r : Nat → Nat → Int32) (q : Nat → Option Nat) (lf ld : Nat) (f : Nat → Int32) : (xW cy a i r q lf ld).set 56 (a 56, .inl (cy 0, 6, .inl f)) = xW cy a i (va_up r 56 f) q lf ld := rfl
theorem xS57 (cy : Nat → ClassId) (a : Nat → Nat) (i : Nat → Int32) (r : Nat → Nat → Int32) (q : Nat → Option Nat) (lf ld : Nat) (f : Nat → Int32) : (xW cy a i r q lf ld).set 57 (a 57, .inl (cy 0, 6, .inl f)) = xW cy a i (va_up r 57 f) q lf ld := rfl
theorem xP15 (cy : Nat → ClassId) (a : Nat → Nat) (i : Nat → Int32) (r : Nat → Nat → Int32) (q : Nat → Option Nat) (lf ld : Nat) (v : Int32) : (xW cy a i r q lf ld).set 58 (a 58, .inr (7, (xF58 a i).set 0 (.int v))) = xW cy a (upd i 15 v) r q lf ld := rfl
theorem xP16 (cy : Nat → ClassId) (a : Nat → Nat) (i : Nat → Int32) (r : Nat → Nat → Int32) (q : Nat → Option Nat) (lf ld : Nat) (v : Int32) : (xW cy a i r q lf ld).set 58 (a 58, .inr (7, (xF58 a i).set 1 (.int v))) = xW cy a (upd i 16 v) r q lf ld := rfl
theorem xS59 (cy : Nat → ClassId) (a : Nat → Nat) (i : Nat → Int32) (r : Nat → Nat → Int32) (q : Nat → Option Nat) (lf ld : Nat) (f : Nat → Int32) : (xW cy a i r q lf ld).set 59 (a 59, .inl (cy 0, 30, .inl f)) = xW cy a i (va_up r 59 f) q lf ld := rfl
theorem xS60 (cy : Nat → ClassId) (a : Nat → Nat) (i : Nat → Int32) (r : Nat → Nat → Int32) (q : Nat → Option Nat) (lf ld : Nat) (f : Nat → Int32) : (xW cy a i r q lf ld).set 60 (a 60, .inl (cy 0, 121, .inl f)) = xW cy a i (va_up r 60 f) q lf ld := rfl
def dfs0 : List Value := [.null, .null]
theorem dfl0 : ∀ j, j < 2 → defaultValue (tyX0 j) = vp_V dfs0 j := fun j hj => match j, hj with | 0, _ => rfl | 1, _ => rfl | k + 2, h => absurd h (by omega)
def dfs1 : List Value := [.int 0, .null, .null, .null, .null, .null, .null, .null, .null, .null, .null, .int 0]
theorem dfl1 : ∀ j, j < 12 → defaultValue (tyX1 j) = vp_V dfs1 j := fun j hj => match j, hj with | 0, _ => rfl | 1, _ => rfl | 2, _ => rfl | 3, _ => rfl | 4, _ => rfl | 5, _ => rfl | 6, _ => rfl | 7, _ => rfl | 8, _ => rfl | 9, _ => rfl | 10, _ => rfl | 11, _ => rfl | k + 12, h => absurd h (by omega)
def dfs2 : List Value := [.int 0, .null, .null, .null]
theorem dfl2 : ∀ j, j < 4 → defaultValue (tyX2 j) = vp_V dfs2 j := fun j hj => match j, hj with | 0, _ => rfl | 1, _ => rfl | 2, _ => rfl | 3, _ => rfl | k + 4, h => absurd h (by omega)
def dfs3 : List Value := [.int 0, .int 0, .int 0, .int 0, .int 0, .int 0, .null, .null, .null, .null, .null, .null]
theorem dfl3 : ∀ j, j < 12 → defaultValue (tyX3 j) = vp_V dfs3 j := fun j hj => match j, hj with | 0, _ => rfl | 1, _ => rfl | 2, _ => rfl | 3, _ => rfl | 4, _ => rfl | 5, _ => rfl | 6, _ => rfl | 7, _ => rfl | 8, _ => rfl | 9, _ => rfl | 10, _ => rfl | 11, _ => rfl | k + 12, h => absurd h (by omega)
def dfs4 : List Value := [.null, .null]
theorem dfl4 : ∀ j, j < 2 → defaultValue (tyX4 j) = vp_V dfs4 j := fun j hj => match j, hj with | 0, _ => rfl | 1, _ => rfl | k + 2, h => absurd h (by omega)
def dfs5 : List Value := [.int 0, .int 0, .null, .null, .null, .null, .null, .null, .null]
theorem dfl5 : ∀ j, j < 9 → defaultValue (tyX5 j) = vp_V dfs5 j := fun j hj => match j, hj with | 0, _ => rfl | 1, _ => rfl | 2, _ => rfl | 3, _ => rfl | 4, _ => rfl | 5, _ => rfl | 6, _ => rfl | 7, _ => rfl | 8, _ => rfl | k + 9, h => absurd h (by omega)
def dfs6 : List Value := [.null, .null, .int 0, .int 0, .int 0]
theorem dfl6 : ∀ j, j < 5 → defaultValue (tyX6 j) = vp_V dfs6 j := fun j hj => match j, hj with | 0, _ => rfl | 1, _ => rfl | 2, _ => rfl | 3, _ => rfl | 4, _ => rfl | k + 5, h => absurd h (by omega)
def dfs7 : List Value := [.int 0, .int 0, .null, .null]
theorem dfl7 : ∀ j, j < 4 → defaultValue (tyX7 j) = vp_V dfs7 j := fun j hj => match j, hj with | 0, _ => rfl | 1, _ => rfl | 2, _ => rfl | 3, _ => rfl | k + 4, h => absurd h (by omega)
def dfs8 : List Value := [.null, .null]
theorem dfl8 : ∀ j, j < 2 → defaultValue (tyX8 j) = vp_V dfs8 j := fun j hj => match j, hj with | 0, _ => rfl | 1, _ => rfl | k + 2, h => absurd h (by omega)
def dfs9 : List Value := [.null, .int 0]
theorem dfl9 : ∀ j, j < 2 → defaultValue (tyX9 j) = vp_V dfs9 j := fun j hj => match j, hj with | 0, _ => rfl | 1, _ => rfl | k + 2, h => absurd h (by omega)
def dfs10 : List Value := [.int 0, .null, .null, .null, .null]
theorem dfl10 : ∀ j, j < 5 → defaultValue (tyX10 j) = vp_V dfs10 j := fun j hj => match j, hj with | 0, _ => rfl | 1, _ => rfl | 2, _ => rfl | 3, _ => rfl | 4, _ => rfl | k + 5, h => absurd h (by omega)
def dfs11 : List Value := [.null, .null, .int 0, .null, .null, .null, .null, .null, .null, .null, .int 0, .null, .null, .null]
theorem dfl11 : ∀ j, j < 14 → defaultValue (tyX11 j) = vp_V dfs11 j := fun j hj => match j, hj with | 0, _ => rfl | 1, _ => rfl | 2, _ => rfl | 3, _ => rfl | 4, _ => rfl | 5, _ => rfl | 6, _ => rfl | 7, _ => rfl | 8, _ => rfl | 9, _ => rfl | 10, _ => rfl | 11, _ => rfl | 12, _ => rfl | 13, _ => rfl | k + 14, h => absurd h (by omega)
def dfs12 : List Value := [.int 0, .int 0, .null, .null, .null, .null, .null, .null, .null, .null, .null, .null, .null, .null, .null, .null, .null, .null, .null, .null, .null, .null, .int 0, .int 0, .int 0, .int 0, .int 0, .int 0, .int 0, .int 0, .int 0, .int 0, .null, .null, .null, .null, .null, .null, .null, .null, .null, .null, .null, .null, .null, .null, .null, .null, .null, .null, .null, .int 0, .null, .null, .null, .null, .null, .null, .null, .null, .int 0, .null, .null, .int 0, .null, .null, .null, .null, .null, .null, .null, .null, .int 0, .null, .null, .null, .null, .null, .int 0, .int 0, .int 0, .null, .null, .null, .null, .null, .null, .null, .null, .null, .null]
theorem dfl12 : ∀ j, j < 91 → defaultValue (tyX12 j) = vp_V dfs12 j := fun j hj => match j, hj with | 0, _ => rfl | 1, _ => rfl | 2, _ => rfl | 3, _ => rfl | 4, _ => rfl | 5, _ => rfl | 6, _ => rfl | 7, _ => rfl | 8, _ => rfl | 9, _ => rfl | 10, _ => rfl | 11, _ => rfl | 12, _ => rfl | 13, _ => rfl | 14, _ => rfl | 15, _ => rfl | 16, _ => rfl | 17, _ => rfl | 18, _ => rfl | 19, _ => rfl | 20, _ => rfl | 21, _ => rfl | 22, _ => rfl | 23, _ => rfl | 24, _ => rfl | 25, _ => rfl | 26, _ => rfl | 27, _ => rfl | 28, _ => rfl | 29, _ => rfl | 30, _ => rfl | 31, _ => rfl | 32, _ => rfl | 33, _ => rfl | 34, _ => rfl | 35, _ => rfl | 36, _ => rfl | 37, _ => rfl | 38, _ => rfl | 39, _ => rfl | 40, _ => rfl | 41, _ => rfl | 42, _ => rfl | 43, _ => rfl | 44, _ => rfl | 45, _ => rfl | 46, _ => rfl | 47, _ => rfl | 48, _ => rfl | 49, _ => rfl | 50, _ => rfl | 51, _ => rfl | 52, _ => rfl | 53, _ => rfl | 54, _ => rfl | 55, _ => rfl | 56, _ => rfl | 57, _ => rfl | 58, _ => rfl | 59, _ => rfl | 60, _ => rfl | 61, _ => rfl | 62, _ => rfl | 63, _ => rfl | 64, _ => rfl | 65, _ => rfl | 66, _ => rfl | 67, _ => rfl | 68, _ => rfl | 69, _ => rfl | 70, _ => rfl | 71, _ => rfl | 72, _ => rfl | 73, _ => rfl | 74, _ => rfl | 75, _ => rfl | 76, _ => rfl | 77, _ => rfl | 78, _ => rfl | 79, _ => rfl | 80, _ => rfl | 81, _ => rfl | 82, _ => rfl | 83, _ => rfl | 84, _ => rfl | 85, _ => rfl | 86, _ => rfl | 87, _ => rfl | 88, _ => rfl | 89, _ => rfl | 90, _ => rfl | k + 91, h => absurd h (by omega)
theorem i_add {x y : Int32} {a b : Int} (hx : x.toInt = a) (hy : y.toInt = b) (h1 : -2147483648 ≤ a + b) (h2 : a + b < 2147483648) : (x + y).toInt = a + b := by
  rw [Int32.toInt_add, hx, hy]; exact Int.bmod_eq_of_le (by omega) (by omega)
theorem i_sub {x y : Int32} {a b : Int} (hx : x.toInt = a) (hy : y.toInt = b) (h1 : -2147483648 ≤ a - b) (h2 : a - b < 2147483648) : (x - y).toInt = a - b := by
  rw [Int32.toInt_sub, hx, hy]; exact Int.bmod_eq_of_le (by omega) (by omega)
theorem i_mul {x y : Int32} {a b : Int} (hx : x.toInt = a) (hy : y.toInt = b) (h1 : -2147483648 ≤ a * b) (h2 : a * b < 2147483648) : (x * y).toInt = a * b := by
  rw [Int32.toInt_mul, hx, hy]; exact Int.bmod_eq_of_le (by omega) (by omega)
theorem rF {A : Nat → Prop} {w : va_W} {H0 H : Heap} {locs : List Loc} (hD : va_D A w) (hS : va_S A H0 H locs) (hA : ∀ q, H0.size ≤ q → A q) : ∀ q, va_A w H.size q → A q := by
  rintro q (⟨k, e, h⟩ | h)
  · exact hD.2 k _ h
  · exact hA q (Nat.le_trans hS.1 h)
/-- a new reference's ints; a new class's ints and rows -/
def mZ (i : Nat → Int32) : Prop := (∀ k, k ≠ 1 → i k = 0) ∧ i 1 = 1
def xZ (i : Nat → Int32) : Prop := (∀ k, k ≠ 11 → k ≠ 13 → i k = 0) ∧ i 11 = 1 ∧ i 13 = 1
def xZr (r : Nat → Nat → Int32) : Prop := (∀ j, r 55 j = 0) ∧ ∀ j, j < 121 → r 60 j = if j / 11 = j % 11 then 0 else -1000000
theorem b_rg (x : Int32) : -2147483648 ≤ x.toInt ∧ x.toInt ≤ 2147483647 := ⟨by have := Int32.le_toInt x; omega, by have := Int32.toInt_lt x; omega⟩
/-- a contract out of a walk whose end has a name -/
theorem Met.ofQ {l : Launch} {y : MethodName} {ws ws' : List Cond} {rm : Room} {Pc : Array Value → State → Prop} {Qc : Array Value → State → Outcome → State → Prop} {mc ms : Nat} {free : Addr → Prop} {cc : ByteArray} {maxL : Nat} {ret : Option FieldType}
    (hy : plainName y.cls = true) (hw : ws = Cond.code y cc maxL ret :: ws')
    (body : ∀ p e s m args below meth c s₁, BodyLoose p l y (headSpec ws rm) cc maxL ret e s m args below meth c s₁ → c.maxLocals = maxL → Pc args s → ∀ Q : State → Prop, Q = MQ below Qc args s mc ms free →
      W p l e rm s m args below meth c s.heap [] 0 0 Q (entryFrame m args maxL)) : Met l y ws rm Pc Qc mc ms free :=
  Met.ofW hy hw (fun p e s m args below meth c s₁ B hml hv => body p e s m args below meth c s₁ B hml hv _ rfl)
theorem r_newH {p : Program} {l : Launch} {e : Env} {R : Room} {s : State} {m : MethodId} {args : Array Value} {below : List Frame} {meth : Method} {c : Code} {H : Heap} {locs : List Loc} {cells slots : Nat} {Q : State → Prop} {cc : ByteArray} {pc : Nat} {ls : Array Slot} {rest : List Value} {D : va_G} {cl : List vw_C} {A : Nat → Prop} {ws : va_W} {H0 : Heap} {cy : Nat → ClassId} {own : String} {index : Nat}
    (hexec : p.tables.exec = Jvm.exec) (hb : c.code = cc) (hown : s.vm.findClass own = some m.cls) (hclink : (Cond.classLink own index RX3).before args s = true) (hover : va_AO "DepositJudge$Home" s) (hK : va_K D cl (vT cy) s) (hP : va_P D cl ws H) (hD : va_D A ws) (hS : va_S A H0 H locs) (hA : ∀ q, H0.size ≤ q → A q)
    {n : Int32} {N : Nat} (hn : ¬ n < 0) (hN : n.toNatClampNeg = N) (hbytes : N * 4 ≤ 536870912) (hcells : cells + 1 ≤ R.cells) (hslots : slots + N ≤ R.slots) (hdg : decode cc pc = .ok (.anewarray index, 3))
    (kk : ∀ (q : Nat) (H1 : Heap), va_P D cl (ws ++ [(q, .inl (cy 4, N, .inr (.inr (.inr (.inr (fun _ => none))))))]) H1 → va_D A (ws ++ [(q, .inl (cy 4, N, .inr (.inr (.inr (.inr (fun _ => none))))))]) → va_S A H0 H1 locs → W p l e R s m args below meth c H1 locs (cells + 1) (slots + N) Q (F0 m (pc + 3) ls (.ref q :: rest))) : W p l e R s m args below meth c H locs cells slots Q (F0 m pc ls (.int n :: rest)) := by
  refine va_newq (C := "DepositJudge$Home") hexec hb hown hclink hover hK hP hD hS hA hn hN hbytes hcells hslots hdg (fun q cA H1 hK1 hP1 hD1 hS1 => ?_)
  have e1 : cA = cy 4 := Option.some.inj ((va_nmO (hK1.2 5 (cA, .object "DepositJudge$Home") rfl).2 rfl).symm.trans (va_nmO (hK.2 4 (cy 4, .object "DepositJudge$Home") rfl).2 rfl))
  subst e1
  exact kk q H1 hP1 hD1 hS1
end
section
theorem t_0 : Cond.constant RX12 233 (1000000) ∈ gT := tm (List.mem_of_getElem? (i := 1214) (by decide +kernel)) (by decide +kernel)
theorem t_1 : Cond.code yX11_within cX11_within 3 (some .boolean) ∈ gT := tm (List.mem_of_getElem? (i := 300) (by decide +kernel)) (by decide +kernel)
theorem t_2 : Cond.initialized RX11 ∈ gT := tm (List.mem_of_getElem? (i := 1) (by decide +kernel)) (by decide +kernel)
theorem t_3 : Cond.methodLink RX11 93 yX11_within ∈ gT := tm (List.mem_of_getElem? (i := 298) (by decide +kernel)) (by decide +kernel)
theorem t_4 : Cond.static yX11_within ∈ gT := tm (List.mem_of_getElem? (i := 299) (by decide +kernel)) (by decide +kernel)
theorem dX11_isDay_0 : decode cX11_isDay 0 = .ok (.iload_n 0, 1) := by decide +kernel
theorem dX11_isDay_1 : decode cX11_isDay 1 = .ok (.iconst 0, 1) := by decide +kernel
theorem dX11_isDay_2 : decode cX11_isDay 2 = .ok (.sipush 9999, 3) := by decide +kernel
theorem dX11_isDay_5 : decode cX11_isDay 5 = .ok (.invokestatic 93, 3) := by decide +kernel
theorem dX11_isDay_8 : decode cX11_isDay 8 = .ok (.ireturn, 1) := by decide +kernel
theorem dX11_within_0 : decode cX11_within 0 = .ok (.iload_n 0, 1) := by decide +kernel
theorem dX11_within_1 : decode cX11_within 1 = .ok (.iload_n 1, 1) := by decide +kernel
theorem dX11_within_2 : decode cX11_within 2 = .ok (.if_icmp .lt 12, 3) := by decide +kernel
theorem dX11_within_5 : decode cX11_within 5 = .ok (.iload_n 0, 1) := by decide +kernel
theorem dX11_within_6 : decode cX11_within 6 = .ok (.iload_n 2, 1) := by decide +kernel
theorem dX11_within_7 : decode cX11_within 7 = .ok (.if_icmp .gt 7, 3) := by decide +kernel
theorem dX11_within_10 : decode cX11_within 10 = .ok (.iconst 1, 1) := by decide +kernel
theorem dX11_within_11 : decode cX11_within 11 = .ok (.goto 4, 3) := by decide +kernel
theorem dX11_within_14 : decode cX11_within 14 = .ok (.iconst 0, 1) := by decide +kernel
theorem dX11_within_15 : decode cX11_within 15 = .ok (.ireturn, 1) := by decide +kernel
theorem dX12_in_0 : decode cX12_in 0 = .ok (.iload_n 0, 1) := by decide +kernel
theorem dX12_in_1 : decode cX12_in 1 = .ok (.iload_n 1, 1) := by decide +kernel
theorem dX12_in_2 : decode cX12_in 2 = .ok (.if_icmp .lt 12, 3) := by decide +kernel
theorem dX12_in_5 : decode cX12_in 5 = .ok (.iload_n 0, 1) := by decide +kernel
theorem dX12_in_6 : decode cX12_in 6 = .ok (.iload_n 2, 1) := by decide +kernel
theorem dX12_in_7 : decode cX12_in 7 = .ok (.if_icmp .gt 7, 3) := by decide +kernel
theorem dX12_in_10 : decode cX12_in 10 = .ok (.iconst 1, 1) := by decide +kernel
theorem dX12_in_11 : decode cX12_in 11 = .ok (.goto 4, 3) := by decide +kernel
theorem dX12_in_14 : decode cX12_in 14 = .ok (.iconst 0, 1) := by decide +kernel
theorem dX12_in_15 : decode cX12_in 15 = .ok (.ireturn, 1) := by decide +kernel
theorem dX12_isDay_0 : decode cX12_isDay 0 = .ok (.iload_n 0, 1) := by decide +kernel
theorem dX12_isDay_1 : decode cX12_isDay 1 = .ok (.ifCond .lt 14, 3) := by decide +kernel
theorem dX12_isDay_4 : decode cX12_isDay 4 = .ok (.iload_n 0, 1) := by decide +kernel
theorem dX12_isDay_5 : decode cX12_isDay 5 = .ok (.sipush 10000, 3) := by decide +kernel
theorem dX12_isDay_8 : decode cX12_isDay 8 = .ok (.if_icmp .ge 7, 3) := by decide +kernel
theorem dX12_isDay_11 : decode cX12_isDay 11 = .ok (.iconst 1, 1) := by decide +kernel
theorem dX12_isDay_12 : decode cX12_isDay 12 = .ok (.goto 4, 3) := by decide +kernel
theorem dX12_isDay_15 : decode cX12_isDay 15 = .ok (.iconst 0, 1) := by decide +kernel
theorem dX12_isDay_16 : decode cX12_isDay 16 = .ok (.ireturn, 1) := by decide +kernel
theorem dX12_isJudge_0 : decode cX12_isJudge 0 = .ok (.iload_n 0, 1) := by decide +kernel
theorem dX12_isJudge_1 : decode cX12_isJudge 1 = .ok (.ifCond .lt 13, 3) := by decide +kernel
theorem dX12_isJudge_4 : decode cX12_isJudge 4 = .ok (.iload_n 0, 1) := by decide +kernel
theorem dX12_isJudge_5 : decode cX12_isJudge 5 = .ok (.bipush 6, 2) := by decide +kernel
theorem dX12_isJudge_7 : decode cX12_isJudge 7 = .ok (.if_icmp .ge 7, 3) := by decide +kernel
theorem dX12_isJudge_10 : decode cX12_isJudge 10 = .ok (.iconst 1, 1) := by decide +kernel
theorem dX12_isJudge_11 : decode cX12_isJudge 11 = .ok (.goto 4, 3) := by decide +kernel
theorem dX12_isJudge_14 : decode cX12_isJudge 14 = .ok (.iconst 0, 1) := by decide +kernel
theorem dX12_isJudge_15 : decode cX12_isJudge 15 = .ok (.ireturn, 1) := by decide +kernel
theorem dX12_isKind_0 : decode cX12_isKind 0 = .ok (.iload_n 0, 1) := by decide +kernel
theorem dX12_isKind_1 : decode cX12_isKind 1 = .ok (.ifCond .lt 13, 3) := by decide +kernel
theorem dX12_isKind_4 : decode cX12_isKind 4 = .ok (.iload_n 0, 1) := by decide +kernel
theorem dX12_isKind_5 : decode cX12_isKind 5 = .ok (.bipush 8, 2) := by decide +kernel
theorem dX12_isKind_7 : decode cX12_isKind 7 = .ok (.if_icmp .ge 7, 3) := by decide +kernel
theorem dX12_isKind_10 : decode cX12_isKind 10 = .ok (.iconst 1, 1) := by decide +kernel
theorem dX12_isKind_11 : decode cX12_isKind 11 = .ok (.goto 4, 3) := by decide +kernel
theorem dX12_isKind_14 : decode cX12_isKind 14 = .ok (.iconst 0, 1) := by decide +kernel
theorem dX12_isKind_15 : decode cX12_isKind 15 = .ok (.ireturn, 1) := by decide +kernel
theorem dX12_isPence_0 : decode cX12_isPence 0 = .ok (.iload_n 0, 1) := by decide +kernel
theorem dX12_isPence_1 : decode cX12_isPence 1 = .ok (.ifCond .lt 13, 3) := by decide +kernel
theorem dX12_isPence_4 : decode cX12_isPence 4 = .ok (.iload_n 0, 1) := by decide +kernel
theorem dX12_isPence_5 : decode cX12_isPence 5 = .ok (.ldc 233, 2) := by decide +kernel
theorem dX12_isPence_7 : decode cX12_isPence 7 = .ok (.if_icmp .ge 7, 3) := by decide +kernel
theorem dX12_isPence_10 : decode cX12_isPence 10 = .ok (.iconst 1, 1) := by decide +kernel
theorem dX12_isPence_11 : decode cX12_isPence 11 = .ok (.goto 4, 3) := by decide +kernel
theorem dX12_isPence_14 : decode cX12_isPence 14 = .ok (.iconst 0, 1) := by decide +kernel
theorem dX12_isPence_15 : decode cX12_isPence 15 = .ok (.ireturn, 1) := by decide +kernel
set_option maxHeartbeats 4000000 in
set_option maxRecDepth 100000 in
theorem c_X12_in (l : Launch) (p0 p1 p2 : Int32) : Met l yX12_in (Cond.code yX12_in cX12_in 3 (some .boolean) :: gT) { frames := 1, cells := 0, slots := 0, locals := 24 } (va_Pc [.int p0, .int p1, .int p2] (fun _ => True)) (vp_Si (fun z => BR z (p1.toInt ≤ p0.toInt ∧ p0.toInt ≤ p2.toInt) 1 0)) 0 0 (fun _ => False) := by
  refine Met.ofQ (cc := cX12_in) (maxL := 3) (ret := (some .boolean)) (by decide) rfl ?_
  intro p e s m args below meth c s₁ B hml hv Q hQ
  obtain ⟨rfl, -⟩ := hv
  have hx := B.exec
  have hb := B.bytes
  have hr := B.returns
  have hlocks := B.notSynchronized
  have hT : ∀ w ∈ gT, w.before _ s = true := fun w h => atoms_spec (ws := (Cond.code yX12_in cX12_in 3 (some .boolean) :: gT)) B.pre w (List.mem_cons_of_mem _ h)
  have hown : s.vm.findClass RX12 = some m.cls := findClass_of_methodNamed B.named
  have hl := lv_entry ([.int p0, .int p1, .int p2]) (n := 3) (Nat.le_of_ble_eq_true rfl)
  rw [lg_entry_eq]
  generalize (lg_sl ([.int p0, .int p1, .int p2]) ++ List.replicate (3 - (lg_sl ([.int p0, .int p1, .int p2])).length) Slot.unset).toArray = ls at hl ⊢
  have hl : lv_has ls 3 [(0, .int p0), (1, .int p1), (2, .int p2)] := hl
  refine lv_iload_n hx hb dX12_in_0 rfl (lv_at hl 0 rfl) ?_
  refine lv_iload_n hx hb dX12_in_1 rfl (lv_at hl 1 rfl) ?_
  refine lv_icmp_lt (tgt := 14) hx hb dX12_in_2 (by decide) (fun c_1 => ?_) (fun c_1 => ?_)
  · have c_1 : p0.toInt < p1.toInt := b_lt c_1
    refine lv_iconst (v := 0) hx hb dX12_in_14 (by decide) ?_
    subst hQ
    exact W.zret hx hb hr rfl (fun t ht hW => ⟨_, rfl, Or.inr ⟨rfl, by omega⟩, ht⟩) (fun q hq => absurd hq List.not_mem_nil) dX12_in_15
  · have c_1 : p1.toInt ≤ p0.toInt := b_nlt c_1
    refine lv_iload_n hx hb dX12_in_5 rfl (lv_at hl 0 rfl) ?_
    refine lv_iload_n hx hb dX12_in_6 rfl (lv_at hl 2 rfl) ?_
    refine lv_icmp_gt (tgt := 14) hx hb dX12_in_7 (by decide) (fun c_2 => ?_) (fun c_2 => ?_)
    · have c_2 : p2.toInt < p0.toInt := b_lt c_2
      refine lv_iconst (v := 0) hx hb dX12_in_14 (by decide) ?_
      subst hQ
      exact W.zret hx hb hr rfl (fun t ht hW => ⟨_, rfl, Or.inr ⟨rfl, by omega⟩, ht⟩) (fun q hq => absurd hq List.not_mem_nil) dX12_in_15
    · have c_2 : p0.toInt ≤ p2.toInt := b_nlt c_2
      refine lv_iconst (v := 1) hx hb dX12_in_10 (by decide) ?_
      refine lv_goto (tgt := 15) hx hb dX12_in_11 (by decide) ?_
      subst hQ
      exact W.zret hx hb hr rfl (fun t ht hW => ⟨_, rfl, Or.inl ⟨rfl, by omega⟩, ht⟩) (fun q hq => absurd hq List.not_mem_nil) dX12_in_15
set_option maxHeartbeats 4000000 in
set_option maxRecDepth 100000 in
theorem c_X12_isKind (l : Launch) (p0 : Int32) : Met l yX12_isKind (Cond.code yX12_isKind cX12_isKind 1 (some .boolean) :: gT) { frames := 1, cells := 0, slots := 0, locals := 24 } (va_Pc [.int p0] (fun _ => True)) (vp_Si (fun z => BR z (0 ≤ p0.toInt ∧ p0.toInt ≤ 7) 1 0)) 0 0 (fun _ => False) := by
  refine Met.ofQ (cc := cX12_isKind) (maxL := 1) (ret := (some .boolean)) (by decide) rfl ?_
  intro p e s m args below meth c s₁ B hml hv Q hQ
  obtain ⟨rfl, -⟩ := hv
  have hx := B.exec
  have hb := B.bytes
  have hr := B.returns
  have hlocks := B.notSynchronized
  have hT : ∀ w ∈ gT, w.before _ s = true := fun w h => atoms_spec (ws := (Cond.code yX12_isKind cX12_isKind 1 (some .boolean) :: gT)) B.pre w (List.mem_cons_of_mem _ h)
  have hown : s.vm.findClass RX12 = some m.cls := findClass_of_methodNamed B.named
  have hl := lv_entry ([.int p0]) (n := 1) (Nat.le_of_ble_eq_true rfl)
  rw [lg_entry_eq]
  generalize (lg_sl ([.int p0]) ++ List.replicate (1 - (lg_sl ([.int p0])).length) Slot.unset).toArray = ls at hl ⊢
  have hl : lv_has ls 1 [(0, .int p0)] := hl
  refine lv_iload_n hx hb dX12_isKind_0 rfl (lv_at hl 0 rfl) ?_
  refine lv_if_lt (tgt := 14) hx hb dX12_isKind_1 (by decide) (fun c_1 => ?_) (fun c_1 => ?_)
  · have c_1 : p0.toInt < 0 := b_lt c_1
    refine lv_iconst (v := 0) hx hb dX12_isKind_14 (by decide) ?_
    subst hQ
    exact W.zret hx hb hr rfl (fun t ht hW => ⟨_, rfl, Or.inr ⟨rfl, by omega⟩, ht⟩) (fun q hq => absurd hq List.not_mem_nil) dX12_isKind_15
  · have c_1 : 0 ≤ p0.toInt := b_nlt c_1
    refine lv_iload_n hx hb dX12_isKind_4 rfl (lv_at hl 0 rfl) ?_
    refine lv_bipush (v := 8) hx hb dX12_isKind_5 (by decide) ?_
    refine lv_icmp_ge (tgt := 14) hx hb dX12_isKind_7 (by decide) (fun c_2 => ?_) (fun c_2 => ?_)
    · have c_2 : 8 ≤ p0.toInt := b_le c_2
      refine lv_iconst (v := 0) hx hb dX12_isKind_14 (by decide) ?_
      subst hQ
      exact W.zret hx hb hr rfl (fun t ht hW => ⟨_, rfl, Or.inr ⟨rfl, by omega⟩, ht⟩) (fun q hq => absurd hq List.not_mem_nil) dX12_isKind_15
    · have c_2 : p0.toInt < 8 := b_nle c_2
      refine lv_iconst (v := 1) hx hb dX12_isKind_10 (by decide) ?_
      refine lv_goto (tgt := 15) hx hb dX12_isKind_11 (by decide) ?_
      subst hQ
      exact W.zret hx hb hr rfl (fun t ht hW => ⟨_, rfl, Or.inl ⟨rfl, by omega⟩, ht⟩) (fun q hq => absurd hq List.not_mem_nil) dX12_isKind_15
set_option maxHeartbeats 4000000 in
set_option maxRecDepth 100000 in
theorem c_X12_isPence (l : Launch) (p0 : Int32) : Met l yX12_isPence (Cond.code yX12_isPence cX12_isPence 1 (some .boolean) :: gT) { frames := 1, cells := 0, slots := 0, locals := 24 } (va_Pc [.int p0] (fun _ => True)) (vp_Si (fun z => BR z (0 ≤ p0.toInt ∧ p0.toInt ≤ 999999) 1 0)) 0 0 (fun _ => False) := by
  refine Met.ofQ (cc := cX12_isPence) (maxL := 1) (ret := (some .boolean)) (by decide) rfl ?_
  intro p e s m args below meth c s₁ B hml hv Q hQ
  obtain ⟨rfl, -⟩ := hv
  have hx := B.exec
  have hb := B.bytes
  have hr := B.returns
  have hlocks := B.notSynchronized
  have hT : ∀ w ∈ gT, w.before _ s = true := fun w h => atoms_spec (ws := (Cond.code yX12_isPence cX12_isPence 1 (some .boolean) :: gT)) B.pre w (List.mem_cons_of_mem _ h)
  have hown : s.vm.findClass RX12 = some m.cls := findClass_of_methodNamed B.named
  have hl := lv_entry ([.int p0]) (n := 1) (Nat.le_of_ble_eq_true rfl)
  rw [lg_entry_eq]
  generalize (lg_sl ([.int p0]) ++ List.replicate (1 - (lg_sl ([.int p0])).length) Slot.unset).toArray = ls at hl ⊢
  have hl : lv_has ls 1 [(0, .int p0)] := hl
  refine lv_iload_n hx hb dX12_isPence_0 rfl (lv_at hl 0 rfl) ?_
  refine lv_if_lt (tgt := 14) hx hb dX12_isPence_1 (by decide) (fun c_1 => ?_) (fun c_1 => ?_)
  · have c_1 : p0.toInt < 0 := b_lt c_1
    refine lv_iconst (v := 0) hx hb dX12_isPence_14 (by decide) ?_
    subst hQ
    exact W.zret hx hb hr rfl (fun t ht hW => ⟨_, rfl, Or.inr ⟨rfl, by omega⟩, ht⟩) (fun q hq => absurd hq List.not_mem_nil) dX12_isPence_15
  · have c_1 : 0 ≤ p0.toInt := b_nlt c_1
    refine lv_iload_n hx hb dX12_isPence_4 rfl (lv_at hl 0 rfl) ?_
    refine lv_ldc (v := 1000000) hx hb hown (hT _ t_0) dX12_isPence_5 ?_
    refine lv_icmp_ge (tgt := 14) hx hb dX12_isPence_7 (by decide) (fun c_2 => ?_) (fun c_2 => ?_)
    · have c_2 : 1000000 ≤ p0.toInt := b_le c_2
      refine lv_iconst (v := 0) hx hb dX12_isPence_14 (by decide) ?_
      subst hQ
      exact W.zret hx hb hr rfl (fun t ht hW => ⟨_, rfl, Or.inr ⟨rfl, by omega⟩, ht⟩) (fun q hq => absurd hq List.not_mem_nil) dX12_isPence_15
    · have c_2 : p0.toInt < 1000000 := b_nle c_2
      refine lv_iconst (v := 1) hx hb dX12_isPence_10 (by decide) ?_
      refine lv_goto (tgt := 15) hx hb dX12_isPence_11 (by decide) ?_
      subst hQ
      exact W.zret hx hb hr rfl (fun t ht hW => ⟨_, rfl, Or.inl ⟨rfl, by omega⟩, ht⟩) (fun q hq => absurd hq List.not_mem_nil) dX12_isPence_15
set_option maxHeartbeats 4000000 in
set_option maxRecDepth 100000 in
theorem c_X12_isDay (l : Launch) (p0 : Int32) : Met l yX12_isDay (Cond.code yX12_isDay cX12_isDay 1 (some .boolean) :: gT) { frames := 1, cells := 0, slots := 0, locals := 24 } (va_Pc [.int p0] (fun _ => True)) (vp_Si (fun z => BR z (0 ≤ p0.toInt ∧ p0.toInt ≤ 9999) 1 0)) 0 0 (fun _ => False) := by
  refine Met.ofQ (cc := cX12_isDay) (maxL := 1) (ret := (some .boolean)) (by decide) rfl ?_
  intro p e s m args below meth c s₁ B hml hv Q hQ
  obtain ⟨rfl, -⟩ := hv
  have hx := B.exec
  have hb := B.bytes
  have hr := B.returns
  have hlocks := B.notSynchronized
  have hT : ∀ w ∈ gT, w.before _ s = true := fun w h => atoms_spec (ws := (Cond.code yX12_isDay cX12_isDay 1 (some .boolean) :: gT)) B.pre w (List.mem_cons_of_mem _ h)
  have hown : s.vm.findClass RX12 = some m.cls := findClass_of_methodNamed B.named
  have hl := lv_entry ([.int p0]) (n := 1) (Nat.le_of_ble_eq_true rfl)
  rw [lg_entry_eq]
  generalize (lg_sl ([.int p0]) ++ List.replicate (1 - (lg_sl ([.int p0])).length) Slot.unset).toArray = ls at hl ⊢
  have hl : lv_has ls 1 [(0, .int p0)] := hl
  refine lv_iload_n hx hb dX12_isDay_0 rfl (lv_at hl 0 rfl) ?_
  refine lv_if_lt (tgt := 15) hx hb dX12_isDay_1 (by decide) (fun c_1 => ?_) (fun c_1 => ?_)
  · have c_1 : p0.toInt < 0 := b_lt c_1
    refine lv_iconst (v := 0) hx hb dX12_isDay_15 (by decide) ?_
    subst hQ
    exact W.zret hx hb hr rfl (fun t ht hW => ⟨_, rfl, Or.inr ⟨rfl, by omega⟩, ht⟩) (fun q hq => absurd hq List.not_mem_nil) dX12_isDay_16
  · have c_1 : 0 ≤ p0.toInt := b_nlt c_1
    refine lv_iload_n hx hb dX12_isDay_4 rfl (lv_at hl 0 rfl) ?_
    refine lv_sipush (v := 10000) hx hb dX12_isDay_5 (by decide) ?_
    refine lv_icmp_ge (tgt := 15) hx hb dX12_isDay_8 (by decide) (fun c_2 => ?_) (fun c_2 => ?_)
    · have c_2 : 10000 ≤ p0.toInt := b_le c_2
      refine lv_iconst (v := 0) hx hb dX12_isDay_15 (by decide) ?_
      subst hQ
      exact W.zret hx hb hr rfl (fun t ht hW => ⟨_, rfl, Or.inr ⟨rfl, by omega⟩, ht⟩) (fun q hq => absurd hq List.not_mem_nil) dX12_isDay_16
    · have c_2 : p0.toInt < 10000 := b_nle c_2
      refine lv_iconst (v := 1) hx hb dX12_isDay_11 (by decide) ?_
      refine lv_goto (tgt := 16) hx hb dX12_isDay_12 (by decide) ?_
      subst hQ
      exact W.zret hx hb hr rfl (fun t ht hW => ⟨_, rfl, Or.inl ⟨rfl, by omega⟩, ht⟩) (fun q hq => absurd hq List.not_mem_nil) dX12_isDay_16
set_option maxHeartbeats 4000000 in
set_option maxRecDepth 100000 in
theorem c_X12_isJudge (l : Launch) (p0 : Int32) : Met l yX12_isJudge (Cond.code yX12_isJudge cX12_isJudge 1 (some .boolean) :: gT) { frames := 1, cells := 0, slots := 0, locals := 24 } (va_Pc [.int p0] (fun _ => True)) (vp_Si (fun z => BR z (0 ≤ p0.toInt ∧ p0.toInt ≤ 5) 1 0)) 0 0 (fun _ => False) := by
  refine Met.ofQ (cc := cX12_isJudge) (maxL := 1) (ret := (some .boolean)) (by decide) rfl ?_
  intro p e s m args below meth c s₁ B hml hv Q hQ
  obtain ⟨rfl, -⟩ := hv
  have hx := B.exec
  have hb := B.bytes
  have hr := B.returns
  have hlocks := B.notSynchronized
  have hT : ∀ w ∈ gT, w.before _ s = true := fun w h => atoms_spec (ws := (Cond.code yX12_isJudge cX12_isJudge 1 (some .boolean) :: gT)) B.pre w (List.mem_cons_of_mem _ h)
  have hown : s.vm.findClass RX12 = some m.cls := findClass_of_methodNamed B.named
  have hl := lv_entry ([.int p0]) (n := 1) (Nat.le_of_ble_eq_true rfl)
  rw [lg_entry_eq]
  generalize (lg_sl ([.int p0]) ++ List.replicate (1 - (lg_sl ([.int p0])).length) Slot.unset).toArray = ls at hl ⊢
  have hl : lv_has ls 1 [(0, .int p0)] := hl
  refine lv_iload_n hx hb dX12_isJudge_0 rfl (lv_at hl 0 rfl) ?_
  refine lv_if_lt (tgt := 14) hx hb dX12_isJudge_1 (by decide) (fun c_1 => ?_) (fun c_1 => ?_)
  · have c_1 : p0.toInt < 0 := b_lt c_1
    refine lv_iconst (v := 0) hx hb dX12_isJudge_14 (by decide) ?_
    subst hQ
    exact W.zret hx hb hr rfl (fun t ht hW => ⟨_, rfl, Or.inr ⟨rfl, by omega⟩, ht⟩) (fun q hq => absurd hq List.not_mem_nil) dX12_isJudge_15
  · have c_1 : 0 ≤ p0.toInt := b_nlt c_1
    refine lv_iload_n hx hb dX12_isJudge_4 rfl (lv_at hl 0 rfl) ?_
    refine lv_bipush (v := 6) hx hb dX12_isJudge_5 (by decide) ?_
    refine lv_icmp_ge (tgt := 14) hx hb dX12_isJudge_7 (by decide) (fun c_2 => ?_) (fun c_2 => ?_)
    · have c_2 : 6 ≤ p0.toInt := b_le c_2
      refine lv_iconst (v := 0) hx hb dX12_isJudge_14 (by decide) ?_
      subst hQ
      exact W.zret hx hb hr rfl (fun t ht hW => ⟨_, rfl, Or.inr ⟨rfl, by omega⟩, ht⟩) (fun q hq => absurd hq List.not_mem_nil) dX12_isJudge_15
    · have c_2 : p0.toInt < 6 := b_nle c_2
      refine lv_iconst (v := 1) hx hb dX12_isJudge_10 (by decide) ?_
      refine lv_goto (tgt := 15) hx hb dX12_isJudge_11 (by decide) ?_
      subst hQ
      exact W.zret hx hb hr rfl (fun t ht hW => ⟨_, rfl, Or.inl ⟨rfl, by omega⟩, ht⟩) (fun q hq => absurd hq List.not_mem_nil) dX12_isJudge_15
set_option maxHeartbeats 4000000 in
set_option maxRecDepth 100000 in
theorem c_X11_within (l : Launch) (p0 p1 p2 : Int32) : Met l yX11_within (Cond.code yX11_within cX11_within 3 (some .boolean) :: gT) { frames := 1, cells := 0, slots := 0, locals := 24 } (va_Pc [.int p0, .int p1, .int p2] (fun _ => True)) (vp_Si (fun z => BR z (p1.toInt ≤ p0.toInt ∧ p0.toInt ≤ p2.toInt) 1 0)) 0 0 (fun _ => False) := by
  refine Met.ofQ (cc := cX11_within) (maxL := 3) (ret := (some .boolean)) (by decide) rfl ?_
  intro p e s m args below meth c s₁ B hml hv Q hQ
  obtain ⟨rfl, -⟩ := hv
  have hx := B.exec
  have hb := B.bytes
  have hr := B.returns
  have hlocks := B.notSynchronized
  have hT : ∀ w ∈ gT, w.before _ s = true := fun w h => atoms_spec (ws := (Cond.code yX11_within cX11_within 3 (some .boolean) :: gT)) B.pre w (List.mem_cons_of_mem _ h)
  have hown : s.vm.findClass RX11 = some m.cls := findClass_of_methodNamed B.named
  have hl := lv_entry ([.int p0, .int p1, .int p2]) (n := 3) (Nat.le_of_ble_eq_true rfl)
  rw [lg_entry_eq]
  generalize (lg_sl ([.int p0, .int p1, .int p2]) ++ List.replicate (3 - (lg_sl ([.int p0, .int p1, .int p2])).length) Slot.unset).toArray = ls at hl ⊢
  have hl : lv_has ls 3 [(0, .int p0), (1, .int p1), (2, .int p2)] := hl
  refine lv_iload_n hx hb dX11_within_0 rfl (lv_at hl 0 rfl) ?_
  refine lv_iload_n hx hb dX11_within_1 rfl (lv_at hl 1 rfl) ?_
  refine lv_icmp_lt (tgt := 14) hx hb dX11_within_2 (by decide) (fun c_1 => ?_) (fun c_1 => ?_)
  · have c_1 : p0.toInt < p1.toInt := b_lt c_1
    refine lv_iconst (v := 0) hx hb dX11_within_14 (by decide) ?_
    subst hQ
    exact W.zret hx hb hr rfl (fun t ht hW => ⟨_, rfl, Or.inr ⟨rfl, by omega⟩, ht⟩) (fun q hq => absurd hq List.not_mem_nil) dX11_within_15
  · have c_1 : p1.toInt ≤ p0.toInt := b_nlt c_1
    refine lv_iload_n hx hb dX11_within_5 rfl (lv_at hl 0 rfl) ?_
    refine lv_iload_n hx hb dX11_within_6 rfl (lv_at hl 2 rfl) ?_
    refine lv_icmp_gt (tgt := 14) hx hb dX11_within_7 (by decide) (fun c_2 => ?_) (fun c_2 => ?_)
    · have c_2 : p2.toInt < p0.toInt := b_lt c_2
      refine lv_iconst (v := 0) hx hb dX11_within_14 (by decide) ?_
      subst hQ
      exact W.zret hx hb hr rfl (fun t ht hW => ⟨_, rfl, Or.inr ⟨rfl, by omega⟩, ht⟩) (fun q hq => absurd hq List.not_mem_nil) dX11_within_15
    · have c_2 : p0.toInt ≤ p2.toInt := b_nlt c_2
      refine lv_iconst (v := 1) hx hb dX11_within_10 (by decide) ?_
      refine lv_goto (tgt := 15) hx hb dX11_within_11 (by decide) ?_
      subst hQ
      exact W.zret hx hb hr rfl (fun t ht hW => ⟨_, rfl, Or.inl ⟨rfl, by omega⟩, ht⟩) (fun q hq => absurd hq List.not_mem_nil) dX11_within_15
set_option maxHeartbeats 4000000 in
set_option maxRecDepth 100000 in
theorem c_X11_isDay (l : Launch) (p0 : Int32) : Met l yX11_isDay (Cond.code yX11_isDay cX11_isDay 1 (some .boolean) :: gT) { frames := 2, cells := 0, slots := 0, locals := 46 } (va_Pc [.int p0] (fun _ => True)) (vp_Si (fun z => BR z (0 ≤ p0.toInt ∧ p0.toInt ≤ 9999) 1 0)) 0 0 (fun _ => False) := by
  refine Met.ofQ (cc := cX11_isDay) (maxL := 1) (ret := (some .boolean)) (by decide) rfl ?_
  intro p e s m args below meth c s₁ B hml hv Q hQ
  obtain ⟨rfl, -⟩ := hv
  have hx := B.exec
  have hb := B.bytes
  have hr := B.returns
  have hlocks := B.notSynchronized
  have hT : ∀ w ∈ gT, w.before _ s = true := fun w h => atoms_spec (ws := (Cond.code yX11_isDay cX11_isDay 1 (some .boolean) :: gT)) B.pre w (List.mem_cons_of_mem _ h)
  have hown : s.vm.findClass RX11 = some m.cls := findClass_of_methodNamed B.named
  have hl := lv_entry ([.int p0]) (n := 1) (Nat.le_of_ble_eq_true rfl)
  rw [lg_entry_eq]
  generalize (lg_sl ([.int p0]) ++ List.replicate (1 - (lg_sl ([.int p0])).length) Slot.unset).toArray = ls at hl ⊢
  have hl : lv_has ls 1 [(0, .int p0)] := hl
  refine lv_iload_n hx hb dX11_isDay_0 rfl (lv_at hl 0 rfl) ?_
  refine lv_iconst (v := 0) hx hb dX11_isDay_1 (by decide) ?_
  refine lv_sipush (v := 9999) hx hb dX11_isDay_2 (by decide) ?_
  refine vp_callSi (W.runS (As := [.int p0, .int 0, .int 9999]) (rest := []) ⟨hx, hb, hml, hown, hT⟩ (c_X11_within l p0 0 9999) (va_cwS 3 hT (gS t_1 t_3 t_4 t_2) rfl rfl rfl (by decide +kernel) ⟨Nat.le_of_ble_eq_true rfl, Nat.le_of_ble_eq_true rfl⟩) preT rfl rfl hl.1 rfl (lv_room (Nat.le_of_ble_eq_true rfl)) dX11_isDay_5 ⟨Nat.le_of_ble_eq_true rfl, Nat.le_of_ble_eq_true rfl⟩) (fun r_1 hr_1 => ?_)
  have hr_1 : BR r_1 (0 ≤ p0.toInt ∧ p0.toInt ≤ 9999) 1 0 := hr_1
  rcases hr_1 with ⟨rfl, h_2⟩ | ⟨rfl, h_2⟩
  · skip
    subst hQ
    exact W.zret hx hb hr rfl (fun t ht hW => ⟨_, rfl, Or.inl ⟨rfl, by omega⟩, ht⟩) (fun q hq => absurd hq List.not_mem_nil) dX11_isDay_8
  · skip
    subst hQ
    exact W.zret hx hb hr rfl (fun t ht hW => ⟨_, rfl, Or.inr ⟨rfl, by omega⟩, ht⟩) (fun q hq => absurd hq List.not_mem_nil) dX11_isDay_8
end
section
theorem t_5 : Cond.fieldLink RX12 234 "DepositJudgeModel" "homes" "I" ∈ gT := tm (List.mem_of_getElem? (i := 917) (by decide +kernel)) (by decide +kernel)
theorem t_6 : Cond.fieldLink RX12 417 "DepositJudgeModel" "claims" "I" ∈ gT := tm (List.mem_of_getElem? (i := 968) (by decide +kernel)) (by decide +kernel)
theorem t_7 : Cond.code yX12_isHome cX12_isHome 2 (some .boolean) ∈ gT := tm (List.mem_of_getElem? (i := 1222) (by decide +kernel)) (by decide +kernel)
theorem t_8 : Cond.initialized RX12 ∈ gT := tm (List.mem_of_getElem? (i := 11) (by decide +kernel)) (by decide +kernel)
theorem t_9 : Cond.methodLink RX12 249 yX12_isHome ∈ gT := tm (List.mem_of_getElem? (i := 1219) (by decide +kernel)) (by decide +kernel)
theorem t_10 : Cond.instanceMethod yX12_isHome ∈ gT := tm (List.mem_of_getElem? (i := 1221) (by decide +kernel)) (by decide +kernel)
theorem t_11 : Cond.selects RX12 yX12_isHome yX12_isHome ∈ gT := tmp (List.mem_of_getElem? (i := 32) (by decide +kernel)) (by decide +kernel)
theorem t_12 : Cond.code yX12_in cX12_in 3 (some .boolean) ∈ gT := tm (List.mem_of_getElem? (i := 1201) (by decide +kernel)) (by decide +kernel)
theorem t_13 : Cond.methodLink RX12 241 yX12_in ∈ gT := tm (List.mem_of_getElem? (i := 1199) (by decide +kernel)) (by decide +kernel)
theorem t_14 : Cond.static yX12_in ∈ gT := tm (List.mem_of_getElem? (i := 1200) (by decide +kernel)) (by decide +kernel)
theorem t_15 : Cond.fieldLink RX12 255 "DepositJudgeModel" "taped" "I" ∈ gT := tm (List.mem_of_getElem? (i := 939) (by decide +kernel)) (by decide +kernel)
theorem t_16 : Cond.code yX12_isFirst cX12_isFirst 3 (some .boolean) ∈ gT := tm (List.mem_of_getElem? (i := 1336) (by decide +kernel)) (by decide +kernel)
theorem t_17 : Cond.methodLink RX12 405 yX12_isFirst ∈ gT := tm (List.mem_of_getElem? (i := 1333) (by decide +kernel)) (by decide +kernel)
theorem t_18 : Cond.instanceMethod yX12_isFirst ∈ gT := tm (List.mem_of_getElem? (i := 1335) (by decide +kernel)) (by decide +kernel)
theorem t_19 : Cond.selects RX12 yX12_isFirst yX12_isFirst ∈ gT := tmp (List.mem_of_getElem? (i := 52) (by decide +kernel)) (by decide +kernel)
theorem t_20 : Cond.code yX12_isClaim cX12_isClaim 2 (some .boolean) ∈ gT := tm (List.mem_of_getElem? (i := 1430) (by decide +kernel)) (by decide +kernel)
theorem t_21 : Cond.methodLink RX12 423 yX12_isClaim ∈ gT := tm (List.mem_of_getElem? (i := 1427) (by decide +kernel)) (by decide +kernel)
theorem t_22 : Cond.instanceMethod yX12_isClaim ∈ gT := tm (List.mem_of_getElem? (i := 1429) (by decide +kernel)) (by decide +kernel)
theorem t_23 : Cond.selects RX12 yX12_isClaim yX12_isClaim ∈ gT := tmp (List.mem_of_getElem? (i := 70) (by decide +kernel)) (by decide +kernel)
theorem t_24 : Cond.code yX12_isJudge cX12_isJudge 1 (some .boolean) ∈ gT := tm (List.mem_of_getElem? (i := 1502) (by decide +kernel)) (by decide +kernel)
theorem t_25 : Cond.methodLink RX12 465 yX12_isJudge ∈ gT := tm (List.mem_of_getElem? (i := 1500) (by decide +kernel)) (by decide +kernel)
theorem t_26 : Cond.static yX12_isJudge ∈ gT := tm (List.mem_of_getElem? (i := 1501) (by decide +kernel)) (by decide +kernel)
theorem t_27 : Cond.fieldLink RX12 470 "DepositJudgeModel" "doubles" "I" ∈ gT := tm (List.mem_of_getElem? (i := 980) (by decide +kernel)) (by decide +kernel)
theorem t_28 : Cond.constant RX12 476 (-1000000) ∈ gT := tm (List.mem_of_getElem? (i := 1521) (by decide +kernel)) (by decide +kernel)
theorem t_29 : Cond.fieldLink RX12 500 "DepositJudgeModel" "isKept" "Z" ∈ gT := tm (List.mem_of_getElem? (i := 995) (by decide +kernel)) (by decide +kernel)
theorem t_30 : Cond.code yX12_isKind cX12_isKind 1 (some .boolean) ∈ gT := tm (List.mem_of_getElem? (i := 1198) (by decide +kernel)) (by decide +kernel)
theorem t_31 : Cond.methodLink RX12 237 yX12_isKind ∈ gT := tm (List.mem_of_getElem? (i := 1196) (by decide +kernel)) (by decide +kernel)
theorem t_32 : Cond.static yX12_isKind ∈ gT := tm (List.mem_of_getElem? (i := 1197) (by decide +kernel)) (by decide +kernel)
theorem t_33 : Cond.code yX12_isDay cX12_isDay 1 (some .boolean) ∈ gT := tm (List.mem_of_getElem? (i := 1422) (by decide +kernel)) (by decide +kernel)
theorem t_34 : Cond.methodLink RX12 420 yX12_isDay ∈ gT := tm (List.mem_of_getElem? (i := 1420) (by decide +kernel)) (by decide +kernel)
theorem t_35 : Cond.static yX12_isDay ∈ gT := tm (List.mem_of_getElem? (i := 1421) (by decide +kernel)) (by decide +kernel)
theorem t_36 : Cond.fieldLink RX12 353 "DepositJudgeModel" "clauses" "I" ∈ gT := tm (List.mem_of_getElem? (i := 948) (by decide +kernel)) (by decide +kernel)
theorem t_37 : Cond.fieldLink RX12 486 "DepositJudgeModel" "facts0" "I" ∈ gT := tm (List.mem_of_getElem? (i := 989) (by decide +kernel)) (by decide +kernel)
theorem t_38 : Cond.fieldLink RX12 229 "DepositJudgeModel" "x0" "I" ∈ gT := tm (List.mem_of_getElem? (i := 918) (by decide +kernel)) (by decide +kernel)
theorem dX12_agree_0 : decode cX12_agree 0 = .ok (.aload_n 0, 1) := by decide +kernel
theorem dX12_agree_1 : decode cX12_agree 1 = .ok (.iload_n 1, 1) := by decide +kernel
theorem dX12_agree_2 : decode cX12_agree 2 = .ok (.invokevirtual 423, 3) := by decide +kernel
theorem dX12_agree_5 : decode cX12_agree 5 = .ok (.ifCond .eq 10, 3) := by decide +kernel
theorem dX12_agree_15 : decode cX12_agree 15 = .ok (.iconst 0, 1) := by decide +kernel
theorem dX12_agree_16 : decode cX12_agree 16 = .ok (.ireturn, 1) := by decide +kernel
theorem dX12_answer_0 : decode cX12_answer 0 = .ok (.aload_n 0, 1) := by decide +kernel
theorem dX12_answer_1 : decode cX12_answer 1 = .ok (.iload_n 1, 1) := by decide +kernel
theorem dX12_answer_2 : decode cX12_answer 2 = .ok (.invokevirtual 423, 3) := by decide +kernel
theorem dX12_answer_5 : decode cX12_answer 5 = .ok (.ifCond .eq 20, 3) := by decide +kernel
theorem dX12_answer_25 : decode cX12_answer 25 = .ok (.iconst 0, 1) := by decide +kernel
theorem dX12_answer_26 : decode cX12_answer 26 = .ok (.ireturn, 1) := by decide +kernel
theorem dX12_award_0 : decode cX12_award 0 = .ok (.aload_n 0, 1) := by decide +kernel
theorem dX12_award_1 : decode cX12_award 1 = .ok (.iload_n 1, 1) := by decide +kernel
theorem dX12_award_2 : decode cX12_award 2 = .ok (.invokevirtual 423, 3) := by decide +kernel
theorem dX12_award_5 : decode cX12_award 5 = .ok (.ifCond .eq 19, 3) := by decide +kernel
theorem dX12_award_24 : decode cX12_award 24 = .ok (.iconst (-1), 1) := by decide +kernel
theorem dX12_award_25 : decode cX12_award 25 = .ok (.ireturn, 1) := by decide +kernel
theorem dX12_byKind_0 : decode cX12_byKind 0 = .ok (.iload_n 1, 1) := by decide +kernel
theorem dX12_byKind_1 : decode cX12_byKind 1 = .ok (.invokestatic 237, 3) := by decide +kernel
theorem dX12_byKind_4 : decode cX12_byKind 4 = .ok (.ifCond .eq 10, 3) := by decide +kernel
theorem dX12_byKind_7 : decode cX12_byKind 7 = .ok (.iload_n 2, 1) := by decide +kernel
theorem dX12_byKind_8 : decode cX12_byKind 8 = .ok (.invokestatic 420, 3) := by decide +kernel
theorem dX12_byKind_11 : decode cX12_byKind 11 = .ok (.ifCond .ne 5, 3) := by decide +kernel
theorem dX12_byKind_14 : decode cX12_byKind 14 = .ok (.iconst (-1), 1) := by decide +kernel
theorem dX12_byKind_15 : decode cX12_byKind 15 = .ok (.ireturn, 1) := by decide +kernel
theorem dX12_byKind_16 : decode cX12_byKind 16 = .ok (.iconst 0, 1) := by decide +kernel
theorem dX12_byKind_17 : decode cX12_byKind 17 = .ok (.istore_n 3, 1) := by decide +kernel
theorem dX12_byKind_18 : decode cX12_byKind 18 = .ok (.iconst 0, 1) := by decide +kernel
theorem dX12_byKind_19 : decode cX12_byKind 19 = .ok (.istore 4, 2) := by decide +kernel
theorem dX12_byKind_21 : decode cX12_byKind 21 = .ok (.iload 4, 2) := by decide +kernel
theorem dX12_byKind_23 : decode cX12_byKind 23 = .ok (.aload_n 0, 1) := by decide +kernel
theorem dX12_byKind_24 : decode cX12_byKind 24 = .ok (.getfield 417, 3) := by decide +kernel
theorem dX12_byKind_27 : decode cX12_byKind 27 = .ok (.if_icmp .ge 61, 3) := by decide +kernel
theorem dX12_byKind_88 : decode cX12_byKind 88 = .ok (.iload_n 3, 1) := by decide +kernel
theorem dX12_byKind_89 : decode cX12_byKind 89 = .ok (.ireturn, 1) := by decide +kernel
theorem dX12_check_0 : decode cX12_check 0 = .ok (.aload_n 0, 1) := by decide +kernel
theorem dX12_check_1 : decode cX12_check 1 = .ok (.iload_n 1, 1) := by decide +kernel
theorem dX12_check_2 : decode cX12_check 2 = .ok (.invokevirtual 249, 3) := by decide +kernel
theorem dX12_check_5 : decode cX12_check 5 = .ok (.ifCond .eq 29, 3) := by decide +kernel
theorem dX12_check_34 : decode cX12_check 34 = .ok (.bipush (-2), 2) := by decide +kernel
theorem dX12_check_36 : decode cX12_check 36 = .ok (.ireturn, 1) := by decide +kernel
theorem dX12_claim_0 : decode cX12_claim 0 = .ok (.aload_n 0, 1) := by decide +kernel
theorem dX12_claim_1 : decode cX12_claim 1 = .ok (.iload_n 1, 1) := by decide +kernel
theorem dX12_claim_2 : decode cX12_claim 2 = .ok (.iload_n 2, 1) := by decide +kernel
theorem dX12_claim_3 : decode cX12_claim 3 = .ok (.invokevirtual 405, 3) := by decide +kernel
theorem dX12_claim_6 : decode cX12_claim 6 = .ok (.ifCond .eq 41, 3) := by decide +kernel
theorem dX12_claim_47 : decode cX12_claim 47 = .ok (.iconst (-1), 1) := by decide +kernel
theorem dX12_claim_48 : decode cX12_claim 48 = .ok (.ireturn, 1) := by decide +kernel
theorem dX12_count_0 : decode cX12_count 0 = .ok (.iload_n 1, 1) := by decide +kernel
theorem dX12_count_1 : decode cX12_count 1 = .ok (.tableswitch 78 0 6 #[43, 48, 53, 58, 63, 68, 73], 43) := by decide +kernel
theorem dX12_count_44 : decode cX12_count 44 = .ok (.aload_n 0, 1) := by decide +kernel
theorem dX12_count_45 : decode cX12_count 45 = .ok (.getfield 234, 3) := by decide +kernel
theorem dX12_count_48 : decode cX12_count 48 = .ok (.ireturn, 1) := by decide +kernel
theorem dX12_count_49 : decode cX12_count 49 = .ok (.aload_n 0, 1) := by decide +kernel
theorem dX12_count_50 : decode cX12_count 50 = .ok (.getfield 417, 3) := by decide +kernel
theorem dX12_count_53 : decode cX12_count 53 = .ok (.ireturn, 1) := by decide +kernel
theorem dX12_count_54 : decode cX12_count 54 = .ok (.aload_n 0, 1) := by decide +kernel
theorem dX12_count_55 : decode cX12_count 55 = .ok (.getfield 353, 3) := by decide +kernel
theorem dX12_count_58 : decode cX12_count 58 = .ok (.ireturn, 1) := by decide +kernel
theorem dX12_count_59 : decode cX12_count 59 = .ok (.aload_n 0, 1) := by decide +kernel
theorem dX12_count_60 : decode cX12_count 60 = .ok (.getfield 255, 3) := by decide +kernel
theorem dX12_count_63 : decode cX12_count 63 = .ok (.ireturn, 1) := by decide +kernel
theorem dX12_count_64 : decode cX12_count 64 = .ok (.aload_n 0, 1) := by decide +kernel
theorem dX12_count_65 : decode cX12_count 65 = .ok (.getfield 470, 3) := by decide +kernel
theorem dX12_count_68 : decode cX12_count 68 = .ok (.ireturn, 1) := by decide +kernel
theorem dX12_count_69 : decode cX12_count 69 = .ok (.aload_n 0, 1) := by decide +kernel
theorem dX12_count_70 : decode cX12_count 70 = .ok (.getfield 486, 3) := by decide +kernel
theorem dX12_count_73 : decode cX12_count 73 = .ok (.ireturn, 1) := by decide +kernel
theorem dX12_count_74 : decode cX12_count 74 = .ok (.aload_n 0, 1) := by decide +kernel
theorem dX12_count_75 : decode cX12_count 75 = .ok (.getfield 229, 3) := by decide +kernel
theorem dX12_count_78 : decode cX12_count 78 = .ok (.ireturn, 1) := by decide +kernel
theorem dX12_count_79 : decode cX12_count 79 = .ok (.iload_n 1, 1) := by decide +kernel
theorem dX12_count_80 : decode cX12_count 80 = .ok (.bipush 10, 2) := by decide +kernel
theorem dX12_count_82 : decode cX12_count 82 = .ok (.bipush 9, 2) := by decide +kernel
theorem dX12_count_84 : decode cX12_count 84 = .ok (.aload_n 0, 1) := by decide +kernel
theorem dX12_count_85 : decode cX12_count 85 = .ok (.getfield 234, 3) := by decide +kernel
theorem dX12_count_88 : decode cX12_count 88 = .ok (.iadd, 1) := by decide +kernel
theorem dX12_count_89 : decode cX12_count 89 = .ok (.invokestatic 241, 3) := by decide +kernel
theorem dX12_count_92 : decode cX12_count 92 = .ok (.ifCond .eq 13, 3) := by decide +kernel
theorem dX12_count_105 : decode cX12_count 105 = .ok (.iload_n 1, 1) := by decide +kernel
theorem dX12_count_106 : decode cX12_count 106 = .ok (.bipush 20, 2) := by decide +kernel
theorem dX12_count_108 : decode cX12_count 108 = .ok (.bipush 19, 2) := by decide +kernel
theorem dX12_count_110 : decode cX12_count 110 = .ok (.aload_n 0, 1) := by decide +kernel
theorem dX12_count_111 : decode cX12_count 111 = .ok (.getfield 234, 3) := by decide +kernel
theorem dX12_count_114 : decode cX12_count 114 = .ok (.iadd, 1) := by decide +kernel
theorem dX12_count_115 : decode cX12_count 115 = .ok (.invokestatic 241, 3) := by decide +kernel
theorem dX12_count_118 : decode cX12_count 118 = .ok (.ifCond .eq 13, 3) := by decide +kernel
theorem dX12_count_131 : decode cX12_count 131 = .ok (.iload_n 1, 1) := by decide +kernel
theorem dX12_count_132 : decode cX12_count 132 = .ok (.bipush 30, 2) := by decide +kernel
theorem dX12_count_134 : decode cX12_count 134 = .ok (.bipush 29, 2) := by decide +kernel
theorem dX12_count_136 : decode cX12_count 136 = .ok (.aload_n 0, 1) := by decide +kernel
theorem dX12_count_137 : decode cX12_count 137 = .ok (.getfield 417, 3) := by decide +kernel
theorem dX12_count_140 : decode cX12_count 140 = .ok (.iadd, 1) := by decide +kernel
theorem dX12_count_141 : decode cX12_count 141 = .ok (.invokestatic 241, 3) := by decide +kernel
theorem dX12_count_144 : decode cX12_count 144 = .ok (.ifCond .eq 15, 3) := by decide +kernel
theorem dX12_count_159 : decode cX12_count 159 = .ok (.iconst (-1), 1) := by decide +kernel
theorem dX12_count_160 : decode cX12_count 160 = .ok (.ireturn, 1) := by decide +kernel
theorem dX12_draw_0 : decode cX12_draw 0 = .ok (.aload_n 0, 1) := by decide +kernel
theorem dX12_draw_1 : decode cX12_draw 1 = .ok (.iload_n 1, 1) := by decide +kernel
theorem dX12_draw_2 : decode cX12_draw 2 = .ok (.invokevirtual 249, 3) := by decide +kernel
theorem dX12_draw_5 : decode cX12_draw 5 = .ok (.ifCond .ne 5, 3) := by decide +kernel
theorem dX12_draw_8 : decode cX12_draw 8 = .ok (.iconst (-1), 1) := by decide +kernel
theorem dX12_draw_9 : decode cX12_draw 9 = .ok (.ireturn, 1) := by decide +kernel
theorem dX12_first_0 : decode cX12_first 0 = .ok (.aload_n 0, 1) := by decide +kernel
theorem dX12_first_1 : decode cX12_first 1 = .ok (.iload_n 1, 1) := by decide +kernel
theorem dX12_first_2 : decode cX12_first 2 = .ok (.invokevirtual 249, 3) := by decide +kernel
theorem dX12_first_5 : decode cX12_first 5 = .ok (.ifCond .eq 36, 3) := by decide +kernel
theorem dX12_first_41 : decode cX12_first 41 = .ok (.iconst (-1), 1) := by decide +kernel
theorem dX12_first_42 : decode cX12_first 42 = .ok (.ireturn, 1) := by decide +kernel
theorem dX12_isClaim_0 : decode cX12_isClaim 0 = .ok (.iload_n 1, 1) := by decide +kernel
theorem dX12_isClaim_1 : decode cX12_isClaim 1 = .ok (.ifCond .lt 15, 3) := by decide +kernel
theorem dX12_isClaim_4 : decode cX12_isClaim 4 = .ok (.iload_n 1, 1) := by decide +kernel
theorem dX12_isClaim_5 : decode cX12_isClaim 5 = .ok (.aload_n 0, 1) := by decide +kernel
theorem dX12_isClaim_6 : decode cX12_isClaim 6 = .ok (.getfield 417, 3) := by decide +kernel
theorem dX12_isClaim_9 : decode cX12_isClaim 9 = .ok (.if_icmp .ge 7, 3) := by decide +kernel
theorem dX12_isClaim_16 : decode cX12_isClaim 16 = .ok (.iconst 0, 1) := by decide +kernel
theorem dX12_isClaim_17 : decode cX12_isClaim 17 = .ok (.ireturn, 1) := by decide +kernel
theorem dX12_isFirst_0 : decode cX12_isFirst 0 = .ok (.aload_n 0, 1) := by decide +kernel
theorem dX12_isFirst_1 : decode cX12_isFirst 1 = .ok (.iload_n 1, 1) := by decide +kernel
theorem dX12_isFirst_2 : decode cX12_isFirst 2 = .ok (.invokevirtual 249, 3) := by decide +kernel
theorem dX12_isFirst_5 : decode cX12_isFirst 5 = .ok (.ifCond .eq 21, 3) := by decide +kernel
theorem dX12_isFirst_26 : decode cX12_isFirst 26 = .ok (.iconst 0, 1) := by decide +kernel
theorem dX12_isFirst_27 : decode cX12_isFirst 27 = .ok (.ireturn, 1) := by decide +kernel
theorem dX12_isHome_0 : decode cX12_isHome 0 = .ok (.iload_n 1, 1) := by decide +kernel
theorem dX12_isHome_1 : decode cX12_isHome 1 = .ok (.ifCond .lt 15, 3) := by decide +kernel
theorem dX12_isHome_4 : decode cX12_isHome 4 = .ok (.iload_n 1, 1) := by decide +kernel
theorem dX12_isHome_5 : decode cX12_isHome 5 = .ok (.aload_n 0, 1) := by decide +kernel
theorem dX12_isHome_6 : decode cX12_isHome 6 = .ok (.getfield 234, 3) := by decide +kernel
theorem dX12_isHome_9 : decode cX12_isHome 9 = .ok (.if_icmp .ge 7, 3) := by decide +kernel
theorem dX12_isHome_16 : decode cX12_isHome 16 = .ok (.iconst 0, 1) := by decide +kernel
theorem dX12_isHome_17 : decode cX12_isHome 17 = .ok (.ireturn, 1) := by decide +kernel
theorem dX12_isNew_0 : decode cX12_isNew 0 = .ok (.aload_n 0, 1) := by decide +kernel
theorem dX12_isNew_1 : decode cX12_isNew 1 = .ok (.iload_n 1, 1) := by decide +kernel
theorem dX12_isNew_2 : decode cX12_isNew 2 = .ok (.invokevirtual 249, 3) := by decide +kernel
theorem dX12_isNew_5 : decode cX12_isNew 5 = .ok (.ifCond .eq 17, 3) := by decide +kernel
theorem dX12_isNew_22 : decode cX12_isNew 22 = .ok (.iconst (-1), 1) := by decide +kernel
theorem dX12_isNew_23 : decode cX12_isNew 23 = .ok (.ireturn, 1) := by decide +kernel
theorem dX12_judged_0 : decode cX12_judged 0 = .ok (.aload_n 0, 1) := by decide +kernel
theorem dX12_judged_1 : decode cX12_judged 1 = .ok (.iload_n 1, 1) := by decide +kernel
theorem dX12_judged_2 : decode cX12_judged 2 = .ok (.invokevirtual 249, 3) := by decide +kernel
theorem dX12_judged_5 : decode cX12_judged 5 = .ok (.ifCond .eq 37, 3) := by decide +kernel
theorem dX12_judged_42 : decode cX12_judged 42 = .ok (.iconst (-1), 1) := by decide +kernel
theorem dX12_judged_43 : decode cX12_judged 43 = .ok (.ireturn, 1) := by decide +kernel
theorem dX12_kin_0 : decode cX12_kin 0 = .ok (.iload_n 1, 1) := by decide +kernel
theorem dX12_kin_1 : decode cX12_kin 1 = .ok (.invokestatic 465, 3) := by decide +kernel
theorem dX12_kin_4 : decode cX12_kin 4 = .ok (.ifCond .eq 26, 3) := by decide +kernel
theorem dX12_kin_7 : decode cX12_kin 7 = .ok (.aload_n 0, 1) := by decide +kernel
theorem dX12_kin_8 : decode cX12_kin 8 = .ok (.iload_n 2, 1) := by decide +kernel
theorem dX12_kin_9 : decode cX12_kin 9 = .ok (.invokevirtual 249, 3) := by decide +kernel
theorem dX12_kin_12 : decode cX12_kin 12 = .ok (.ifCond .eq 18, 3) := by decide +kernel
theorem dX12_kin_30 : decode cX12_kin 30 = .ok (.iconst 0, 1) := by decide +kernel
theorem dX12_kin_31 : decode cX12_kin 31 = .ok (.ireturn, 1) := by decide +kernel
theorem dX12_last_0 : decode cX12_last 0 = .ok (.aload_n 0, 1) := by decide +kernel
theorem dX12_last_1 : decode cX12_last 1 = .ok (.iload_n 1, 1) := by decide +kernel
theorem dX12_last_2 : decode cX12_last 2 = .ok (.invokevirtual 249, 3) := by decide +kernel
theorem dX12_last_5 : decode cX12_last 5 = .ok (.ifCond .eq 24, 3) := by decide +kernel
theorem dX12_last_29 : decode cX12_last 29 = .ok (.iconst (-1), 1) := by decide +kernel
theorem dX12_last_30 : decode cX12_last 30 = .ok (.ireturn, 1) := by decide +kernel
theorem dX12_law_0 : decode cX12_law 0 = .ok (.iload_n 1, 1) := by decide +kernel
theorem dX12_law_1 : decode cX12_law 1 = .ok (.iconst 1, 1) := by decide +kernel
theorem dX12_law_2 : decode cX12_law 2 = .ok (.sipush 200, 3) := by decide +kernel
theorem dX12_law_5 : decode cX12_law 5 = .ok (.invokestatic 241, 3) := by decide +kernel
theorem dX12_law_8 : decode cX12_law 8 = .ok (.ifCond .eq 11, 3) := by decide +kernel
theorem dX12_law_11 : decode cX12_law 11 = .ok (.iload_n 1, 1) := by decide +kernel
theorem dX12_law_12 : decode cX12_law 12 = .ok (.aload_n 0, 1) := by decide +kernel
theorem dX12_law_13 : decode cX12_law 13 = .ok (.getfield 255, 3) := by decide +kernel
theorem dX12_law_16 : decode cX12_law 16 = .ok (.if_icmp .le 5, 3) := by decide +kernel
theorem dX12_law_19 : decode cX12_law 19 = .ok (.iconst (-1), 1) := by decide +kernel
theorem dX12_law_20 : decode cX12_law 20 = .ok (.ireturn, 1) := by decide +kernel
theorem dX12_led_0 : decode cX12_led 0 = .ok (.aload_n 0, 1) := by decide +kernel
theorem dX12_led_1 : decode cX12_led 1 = .ok (.iload_n 1, 1) := by decide +kernel
theorem dX12_led_2 : decode cX12_led 2 = .ok (.iload_n 2, 1) := by decide +kernel
theorem dX12_led_3 : decode cX12_led 3 = .ok (.invokevirtual 405, 3) := by decide +kernel
theorem dX12_led_6 : decode cX12_led 6 = .ok (.ifCond .eq 38, 3) := by decide +kernel
theorem dX12_led_44 : decode cX12_led 44 = .ok (.iconst (-1), 1) := by decide +kernel
theorem dX12_led_45 : decode cX12_led 45 = .ok (.ireturn, 1) := by decide +kernel
theorem dX12_like_0 : decode cX12_like 0 = .ok (.aload_n 0, 1) := by decide +kernel
theorem dX12_like_1 : decode cX12_like 1 = .ok (.iload_n 1, 1) := by decide +kernel
theorem dX12_like_2 : decode cX12_like 2 = .ok (.invokevirtual 249, 3) := by decide +kernel
theorem dX12_like_5 : decode cX12_like 5 = .ok (.ifCond .eq 12, 3) := by decide +kernel
theorem dX12_like_17 : decode cX12_like 17 = .ok (.iconst (-1), 1) := by decide +kernel
theorem dX12_like_18 : decode cX12_like 18 = .ok (.ireturn, 1) := by decide +kernel
theorem dX12_met_0 : decode cX12_met 0 = .ok (.aload_n 0, 1) := by decide +kernel
theorem dX12_met_1 : decode cX12_met 1 = .ok (.iload_n 1, 1) := by decide +kernel
theorem dX12_met_2 : decode cX12_met 2 = .ok (.invokevirtual 249, 3) := by decide +kernel
theorem dX12_met_5 : decode cX12_met 5 = .ok (.ifCond .ne 5, 3) := by decide +kernel
theorem dX12_met_8 : decode cX12_met 8 = .ok (.iconst (-1), 1) := by decide +kernel
theorem dX12_met_9 : decode cX12_met 9 = .ok (.ireturn, 1) := by decide +kernel
theorem dX12_offer_0 : decode cX12_offer 0 = .ok (.aload_n 0, 1) := by decide +kernel
theorem dX12_offer_1 : decode cX12_offer 1 = .ok (.iload_n 1, 1) := by decide +kernel
theorem dX12_offer_2 : decode cX12_offer 2 = .ok (.invokevirtual 249, 3) := by decide +kernel
theorem dX12_offer_5 : decode cX12_offer 5 = .ok (.ifCond .eq 10, 3) := by decide +kernel
theorem dX12_offer_15 : decode cX12_offer 15 = .ok (.iconst (-1), 1) := by decide +kernel
theorem dX12_offer_16 : decode cX12_offer 16 = .ok (.ireturn, 1) := by decide +kernel
theorem dX12_owes_0 : decode cX12_owes 0 = .ok (.aload_n 0, 1) := by decide +kernel
theorem dX12_owes_1 : decode cX12_owes 1 = .ok (.iload_n 1, 1) := by decide +kernel
theorem dX12_owes_2 : decode cX12_owes 2 = .ok (.invokevirtual 249, 3) := by decide +kernel
theorem dX12_owes_5 : decode cX12_owes 5 = .ok (.ifCond .eq 19, 3) := by decide +kernel
theorem dX12_owes_24 : decode cX12_owes 24 = .ok (.iconst 0, 1) := by decide +kernel
theorem dX12_owes_25 : decode cX12_owes 25 = .ok (.ireturn, 1) := by decide +kernel
theorem dX12_part_0 : decode cX12_part 0 = .ok (.aload_n 0, 1) := by decide +kernel
theorem dX12_part_1 : decode cX12_part 1 = .ok (.iload_n 1, 1) := by decide +kernel
theorem dX12_part_2 : decode cX12_part 2 = .ok (.invokevirtual 249, 3) := by decide +kernel
theorem dX12_part_5 : decode cX12_part 5 = .ok (.ifCond .eq 27, 3) := by decide +kernel
theorem dX12_part_32 : decode cX12_part 32 = .ok (.iconst 0, 1) := by decide +kernel
theorem dX12_part_33 : decode cX12_part 33 = .ok (.ireturn, 1) := by decide +kernel
theorem dX12_spread_0 : decode cX12_spread 0 = .ok (.iload_n 1, 1) := by decide +kernel
theorem dX12_spread_1 : decode cX12_spread 1 = .ok (.invokestatic 465, 3) := by decide +kernel
theorem dX12_spread_4 : decode cX12_spread 4 = .ok (.ifCond .eq 12, 3) := by decide +kernel
theorem dX12_spread_7 : decode cX12_spread 7 = .ok (.iload_n 2, 1) := by decide +kernel
theorem dX12_spread_8 : decode cX12_spread 8 = .ok (.iconst 0, 1) := by decide +kernel
theorem dX12_spread_9 : decode cX12_spread 9 = .ok (.iconst 3, 1) := by decide +kernel
theorem dX12_spread_10 : decode cX12_spread 10 = .ok (.invokestatic 241, 3) := by decide +kernel
theorem dX12_spread_13 : decode cX12_spread 13 = .ok (.ifCond .ne 7, 3) := by decide +kernel
theorem dX12_spread_16 : decode cX12_spread 16 = .ok (.ldc_w 476, 3) := by decide +kernel
theorem dX12_spread_19 : decode cX12_spread 19 = .ok (.ireturn, 1) := by decide +kernel
theorem dX12_spread_20 : decode cX12_spread 20 = .ok (.iconst 0, 1) := by decide +kernel
theorem dX12_spread_21 : decode cX12_spread 21 = .ok (.istore_n 3, 1) := by decide +kernel
theorem dX12_spread_22 : decode cX12_spread 22 = .ok (.iconst 0, 1) := by decide +kernel
theorem dX12_spread_23 : decode cX12_spread 23 = .ok (.istore 4, 2) := by decide +kernel
theorem dX12_spread_25 : decode cX12_spread 25 = .ok (.iconst 0, 1) := by decide +kernel
theorem dX12_spread_26 : decode cX12_spread 26 = .ok (.istore 5, 2) := by decide +kernel
theorem dX12_spread_28 : decode cX12_spread 28 = .ok (.iconst 0, 1) := by decide +kernel
theorem dX12_spread_29 : decode cX12_spread 29 = .ok (.istore 6, 2) := by decide +kernel
theorem dX12_spread_31 : decode cX12_spread 31 = .ok (.iload 6, 2) := by decide +kernel
theorem dX12_spread_33 : decode cX12_spread 33 = .ok (.aload_n 0, 1) := by decide +kernel
theorem dX12_spread_34 : decode cX12_spread 34 = .ok (.getfield 470, 3) := by decide +kernel
theorem dX12_spread_37 : decode cX12_spread 37 = .ok (.if_icmp .ge 101, 3) := by decide +kernel
theorem dX12_spread_138 : decode cX12_spread 138 = .ok (.iload_n 3, 1) := by decide +kernel
theorem dX12_spread_139 : decode cX12_spread 139 = .ok (.ifCond .ne 7, 3) := by decide +kernel
theorem dX12_spread_142 : decode cX12_spread 142 = .ok (.ldc_w 476, 3) := by decide +kernel
theorem dX12_spread_145 : decode cX12_spread 145 = .ok (.ireturn, 1) := by decide +kernel
theorem dX12_thing_0 : decode cX12_thing 0 = .ok (.aload_n 0, 1) := by decide +kernel
theorem dX12_thing_1 : decode cX12_thing 1 = .ok (.iload_n 1, 1) := by decide +kernel
theorem dX12_thing_2 : decode cX12_thing 2 = .ok (.iload_n 2, 1) := by decide +kernel
theorem dX12_thing_3 : decode cX12_thing 3 = .ok (.invokevirtual 405, 3) := by decide +kernel
theorem dX12_thing_6 : decode cX12_thing 6 = .ok (.ifCond .eq 12, 3) := by decide +kernel
theorem dX12_thing_18 : decode cX12_thing 18 = .ok (.iconst (-1), 1) := by decide +kernel
theorem dX12_thing_19 : decode cX12_thing 19 = .ok (.ireturn, 1) := by decide +kernel
theorem dX12_undo_0 : decode cX12_undo 0 = .ok (.aload_n 0, 1) := by decide +kernel
theorem dX12_undo_1 : decode cX12_undo 1 = .ok (.getfield 500, 3) := by decide +kernel
theorem dX12_undo_4 : decode cX12_undo 4 = .ok (.ifCond .ne 5, 3) := by decide +kernel
theorem dX12_undo_7 : decode cX12_undo 7 = .ok (.iconst 0, 1) := by decide +kernel
theorem dX12_undo_8 : decode cX12_undo 8 = .ok (.ireturn, 1) := by decide +kernel
set_option maxHeartbeats 4000000 in
set_option maxRecDepth 100000 in
theorem c_X12_isHome (l : Launch) (D : va_G) (cy : Nat → ClassId) (a : Nat → Nat) (i : Nat → Int32) (r : Nat → Nat → Int32) (rl : Nat → Int64) (p0 : Int32) (hf : mZ i) : Met l yX12_isHome (Cond.code yX12_isHome cX12_isHome 2 (some .boolean) :: gT) { frames := 1, cells := 0, slots := 0, locals := 24 } (va_Pc [.ref (a 0), .int p0] (rP D cy (mW cy a i r rl))) (vp_Si (fun z => z = 0)) 0 0 (fun _ => False) := by
  refine Met.ofQ (cc := cX12_isHome) (maxL := 2) (ret := (some .boolean)) (by decide) rfl ?_
  intro p e s m args below meth c s₁ B hml hv Q hQ
  obtain ⟨rfl, hP, hK⟩ := hv
  have hx := B.exec
  have hb := B.bytes
  have hr := B.returns
  have hlocks := B.notSynchronized
  have hT : ∀ w ∈ gT, w.before _ s = true := fun w h => atoms_spec (ws := (Cond.code yX12_isHome cX12_isHome 2 (some .boolean) :: gT)) B.pre w (List.mem_cons_of_mem _ h)
  have hown : s.vm.findClass RX12 = some m.cls := findClass_of_methodNamed B.named
  have hl := lv_entry ([.ref (a 0), .int p0]) (n := 2) (Nat.le_of_ble_eq_true rfl)
  rw [lg_entry_eq]
  generalize (lg_sl ([.ref (a 0), .int p0]) ++ List.replicate (2 - (lg_sl ([.ref (a 0), .int p0])).length) Slot.unset).toArray = ls at hl ⊢
  have hl : lv_has ls 2 [(0, .ref (a 0)), (1, .int p0)] := hl
  refine lv_iload_n hx hb dX12_isHome_0 rfl (lv_at hl 1 rfl) ?_
  refine lv_if_lt (tgt := 16) hx hb dX12_isHome_1 (by decide) (fun c_1 => ?_) (fun c_1 => ?_)
  · have c_1 : p0.toInt < 0 := b_lt c_1
    refine lv_iconst (v := 0) hx hb dX12_isHome_16 (by decide) ?_
    subst hQ
    exact W.zret hx hb hr rfl (fun t ht hW => ⟨_, rfl, rfl, ht⟩) (fun q hq => absurd hq List.not_mem_nil) dX12_isHome_17
  · have c_1 : 0 ≤ p0.toInt := b_nlt c_1
    refine lv_iload_n hx hb dX12_isHome_4 rfl (lv_at hl 1 rfl) ?_
    refine lv_aload_n hx hb dX12_isHome_5 rfl (lv_at hl 0 rfl) ?_
    refine va_get (D := D) (ci := 12) (v := .int 0) (C := RX12) (T := TX12) (N := 91) hx hb hT iX12 hown hK hP 0 rfl rfl 0 (by decide) (hT _ t_5) (fun _ h9 => h9) (congrArg (fun z => some (Value.int z)) (hf.1 0 (by decide))) dX12_isHome_6 ?_
    refine lv_icmp_ge (tgt := 16) hx hb dX12_isHome_9 (by decide) (fun c_2 => ?_) (fun c_2 => by have c_2 : p0.toInt < 0 := b_nle c_2; omega)
    have c_2 : 0 ≤ p0.toInt := b_le c_2
    refine lv_iconst (v := 0) hx hb dX12_isHome_16 (by decide) ?_
    subst hQ
    exact W.zret hx hb hr rfl (fun t ht hW => ⟨_, rfl, rfl, ht⟩) (fun q hq => absurd hq List.not_mem_nil) dX12_isHome_17
set_option maxHeartbeats 4000000 in
set_option maxRecDepth 100000 in
theorem c_X12_isClaim (l : Launch) (D : va_G) (cy : Nat → ClassId) (a : Nat → Nat) (i : Nat → Int32) (r : Nat → Nat → Int32) (rl : Nat → Int64) (p0 : Int32) (hf : mZ i) : Met l yX12_isClaim (Cond.code yX12_isClaim cX12_isClaim 2 (some .boolean) :: gT) { frames := 1, cells := 0, slots := 0, locals := 24 } (va_Pc [.ref (a 0), .int p0] (rP D cy (mW cy a i r rl))) (vp_Si (fun z => z = 0)) 0 0 (fun _ => False) := by
  refine Met.ofQ (cc := cX12_isClaim) (maxL := 2) (ret := (some .boolean)) (by decide) rfl ?_
  intro p e s m args below meth c s₁ B hml hv Q hQ
  obtain ⟨rfl, hP, hK⟩ := hv
  have hx := B.exec
  have hb := B.bytes
  have hr := B.returns
  have hlocks := B.notSynchronized
  have hT : ∀ w ∈ gT, w.before _ s = true := fun w h => atoms_spec (ws := (Cond.code yX12_isClaim cX12_isClaim 2 (some .boolean) :: gT)) B.pre w (List.mem_cons_of_mem _ h)
  have hown : s.vm.findClass RX12 = some m.cls := findClass_of_methodNamed B.named
  have hl := lv_entry ([.ref (a 0), .int p0]) (n := 2) (Nat.le_of_ble_eq_true rfl)
  rw [lg_entry_eq]
  generalize (lg_sl ([.ref (a 0), .int p0]) ++ List.replicate (2 - (lg_sl ([.ref (a 0), .int p0])).length) Slot.unset).toArray = ls at hl ⊢
  have hl : lv_has ls 2 [(0, .ref (a 0)), (1, .int p0)] := hl
  refine lv_iload_n hx hb dX12_isClaim_0 rfl (lv_at hl 1 rfl) ?_
  refine lv_if_lt (tgt := 16) hx hb dX12_isClaim_1 (by decide) (fun c_1 => ?_) (fun c_1 => ?_)
  · have c_1 : p0.toInt < 0 := b_lt c_1
    refine lv_iconst (v := 0) hx hb dX12_isClaim_16 (by decide) ?_
    subst hQ
    exact W.zret hx hb hr rfl (fun t ht hW => ⟨_, rfl, rfl, ht⟩) (fun q hq => absurd hq List.not_mem_nil) dX12_isClaim_17
  · have c_1 : 0 ≤ p0.toInt := b_nlt c_1
    refine lv_iload_n hx hb dX12_isClaim_4 rfl (lv_at hl 1 rfl) ?_
    refine lv_aload_n hx hb dX12_isClaim_5 rfl (lv_at hl 0 rfl) ?_
    refine va_get (D := D) (ci := 12) (v := .int 0) (C := RX12) (T := TX12) (N := 91) hx hb hT iX12 hown hK hP 0 rfl rfl 51 (by decide) (hT _ t_6) (fun _ h9 => h9) (congrArg (fun z => some (Value.int z)) (hf.1 51 (by decide))) dX12_isClaim_6 ?_
    refine lv_icmp_ge (tgt := 16) hx hb dX12_isClaim_9 (by decide) (fun c_2 => ?_) (fun c_2 => by have c_2 : p0.toInt < 0 := b_nle c_2; omega)
    have c_2 : 0 ≤ p0.toInt := b_le c_2
    refine lv_iconst (v := 0) hx hb dX12_isClaim_16 (by decide) ?_
    subst hQ
    exact W.zret hx hb hr rfl (fun t ht hW => ⟨_, rfl, rfl, ht⟩) (fun q hq => absurd hq List.not_mem_nil) dX12_isClaim_17
set_option maxHeartbeats 4000000 in
set_option maxRecDepth 100000 in
theorem c_X12_isFirst (l : Launch) (D : va_G) (cy : Nat → ClassId) (a : Nat → Nat) (i : Nat → Int32) (r : Nat → Nat → Int32) (rl : Nat → Int64) (p0 p1 : Int32) (hf : mZ i) : Met l yX12_isFirst (Cond.code yX12_isFirst cX12_isFirst 3 (some .boolean) :: gT) { frames := 2, cells := 0, slots := 0, locals := 45 } (va_Pc [.ref (a 0), .int p0, .int p1] (rP D cy (mW cy a i r rl))) (vp_Si (fun z => z = 0)) 0 0 (fun _ => False) := by
  refine Met.ofQ (cc := cX12_isFirst) (maxL := 3) (ret := (some .boolean)) (by decide) rfl ?_
  intro p e s m args below meth c s₁ B hml hv Q hQ
  obtain ⟨rfl, hP, hK⟩ := hv
  have hx := B.exec
  have hb := B.bytes
  have hr := B.returns
  have hlocks := B.notSynchronized
  have hT : ∀ w ∈ gT, w.before _ s = true := fun w h => atoms_spec (ws := (Cond.code yX12_isFirst cX12_isFirst 3 (some .boolean) :: gT)) B.pre w (List.mem_cons_of_mem _ h)
  have hown : s.vm.findClass RX12 = some m.cls := findClass_of_methodNamed B.named
  have hl := lv_entry ([.ref (a 0), .int p0, .int p1]) (n := 3) (Nat.le_of_ble_eq_true rfl)
  rw [lg_entry_eq]
  generalize (lg_sl ([.ref (a 0), .int p0, .int p1]) ++ List.replicate (3 - (lg_sl ([.ref (a 0), .int p0, .int p1])).length) Slot.unset).toArray = ls at hl ⊢
  have hl : lv_has ls 3 [(0, .ref (a 0)), (1, .int p0), (2, .int p1)] := hl
  refine lv_aload_n hx hb dX12_isFirst_0 rfl (lv_at hl 0 rfl) ?_
  refine lv_iload_n hx hb dX12_isFirst_1 rfl (lv_at hl 1 rfl) ?_
  refine vp_callSi (W.runV (As := [.int p0]) (rest := []) ⟨hx, hb, hml, hown, hT⟩ (c_X12_isHome l D cy a i r rl p0 hf) (cwV 1 hT (gV t_7 t_9 t_10 t_11 t_8) rfl rfl rfl (by decide +kernel) ⟨Nat.le_of_ble_eq_true rfl, Nat.le_of_ble_eq_true rfl⟩) (rP_v hP hK (va_recv hK hP (ci := 12) (q0 := 0) rfl rfl)) rfl rfl hl.1 rfl (lv_room (Nat.le_of_ble_eq_true rfl)) dX12_isFirst_2 ⟨Nat.le_of_ble_eq_true rfl, Nat.le_of_ble_eq_true rfl⟩) (fun r_1 hr_1 => ?_)
  subst hr_1
  refine lv_if_eq (tgt := 26) hx hb dX12_isFirst_5 (by decide) (fun c_2 => ?_) (fun c_2 => absurd (by decide) c_2)
  refine lv_iconst (v := 0) hx hb dX12_isFirst_26 (by decide) ?_
  subst hQ
  exact W.zret hx hb hr rfl (fun t ht hW => ⟨_, rfl, rfl, ht⟩) (fun q hq => absurd hq List.not_mem_nil) dX12_isFirst_27
set_option maxHeartbeats 4000000 in
set_option maxRecDepth 100000 in
theorem c_X12_part (l : Launch) (D : va_G) (cy : Nat → ClassId) (a : Nat → Nat) (i : Nat → Int32) (r : Nat → Nat → Int32) (rl : Nat → Int64) (p0 p1 p2 : Int32) (hf : mZ i) : Met l yX12_part (Cond.code yX12_part cX12_part 4 (some .boolean) :: gT) { frames := 2, cells := 0, slots := 0, locals := 45 } (va_Pc [.ref (a 0), .int p0, .int p1, .int p2] (rP D cy (mW cy a i r rl))) (vp_Si (fun z => z = 0)) 0 0 (fun _ => False) := by
  refine Met.ofQ (cc := cX12_part) (maxL := 4) (ret := (some .boolean)) (by decide) rfl ?_
  intro p e s m args below meth c s₁ B hml hv Q hQ
  obtain ⟨rfl, hP, hK⟩ := hv
  have hx := B.exec
  have hb := B.bytes
  have hr := B.returns
  have hlocks := B.notSynchronized
  have hT : ∀ w ∈ gT, w.before _ s = true := fun w h => atoms_spec (ws := (Cond.code yX12_part cX12_part 4 (some .boolean) :: gT)) B.pre w (List.mem_cons_of_mem _ h)
  have hown : s.vm.findClass RX12 = some m.cls := findClass_of_methodNamed B.named
  have hl := lv_entry ([.ref (a 0), .int p0, .int p1, .int p2]) (n := 4) (Nat.le_of_ble_eq_true rfl)
  rw [lg_entry_eq]
  generalize (lg_sl ([.ref (a 0), .int p0, .int p1, .int p2]) ++ List.replicate (4 - (lg_sl ([.ref (a 0), .int p0, .int p1, .int p2])).length) Slot.unset).toArray = ls at hl ⊢
  have hl : lv_has ls 4 [(0, .ref (a 0)), (1, .int p0), (2, .int p1), (3, .int p2)] := hl
  refine lv_aload_n hx hb dX12_part_0 rfl (lv_at hl 0 rfl) ?_
  refine lv_iload_n hx hb dX12_part_1 rfl (lv_at hl 1 rfl) ?_
  refine vp_callSi (W.runV (As := [.int p0]) (rest := []) ⟨hx, hb, hml, hown, hT⟩ (c_X12_isHome l D cy a i r rl p0 hf) (cwV 1 hT (gV t_7 t_9 t_10 t_11 t_8) rfl rfl rfl (by decide +kernel) ⟨Nat.le_of_ble_eq_true rfl, Nat.le_of_ble_eq_true rfl⟩) (rP_v hP hK (va_recv hK hP (ci := 12) (q0 := 0) rfl rfl)) rfl rfl hl.1 rfl (lv_room (Nat.le_of_ble_eq_true rfl)) dX12_part_2 ⟨Nat.le_of_ble_eq_true rfl, Nat.le_of_ble_eq_true rfl⟩) (fun r_1 hr_1 => ?_)
  subst hr_1
  refine lv_if_eq (tgt := 32) hx hb dX12_part_5 (by decide) (fun c_2 => ?_) (fun c_2 => absurd (by decide) c_2)
  refine lv_iconst (v := 0) hx hb dX12_part_32 (by decide) ?_
  subst hQ
  exact W.zret hx hb hr rfl (fun t ht hW => ⟨_, rfl, rfl, ht⟩) (fun q hq => absurd hq List.not_mem_nil) dX12_part_33
set_option maxHeartbeats 4000000 in
set_option maxRecDepth 100000 in
theorem c_X12_owes (l : Launch) (D : va_G) (cy : Nat → ClassId) (a : Nat → Nat) (i : Nat → Int32) (r : Nat → Nat → Int32) (rl : Nat → Int64) (p0 p1 p2 : Int32) (hf : mZ i) : Met l yX12_owes (Cond.code yX12_owes cX12_owes 4 (some .boolean) :: gT) { frames := 2, cells := 0, slots := 0, locals := 45 } (va_Pc [.ref (a 0), .int p0, .int p1, .int p2] (rP D cy (mW cy a i r rl))) (vp_Si (fun z => z = 0)) 0 0 (fun _ => False) := by
  refine Met.ofQ (cc := cX12_owes) (maxL := 4) (ret := (some .boolean)) (by decide) rfl ?_
  intro p e s m args below meth c s₁ B hml hv Q hQ
  obtain ⟨rfl, hP, hK⟩ := hv
  have hx := B.exec
  have hb := B.bytes
  have hr := B.returns
  have hlocks := B.notSynchronized
  have hT : ∀ w ∈ gT, w.before _ s = true := fun w h => atoms_spec (ws := (Cond.code yX12_owes cX12_owes 4 (some .boolean) :: gT)) B.pre w (List.mem_cons_of_mem _ h)
  have hown : s.vm.findClass RX12 = some m.cls := findClass_of_methodNamed B.named
  have hl := lv_entry ([.ref (a 0), .int p0, .int p1, .int p2]) (n := 4) (Nat.le_of_ble_eq_true rfl)
  rw [lg_entry_eq]
  generalize (lg_sl ([.ref (a 0), .int p0, .int p1, .int p2]) ++ List.replicate (4 - (lg_sl ([.ref (a 0), .int p0, .int p1, .int p2])).length) Slot.unset).toArray = ls at hl ⊢
  have hl : lv_has ls 4 [(0, .ref (a 0)), (1, .int p0), (2, .int p1), (3, .int p2)] := hl
  refine lv_aload_n hx hb dX12_owes_0 rfl (lv_at hl 0 rfl) ?_
  refine lv_iload_n hx hb dX12_owes_1 rfl (lv_at hl 1 rfl) ?_
  refine vp_callSi (W.runV (As := [.int p0]) (rest := []) ⟨hx, hb, hml, hown, hT⟩ (c_X12_isHome l D cy a i r rl p0 hf) (cwV 1 hT (gV t_7 t_9 t_10 t_11 t_8) rfl rfl rfl (by decide +kernel) ⟨Nat.le_of_ble_eq_true rfl, Nat.le_of_ble_eq_true rfl⟩) (rP_v hP hK (va_recv hK hP (ci := 12) (q0 := 0) rfl rfl)) rfl rfl hl.1 rfl (lv_room (Nat.le_of_ble_eq_true rfl)) dX12_owes_2 ⟨Nat.le_of_ble_eq_true rfl, Nat.le_of_ble_eq_true rfl⟩) (fun r_1 hr_1 => ?_)
  subst hr_1
  refine lv_if_eq (tgt := 24) hx hb dX12_owes_5 (by decide) (fun c_2 => ?_) (fun c_2 => absurd (by decide) c_2)
  refine lv_iconst (v := 0) hx hb dX12_owes_24 (by decide) ?_
  subst hQ
  exact W.zret hx hb hr rfl (fun t ht hW => ⟨_, rfl, rfl, ht⟩) (fun q hq => absurd hq List.not_mem_nil) dX12_owes_25
set_option maxHeartbeats 4000000 in
set_option maxRecDepth 100000 in
theorem c_X12_first (l : Launch) (D : va_G) (cy : Nat → ClassId) (a : Nat → Nat) (i : Nat → Int32) (r : Nat → Nat → Int32) (rl : Nat → Int64) (p0 p1 p2 p3 p4 : Int32) (hf : mZ i) : Met l yX12_first (Cond.code yX12_first cX12_first 7 (some .int) :: gT) { frames := 2, cells := 0, slots := 0, locals := 45 } (va_Pc [.ref (a 0), .int p0, .int p1, .int p2, .int p3, .int p4] (rP D cy (mW cy a i r rl))) (vp_Si (fun z => z = (-1))) 0 0 (fun _ => False) := by
  refine Met.ofQ (cc := cX12_first) (maxL := 7) (ret := (some .int)) (by decide) rfl ?_
  intro p e s m args below meth c s₁ B hml hv Q hQ
  obtain ⟨rfl, hP, hK⟩ := hv
  have hx := B.exec
  have hb := B.bytes
  have hr := B.returns
  have hlocks := B.notSynchronized
  have hT : ∀ w ∈ gT, w.before _ s = true := fun w h => atoms_spec (ws := (Cond.code yX12_first cX12_first 7 (some .int) :: gT)) B.pre w (List.mem_cons_of_mem _ h)
  have hown : s.vm.findClass RX12 = some m.cls := findClass_of_methodNamed B.named
  have hl := lv_entry ([.ref (a 0), .int p0, .int p1, .int p2, .int p3, .int p4]) (n := 7) (Nat.le_of_ble_eq_true rfl)
  rw [lg_entry_eq]
  generalize (lg_sl ([.ref (a 0), .int p0, .int p1, .int p2, .int p3, .int p4]) ++ List.replicate (7 - (lg_sl ([.ref (a 0), .int p0, .int p1, .int p2, .int p3, .int p4])).length) Slot.unset).toArray = ls at hl ⊢
  have hl : lv_has ls 7 [(0, .ref (a 0)), (1, .int p0), (2, .int p1), (3, .int p2), (4, .int p3), (5, .int p4)] := hl
  refine lv_aload_n hx hb dX12_first_0 rfl (lv_at hl 0 rfl) ?_
  refine lv_iload_n hx hb dX12_first_1 rfl (lv_at hl 1 rfl) ?_
  refine vp_callSi (W.runV (As := [.int p0]) (rest := []) ⟨hx, hb, hml, hown, hT⟩ (c_X12_isHome l D cy a i r rl p0 hf) (cwV 1 hT (gV t_7 t_9 t_10 t_11 t_8) rfl rfl rfl (by decide +kernel) ⟨Nat.le_of_ble_eq_true rfl, Nat.le_of_ble_eq_true rfl⟩) (rP_v hP hK (va_recv hK hP (ci := 12) (q0 := 0) rfl rfl)) rfl rfl hl.1 rfl (lv_room (Nat.le_of_ble_eq_true rfl)) dX12_first_2 ⟨Nat.le_of_ble_eq_true rfl, Nat.le_of_ble_eq_true rfl⟩) (fun r_1 hr_1 => ?_)
  subst hr_1
  refine lv_if_eq (tgt := 41) hx hb dX12_first_5 (by decide) (fun c_2 => ?_) (fun c_2 => absurd (by decide) c_2)
  refine lv_iconst (v := (-1)) hx hb dX12_first_41 (by decide) ?_
  subst hQ
  exact W.iret (v := (-1)) hx hb hr (fun t ht hW => ⟨_, rfl, rfl, ht⟩) (fun q hq => absurd hq List.not_mem_nil) dX12_first_42
set_option maxHeartbeats 4000000 in
set_option maxRecDepth 100000 in
theorem c_X12_last (l : Launch) (D : va_G) (cy : Nat → ClassId) (a : Nat → Nat) (i : Nat → Int32) (r : Nat → Nat → Int32) (rl : Nat → Int64) (p0 p1 p2 p3 : Int32) (hf : mZ i) : Met l yX12_last (Cond.code yX12_last cX12_last 6 (some .int) :: gT) { frames := 2, cells := 0, slots := 0, locals := 45 } (va_Pc [.ref (a 0), .int p0, .int p1, .int p2, .int p3] (rP D cy (mW cy a i r rl))) (vp_Si (fun z => z = (-1))) 0 0 (fun _ => False) := by
  refine Met.ofQ (cc := cX12_last) (maxL := 6) (ret := (some .int)) (by decide) rfl ?_
  intro p e s m args below meth c s₁ B hml hv Q hQ
  obtain ⟨rfl, hP, hK⟩ := hv
  have hx := B.exec
  have hb := B.bytes
  have hr := B.returns
  have hlocks := B.notSynchronized
  have hT : ∀ w ∈ gT, w.before _ s = true := fun w h => atoms_spec (ws := (Cond.code yX12_last cX12_last 6 (some .int) :: gT)) B.pre w (List.mem_cons_of_mem _ h)
  have hown : s.vm.findClass RX12 = some m.cls := findClass_of_methodNamed B.named
  have hl := lv_entry ([.ref (a 0), .int p0, .int p1, .int p2, .int p3]) (n := 6) (Nat.le_of_ble_eq_true rfl)
  rw [lg_entry_eq]
  generalize (lg_sl ([.ref (a 0), .int p0, .int p1, .int p2, .int p3]) ++ List.replicate (6 - (lg_sl ([.ref (a 0), .int p0, .int p1, .int p2, .int p3])).length) Slot.unset).toArray = ls at hl ⊢
  have hl : lv_has ls 6 [(0, .ref (a 0)), (1, .int p0), (2, .int p1), (3, .int p2), (4, .int p3)] := hl
  refine lv_aload_n hx hb dX12_last_0 rfl (lv_at hl 0 rfl) ?_
  refine lv_iload_n hx hb dX12_last_1 rfl (lv_at hl 1 rfl) ?_
  refine vp_callSi (W.runV (As := [.int p0]) (rest := []) ⟨hx, hb, hml, hown, hT⟩ (c_X12_isHome l D cy a i r rl p0 hf) (cwV 1 hT (gV t_7 t_9 t_10 t_11 t_8) rfl rfl rfl (by decide +kernel) ⟨Nat.le_of_ble_eq_true rfl, Nat.le_of_ble_eq_true rfl⟩) (rP_v hP hK (va_recv hK hP (ci := 12) (q0 := 0) rfl rfl)) rfl rfl hl.1 rfl (lv_room (Nat.le_of_ble_eq_true rfl)) dX12_last_2 ⟨Nat.le_of_ble_eq_true rfl, Nat.le_of_ble_eq_true rfl⟩) (fun r_1 hr_1 => ?_)
  subst hr_1
  refine lv_if_eq (tgt := 29) hx hb dX12_last_5 (by decide) (fun c_2 => ?_) (fun c_2 => absurd (by decide) c_2)
  refine lv_iconst (v := (-1)) hx hb dX12_last_29 (by decide) ?_
  subst hQ
  exact W.iret (v := (-1)) hx hb hr (fun t ht hW => ⟨_, rfl, rfl, ht⟩) (fun q hq => absurd hq List.not_mem_nil) dX12_last_30
set_option maxHeartbeats 4000000 in
set_option maxRecDepth 100000 in
theorem c_X12_law (l : Launch) (D : va_G) (cy : Nat → ClassId) (a : Nat → Nat) (i : Nat → Int32) (r : Nat → Nat → Int32) (rl : Nat → Int64) (p0 : Int32) (hf : mZ i) : Met l yX12_law (Cond.code yX12_law cX12_law 4 (some .int) :: gT) { frames := 2, cells := 0, slots := 0, locals := 46 } (va_Pc [.ref (a 0), .int p0] (rP D cy (mW cy a i r rl))) (vp_Si (fun z => z = (-1))) 0 0 (fun _ => False) := by
  refine Met.ofQ (cc := cX12_law) (maxL := 4) (ret := (some .int)) (by decide) rfl ?_
  intro p e s m args below meth c s₁ B hml hv Q hQ
  obtain ⟨rfl, hP, hK⟩ := hv
  have hx := B.exec
  have hb := B.bytes
  have hr := B.returns
  have hlocks := B.notSynchronized
  have hT : ∀ w ∈ gT, w.before _ s = true := fun w h => atoms_spec (ws := (Cond.code yX12_law cX12_law 4 (some .int) :: gT)) B.pre w (List.mem_cons_of_mem _ h)
  have hown : s.vm.findClass RX12 = some m.cls := findClass_of_methodNamed B.named
  have hl := lv_entry ([.ref (a 0), .int p0]) (n := 4) (Nat.le_of_ble_eq_true rfl)
  rw [lg_entry_eq]
  generalize (lg_sl ([.ref (a 0), .int p0]) ++ List.replicate (4 - (lg_sl ([.ref (a 0), .int p0])).length) Slot.unset).toArray = ls at hl ⊢
  have hl : lv_has ls 4 [(0, .ref (a 0)), (1, .int p0)] := hl
  refine lv_iload_n hx hb dX12_law_0 rfl (lv_at hl 1 rfl) ?_
  refine lv_iconst (v := 1) hx hb dX12_law_1 (by decide) ?_
  refine lv_sipush (v := 200) hx hb dX12_law_2 (by decide) ?_
  refine vp_callSi (W.runS (As := [.int p0, .int 1, .int 200]) (rest := []) ⟨hx, hb, hml, hown, hT⟩ (c_X12_in l p0 1 200) (va_cwS 3 hT (gS t_12 t_13 t_14 t_8) rfl rfl rfl (by decide +kernel) ⟨Nat.le_of_ble_eq_true rfl, Nat.le_of_ble_eq_true rfl⟩) preT rfl rfl hl.1 rfl (lv_room (Nat.le_of_ble_eq_true rfl)) dX12_law_5 ⟨Nat.le_of_ble_eq_true rfl, Nat.le_of_ble_eq_true rfl⟩) (fun r_1 hr_1 => ?_)
  have hr_1 : BR r_1 (1 ≤ p0.toInt ∧ p0.toInt ≤ 200) 1 0 := hr_1
  rcases hr_1 with ⟨rfl, h_2⟩ | ⟨rfl, h_2⟩
  · skip
    refine lv_if_eq (tgt := 19) hx hb dX12_law_8 (by decide) (fun c_3 => absurd c_3 (by decide)) (fun c_3 => ?_)
    refine lv_iload_n hx hb dX12_law_11 rfl (lv_at hl 1 rfl) ?_
    refine lv_aload_n hx hb dX12_law_12 rfl (lv_at hl 0 rfl) ?_
    refine va_get (D := D) (ci := 12) (v := .int 0) (C := RX12) (T := TX12) (N := 91) hx hb hT iX12 hown hK hP 0 rfl rfl 22 (by decide) (hT _ t_15) (fun _ h9 => h9) (congrArg (fun z => some (Value.int z)) (hf.1 22 (by decide))) dX12_law_13 ?_
    refine lv_icmp_le (tgt := 21) hx hb dX12_law_16 (by decide) (fun c_4 => by have c_4 : p0.toInt ≤ 0 := b_le c_4; omega) (fun c_4 => ?_)
    have c_4 : 0 < p0.toInt := b_nle c_4
    refine lv_iconst (v := (-1)) hx hb dX12_law_19 (by decide) ?_
    subst hQ
    exact W.iret (v := (-1)) hx hb hr (fun t ht hW => ⟨_, rfl, rfl, ht⟩) (fun q hq => absurd hq List.not_mem_nil) dX12_law_20
  · skip
    refine lv_if_eq (tgt := 19) hx hb dX12_law_8 (by decide) (fun c_5 => ?_) (fun c_5 => absurd (by decide) c_5)
    refine lv_iconst (v := (-1)) hx hb dX12_law_19 (by decide) ?_
    subst hQ
    exact W.iret (v := (-1)) hx hb hr (fun t ht hW => ⟨_, rfl, rfl, ht⟩) (fun q hq => absurd hq List.not_mem_nil) dX12_law_20
set_option maxHeartbeats 4000000 in
set_option maxRecDepth 100000 in
theorem c_X12_thing (l : Launch) (D : va_G) (cy : Nat → ClassId) (a : Nat → Nat) (i : Nat → Int32) (r : Nat → Nat → Int32) (rl : Nat → Int64) (p0 p1 p2 : Int32) (hf : mZ i) : Met l yX12_thing (Cond.code yX12_thing cX12_thing 4 (some .int) :: gT) { frames := 3, cells := 0, slots := 0, locals := 67 } (va_Pc [.ref (a 0), .int p0, .int p1, .int p2] (rP D cy (mW cy a i r rl))) (vp_Si (fun z => z = (-1))) 0 0 (fun _ => False) := by
  refine Met.ofQ (cc := cX12_thing) (maxL := 4) (ret := (some .int)) (by decide) rfl ?_
  intro p e s m args below meth c s₁ B hml hv Q hQ
  obtain ⟨rfl, hP, hK⟩ := hv
  have hx := B.exec
  have hb := B.bytes
  have hr := B.returns
  have hlocks := B.notSynchronized
  have hT : ∀ w ∈ gT, w.before _ s = true := fun w h => atoms_spec (ws := (Cond.code yX12_thing cX12_thing 4 (some .int) :: gT)) B.pre w (List.mem_cons_of_mem _ h)
  have hown : s.vm.findClass RX12 = some m.cls := findClass_of_methodNamed B.named
  have hl := lv_entry ([.ref (a 0), .int p0, .int p1, .int p2]) (n := 4) (Nat.le_of_ble_eq_true rfl)
  rw [lg_entry_eq]
  generalize (lg_sl ([.ref (a 0), .int p0, .int p1, .int p2]) ++ List.replicate (4 - (lg_sl ([.ref (a 0), .int p0, .int p1, .int p2])).length) Slot.unset).toArray = ls at hl ⊢
  have hl : lv_has ls 4 [(0, .ref (a 0)), (1, .int p0), (2, .int p1), (3, .int p2)] := hl
  refine lv_aload_n hx hb dX12_thing_0 rfl (lv_at hl 0 rfl) ?_
  refine lv_iload_n hx hb dX12_thing_1 rfl (lv_at hl 1 rfl) ?_
  refine lv_iload_n hx hb dX12_thing_2 rfl (lv_at hl 2 rfl) ?_
  refine vp_callSi (W.runV (As := [.int p0, .int p1]) (rest := []) ⟨hx, hb, hml, hown, hT⟩ (c_X12_isFirst l D cy a i r rl p0 p1 hf) (cwV 2 hT (gV t_16 t_17 t_18 t_19 t_8) rfl rfl rfl (by decide +kernel) ⟨Nat.le_of_ble_eq_true rfl, Nat.le_of_ble_eq_true rfl⟩) (rP_v hP hK (va_recv hK hP (ci := 12) (q0 := 0) rfl rfl)) rfl rfl hl.1 rfl (lv_room (Nat.le_of_ble_eq_true rfl)) dX12_thing_3 ⟨Nat.le_of_ble_eq_true rfl, Nat.le_of_ble_eq_true rfl⟩) (fun r_1 hr_1 => ?_)
  subst hr_1
  refine lv_if_eq (tgt := 18) hx hb dX12_thing_6 (by decide) (fun c_2 => ?_) (fun c_2 => absurd (by decide) c_2)
  refine lv_iconst (v := (-1)) hx hb dX12_thing_18 (by decide) ?_
  subst hQ
  exact W.iret (v := (-1)) hx hb hr (fun t ht hW => ⟨_, rfl, rfl, ht⟩) (fun q hq => absurd hq List.not_mem_nil) dX12_thing_19
set_option maxHeartbeats 4000000 in
set_option maxRecDepth 100000 in
theorem c_X12_isNew (l : Launch) (D : va_G) (cy : Nat → ClassId) (a : Nat → Nat) (i : Nat → Int32) (r : Nat → Nat → Int32) (rl : Nat → Int64) (p0 p1 : Int32) (hf : mZ i) : Met l yX12_isNew (Cond.code yX12_isNew cX12_isNew 3 (some .int) :: gT) { frames := 2, cells := 0, slots := 0, locals := 45 } (va_Pc [.ref (a 0), .int p0, .int p1] (rP D cy (mW cy a i r rl))) (vp_Si (fun z => z = (-1))) 0 0 (fun _ => False) := by
  refine Met.ofQ (cc := cX12_isNew) (maxL := 3) (ret := (some .int)) (by decide) rfl ?_
  intro p e s m args below meth c s₁ B hml hv Q hQ
  obtain ⟨rfl, hP, hK⟩ := hv
  have hx := B.exec
  have hb := B.bytes
  have hr := B.returns
  have hlocks := B.notSynchronized
  have hT : ∀ w ∈ gT, w.before _ s = true := fun w h => atoms_spec (ws := (Cond.code yX12_isNew cX12_isNew 3 (some .int) :: gT)) B.pre w (List.mem_cons_of_mem _ h)
  have hown : s.vm.findClass RX12 = some m.cls := findClass_of_methodNamed B.named
  have hl := lv_entry ([.ref (a 0), .int p0, .int p1]) (n := 3) (Nat.le_of_ble_eq_true rfl)
  rw [lg_entry_eq]
  generalize (lg_sl ([.ref (a 0), .int p0, .int p1]) ++ List.replicate (3 - (lg_sl ([.ref (a 0), .int p0, .int p1])).length) Slot.unset).toArray = ls at hl ⊢
  have hl : lv_has ls 3 [(0, .ref (a 0)), (1, .int p0), (2, .int p1)] := hl
  refine lv_aload_n hx hb dX12_isNew_0 rfl (lv_at hl 0 rfl) ?_
  refine lv_iload_n hx hb dX12_isNew_1 rfl (lv_at hl 1 rfl) ?_
  refine vp_callSi (W.runV (As := [.int p0]) (rest := []) ⟨hx, hb, hml, hown, hT⟩ (c_X12_isHome l D cy a i r rl p0 hf) (cwV 1 hT (gV t_7 t_9 t_10 t_11 t_8) rfl rfl rfl (by decide +kernel) ⟨Nat.le_of_ble_eq_true rfl, Nat.le_of_ble_eq_true rfl⟩) (rP_v hP hK (va_recv hK hP (ci := 12) (q0 := 0) rfl rfl)) rfl rfl hl.1 rfl (lv_room (Nat.le_of_ble_eq_true rfl)) dX12_isNew_2 ⟨Nat.le_of_ble_eq_true rfl, Nat.le_of_ble_eq_true rfl⟩) (fun r_1 hr_1 => ?_)
  subst hr_1
  refine lv_if_eq (tgt := 22) hx hb dX12_isNew_5 (by decide) (fun c_2 => ?_) (fun c_2 => absurd (by decide) c_2)
  refine lv_iconst (v := (-1)) hx hb dX12_isNew_22 (by decide) ?_
  subst hQ
  exact W.iret (v := (-1)) hx hb hr (fun t ht hW => ⟨_, rfl, rfl, ht⟩) (fun q hq => absurd hq List.not_mem_nil) dX12_isNew_23
set_option maxHeartbeats 4000000 in
set_option maxRecDepth 100000 in
theorem c_X12_led (l : Launch) (D : va_G) (cy : Nat → ClassId) (a : Nat → Nat) (i : Nat → Int32) (r : Nat → Nat → Int32) (rl : Nat → Int64) (p0 p1 p2 : Int32) (hf : mZ i) : Met l yX12_led (Cond.code yX12_led cX12_led 4 (some .int) :: gT) { frames := 3, cells := 0, slots := 0, locals := 67 } (va_Pc [.ref (a 0), .int p0, .int p1, .int p2] (rP D cy (mW cy a i r rl))) (vp_Si (fun z => z = (-1))) 0 0 (fun _ => False) := by
  refine Met.ofQ (cc := cX12_led) (maxL := 4) (ret := (some .int)) (by decide) rfl ?_
  intro p e s m args below meth c s₁ B hml hv Q hQ
  obtain ⟨rfl, hP, hK⟩ := hv
  have hx := B.exec
  have hb := B.bytes
  have hr := B.returns
  have hlocks := B.notSynchronized
  have hT : ∀ w ∈ gT, w.before _ s = true := fun w h => atoms_spec (ws := (Cond.code yX12_led cX12_led 4 (some .int) :: gT)) B.pre w (List.mem_cons_of_mem _ h)
  have hown : s.vm.findClass RX12 = some m.cls := findClass_of_methodNamed B.named
  have hl := lv_entry ([.ref (a 0), .int p0, .int p1, .int p2]) (n := 4) (Nat.le_of_ble_eq_true rfl)
  rw [lg_entry_eq]
  generalize (lg_sl ([.ref (a 0), .int p0, .int p1, .int p2]) ++ List.replicate (4 - (lg_sl ([.ref (a 0), .int p0, .int p1, .int p2])).length) Slot.unset).toArray = ls at hl ⊢
  have hl : lv_has ls 4 [(0, .ref (a 0)), (1, .int p0), (2, .int p1), (3, .int p2)] := hl
  refine lv_aload_n hx hb dX12_led_0 rfl (lv_at hl 0 rfl) ?_
  refine lv_iload_n hx hb dX12_led_1 rfl (lv_at hl 1 rfl) ?_
  refine lv_iload_n hx hb dX12_led_2 rfl (lv_at hl 2 rfl) ?_
  refine vp_callSi (W.runV (As := [.int p0, .int p1]) (rest := []) ⟨hx, hb, hml, hown, hT⟩ (c_X12_isFirst l D cy a i r rl p0 p1 hf) (cwV 2 hT (gV t_16 t_17 t_18 t_19 t_8) rfl rfl rfl (by decide +kernel) ⟨Nat.le_of_ble_eq_true rfl, Nat.le_of_ble_eq_true rfl⟩) (rP_v hP hK (va_recv hK hP (ci := 12) (q0 := 0) rfl rfl)) rfl rfl hl.1 rfl (lv_room (Nat.le_of_ble_eq_true rfl)) dX12_led_3 ⟨Nat.le_of_ble_eq_true rfl, Nat.le_of_ble_eq_true rfl⟩) (fun r_1 hr_1 => ?_)
  subst hr_1
  refine lv_if_eq (tgt := 44) hx hb dX12_led_6 (by decide) (fun c_2 => ?_) (fun c_2 => absurd (by decide) c_2)
  refine lv_iconst (v := (-1)) hx hb dX12_led_44 (by decide) ?_
  subst hQ
  exact W.iret (v := (-1)) hx hb hr (fun t ht hW => ⟨_, rfl, rfl, ht⟩) (fun q hq => absurd hq List.not_mem_nil) dX12_led_45
set_option maxHeartbeats 4000000 in
set_option maxRecDepth 100000 in
theorem c_X12_claim (l : Launch) (D : va_G) (cy : Nat → ClassId) (a : Nat → Nat) (i : Nat → Int32) (r : Nat → Nat → Int32) (rl : Nat → Int64) (p0 p1 p2 p3 p4 : Int32) (hf : mZ i) : Met l yX12_claim (Cond.code yX12_claim cX12_claim 7 (some .int) :: gT) { frames := 3, cells := 0, slots := 0, locals := 67 } (va_Pc [.ref (a 0), .int p0, .int p1, .int p2, .int p3, .int p4] (rP D cy (mW cy a i r rl))) (vp_Si (fun z => z = (-1))) 0 0 (fun _ => False) := by
  refine Met.ofQ (cc := cX12_claim) (maxL := 7) (ret := (some .int)) (by decide) rfl ?_
  intro p e s m args below meth c s₁ B hml hv Q hQ
  obtain ⟨rfl, hP, hK⟩ := hv
  have hx := B.exec
  have hb := B.bytes
  have hr := B.returns
  have hlocks := B.notSynchronized
  have hT : ∀ w ∈ gT, w.before _ s = true := fun w h => atoms_spec (ws := (Cond.code yX12_claim cX12_claim 7 (some .int) :: gT)) B.pre w (List.mem_cons_of_mem _ h)
  have hown : s.vm.findClass RX12 = some m.cls := findClass_of_methodNamed B.named
  have hl := lv_entry ([.ref (a 0), .int p0, .int p1, .int p2, .int p3, .int p4]) (n := 7) (Nat.le_of_ble_eq_true rfl)
  rw [lg_entry_eq]
  generalize (lg_sl ([.ref (a 0), .int p0, .int p1, .int p2, .int p3, .int p4]) ++ List.replicate (7 - (lg_sl ([.ref (a 0), .int p0, .int p1, .int p2, .int p3, .int p4])).length) Slot.unset).toArray = ls at hl ⊢
  have hl : lv_has ls 7 [(0, .ref (a 0)), (1, .int p0), (2, .int p1), (3, .int p2), (4, .int p3), (5, .int p4)] := hl
  refine lv_aload_n hx hb dX12_claim_0 rfl (lv_at hl 0 rfl) ?_
  refine lv_iload_n hx hb dX12_claim_1 rfl (lv_at hl 1 rfl) ?_
  refine lv_iload_n hx hb dX12_claim_2 rfl (lv_at hl 2 rfl) ?_
  refine vp_callSi (W.runV (As := [.int p0, .int p1]) (rest := []) ⟨hx, hb, hml, hown, hT⟩ (c_X12_isFirst l D cy a i r rl p0 p1 hf) (cwV 2 hT (gV t_16 t_17 t_18 t_19 t_8) rfl rfl rfl (by decide +kernel) ⟨Nat.le_of_ble_eq_true rfl, Nat.le_of_ble_eq_true rfl⟩) (rP_v hP hK (va_recv hK hP (ci := 12) (q0 := 0) rfl rfl)) rfl rfl hl.1 rfl (lv_room (Nat.le_of_ble_eq_true rfl)) dX12_claim_3 ⟨Nat.le_of_ble_eq_true rfl, Nat.le_of_ble_eq_true rfl⟩) (fun r_1 hr_1 => ?_)
  subst hr_1
  refine lv_if_eq (tgt := 47) hx hb dX12_claim_6 (by decide) (fun c_2 => ?_) (fun c_2 => absurd (by decide) c_2)
  refine lv_iconst (v := (-1)) hx hb dX12_claim_47 (by decide) ?_
  subst hQ
  exact W.iret (v := (-1)) hx hb hr (fun t ht hW => ⟨_, rfl, rfl, ht⟩) (fun q hq => absurd hq List.not_mem_nil) dX12_claim_48
set_option maxHeartbeats 4000000 in
set_option maxRecDepth 100000 in
theorem c_X12_agree (l : Launch) (D : va_G) (cy : Nat → ClassId) (a : Nat → Nat) (i : Nat → Int32) (r : Nat → Nat → Int32) (rl : Nat → Int64) (p0 p1 : Int32) (hf : mZ i) : Met l yX12_agree (Cond.code yX12_agree cX12_agree 3 (some .boolean) :: gT) { frames := 2, cells := 0, slots := 0, locals := 45 } (va_Pc [.ref (a 0), .int p0, .int p1] (rP D cy (mW cy a i r rl))) (vp_Si (fun z => z = 0)) 0 0 (fun _ => False) := by
  refine Met.ofQ (cc := cX12_agree) (maxL := 3) (ret := (some .boolean)) (by decide) rfl ?_
  intro p e s m args below meth c s₁ B hml hv Q hQ
  obtain ⟨rfl, hP, hK⟩ := hv
  have hx := B.exec
  have hb := B.bytes
  have hr := B.returns
  have hlocks := B.notSynchronized
  have hT : ∀ w ∈ gT, w.before _ s = true := fun w h => atoms_spec (ws := (Cond.code yX12_agree cX12_agree 3 (some .boolean) :: gT)) B.pre w (List.mem_cons_of_mem _ h)
  have hown : s.vm.findClass RX12 = some m.cls := findClass_of_methodNamed B.named
  have hl := lv_entry ([.ref (a 0), .int p0, .int p1]) (n := 3) (Nat.le_of_ble_eq_true rfl)
  rw [lg_entry_eq]
  generalize (lg_sl ([.ref (a 0), .int p0, .int p1]) ++ List.replicate (3 - (lg_sl ([.ref (a 0), .int p0, .int p1])).length) Slot.unset).toArray = ls at hl ⊢
  have hl : lv_has ls 3 [(0, .ref (a 0)), (1, .int p0), (2, .int p1)] := hl
  refine lv_aload_n hx hb dX12_agree_0 rfl (lv_at hl 0 rfl) ?_
  refine lv_iload_n hx hb dX12_agree_1 rfl (lv_at hl 1 rfl) ?_
  refine vp_callSi (W.runV (As := [.int p0]) (rest := []) ⟨hx, hb, hml, hown, hT⟩ (c_X12_isClaim l D cy a i r rl p0 hf) (cwV 1 hT (gV t_20 t_21 t_22 t_23 t_8) rfl rfl rfl (by decide +kernel) ⟨Nat.le_of_ble_eq_true rfl, Nat.le_of_ble_eq_true rfl⟩) (rP_v hP hK (va_recv hK hP (ci := 12) (q0 := 0) rfl rfl)) rfl rfl hl.1 rfl (lv_room (Nat.le_of_ble_eq_true rfl)) dX12_agree_2 ⟨Nat.le_of_ble_eq_true rfl, Nat.le_of_ble_eq_true rfl⟩) (fun r_1 hr_1 => ?_)
  subst hr_1
  refine lv_if_eq (tgt := 15) hx hb dX12_agree_5 (by decide) (fun c_2 => ?_) (fun c_2 => absurd (by decide) c_2)
  refine lv_iconst (v := 0) hx hb dX12_agree_15 (by decide) ?_
  subst hQ
  exact W.zret hx hb hr rfl (fun t ht hW => ⟨_, rfl, rfl, ht⟩) (fun q hq => absurd hq List.not_mem_nil) dX12_agree_16
set_option maxHeartbeats 4000000 in
set_option maxRecDepth 100000 in
theorem c_X12_answer (l : Launch) (D : va_G) (cy : Nat → ClassId) (a : Nat → Nat) (i : Nat → Int32) (r : Nat → Nat → Int32) (rl : Nat → Int64) (p0 p1 p2 : Int32) (hf : mZ i) : Met l yX12_answer (Cond.code yX12_answer cX12_answer 4 (some .boolean) :: gT) { frames := 2, cells := 0, slots := 0, locals := 45 } (va_Pc [.ref (a 0), .int p0, .int p1, .int p2] (rP D cy (mW cy a i r rl))) (vp_Si (fun z => z = 0)) 0 0 (fun _ => False) := by
  refine Met.ofQ (cc := cX12_answer) (maxL := 4) (ret := (some .boolean)) (by decide) rfl ?_
  intro p e s m args below meth c s₁ B hml hv Q hQ
  obtain ⟨rfl, hP, hK⟩ := hv
  have hx := B.exec
  have hb := B.bytes
  have hr := B.returns
  have hlocks := B.notSynchronized
  have hT : ∀ w ∈ gT, w.before _ s = true := fun w h => atoms_spec (ws := (Cond.code yX12_answer cX12_answer 4 (some .boolean) :: gT)) B.pre w (List.mem_cons_of_mem _ h)
  have hown : s.vm.findClass RX12 = some m.cls := findClass_of_methodNamed B.named
  have hl := lv_entry ([.ref (a 0), .int p0, .int p1, .int p2]) (n := 4) (Nat.le_of_ble_eq_true rfl)
  rw [lg_entry_eq]
  generalize (lg_sl ([.ref (a 0), .int p0, .int p1, .int p2]) ++ List.replicate (4 - (lg_sl ([.ref (a 0), .int p0, .int p1, .int p2])).length) Slot.unset).toArray = ls at hl ⊢
  have hl : lv_has ls 4 [(0, .ref (a 0)), (1, .int p0), (2, .int p1), (3, .int p2)] := hl
  refine lv_aload_n hx hb dX12_answer_0 rfl (lv_at hl 0 rfl) ?_
  refine lv_iload_n hx hb dX12_answer_1 rfl (lv_at hl 1 rfl) ?_
  refine vp_callSi (W.runV (As := [.int p0]) (rest := []) ⟨hx, hb, hml, hown, hT⟩ (c_X12_isClaim l D cy a i r rl p0 hf) (cwV 1 hT (gV t_20 t_21 t_22 t_23 t_8) rfl rfl rfl (by decide +kernel) ⟨Nat.le_of_ble_eq_true rfl, Nat.le_of_ble_eq_true rfl⟩) (rP_v hP hK (va_recv hK hP (ci := 12) (q0 := 0) rfl rfl)) rfl rfl hl.1 rfl (lv_room (Nat.le_of_ble_eq_true rfl)) dX12_answer_2 ⟨Nat.le_of_ble_eq_true rfl, Nat.le_of_ble_eq_true rfl⟩) (fun r_1 hr_1 => ?_)
  subst hr_1
  refine lv_if_eq (tgt := 25) hx hb dX12_answer_5 (by decide) (fun c_2 => ?_) (fun c_2 => absurd (by decide) c_2)
  refine lv_iconst (v := 0) hx hb dX12_answer_25 (by decide) ?_
  subst hQ
  exact W.zret hx hb hr rfl (fun t ht hW => ⟨_, rfl, rfl, ht⟩) (fun q hq => absurd hq List.not_mem_nil) dX12_answer_26
set_option maxHeartbeats 4000000 in
set_option maxRecDepth 100000 in
theorem c_X12_award (l : Launch) (D : va_G) (cy : Nat → ClassId) (a : Nat → Nat) (i : Nat → Int32) (r : Nat → Nat → Int32) (rl : Nat → Int64) (p0 p1 p2 : Int32) (hf : mZ i) : Met l yX12_award (Cond.code yX12_award cX12_award 5 (some .int) :: gT) { frames := 2, cells := 0, slots := 0, locals := 45 } (va_Pc [.ref (a 0), .int p0, .int p1, .int p2] (rP D cy (mW cy a i r rl))) (vp_Si (fun z => z = (-1))) 0 0 (fun _ => False) := by
  refine Met.ofQ (cc := cX12_award) (maxL := 5) (ret := (some .int)) (by decide) rfl ?_
  intro p e s m args below meth c s₁ B hml hv Q hQ
  obtain ⟨rfl, hP, hK⟩ := hv
  have hx := B.exec
  have hb := B.bytes
  have hr := B.returns
  have hlocks := B.notSynchronized
  have hT : ∀ w ∈ gT, w.before _ s = true := fun w h => atoms_spec (ws := (Cond.code yX12_award cX12_award 5 (some .int) :: gT)) B.pre w (List.mem_cons_of_mem _ h)
  have hown : s.vm.findClass RX12 = some m.cls := findClass_of_methodNamed B.named
  have hl := lv_entry ([.ref (a 0), .int p0, .int p1, .int p2]) (n := 5) (Nat.le_of_ble_eq_true rfl)
  rw [lg_entry_eq]
  generalize (lg_sl ([.ref (a 0), .int p0, .int p1, .int p2]) ++ List.replicate (5 - (lg_sl ([.ref (a 0), .int p0, .int p1, .int p2])).length) Slot.unset).toArray = ls at hl ⊢
  have hl : lv_has ls 5 [(0, .ref (a 0)), (1, .int p0), (2, .int p1), (3, .int p2)] := hl
  refine lv_aload_n hx hb dX12_award_0 rfl (lv_at hl 0 rfl) ?_
  refine lv_iload_n hx hb dX12_award_1 rfl (lv_at hl 1 rfl) ?_
  refine vp_callSi (W.runV (As := [.int p0]) (rest := []) ⟨hx, hb, hml, hown, hT⟩ (c_X12_isClaim l D cy a i r rl p0 hf) (cwV 1 hT (gV t_20 t_21 t_22 t_23 t_8) rfl rfl rfl (by decide +kernel) ⟨Nat.le_of_ble_eq_true rfl, Nat.le_of_ble_eq_true rfl⟩) (rP_v hP hK (va_recv hK hP (ci := 12) (q0 := 0) rfl rfl)) rfl rfl hl.1 rfl (lv_room (Nat.le_of_ble_eq_true rfl)) dX12_award_2 ⟨Nat.le_of_ble_eq_true rfl, Nat.le_of_ble_eq_true rfl⟩) (fun r_1 hr_1 => ?_)
  subst hr_1
  refine lv_if_eq (tgt := 24) hx hb dX12_award_5 (by decide) (fun c_2 => ?_) (fun c_2 => absurd (by decide) c_2)
  refine lv_iconst (v := (-1)) hx hb dX12_award_24 (by decide) ?_
  subst hQ
  exact W.iret (v := (-1)) hx hb hr (fun t ht hW => ⟨_, rfl, rfl, ht⟩) (fun q hq => absurd hq List.not_mem_nil) dX12_award_25
set_option maxHeartbeats 4000000 in
set_option maxRecDepth 100000 in
theorem c_X12_judged (l : Launch) (D : va_G) (cy : Nat → ClassId) (a : Nat → Nat) (i : Nat → Int32) (r : Nat → Nat → Int32) (rl : Nat → Int64) (p0 p1 p2 : Int32) (hf : mZ i) : Met l yX12_judged (Cond.code yX12_judged cX12_judged 4 (some .int) :: gT) { frames := 2, cells := 0, slots := 0, locals := 45 } (va_Pc [.ref (a 0), .int p0, .int p1, .int p2] (rP D cy (mW cy a i r rl))) (vp_Si (fun z => z = (-1))) 0 0 (fun _ => False) := by
  refine Met.ofQ (cc := cX12_judged) (maxL := 4) (ret := (some .int)) (by decide) rfl ?_
  intro p e s m args below meth c s₁ B hml hv Q hQ
  obtain ⟨rfl, hP, hK⟩ := hv
  have hx := B.exec
  have hb := B.bytes
  have hr := B.returns
  have hlocks := B.notSynchronized
  have hT : ∀ w ∈ gT, w.before _ s = true := fun w h => atoms_spec (ws := (Cond.code yX12_judged cX12_judged 4 (some .int) :: gT)) B.pre w (List.mem_cons_of_mem _ h)
  have hown : s.vm.findClass RX12 = some m.cls := findClass_of_methodNamed B.named
  have hl := lv_entry ([.ref (a 0), .int p0, .int p1, .int p2]) (n := 4) (Nat.le_of_ble_eq_true rfl)
  rw [lg_entry_eq]
  generalize (lg_sl ([.ref (a 0), .int p0, .int p1, .int p2]) ++ List.replicate (4 - (lg_sl ([.ref (a 0), .int p0, .int p1, .int p2])).length) Slot.unset).toArray = ls at hl ⊢
  have hl : lv_has ls 4 [(0, .ref (a 0)), (1, .int p0), (2, .int p1), (3, .int p2)] := hl
  refine lv_aload_n hx hb dX12_judged_0 rfl (lv_at hl 0 rfl) ?_
  refine lv_iload_n hx hb dX12_judged_1 rfl (lv_at hl 1 rfl) ?_
  refine vp_callSi (W.runV (As := [.int p0]) (rest := []) ⟨hx, hb, hml, hown, hT⟩ (c_X12_isHome l D cy a i r rl p0 hf) (cwV 1 hT (gV t_7 t_9 t_10 t_11 t_8) rfl rfl rfl (by decide +kernel) ⟨Nat.le_of_ble_eq_true rfl, Nat.le_of_ble_eq_true rfl⟩) (rP_v hP hK (va_recv hK hP (ci := 12) (q0 := 0) rfl rfl)) rfl rfl hl.1 rfl (lv_room (Nat.le_of_ble_eq_true rfl)) dX12_judged_2 ⟨Nat.le_of_ble_eq_true rfl, Nat.le_of_ble_eq_true rfl⟩) (fun r_1 hr_1 => ?_)
  subst hr_1
  refine lv_if_eq (tgt := 42) hx hb dX12_judged_5 (by decide) (fun c_2 => ?_) (fun c_2 => absurd (by decide) c_2)
  refine lv_iconst (v := (-1)) hx hb dX12_judged_42 (by decide) ?_
  subst hQ
  exact W.iret (v := (-1)) hx hb hr (fun t ht hW => ⟨_, rfl, rfl, ht⟩) (fun q hq => absurd hq List.not_mem_nil) dX12_judged_43
set_option maxHeartbeats 4000000 in
set_option maxRecDepth 100000 in
theorem c_X12_offer (l : Launch) (D : va_G) (cy : Nat → ClassId) (a : Nat → Nat) (i : Nat → Int32) (r : Nat → Nat → Int32) (rl : Nat → Int64) (p0 p1 p2 : Int32) (hf : mZ i) : Met l yX12_offer (Cond.code yX12_offer cX12_offer 4 (some .int) :: gT) { frames := 2, cells := 0, slots := 0, locals := 45 } (va_Pc [.ref (a 0), .int p0, .int p1, .int p2] (rP D cy (mW cy a i r rl))) (vp_Si (fun z => z = (-1))) 0 0 (fun _ => False) := by
  refine Met.ofQ (cc := cX12_offer) (maxL := 4) (ret := (some .int)) (by decide) rfl ?_
  intro p e s m args below meth c s₁ B hml hv Q hQ
  obtain ⟨rfl, hP, hK⟩ := hv
  have hx := B.exec
  have hb := B.bytes
  have hr := B.returns
  have hlocks := B.notSynchronized
  have hT : ∀ w ∈ gT, w.before _ s = true := fun w h => atoms_spec (ws := (Cond.code yX12_offer cX12_offer 4 (some .int) :: gT)) B.pre w (List.mem_cons_of_mem _ h)
  have hown : s.vm.findClass RX12 = some m.cls := findClass_of_methodNamed B.named
  have hl := lv_entry ([.ref (a 0), .int p0, .int p1, .int p2]) (n := 4) (Nat.le_of_ble_eq_true rfl)
  rw [lg_entry_eq]
  generalize (lg_sl ([.ref (a 0), .int p0, .int p1, .int p2]) ++ List.replicate (4 - (lg_sl ([.ref (a 0), .int p0, .int p1, .int p2])).length) Slot.unset).toArray = ls at hl ⊢
  have hl : lv_has ls 4 [(0, .ref (a 0)), (1, .int p0), (2, .int p1), (3, .int p2)] := hl
  refine lv_aload_n hx hb dX12_offer_0 rfl (lv_at hl 0 rfl) ?_
  refine lv_iload_n hx hb dX12_offer_1 rfl (lv_at hl 1 rfl) ?_
  refine vp_callSi (W.runV (As := [.int p0]) (rest := []) ⟨hx, hb, hml, hown, hT⟩ (c_X12_isHome l D cy a i r rl p0 hf) (cwV 1 hT (gV t_7 t_9 t_10 t_11 t_8) rfl rfl rfl (by decide +kernel) ⟨Nat.le_of_ble_eq_true rfl, Nat.le_of_ble_eq_true rfl⟩) (rP_v hP hK (va_recv hK hP (ci := 12) (q0 := 0) rfl rfl)) rfl rfl hl.1 rfl (lv_room (Nat.le_of_ble_eq_true rfl)) dX12_offer_2 ⟨Nat.le_of_ble_eq_true rfl, Nat.le_of_ble_eq_true rfl⟩) (fun r_1 hr_1 => ?_)
  subst hr_1
  refine lv_if_eq (tgt := 15) hx hb dX12_offer_5 (by decide) (fun c_2 => ?_) (fun c_2 => absurd (by decide) c_2)
  refine lv_iconst (v := (-1)) hx hb dX12_offer_15 (by decide) ?_
  subst hQ
  exact W.iret (v := (-1)) hx hb hr (fun t ht hW => ⟨_, rfl, rfl, ht⟩) (fun q hq => absurd hq List.not_mem_nil) dX12_offer_16
set_option maxHeartbeats 4000000 in
set_option maxRecDepth 100000 in
theorem c_X12_met (l : Launch) (D : va_G) (cy : Nat → ClassId) (a : Nat → Nat) (i : Nat → Int32) (r : Nat → Nat → Int32) (rl : Nat → Int64) (p0 : Int32) (hf : mZ i) : Met l yX12_met (Cond.code yX12_met cX12_met 2 (some .int) :: gT) { frames := 2, cells := 0, slots := 0, locals := 45 } (va_Pc [.ref (a 0), .int p0] (rP D cy (mW cy a i r rl))) (vp_Si (fun z => z = (-1))) 0 0 (fun _ => False) := by
  refine Met.ofQ (cc := cX12_met) (maxL := 2) (ret := (some .int)) (by decide) rfl ?_
  intro p e s m args below meth c s₁ B hml hv Q hQ
  obtain ⟨rfl, hP, hK⟩ := hv
  have hx := B.exec
  have hb := B.bytes
  have hr := B.returns
  have hlocks := B.notSynchronized
  have hT : ∀ w ∈ gT, w.before _ s = true := fun w h => atoms_spec (ws := (Cond.code yX12_met cX12_met 2 (some .int) :: gT)) B.pre w (List.mem_cons_of_mem _ h)
  have hown : s.vm.findClass RX12 = some m.cls := findClass_of_methodNamed B.named
  have hl := lv_entry ([.ref (a 0), .int p0]) (n := 2) (Nat.le_of_ble_eq_true rfl)
  rw [lg_entry_eq]
  generalize (lg_sl ([.ref (a 0), .int p0]) ++ List.replicate (2 - (lg_sl ([.ref (a 0), .int p0])).length) Slot.unset).toArray = ls at hl ⊢
  have hl : lv_has ls 2 [(0, .ref (a 0)), (1, .int p0)] := hl
  refine lv_aload_n hx hb dX12_met_0 rfl (lv_at hl 0 rfl) ?_
  refine lv_iload_n hx hb dX12_met_1 rfl (lv_at hl 1 rfl) ?_
  refine vp_callSi (W.runV (As := [.int p0]) (rest := []) ⟨hx, hb, hml, hown, hT⟩ (c_X12_isHome l D cy a i r rl p0 hf) (cwV 1 hT (gV t_7 t_9 t_10 t_11 t_8) rfl rfl rfl (by decide +kernel) ⟨Nat.le_of_ble_eq_true rfl, Nat.le_of_ble_eq_true rfl⟩) (rP_v hP hK (va_recv hK hP (ci := 12) (q0 := 0) rfl rfl)) rfl rfl hl.1 rfl (lv_room (Nat.le_of_ble_eq_true rfl)) dX12_met_2 ⟨Nat.le_of_ble_eq_true rfl, Nat.le_of_ble_eq_true rfl⟩) (fun r_1 hr_1 => ?_)
  subst hr_1
  refine lv_if_ne (tgt := 10) hx hb dX12_met_5 (by decide) (fun c_2 => absurd (by decide) c_2) (fun c_2 => ?_)
  refine lv_iconst (v := (-1)) hx hb dX12_met_8 (by decide) ?_
  subst hQ
  exact W.iret (v := (-1)) hx hb hr (fun t ht hW => ⟨_, rfl, rfl, ht⟩) (fun q hq => absurd hq List.not_mem_nil) dX12_met_9
set_option maxHeartbeats 4000000 in
set_option maxRecDepth 100000 in
theorem c_X12_kin (l : Launch) (D : va_G) (cy : Nat → ClassId) (a : Nat → Nat) (i : Nat → Int32) (r : Nat → Nat → Int32) (rl : Nat → Int64) (p0 p1 p2 : Int32) (hf : mZ i) : Met l yX12_kin (Cond.code yX12_kin cX12_kin 4 (some .boolean) :: gT) { frames := 2, cells := 0, slots := 0, locals := 45 } (va_Pc [.ref (a 0), .int p0, .int p1, .int p2] (rP D cy (mW cy a i r rl))) (vp_Si (fun z => z = 0)) 0 0 (fun _ => False) := by
  refine Met.ofQ (cc := cX12_kin) (maxL := 4) (ret := (some .boolean)) (by decide) rfl ?_
  intro p e s m args below meth c s₁ B hml hv Q hQ
  obtain ⟨rfl, hP, hK⟩ := hv
  have hx := B.exec
  have hb := B.bytes
  have hr := B.returns
  have hlocks := B.notSynchronized
  have hT : ∀ w ∈ gT, w.before _ s = true := fun w h => atoms_spec (ws := (Cond.code yX12_kin cX12_kin 4 (some .boolean) :: gT)) B.pre w (List.mem_cons_of_mem _ h)
  have hown : s.vm.findClass RX12 = some m.cls := findClass_of_methodNamed B.named
  have hl := lv_entry ([.ref (a 0), .int p0, .int p1, .int p2]) (n := 4) (Nat.le_of_ble_eq_true rfl)
  rw [lg_entry_eq]
  generalize (lg_sl ([.ref (a 0), .int p0, .int p1, .int p2]) ++ List.replicate (4 - (lg_sl ([.ref (a 0), .int p0, .int p1, .int p2])).length) Slot.unset).toArray = ls at hl ⊢
  have hl : lv_has ls 4 [(0, .ref (a 0)), (1, .int p0), (2, .int p1), (3, .int p2)] := hl
  refine lv_iload_n hx hb dX12_kin_0 rfl (lv_at hl 1 rfl) ?_
  refine vp_callSi (W.runS (As := [.int p0]) (rest := []) ⟨hx, hb, hml, hown, hT⟩ (c_X12_isJudge l p0) (va_cwS 1 hT (gS t_24 t_25 t_26 t_8) rfl rfl rfl (by decide +kernel) ⟨Nat.le_of_ble_eq_true rfl, Nat.le_of_ble_eq_true rfl⟩) preT rfl rfl hl.1 rfl (lv_room (Nat.le_of_ble_eq_true rfl)) dX12_kin_1 ⟨Nat.le_of_ble_eq_true rfl, Nat.le_of_ble_eq_true rfl⟩) (fun r_1 hr_1 => ?_)
  have hr_1 : BR r_1 (0 ≤ p0.toInt ∧ p0.toInt ≤ 5) 1 0 := hr_1
  rcases hr_1 with ⟨rfl, h_2⟩ | ⟨rfl, h_2⟩
  · skip
    refine lv_if_eq (tgt := 30) hx hb dX12_kin_4 (by decide) (fun c_3 => absurd c_3 (by decide)) (fun c_3 => ?_)
    refine lv_aload_n hx hb dX12_kin_7 rfl (lv_at hl 0 rfl) ?_
    refine lv_iload_n hx hb dX12_kin_8 rfl (lv_at hl 2 rfl) ?_
    refine vp_callSi (W.runV (As := [.int p1]) (rest := []) ⟨hx, hb, hml, hown, hT⟩ (c_X12_isHome l D cy a i r rl p1 hf) (cwV 1 hT (gV t_7 t_9 t_10 t_11 t_8) rfl rfl rfl (by decide +kernel) ⟨Nat.le_of_ble_eq_true rfl, Nat.le_of_ble_eq_true rfl⟩) (rP_v hP hK (va_recv hK hP (ci := 12) (q0 := 0) rfl rfl)) rfl rfl hl.1 rfl (lv_room (Nat.le_of_ble_eq_true rfl)) dX12_kin_9 ⟨Nat.le_of_ble_eq_true rfl, Nat.le_of_ble_eq_true rfl⟩) (fun r_4 hr_4 => ?_)
    subst hr_4
    refine lv_if_eq (tgt := 30) hx hb dX12_kin_12 (by decide) (fun c_5 => ?_) (fun c_5 => absurd (by decide) c_5)
    refine lv_iconst (v := 0) hx hb dX12_kin_30 (by decide) ?_
    subst hQ
    exact W.zret hx hb hr rfl (fun t ht hW => ⟨_, rfl, rfl, ht⟩) (fun q hq => absurd hq List.not_mem_nil) dX12_kin_31
  · skip
    refine lv_if_eq (tgt := 30) hx hb dX12_kin_4 (by decide) (fun c_6 => ?_) (fun c_6 => absurd (by decide) c_6)
    refine lv_iconst (v := 0) hx hb dX12_kin_30 (by decide) ?_
    subst hQ
    exact W.zret hx hb hr rfl (fun t ht hW => ⟨_, rfl, rfl, ht⟩) (fun q hq => absurd hq List.not_mem_nil) dX12_kin_31
set_option maxHeartbeats 4000000 in
set_option maxRecDepth 100000 in
theorem c_X12_draw (l : Launch) (D : va_G) (cy : Nat → ClassId) (a : Nat → Nat) (i : Nat → Int32) (r : Nat → Nat → Int32) (rl : Nat → Int64) (p0 : Int32) (hf : mZ i) : Met l yX12_draw (Cond.code yX12_draw cX12_draw 4 (some .int) :: gT) { frames := 2, cells := 0, slots := 0, locals := 45 } (va_Pc [.ref (a 0), .int p0] (rP D cy (mW cy a i r rl))) (vp_Si (fun z => z = (-1))) 0 0 (fun _ => False) := by
  refine Met.ofQ (cc := cX12_draw) (maxL := 4) (ret := (some .int)) (by decide) rfl ?_
  intro p e s m args below meth c s₁ B hml hv Q hQ
  obtain ⟨rfl, hP, hK⟩ := hv
  have hx := B.exec
  have hb := B.bytes
  have hr := B.returns
  have hlocks := B.notSynchronized
  have hT : ∀ w ∈ gT, w.before _ s = true := fun w h => atoms_spec (ws := (Cond.code yX12_draw cX12_draw 4 (some .int) :: gT)) B.pre w (List.mem_cons_of_mem _ h)
  have hown : s.vm.findClass RX12 = some m.cls := findClass_of_methodNamed B.named
  have hl := lv_entry ([.ref (a 0), .int p0]) (n := 4) (Nat.le_of_ble_eq_true rfl)
  rw [lg_entry_eq]
  generalize (lg_sl ([.ref (a 0), .int p0]) ++ List.replicate (4 - (lg_sl ([.ref (a 0), .int p0])).length) Slot.unset).toArray = ls at hl ⊢
  have hl : lv_has ls 4 [(0, .ref (a 0)), (1, .int p0)] := hl
  refine lv_aload_n hx hb dX12_draw_0 rfl (lv_at hl 0 rfl) ?_
  refine lv_iload_n hx hb dX12_draw_1 rfl (lv_at hl 1 rfl) ?_
  refine vp_callSi (W.runV (As := [.int p0]) (rest := []) ⟨hx, hb, hml, hown, hT⟩ (c_X12_isHome l D cy a i r rl p0 hf) (cwV 1 hT (gV t_7 t_9 t_10 t_11 t_8) rfl rfl rfl (by decide +kernel) ⟨Nat.le_of_ble_eq_true rfl, Nat.le_of_ble_eq_true rfl⟩) (rP_v hP hK (va_recv hK hP (ci := 12) (q0 := 0) rfl rfl)) rfl rfl hl.1 rfl (lv_room (Nat.le_of_ble_eq_true rfl)) dX12_draw_2 ⟨Nat.le_of_ble_eq_true rfl, Nat.le_of_ble_eq_true rfl⟩) (fun r_1 hr_1 => ?_)
  subst hr_1
  refine lv_if_ne (tgt := 10) hx hb dX12_draw_5 (by decide) (fun c_2 => absurd (by decide) c_2) (fun c_2 => ?_)
  refine lv_iconst (v := (-1)) hx hb dX12_draw_8 (by decide) ?_
  subst hQ
  exact W.iret (v := (-1)) hx hb hr (fun t ht hW => ⟨_, rfl, rfl, ht⟩) (fun q hq => absurd hq List.not_mem_nil) dX12_draw_9
set_option maxHeartbeats 4000000 in
set_option maxRecDepth 100000 in
theorem c_X12_spread (l : Launch) (D : va_G) (cy : Nat → ClassId) (a : Nat → Nat) (i : Nat → Int32) (r : Nat → Nat → Int32) (rl : Nat → Int64) (p0 p1 : Int32) (hf : mZ i) : Met l yX12_spread (Cond.code yX12_spread cX12_spread 8 (some .int) :: gT) { frames := 2, cells := 0, slots := 0, locals := 46 } (va_Pc [.ref (a 0), .int p0, .int p1] (rP D cy (mW cy a i r rl))) (vp_Si (fun z => z = (-1000000))) 0 0 (fun _ => False) := by
  refine Met.ofQ (cc := cX12_spread) (maxL := 8) (ret := (some .int)) (by decide) rfl ?_
  intro p e s m args below meth c s₁ B hml hv Q hQ
  obtain ⟨rfl, hP, hK⟩ := hv
  have hx := B.exec
  have hb := B.bytes
  have hr := B.returns
  have hlocks := B.notSynchronized
  have hT : ∀ w ∈ gT, w.before _ s = true := fun w h => atoms_spec (ws := (Cond.code yX12_spread cX12_spread 8 (some .int) :: gT)) B.pre w (List.mem_cons_of_mem _ h)
  have hown : s.vm.findClass RX12 = some m.cls := findClass_of_methodNamed B.named
  have hl := lv_entry ([.ref (a 0), .int p0, .int p1]) (n := 8) (Nat.le_of_ble_eq_true rfl)
  rw [lg_entry_eq]
  generalize (lg_sl ([.ref (a 0), .int p0, .int p1]) ++ List.replicate (8 - (lg_sl ([.ref (a 0), .int p0, .int p1])).length) Slot.unset).toArray = ls at hl ⊢
  have hl : lv_has ls 8 [(0, .ref (a 0)), (1, .int p0), (2, .int p1)] := hl
  refine lv_iload_n hx hb dX12_spread_0 rfl (lv_at hl 1 rfl) ?_
  refine vp_callSi (W.runS (As := [.int p0]) (rest := []) ⟨hx, hb, hml, hown, hT⟩ (c_X12_isJudge l p0) (va_cwS 1 hT (gS t_24 t_25 t_26 t_8) rfl rfl rfl (by decide +kernel) ⟨Nat.le_of_ble_eq_true rfl, Nat.le_of_ble_eq_true rfl⟩) preT rfl rfl hl.1 rfl (lv_room (Nat.le_of_ble_eq_true rfl)) dX12_spread_1 ⟨Nat.le_of_ble_eq_true rfl, Nat.le_of_ble_eq_true rfl⟩) (fun r_1 hr_1 => ?_)
  have hr_1 : BR r_1 (0 ≤ p0.toInt ∧ p0.toInt ≤ 5) 1 0 := hr_1
  rcases hr_1 with ⟨rfl, h_2⟩ | ⟨rfl, h_2⟩
  · skip
    refine lv_if_eq (tgt := 16) hx hb dX12_spread_4 (by decide) (fun c_3 => absurd c_3 (by decide)) (fun c_3 => ?_)
    refine lv_iload_n hx hb dX12_spread_7 rfl (lv_at hl 2 rfl) ?_
    refine lv_iconst (v := 0) hx hb dX12_spread_8 (by decide) ?_
    refine lv_iconst (v := 3) hx hb dX12_spread_9 (by decide) ?_
    refine vp_callSi (W.runS (As := [.int p1, .int 0, .int 3]) (rest := []) ⟨hx, hb, hml, hown, hT⟩ (c_X12_in l p1 0 3) (va_cwS 3 hT (gS t_12 t_13 t_14 t_8) rfl rfl rfl (by decide +kernel) ⟨Nat.le_of_ble_eq_true rfl, Nat.le_of_ble_eq_true rfl⟩) preT rfl rfl hl.1 rfl (lv_room (Nat.le_of_ble_eq_true rfl)) dX12_spread_10 ⟨Nat.le_of_ble_eq_true rfl, Nat.le_of_ble_eq_true rfl⟩) (fun r_4 hr_4 => ?_)
    have hr_4 : BR r_4 (0 ≤ p1.toInt ∧ p1.toInt ≤ 3) 1 0 := hr_4
    rcases hr_4 with ⟨rfl, h_5⟩ | ⟨rfl, h_5⟩
    · skip
      refine lv_if_ne (tgt := 20) hx hb dX12_spread_13 (by decide) (fun c_6 => ?_) (fun c_6 => absurd c_6 (by decide))
      refine lv_iconst (v := 0) hx hb dX12_spread_20 (by decide) ?_
      refine lv_istore_n (lv' := [(3, .int 0), (0, .ref (a 0)), (1, .int p0), (2, .int p1)]) hx hb dX12_spread_21 rfl hl (by decide) rfl (fun ls hl => ?_)
      refine lv_iconst (v := 0) hx hb dX12_spread_22 (by decide) ?_
      refine lv_istore (lv' := [(4, .int 0), (3, .int 0), (0, .ref (a 0)), (1, .int p0), (2, .int p1)]) hx hb dX12_spread_23 hl (by decide) rfl (fun ls hl => ?_)
      refine lv_iconst (v := 0) hx hb dX12_spread_25 (by decide) ?_
      refine lv_istore (lv' := [(5, .int 0), (4, .int 0), (3, .int 0), (0, .ref (a 0)), (1, .int p0), (2, .int p1)]) hx hb dX12_spread_26 hl (by decide) rfl (fun ls hl => ?_)
      refine lv_iconst (v := 0) hx hb dX12_spread_28 (by decide) ?_
      refine lv_istore (lv' := [(6, .int 0), (5, .int 0), (4, .int 0), (3, .int 0), (0, .ref (a 0)), (1, .int p0), (2, .int p1)]) hx hb dX12_spread_29 hl (by decide) rfl (fun ls hl => ?_)
      refine lv_iload hx hb dX12_spread_31 (lv_at hl 0 rfl) ?_
      refine lv_aload_n hx hb dX12_spread_33 rfl (lv_at hl 4 rfl) ?_
      refine va_get (D := D) (ci := 12) (v := .int 0) (C := RX12) (T := TX12) (N := 91) hx hb hT iX12 hown hK hP 0 rfl rfl 63 (by decide) (hT _ t_27) (fun _ h9 => h9) (congrArg (fun z => some (Value.int z)) (hf.1 63 (by decide))) dX12_spread_34 ?_
      refine lv_icmp_ge (tgt := 138) hx hb dX12_spread_37 (by decide) (fun c_7 => ?_) (fun c_7 => absurd (by decide) c_7)
      refine lv_iload_n hx hb dX12_spread_138 rfl (lv_at hl 3 rfl) ?_
      refine lv_if_ne (tgt := 146) hx hb dX12_spread_139 (by decide) (fun c_8 => absurd (by decide) c_8) (fun c_8 => ?_)
      refine lv_ldcw (v := (-1000000)) hx hb hown (hT _ t_28) dX12_spread_142 ?_
      subst hQ
      exact W.iret (v := (-1000000)) hx hb hr (fun t ht hW => ⟨_, rfl, rfl, ht⟩) (fun q hq => absurd hq List.not_mem_nil) dX12_spread_145
    · skip
      refine lv_if_ne (tgt := 20) hx hb dX12_spread_13 (by decide) (fun c_9 => absurd (by decide) c_9) (fun c_9 => ?_)
      refine lv_ldcw (v := (-1000000)) hx hb hown (hT _ t_28) dX12_spread_16 ?_
      subst hQ
      exact W.iret (v := (-1000000)) hx hb hr (fun t ht hW => ⟨_, rfl, rfl, ht⟩) (fun q hq => absurd hq List.not_mem_nil) dX12_spread_19
  · skip
    refine lv_if_eq (tgt := 16) hx hb dX12_spread_4 (by decide) (fun c_10 => ?_) (fun c_10 => absurd (by decide) c_10)
    refine lv_ldcw (v := (-1000000)) hx hb hown (hT _ t_28) dX12_spread_16 ?_
    subst hQ
    exact W.iret (v := (-1000000)) hx hb hr (fun t ht hW => ⟨_, rfl, rfl, ht⟩) (fun q hq => absurd hq List.not_mem_nil) dX12_spread_19
set_option maxHeartbeats 4000000 in
set_option maxRecDepth 100000 in
theorem c_X12_like (l : Launch) (D : va_G) (cy : Nat → ClassId) (a : Nat → Nat) (i : Nat → Int32) (r : Nat → Nat → Int32) (rl : Nat → Int64) (p0 p1 : Int32) (hf : mZ i) : Met l yX12_like (Cond.code yX12_like cX12_like 5 (some .int) :: gT) { frames := 2, cells := 0, slots := 0, locals := 45 } (va_Pc [.ref (a 0), .int p0, .int p1] (rP D cy (mW cy a i r rl))) (vp_Si (fun z => z = (-1))) 0 0 (fun _ => False) := by
  refine Met.ofQ (cc := cX12_like) (maxL := 5) (ret := (some .int)) (by decide) rfl ?_
  intro p e s m args below meth c s₁ B hml hv Q hQ
  obtain ⟨rfl, hP, hK⟩ := hv
  have hx := B.exec
  have hb := B.bytes
  have hr := B.returns
  have hlocks := B.notSynchronized
  have hT : ∀ w ∈ gT, w.before _ s = true := fun w h => atoms_spec (ws := (Cond.code yX12_like cX12_like 5 (some .int) :: gT)) B.pre w (List.mem_cons_of_mem _ h)
  have hown : s.vm.findClass RX12 = some m.cls := findClass_of_methodNamed B.named
  have hl := lv_entry ([.ref (a 0), .int p0, .int p1]) (n := 5) (Nat.le_of_ble_eq_true rfl)
  rw [lg_entry_eq]
  generalize (lg_sl ([.ref (a 0), .int p0, .int p1]) ++ List.replicate (5 - (lg_sl ([.ref (a 0), .int p0, .int p1])).length) Slot.unset).toArray = ls at hl ⊢
  have hl : lv_has ls 5 [(0, .ref (a 0)), (1, .int p0), (2, .int p1)] := hl
  refine lv_aload_n hx hb dX12_like_0 rfl (lv_at hl 0 rfl) ?_
  refine lv_iload_n hx hb dX12_like_1 rfl (lv_at hl 1 rfl) ?_
  refine vp_callSi (W.runV (As := [.int p0]) (rest := []) ⟨hx, hb, hml, hown, hT⟩ (c_X12_isHome l D cy a i r rl p0 hf) (cwV 1 hT (gV t_7 t_9 t_10 t_11 t_8) rfl rfl rfl (by decide +kernel) ⟨Nat.le_of_ble_eq_true rfl, Nat.le_of_ble_eq_true rfl⟩) (rP_v hP hK (va_recv hK hP (ci := 12) (q0 := 0) rfl rfl)) rfl rfl hl.1 rfl (lv_room (Nat.le_of_ble_eq_true rfl)) dX12_like_2 ⟨Nat.le_of_ble_eq_true rfl, Nat.le_of_ble_eq_true rfl⟩) (fun r_1 hr_1 => ?_)
  subst hr_1
  refine lv_if_eq (tgt := 17) hx hb dX12_like_5 (by decide) (fun c_2 => ?_) (fun c_2 => absurd (by decide) c_2)
  refine lv_iconst (v := (-1)) hx hb dX12_like_17 (by decide) ?_
  subst hQ
  exact W.iret (v := (-1)) hx hb hr (fun t ht hW => ⟨_, rfl, rfl, ht⟩) (fun q hq => absurd hq List.not_mem_nil) dX12_like_18
set_option maxHeartbeats 4000000 in
set_option maxRecDepth 100000 in
theorem c_X12_undo (l : Launch) (D : va_G) (cy : Nat → ClassId) (a : Nat → Nat) (i : Nat → Int32) (r : Nat → Nat → Int32) (rl : Nat → Int64) (hf : mZ i) : Met l yX12_undo (Cond.code yX12_undo cX12_undo 2 (some .boolean) :: gT) { frames := 1, cells := 0, slots := 0, locals := 24 } (va_Pc [.ref (a 0)] (rP D cy (mW cy a i r rl))) (vp_Si (fun z => z = 0)) 0 0 (fun _ => False) := by
  refine Met.ofQ (cc := cX12_undo) (maxL := 2) (ret := (some .boolean)) (by decide) rfl ?_
  intro p e s m args below meth c s₁ B hml hv Q hQ
  obtain ⟨rfl, hP, hK⟩ := hv
  have hx := B.exec
  have hb := B.bytes
  have hr := B.returns
  have hlocks := B.notSynchronized
  have hT : ∀ w ∈ gT, w.before _ s = true := fun w h => atoms_spec (ws := (Cond.code yX12_undo cX12_undo 2 (some .boolean) :: gT)) B.pre w (List.mem_cons_of_mem _ h)
  have hown : s.vm.findClass RX12 = some m.cls := findClass_of_methodNamed B.named
  have hl := lv_entry ([.ref (a 0)]) (n := 2) (Nat.le_of_ble_eq_true rfl)
  rw [lg_entry_eq]
  generalize (lg_sl ([.ref (a 0)]) ++ List.replicate (2 - (lg_sl ([.ref (a 0)])).length) Slot.unset).toArray = ls at hl ⊢
  have hl : lv_has ls 2 [(0, .ref (a 0))] := hl
  refine lv_aload_n hx hb dX12_undo_0 rfl (lv_at hl 0 rfl) ?_
  refine va_get (D := D) (ci := 12) (v := .int 0) (C := RX12) (T := TX12) (N := 91) hx hb hT iX12 hown hK hP 0 rfl rfl 78 (by decide) (hT _ t_29) (fun _ h9 => h9) (congrArg (fun z => some (Value.int z)) (hf.1 78 (by decide))) dX12_undo_1 ?_
  refine lv_if_ne (tgt := 9) hx hb dX12_undo_4 (by decide) (fun c_1 => absurd (by decide) c_1) (fun c_1 => ?_)
  refine lv_iconst (v := 0) hx hb dX12_undo_7 (by decide) ?_
  subst hQ
  exact W.zret hx hb hr rfl (fun t ht hW => ⟨_, rfl, rfl, ht⟩) (fun q hq => absurd hq List.not_mem_nil) dX12_undo_8
set_option maxHeartbeats 4000000 in
set_option maxRecDepth 100000 in
theorem c_X12_check (l : Launch) (D : va_G) (cy : Nat → ClassId) (a : Nat → Nat) (i : Nat → Int32) (r : Nat → Nat → Int32) (rl : Nat → Int64) (p0 p1 p2 : Int32) (hf : mZ i) : Met l yX12_check (Cond.code yX12_check cX12_check 5 (some .int) :: gT) { frames := 2, cells := 0, slots := 0, locals := 45 } (va_Pc [.ref (a 0), .int p0, .int p1, .int p2] (rP D cy (mW cy a i r rl))) (vp_Si (fun z => z = (-2))) 0 0 (fun _ => False) := by
  refine Met.ofQ (cc := cX12_check) (maxL := 5) (ret := (some .int)) (by decide) rfl ?_
  intro p e s m args below meth c s₁ B hml hv Q hQ
  obtain ⟨rfl, hP, hK⟩ := hv
  have hx := B.exec
  have hb := B.bytes
  have hr := B.returns
  have hlocks := B.notSynchronized
  have hT : ∀ w ∈ gT, w.before _ s = true := fun w h => atoms_spec (ws := (Cond.code yX12_check cX12_check 5 (some .int) :: gT)) B.pre w (List.mem_cons_of_mem _ h)
  have hown : s.vm.findClass RX12 = some m.cls := findClass_of_methodNamed B.named
  have hl := lv_entry ([.ref (a 0), .int p0, .int p1, .int p2]) (n := 5) (Nat.le_of_ble_eq_true rfl)
  rw [lg_entry_eq]
  generalize (lg_sl ([.ref (a 0), .int p0, .int p1, .int p2]) ++ List.replicate (5 - (lg_sl ([.ref (a 0), .int p0, .int p1, .int p2])).length) Slot.unset).toArray = ls at hl ⊢
  have hl : lv_has ls 5 [(0, .ref (a 0)), (1, .int p0), (2, .int p1), (3, .int p2)] := hl
  refine lv_aload_n hx hb dX12_check_0 rfl (lv_at hl 0 rfl) ?_
  refine lv_iload_n hx hb dX12_check_1 rfl (lv_at hl 1 rfl) ?_
  refine vp_callSi (W.runV (As := [.int p0]) (rest := []) ⟨hx, hb, hml, hown, hT⟩ (c_X12_isHome l D cy a i r rl p0 hf) (cwV 1 hT (gV t_7 t_9 t_10 t_11 t_8) rfl rfl rfl (by decide +kernel) ⟨Nat.le_of_ble_eq_true rfl, Nat.le_of_ble_eq_true rfl⟩) (rP_v hP hK (va_recv hK hP (ci := 12) (q0 := 0) rfl rfl)) rfl rfl hl.1 rfl (lv_room (Nat.le_of_ble_eq_true rfl)) dX12_check_2 ⟨Nat.le_of_ble_eq_true rfl, Nat.le_of_ble_eq_true rfl⟩) (fun r_1 hr_1 => ?_)
  subst hr_1
  refine lv_if_eq (tgt := 34) hx hb dX12_check_5 (by decide) (fun c_2 => ?_) (fun c_2 => absurd (by decide) c_2)
  refine lv_bipush (v := (-2)) hx hb dX12_check_34 (by decide) ?_
  subst hQ
  exact W.iret (v := (-2)) hx hb hr (fun t ht hW => ⟨_, rfl, rfl, ht⟩) (fun q hq => absurd hq List.not_mem_nil) dX12_check_36
set_option maxHeartbeats 4000000 in
set_option maxRecDepth 100000 in
theorem c_X12_byKind (l : Launch) (D : va_G) (cy : Nat → ClassId) (a : Nat → Nat) (i : Nat → Int32) (r : Nat → Nat → Int32) (rl : Nat → Int64) (p0 p1 : Int32) (hf : mZ i) : Met l yX12_byKind (Cond.code yX12_byKind cX12_byKind 5 (some .int) :: gT) { frames := 2, cells := 0, slots := 0, locals := 44 } (va_Pc [.ref (a 0), .int p0, .int p1] (rP D cy (mW cy a i r rl))) (vp_Si (fun z => BR z ((0 ≤ p0.toInt ∧ p0.toInt ≤ 7) ∧ 0 ≤ p1.toInt ∧ p1.toInt ≤ 9999) 0 (-1))) 0 0 (fun _ => False) := by
  refine Met.ofQ (cc := cX12_byKind) (maxL := 5) (ret := (some .int)) (by decide) rfl ?_
  intro p e s m args below meth c s₁ B hml hv Q hQ
  obtain ⟨rfl, hP, hK⟩ := hv
  have hx := B.exec
  have hb := B.bytes
  have hr := B.returns
  have hlocks := B.notSynchronized
  have hT : ∀ w ∈ gT, w.before _ s = true := fun w h => atoms_spec (ws := (Cond.code yX12_byKind cX12_byKind 5 (some .int) :: gT)) B.pre w (List.mem_cons_of_mem _ h)
  have hown : s.vm.findClass RX12 = some m.cls := findClass_of_methodNamed B.named
  have hl := lv_entry ([.ref (a 0), .int p0, .int p1]) (n := 5) (Nat.le_of_ble_eq_true rfl)
  rw [lg_entry_eq]
  generalize (lg_sl ([.ref (a 0), .int p0, .int p1]) ++ List.replicate (5 - (lg_sl ([.ref (a 0), .int p0, .int p1])).length) Slot.unset).toArray = ls at hl ⊢
  have hl : lv_has ls 5 [(0, .ref (a 0)), (1, .int p0), (2, .int p1)] := hl
  refine lv_iload_n hx hb dX12_byKind_0 rfl (lv_at hl 1 rfl) ?_
  refine vp_callSi (W.runS (As := [.int p0]) (rest := []) ⟨hx, hb, hml, hown, hT⟩ (c_X12_isKind l p0) (va_cwS 1 hT (gS t_30 t_31 t_32 t_8) rfl rfl rfl (by decide +kernel) ⟨Nat.le_of_ble_eq_true rfl, Nat.le_of_ble_eq_true rfl⟩) preT rfl rfl hl.1 rfl (lv_room (Nat.le_of_ble_eq_true rfl)) dX12_byKind_1 ⟨Nat.le_of_ble_eq_true rfl, Nat.le_of_ble_eq_true rfl⟩) (fun r_1 hr_1 => ?_)
  have hr_1 : BR r_1 (0 ≤ p0.toInt ∧ p0.toInt ≤ 7) 1 0 := hr_1
  rcases hr_1 with ⟨rfl, h_2⟩ | ⟨rfl, h_2⟩
  · skip
    refine lv_if_eq (tgt := 14) hx hb dX12_byKind_4 (by decide) (fun c_3 => absurd c_3 (by decide)) (fun c_3 => ?_)
    refine lv_iload_n hx hb dX12_byKind_7 rfl (lv_at hl 2 rfl) ?_
    refine vp_callSi (W.runS (As := [.int p1]) (rest := []) ⟨hx, hb, hml, hown, hT⟩ (c_X12_isDay l p1) (va_cwS 1 hT (gS t_33 t_34 t_35 t_8) rfl rfl rfl (by decide +kernel) ⟨Nat.le_of_ble_eq_true rfl, Nat.le_of_ble_eq_true rfl⟩) preT rfl rfl hl.1 rfl (lv_room (Nat.le_of_ble_eq_true rfl)) dX12_byKind_8 ⟨Nat.le_of_ble_eq_true rfl, Nat.le_of_ble_eq_true rfl⟩) (fun r_4 hr_4 => ?_)
    have hr_4 : BR r_4 (0 ≤ p1.toInt ∧ p1.toInt ≤ 9999) 1 0 := hr_4
    rcases hr_4 with ⟨rfl, h_5⟩ | ⟨rfl, h_5⟩
    · skip
      refine lv_if_ne (tgt := 16) hx hb dX12_byKind_11 (by decide) (fun c_6 => ?_) (fun c_6 => absurd c_6 (by decide))
      refine lv_iconst (v := 0) hx hb dX12_byKind_16 (by decide) ?_
      refine lv_istore_n (lv' := [(3, .int 0), (0, .ref (a 0)), (1, .int p0), (2, .int p1)]) hx hb dX12_byKind_17 rfl hl (by decide) rfl (fun ls hl => ?_)
      refine lv_iconst (v := 0) hx hb dX12_byKind_18 (by decide) ?_
      refine lv_istore (lv' := [(4, .int 0), (3, .int 0), (0, .ref (a 0)), (1, .int p0), (2, .int p1)]) hx hb dX12_byKind_19 hl (by decide) rfl (fun ls hl => ?_)
      refine lv_iload hx hb dX12_byKind_21 (lv_at hl 0 rfl) ?_
      refine lv_aload_n hx hb dX12_byKind_23 rfl (lv_at hl 2 rfl) ?_
      refine va_get (D := D) (ci := 12) (v := .int 0) (C := RX12) (T := TX12) (N := 91) hx hb hT iX12 hown hK hP 0 rfl rfl 51 (by decide) (hT _ t_6) (fun _ h9 => h9) (congrArg (fun z => some (Value.int z)) (hf.1 51 (by decide))) dX12_byKind_24 ?_
      refine lv_icmp_ge (tgt := 88) hx hb dX12_byKind_27 (by decide) (fun c_7 => ?_) (fun c_7 => absurd (by decide) c_7)
      refine lv_iload_n hx hb dX12_byKind_88 rfl (lv_at hl 1 rfl) ?_
      subst hQ
      exact W.iret (v := 0) hx hb hr (fun t ht hW => ⟨_, rfl, Or.inl ⟨rfl, by omega⟩, ht⟩) (fun q hq => absurd hq List.not_mem_nil) dX12_byKind_89
    · skip
      refine lv_if_ne (tgt := 16) hx hb dX12_byKind_11 (by decide) (fun c_8 => absurd (by decide) c_8) (fun c_8 => ?_)
      refine lv_iconst (v := (-1)) hx hb dX12_byKind_14 (by decide) ?_
      subst hQ
      exact W.iret (v := (-1)) hx hb hr (fun t ht hW => ⟨_, rfl, Or.inr ⟨rfl, by omega⟩, ht⟩) (fun q hq => absurd hq List.not_mem_nil) dX12_byKind_15
  · skip
    refine lv_if_eq (tgt := 14) hx hb dX12_byKind_4 (by decide) (fun c_9 => ?_) (fun c_9 => absurd (by decide) c_9)
    refine lv_iconst (v := (-1)) hx hb dX12_byKind_14 (by decide) ?_
    subst hQ
    exact W.iret (v := (-1)) hx hb hr (fun t ht hW => ⟨_, rfl, Or.inr ⟨rfl, by omega⟩, ht⟩) (fun q hq => absurd hq List.not_mem_nil) dX12_byKind_15
set_option maxHeartbeats 4000000 in
set_option maxRecDepth 100000 in
theorem c_X12_count (l : Launch) (D : va_G) (cy : Nat → ClassId) (a : Nat → Nat) (i : Nat → Int32) (r : Nat → Nat → Int32) (rl : Nat → Int64) (p0 : Int32) (hf : mZ i) : Met l yX12_count (Cond.code yX12_count cX12_count 2 (some .int) :: gT) { frames := 2, cells := 0, slots := 0, locals := 46 } (va_Pc [.ref (a 0), .int p0] (rP D cy (mW cy a i r rl))) (vp_Si (fun z => (p0.toInt = 6 → z = 1) ∧ (0 ≤ p0.toInt → p0.toInt ≤ 5 → z = 0) ∧ (p0.toInt < 0 ∨ 6 < p0.toInt → z = -1))) 0 0 (fun _ => False) := by
  refine Met.ofQ (cc := cX12_count) (maxL := 2) (ret := (some .int)) (by decide) rfl ?_
  intro p e s m args below meth c s₁ B hml hv Q hQ
  obtain ⟨rfl, hP, hK⟩ := hv
  have hx := B.exec
  have hb := B.bytes
  have hr := B.returns
  have hlocks := B.notSynchronized
  have hT : ∀ w ∈ gT, w.before _ s = true := fun w h => atoms_spec (ws := (Cond.code yX12_count cX12_count 2 (some .int) :: gT)) B.pre w (List.mem_cons_of_mem _ h)
  have hown : s.vm.findClass RX12 = some m.cls := findClass_of_methodNamed B.named
  have hl := lv_entry ([.ref (a 0), .int p0]) (n := 2) (Nat.le_of_ble_eq_true rfl)
  rw [lg_entry_eq]
  generalize (lg_sl ([.ref (a 0), .int p0]) ++ List.replicate (2 - (lg_sl ([.ref (a 0), .int p0])).length) Slot.unset).toArray = ls at hl ⊢
  have hl : lv_has ls 2 [(0, .ref (a 0)), (1, .int p0)] := hl
  refine lv_iload_n hx hb dX12_count_0 rfl (lv_at hl 1 rfl) ?_
  rcases (show (p0.toInt < 0 ∨ 6 < p0.toInt) ∨ p0.toInt = 0 ∨ p0.toInt = 1 ∨ p0.toInt = 2 ∨ p0.toInt = 3 ∨ p0.toInt = 4 ∨ p0.toInt = 5 ∨ p0.toInt = 6 by omega) with h_1 | h_1 | h_1 | h_1 | h_1 | h_1 | h_1 | h_1
  · refine lv_tableOut (tgt := 79) hx hb dX12_count_1 h_1 (by decide) ?_
    refine lv_iload_n hx hb dX12_count_79 rfl (lv_at hl 1 rfl) ?_
    refine lv_bipush (v := 10) hx hb dX12_count_80 (by decide) ?_
    refine lv_bipush (v := 9) hx hb dX12_count_82 (by decide) ?_
    refine lv_aload_n hx hb dX12_count_84 rfl (lv_at hl 0 rfl) ?_
    refine va_get (D := D) (ci := 12) (v := .int 0) (C := RX12) (T := TX12) (N := 91) hx hb hT iX12 hown hK hP 0 rfl rfl 0 (by decide) (hT _ t_5) (fun _ h9 => h9) (congrArg (fun z => some (Value.int z)) (hf.1 0 (by decide))) dX12_count_85 ?_
    refine lv_iadd hx hb dX12_count_88 ?_
    refine lv_topi (fun v_2 ev_2 => ?_)
    obtain rfl : v_2 = 9 := ev_2.trans (by decide)
    refine vp_callSi (W.runS (As := [.int p0, .int 10, .int 9]) (rest := []) ⟨hx, hb, hml, hown, hT⟩ (c_X12_in l p0 10 9) (va_cwS 3 hT (gS t_12 t_13 t_14 t_8) rfl rfl rfl (by decide +kernel) ⟨Nat.le_of_ble_eq_true rfl, Nat.le_of_ble_eq_true rfl⟩) preT rfl rfl hl.1 rfl (lv_room (Nat.le_of_ble_eq_true rfl)) dX12_count_89 ⟨Nat.le_of_ble_eq_true rfl, Nat.le_of_ble_eq_true rfl⟩) (fun r_3 hr_3 => ?_)
    have hr_3 : BR r_3 (10 ≤ p0.toInt ∧ p0.toInt ≤ 9) 1 0 := hr_3
    rcases hr_3 with ⟨rfl, h_4⟩ | ⟨rfl, h_4⟩
    · exact absurd h_4 (by omega)
    · skip
      refine lv_if_eq (tgt := 105) hx hb dX12_count_92 (by decide) (fun c_5 => ?_) (fun c_5 => absurd (by decide) c_5)
      refine lv_iload_n hx hb dX12_count_105 rfl (lv_at hl 1 rfl) ?_
      refine lv_bipush (v := 20) hx hb dX12_count_106 (by decide) ?_
      refine lv_bipush (v := 19) hx hb dX12_count_108 (by decide) ?_
      refine lv_aload_n hx hb dX12_count_110 rfl (lv_at hl 0 rfl) ?_
      refine va_get (D := D) (ci := 12) (v := .int 0) (C := RX12) (T := TX12) (N := 91) hx hb hT iX12 hown hK hP 0 rfl rfl 0 (by decide) (hT _ t_5) (fun _ h9 => h9) (congrArg (fun z => some (Value.int z)) (hf.1 0 (by decide))) dX12_count_111 ?_
      refine lv_iadd hx hb dX12_count_114 ?_
      refine lv_topi (fun v_6 ev_6 => ?_)
      obtain rfl : v_6 = 19 := ev_6.trans (by decide)
      refine vp_callSi (W.runS (As := [.int p0, .int 20, .int 19]) (rest := []) ⟨hx, hb, hml, hown, hT⟩ (c_X12_in l p0 20 19) (va_cwS 3 hT (gS t_12 t_13 t_14 t_8) rfl rfl rfl (by decide +kernel) ⟨Nat.le_of_ble_eq_true rfl, Nat.le_of_ble_eq_true rfl⟩) preT rfl rfl hl.1 rfl (lv_room (Nat.le_of_ble_eq_true rfl)) dX12_count_115 ⟨Nat.le_of_ble_eq_true rfl, Nat.le_of_ble_eq_true rfl⟩) (fun r_7 hr_7 => ?_)
      have hr_7 : BR r_7 (20 ≤ p0.toInt ∧ p0.toInt ≤ 19) 1 0 := hr_7
      rcases hr_7 with ⟨rfl, h_8⟩ | ⟨rfl, h_8⟩
      · exact absurd h_8 (by omega)
      · skip
        refine lv_if_eq (tgt := 131) hx hb dX12_count_118 (by decide) (fun c_9 => ?_) (fun c_9 => absurd (by decide) c_9)
        refine lv_iload_n hx hb dX12_count_131 rfl (lv_at hl 1 rfl) ?_
        refine lv_bipush (v := 30) hx hb dX12_count_132 (by decide) ?_
        refine lv_bipush (v := 29) hx hb dX12_count_134 (by decide) ?_
        refine lv_aload_n hx hb dX12_count_136 rfl (lv_at hl 0 rfl) ?_
        refine va_get (D := D) (ci := 12) (v := .int 0) (C := RX12) (T := TX12) (N := 91) hx hb hT iX12 hown hK hP 0 rfl rfl 51 (by decide) (hT _ t_6) (fun _ h9 => h9) (congrArg (fun z => some (Value.int z)) (hf.1 51 (by decide))) dX12_count_137 ?_
        refine lv_iadd hx hb dX12_count_140 ?_
        refine lv_topi (fun v_10 ev_10 => ?_)
        obtain rfl : v_10 = 29 := ev_10.trans (by decide)
        refine vp_callSi (W.runS (As := [.int p0, .int 30, .int 29]) (rest := []) ⟨hx, hb, hml, hown, hT⟩ (c_X12_in l p0 30 29) (va_cwS 3 hT (gS t_12 t_13 t_14 t_8) rfl rfl rfl (by decide +kernel) ⟨Nat.le_of_ble_eq_true rfl, Nat.le_of_ble_eq_true rfl⟩) preT rfl rfl hl.1 rfl (lv_room (Nat.le_of_ble_eq_true rfl)) dX12_count_141 ⟨Nat.le_of_ble_eq_true rfl, Nat.le_of_ble_eq_true rfl⟩) (fun r_11 hr_11 => ?_)
        have hr_11 : BR r_11 (30 ≤ p0.toInt ∧ p0.toInt ≤ 29) 1 0 := hr_11
        rcases hr_11 with ⟨rfl, h_12⟩ | ⟨rfl, h_12⟩
        · exact absurd h_12 (by omega)
        · skip
          refine lv_if_eq (tgt := 159) hx hb dX12_count_144 (by decide) (fun c_13 => ?_) (fun c_13 => absurd (by decide) c_13)
          refine lv_iconst (v := (-1)) hx hb dX12_count_159 (by decide) ?_
          subst hQ
          exact W.iret (v := (-1)) hx hb hr (fun t ht hW => ⟨_, rfl, ⟨fun _ => by first | rfl | omega, fun _ _ => by first | rfl | omega, fun _ => by first | rfl | omega⟩, ht⟩) (fun q hq => absurd hq List.not_mem_nil) dX12_count_160
  · refine lv_tableIn (off := 43) (tgt := 44) hx hb dX12_count_1 (by omega) (by omega) (by rw [h_1]; rfl) (by decide) ?_
    refine lv_aload_n hx hb dX12_count_44 rfl (lv_at hl 0 rfl) ?_
    refine va_get (D := D) (ci := 12) (v := .int 0) (C := RX12) (T := TX12) (N := 91) hx hb hT iX12 hown hK hP 0 rfl rfl 0 (by decide) (hT _ t_5) (fun _ h9 => h9) (congrArg (fun z => some (Value.int z)) (hf.1 0 (by decide))) dX12_count_45 ?_
    subst hQ
    exact W.iret (v := 0) hx hb hr (fun t ht hW => ⟨_, rfl, ⟨fun _ => by first | rfl | omega, fun _ _ => by first | rfl | omega, fun _ => by first | rfl | omega⟩, ht⟩) (fun q hq => absurd hq List.not_mem_nil) dX12_count_48
  · refine lv_tableIn (off := 48) (tgt := 49) hx hb dX12_count_1 (by omega) (by omega) (by rw [h_1]; rfl) (by decide) ?_
    refine lv_aload_n hx hb dX12_count_49 rfl (lv_at hl 0 rfl) ?_
    refine va_get (D := D) (ci := 12) (v := .int 0) (C := RX12) (T := TX12) (N := 91) hx hb hT iX12 hown hK hP 0 rfl rfl 51 (by decide) (hT _ t_6) (fun _ h9 => h9) (congrArg (fun z => some (Value.int z)) (hf.1 51 (by decide))) dX12_count_50 ?_
    subst hQ
    exact W.iret (v := 0) hx hb hr (fun t ht hW => ⟨_, rfl, ⟨fun _ => by first | rfl | omega, fun _ _ => by first | rfl | omega, fun _ => by first | rfl | omega⟩, ht⟩) (fun q hq => absurd hq List.not_mem_nil) dX12_count_53
  · refine lv_tableIn (off := 53) (tgt := 54) hx hb dX12_count_1 (by omega) (by omega) (by rw [h_1]; rfl) (by decide) ?_
    refine lv_aload_n hx hb dX12_count_54 rfl (lv_at hl 0 rfl) ?_
    refine va_get (D := D) (ci := 12) (v := .int 0) (C := RX12) (T := TX12) (N := 91) hx hb hT iX12 hown hK hP 0 rfl rfl 31 (by decide) (hT _ t_36) (fun _ h9 => h9) (congrArg (fun z => some (Value.int z)) (hf.1 31 (by decide))) dX12_count_55 ?_
    subst hQ
    exact W.iret (v := 0) hx hb hr (fun t ht hW => ⟨_, rfl, ⟨fun _ => by first | rfl | omega, fun _ _ => by first | rfl | omega, fun _ => by first | rfl | omega⟩, ht⟩) (fun q hq => absurd hq List.not_mem_nil) dX12_count_58
  · refine lv_tableIn (off := 58) (tgt := 59) hx hb dX12_count_1 (by omega) (by omega) (by rw [h_1]; rfl) (by decide) ?_
    refine lv_aload_n hx hb dX12_count_59 rfl (lv_at hl 0 rfl) ?_
    refine va_get (D := D) (ci := 12) (v := .int 0) (C := RX12) (T := TX12) (N := 91) hx hb hT iX12 hown hK hP 0 rfl rfl 22 (by decide) (hT _ t_15) (fun _ h9 => h9) (congrArg (fun z => some (Value.int z)) (hf.1 22 (by decide))) dX12_count_60 ?_
    subst hQ
    exact W.iret (v := 0) hx hb hr (fun t ht hW => ⟨_, rfl, ⟨fun _ => by first | rfl | omega, fun _ _ => by first | rfl | omega, fun _ => by first | rfl | omega⟩, ht⟩) (fun q hq => absurd hq List.not_mem_nil) dX12_count_63
  · refine lv_tableIn (off := 63) (tgt := 64) hx hb dX12_count_1 (by omega) (by omega) (by rw [h_1]; rfl) (by decide) ?_
    refine lv_aload_n hx hb dX12_count_64 rfl (lv_at hl 0 rfl) ?_
    refine va_get (D := D) (ci := 12) (v := .int 0) (C := RX12) (T := TX12) (N := 91) hx hb hT iX12 hown hK hP 0 rfl rfl 63 (by decide) (hT _ t_27) (fun _ h9 => h9) (congrArg (fun z => some (Value.int z)) (hf.1 63 (by decide))) dX12_count_65 ?_
    subst hQ
    exact W.iret (v := 0) hx hb hr (fun t ht hW => ⟨_, rfl, ⟨fun _ => by first | rfl | omega, fun _ _ => by first | rfl | omega, fun _ => by first | rfl | omega⟩, ht⟩) (fun q hq => absurd hq List.not_mem_nil) dX12_count_68
  · refine lv_tableIn (off := 68) (tgt := 69) hx hb dX12_count_1 (by omega) (by omega) (by rw [h_1]; rfl) (by decide) ?_
    refine lv_aload_n hx hb dX12_count_69 rfl (lv_at hl 0 rfl) ?_
    refine va_get (D := D) (ci := 12) (v := .int 0) (C := RX12) (T := TX12) (N := 91) hx hb hT iX12 hown hK hP 0 rfl rfl 72 (by decide) (hT _ t_37) (fun _ h9 => h9) (congrArg (fun z => some (Value.int z)) (hf.1 72 (by decide))) dX12_count_70 ?_
    subst hQ
    exact W.iret (v := 0) hx hb hr (fun t ht hW => ⟨_, rfl, ⟨fun _ => by first | rfl | omega, fun _ _ => by first | rfl | omega, fun _ => by first | rfl | omega⟩, ht⟩) (fun q hq => absurd hq List.not_mem_nil) dX12_count_73
  · refine lv_tableIn (off := 73) (tgt := 74) hx hb dX12_count_1 (by omega) (by omega) (by rw [h_1]; rfl) (by decide) ?_
    refine lv_aload_n hx hb dX12_count_74 rfl (lv_at hl 0 rfl) ?_
    refine va_get (D := D) (ci := 12) (v := .int 1) (C := RX12) (T := TX12) (N := 91) hx hb hT iX12 hown hK hP 0 rfl rfl 1 (by decide) (hT _ t_38) (fun _ h9 => h9) (congrArg (fun z => some (Value.int z)) hf.2) dX12_count_75 ?_
    subst hQ
    exact W.iret (v := 1) hx hb hr (fun t ht hW => ⟨_, rfl, ⟨fun _ => by first | rfl | omega, fun _ _ => by first | rfl | omega, fun _ => by first | rfl | omega⟩, ht⟩) (fun q hq => absurd hq List.not_mem_nil) dX12_count_78
end
section
theorem t_39 : Cond.fieldLink RX11 22 "DepositJudge" "homeCount" "I" ∈ gT := tm (List.mem_of_getElem? (i := 253) (by decide +kernel)) (by decide +kernel)
theorem t_40 : Cond.fieldLink RX11 61 "DepositJudge" "docket" "LDepositJudge$Docket;" ∈ gT := tm (List.mem_of_getElem? (i := 259) (by decide +kernel)) (by decide +kernel)
theorem t_41 : Cond.fieldLink RX11 320 "DepositJudge$Docket" "claims" "I" ∈ gT := tm (List.mem_of_getElem? (i := 143) (by decide +kernel)) (by decide +kernel)
theorem t_42 : Cond.code yX11_homeAt cX11_homeAt 2 (some (.object "DepositJudge$Home")) ∈ gT := tm (List.mem_of_getElem? (i := 409) (by decide +kernel)) (by decide +kernel)
theorem t_43 : Cond.methodLink RX11 108 yX11_homeAt ∈ gT := tm (List.mem_of_getElem? (i := 406) (by decide +kernel)) (by decide +kernel)
theorem t_44 : Cond.instanceMethod yX11_homeAt ∈ gT := tm (List.mem_of_getElem? (i := 408) (by decide +kernel)) (by decide +kernel)
theorem t_45 : Cond.selects RX11 yX11_homeAt yX11_homeAt ∈ gT := tmp (List.mem_of_getElem? (i := 0) (by decide +kernel)) (by decide +kernel)
theorem t_46 : Cond.fieldLink RX11 36 "DepositJudge" "tape" "LDepositJudge$Tape;" ∈ gT := tm (List.mem_of_getElem? (i := 255) (by decide +kernel)) (by decide +kernel)
theorem t_47 : Cond.fieldLink RX11 141 "DepositJudge$Tape" "length" "I" ∈ gT := tm (List.mem_of_getElem? (i := 69) (by decide +kernel)) (by decide +kernel)
theorem t_48 : Cond.code yX11_isClaim cX11_isClaim 2 (some .boolean) ∈ gT := tm (List.mem_of_getElem? (i := 728) (by decide +kernel)) (by decide +kernel)
theorem t_49 : Cond.methodLink RX11 196 yX11_isClaim ∈ gT := tm (List.mem_of_getElem? (i := 725) (by decide +kernel)) (by decide +kernel)
theorem t_50 : Cond.instanceMethod yX11_isClaim ∈ gT := tm (List.mem_of_getElem? (i := 727) (by decide +kernel)) (by decide +kernel)
theorem t_51 : Cond.selects RX11 yX11_isClaim yX11_isClaim ∈ gT := tmp (List.mem_of_getElem? (i := 23) (by decide +kernel)) (by decide +kernel)
theorem t_52 : Cond.fieldLink RX11 68 "DepositJudge" "wasKept" "Z" ∈ gT := tm (List.mem_of_getElem? (i := 261) (by decide +kernel)) (by decide +kernel)
theorem t_53 : Cond.code yX11_isDay cX11_isDay 1 (some .boolean) ∈ gT := tm (List.mem_of_getElem? (i := 712) (by decide +kernel)) (by decide +kernel)
theorem t_54 : Cond.methodLink RX11 186 yX11_isDay ∈ gT := tm (List.mem_of_getElem? (i := 710) (by decide +kernel)) (by decide +kernel)
theorem t_55 : Cond.static yX11_isDay ∈ gT := tm (List.mem_of_getElem? (i := 711) (by decide +kernel)) (by decide +kernel)
theorem t_56 : Cond.fieldLink RX11 89 "DepositJudge" "pictures" "LDepositJudge$Pictures;" ∈ gT := tm (List.mem_of_getElem? (i := 264) (by decide +kernel)) (by decide +kernel)
theorem t_57 : Cond.fieldLink RX11 314 "DepositJudge$Pictures" "wrongCount" "I" ∈ gT := tm (List.mem_of_getElem? (i := 238) (by decide +kernel)) (by decide +kernel)
theorem t_58 : Cond.fieldLink RX11 82 "DepositJudge" "doubles" "LDepositJudge$Doubles;" ∈ gT := tm (List.mem_of_getElem? (i := 263) (by decide +kernel)) (by decide +kernel)
theorem t_59 : Cond.fieldLink RX11 286 "DepositJudge$Doubles" "times" "[I" ∈ gT := tm (List.mem_of_getElem? (i := 214) (by decide +kernel)) (by decide +kernel)
theorem t_60 : Cond.constant RX11 289 (-1000000) ∈ gT := tm (List.mem_of_getElem? (i := 836) (by decide +kernel)) (by decide +kernel)
theorem t_61 : Cond.fieldLink RX11 50 "DepositJudge" "lawInForce" "LDepositJudge$Law;" ∈ gT := tm (List.mem_of_getElem? (i := 257) (by decide +kernel)) (by decide +kernel)
theorem t_62 : Cond.fieldLink RX11 154 "DepositJudge$Law" "clauses" "I" ∈ gT := tm (List.mem_of_getElem? (i := 89) (by decide +kernel)) (by decide +kernel)
theorem t_63 : Cond.fieldLink RX11 282 "DepositJudge$Doubles" "count" "I" ∈ gT := tm (List.mem_of_getElem? (i := 212) (by decide +kernel)) (by decide +kernel)
theorem t_64 : Cond.fieldLink RX11 342 "DepositJudge$Pictures" "facts" "I" ∈ gT := tm (List.mem_of_getElem? (i := 236) (by decide +kernel)) (by decide +kernel)
theorem t_65 : Cond.fieldLink RX11 274 "DepositJudge$Docket" "x" "I" ∈ gT := tm (List.mem_of_getElem? (i := 165) (by decide +kernel)) (by decide +kernel)
theorem t_66 : Cond.fieldLink RX7 22 "DepositJudge$Pictures" "gaps" "[I" ∈ gT := tm (List.mem_of_getElem? (i := 241) (by decide +kernel)) (by decide +kernel)
theorem t_67 : Cond.code yX7_gap cX7_gap 3 (some .int) ∈ gT := tm (List.mem_of_getElem? (i := 863) (by decide +kernel)) (by decide +kernel)
theorem t_68 : Cond.initialized RX7 ∈ gT := tm (List.mem_of_getElem? (i := 10) (by decide +kernel)) (by decide +kernel)
theorem t_69 : Cond.methodLink RX11 311 yX7_gap ∈ gT := tm (List.mem_of_getElem? (i := 874) (by decide +kernel)) (by decide +kernel)
theorem t_70 : Cond.instanceMethod yX7_gap ∈ gT := tm (List.mem_of_getElem? (i := 861) (by decide +kernel)) (by decide +kernel)
theorem t_71 : Cond.selects RX7 yX7_gap yX7_gap ∈ gT := tm (List.mem_of_getElem? (i := 862) (by decide +kernel)) (by decide +kernel)
theorem t_72 : Cond.constant RX11 310 (-100000) ∈ gT := tm (List.mem_of_getElem? (i := 873) (by decide +kernel)) (by decide +kernel)
theorem dX11_agree_0 : decode cX11_agree 0 = .ok (.aload_n 0, 1) := by decide +kernel
theorem dX11_agree_1 : decode cX11_agree 1 = .ok (.iload_n 1, 1) := by decide +kernel
theorem dX11_agree_2 : decode cX11_agree 2 = .ok (.invokevirtual 196, 3) := by decide +kernel
theorem dX11_agree_5 : decode cX11_agree 5 = .ok (.ifCond .eq 13, 3) := by decide +kernel
theorem dX11_agree_18 : decode cX11_agree 18 = .ok (.iconst 0, 1) := by decide +kernel
theorem dX11_agree_19 : decode cX11_agree 19 = .ok (.ireturn, 1) := by decide +kernel
theorem dX11_answer_0 : decode cX11_answer 0 = .ok (.aload_n 0, 1) := by decide +kernel
theorem dX11_answer_1 : decode cX11_answer 1 = .ok (.iload_n 1, 1) := by decide +kernel
theorem dX11_answer_2 : decode cX11_answer 2 = .ok (.invokevirtual 196, 3) := by decide +kernel
theorem dX11_answer_5 : decode cX11_answer 5 = .ok (.ifCond .eq 23, 3) := by decide +kernel
theorem dX11_answer_28 : decode cX11_answer 28 = .ok (.iconst 0, 1) := by decide +kernel
theorem dX11_answer_29 : decode cX11_answer 29 = .ok (.ireturn, 1) := by decide +kernel
theorem dX11_award_0 : decode cX11_award 0 = .ok (.aload_n 0, 1) := by decide +kernel
theorem dX11_award_1 : decode cX11_award 1 = .ok (.iload_n 1, 1) := by decide +kernel
theorem dX11_award_2 : decode cX11_award 2 = .ok (.invokevirtual 196, 3) := by decide +kernel
theorem dX11_award_5 : decode cX11_award 5 = .ok (.ifCond .eq 19, 3) := by decide +kernel
theorem dX11_award_24 : decode cX11_award 24 = .ok (.aconst_null, 1) := by decide +kernel
theorem dX11_award_25 : decode cX11_award 25 = .ok (.astore 4, 2) := by decide +kernel
theorem dX11_award_27 : decode cX11_award 27 = .ok (.aload 4, 2) := by decide +kernel
theorem dX11_award_29 : decode cX11_award 29 = .ok (.ifnull 19, 3) := by decide +kernel
theorem dX11_award_48 : decode cX11_award 48 = .ok (.iconst (-1), 1) := by decide +kernel
theorem dX11_award_49 : decode cX11_award 49 = .ok (.ireturn, 1) := by decide +kernel
theorem dX11_byKind_0 : decode cX11_byKind 0 = .ok (.iload_n 1, 1) := by decide +kernel
theorem dX11_byKind_1 : decode cX11_byKind 1 = .ok (.iconst 0, 1) := by decide +kernel
theorem dX11_byKind_2 : decode cX11_byKind 2 = .ok (.bipush 7, 2) := by decide +kernel
theorem dX11_byKind_4 : decode cX11_byKind 4 = .ok (.invokestatic 93, 3) := by decide +kernel
theorem dX11_byKind_7 : decode cX11_byKind 7 = .ok (.ifCond .eq 10, 3) := by decide +kernel
theorem dX11_byKind_10 : decode cX11_byKind 10 = .ok (.iload_n 2, 1) := by decide +kernel
theorem dX11_byKind_11 : decode cX11_byKind 11 = .ok (.invokestatic 186, 3) := by decide +kernel
theorem dX11_byKind_14 : decode cX11_byKind 14 = .ok (.ifCond .ne 5, 3) := by decide +kernel
theorem dX11_byKind_17 : decode cX11_byKind 17 = .ok (.iconst (-1), 1) := by decide +kernel
theorem dX11_byKind_18 : decode cX11_byKind 18 = .ok (.ireturn, 1) := by decide +kernel
theorem dX11_byKind_19 : decode cX11_byKind 19 = .ok (.iconst 0, 1) := by decide +kernel
theorem dX11_byKind_20 : decode cX11_byKind 20 = .ok (.istore_n 3, 1) := by decide +kernel
theorem dX11_byKind_21 : decode cX11_byKind 21 = .ok (.iconst 0, 1) := by decide +kernel
theorem dX11_byKind_22 : decode cX11_byKind 22 = .ok (.istore 4, 2) := by decide +kernel
theorem dX11_byKind_24 : decode cX11_byKind 24 = .ok (.iload 4, 2) := by decide +kernel
theorem dX11_byKind_26 : decode cX11_byKind 26 = .ok (.aload_n 0, 1) := by decide +kernel
theorem dX11_byKind_27 : decode cX11_byKind 27 = .ok (.getfield 61, 3) := by decide +kernel
theorem dX11_byKind_30 : decode cX11_byKind 30 = .ok (.getfield 320, 3) := by decide +kernel
theorem dX11_byKind_33 : decode cX11_byKind 33 = .ok (.if_icmp .ge 68, 3) := by decide +kernel
theorem dX11_byKind_101 : decode cX11_byKind 101 = .ok (.iload_n 3, 1) := by decide +kernel
theorem dX11_byKind_102 : decode cX11_byKind 102 = .ok (.ireturn, 1) := by decide +kernel
theorem dX11_check_0 : decode cX11_check 0 = .ok (.aload_n 0, 1) := by decide +kernel
theorem dX11_check_1 : decode cX11_check 1 = .ok (.iload_n 1, 1) := by decide +kernel
theorem dX11_check_2 : decode cX11_check 2 = .ok (.invokevirtual 108, 3) := by decide +kernel
theorem dX11_check_5 : decode cX11_check 5 = .ok (.astore 4, 2) := by decide +kernel
theorem dX11_check_7 : decode cX11_check 7 = .ok (.aload 4, 2) := by decide +kernel
theorem dX11_check_9 : decode cX11_check 9 = .ok (.ifnull 32, 3) := by decide +kernel
theorem dX11_check_41 : decode cX11_check 41 = .ok (.bipush (-2), 2) := by decide +kernel
theorem dX11_check_43 : decode cX11_check 43 = .ok (.ireturn, 1) := by decide +kernel
theorem dX11_claim_0 : decode cX11_claim 0 = .ok (.aload_n 0, 1) := by decide +kernel
theorem dX11_claim_1 : decode cX11_claim 1 = .ok (.iload_n 1, 1) := by decide +kernel
theorem dX11_claim_2 : decode cX11_claim 2 = .ok (.invokevirtual 108, 3) := by decide +kernel
theorem dX11_claim_5 : decode cX11_claim 5 = .ok (.astore 6, 2) := by decide +kernel
theorem dX11_claim_7 : decode cX11_claim 7 = .ok (.aload 6, 2) := by decide +kernel
theorem dX11_claim_9 : decode cX11_claim 9 = .ok (.ifnull 50, 3) := by decide +kernel
theorem dX11_claim_59 : decode cX11_claim 59 = .ok (.iconst (-1), 1) := by decide +kernel
theorem dX11_claim_60 : decode cX11_claim 60 = .ok (.ireturn, 1) := by decide +kernel
theorem dX11_count_0 : decode cX11_count 0 = .ok (.iload_n 1, 1) := by decide +kernel
theorem dX11_count_1 : decode cX11_count 1 = .ok (.bipush 30, 2) := by decide +kernel
theorem dX11_count_3 : decode cX11_count 3 = .ok (.if_icmp .lt 31, 3) := by decide +kernel
theorem dX11_count_6 : decode cX11_count 6 = .ok (.aload_n 0, 1) := by decide +kernel
theorem dX11_count_7 : decode cX11_count 7 = .ok (.iload_n 1, 1) := by decide +kernel
theorem dX11_count_8 : decode cX11_count 8 = .ok (.bipush 30, 2) := by decide +kernel
theorem dX11_count_10 : decode cX11_count 10 = .ok (.isub, 1) := by decide +kernel
theorem dX11_count_11 : decode cX11_count 11 = .ok (.invokevirtual 196, 3) := by decide +kernel
theorem dX11_count_14 : decode cX11_count 14 = .ok (.ifCond .eq 18, 3) := by decide +kernel
theorem dX11_count_32 : decode cX11_count 32 = .ok (.iconst (-1), 1) := by decide +kernel
theorem dX11_count_33 : decode cX11_count 33 = .ok (.ireturn, 1) := by decide +kernel
theorem dX11_count_34 : decode cX11_count 34 = .ok (.iload_n 1, 1) := by decide +kernel
theorem dX11_count_35 : decode cX11_count 35 = .ok (.bipush 10, 2) := by decide +kernel
theorem dX11_count_37 : decode cX11_count 37 = .ok (.if_icmp .lt 42, 3) := by decide +kernel
theorem dX11_count_40 : decode cX11_count 40 = .ok (.aload_n 0, 1) := by decide +kernel
theorem dX11_count_41 : decode cX11_count 41 = .ok (.iload_n 1, 1) := by decide +kernel
theorem dX11_count_42 : decode cX11_count 42 = .ok (.bipush 10, 2) := by decide +kernel
theorem dX11_count_44 : decode cX11_count 44 = .ok (.irem, 1) := by decide +kernel
theorem dX11_count_45 : decode cX11_count 45 = .ok (.invokevirtual 108, 3) := by decide +kernel
theorem dX11_count_48 : decode cX11_count 48 = .ok (.astore_n 2, 1) := by decide +kernel
theorem dX11_count_49 : decode cX11_count 49 = .ok (.aload_n 2, 1) := by decide +kernel
theorem dX11_count_50 : decode cX11_count 50 = .ok (.ifnonnull 5, 3) := by decide +kernel
theorem dX11_count_53 : decode cX11_count 53 = .ok (.iconst (-1), 1) := by decide +kernel
theorem dX11_count_54 : decode cX11_count 54 = .ok (.ireturn, 1) := by decide +kernel
theorem dX11_count_79 : decode cX11_count 79 = .ok (.iload_n 1, 1) := by decide +kernel
theorem dX11_count_80 : decode cX11_count 80 = .ok (.tableswitch 97 0 6 #[44, 49, 57, 65, 73, 81, 89], 44) := by decide +kernel
theorem dX11_count_124 : decode cX11_count 124 = .ok (.aload_n 0, 1) := by decide +kernel
theorem dX11_count_125 : decode cX11_count 125 = .ok (.getfield 22, 3) := by decide +kernel
theorem dX11_count_128 : decode cX11_count 128 = .ok (.ireturn, 1) := by decide +kernel
theorem dX11_count_129 : decode cX11_count 129 = .ok (.aload_n 0, 1) := by decide +kernel
theorem dX11_count_130 : decode cX11_count 130 = .ok (.getfield 61, 3) := by decide +kernel
theorem dX11_count_133 : decode cX11_count 133 = .ok (.getfield 320, 3) := by decide +kernel
theorem dX11_count_136 : decode cX11_count 136 = .ok (.ireturn, 1) := by decide +kernel
theorem dX11_count_137 : decode cX11_count 137 = .ok (.aload_n 0, 1) := by decide +kernel
theorem dX11_count_138 : decode cX11_count 138 = .ok (.getfield 50, 3) := by decide +kernel
theorem dX11_count_141 : decode cX11_count 141 = .ok (.getfield 154, 3) := by decide +kernel
theorem dX11_count_144 : decode cX11_count 144 = .ok (.ireturn, 1) := by decide +kernel
theorem dX11_count_145 : decode cX11_count 145 = .ok (.aload_n 0, 1) := by decide +kernel
theorem dX11_count_146 : decode cX11_count 146 = .ok (.getfield 36, 3) := by decide +kernel
theorem dX11_count_149 : decode cX11_count 149 = .ok (.getfield 141, 3) := by decide +kernel
theorem dX11_count_152 : decode cX11_count 152 = .ok (.ireturn, 1) := by decide +kernel
theorem dX11_count_153 : decode cX11_count 153 = .ok (.aload_n 0, 1) := by decide +kernel
theorem dX11_count_154 : decode cX11_count 154 = .ok (.getfield 82, 3) := by decide +kernel
theorem dX11_count_157 : decode cX11_count 157 = .ok (.getfield 282, 3) := by decide +kernel
theorem dX11_count_160 : decode cX11_count 160 = .ok (.ireturn, 1) := by decide +kernel
theorem dX11_count_161 : decode cX11_count 161 = .ok (.aload_n 0, 1) := by decide +kernel
theorem dX11_count_162 : decode cX11_count 162 = .ok (.getfield 89, 3) := by decide +kernel
theorem dX11_count_165 : decode cX11_count 165 = .ok (.getfield 342, 3) := by decide +kernel
theorem dX11_count_168 : decode cX11_count 168 = .ok (.ireturn, 1) := by decide +kernel
theorem dX11_count_169 : decode cX11_count 169 = .ok (.aload_n 0, 1) := by decide +kernel
theorem dX11_count_170 : decode cX11_count 170 = .ok (.getfield 61, 3) := by decide +kernel
theorem dX11_count_173 : decode cX11_count 173 = .ok (.getfield 274, 3) := by decide +kernel
theorem dX11_count_176 : decode cX11_count 176 = .ok (.ireturn, 1) := by decide +kernel
theorem dX11_count_177 : decode cX11_count 177 = .ok (.iconst (-1), 1) := by decide +kernel
theorem dX11_count_178 : decode cX11_count 178 = .ok (.ireturn, 1) := by decide +kernel
theorem dX11_dated_0 : decode cX11_dated 0 = .ok (.iload_n 1, 1) := by decide +kernel
theorem dX11_dated_1 : decode cX11_dated 1 = .ok (.iconst 0, 1) := by decide +kernel
theorem dX11_dated_2 : decode cX11_dated 2 = .ok (.bipush 9, 2) := by decide +kernel
theorem dX11_dated_4 : decode cX11_dated 4 = .ok (.invokestatic 93, 3) := by decide +kernel
theorem dX11_dated_7 : decode cX11_dated 7 = .ok (.ifCond .eq 12, 3) := by decide +kernel
theorem dX11_dated_10 : decode cX11_dated 10 = .ok (.iload_n 2, 1) := by decide +kernel
theorem dX11_dated_11 : decode cX11_dated 11 = .ok (.iconst 0, 1) := by decide +kernel
theorem dX11_dated_12 : decode cX11_dated 12 = .ok (.iconst 1, 1) := by decide +kernel
theorem dX11_dated_13 : decode cX11_dated 13 = .ok (.invokestatic 93, 3) := by decide +kernel
theorem dX11_dated_16 : decode cX11_dated 16 = .ok (.ifCond .ne 7, 3) := by decide +kernel
theorem dX11_dated_19 : decode cX11_dated 19 = .ok (.ldc_w 310, 3) := by decide +kernel
theorem dX11_dated_22 : decode cX11_dated 22 = .ok (.ireturn, 1) := by decide +kernel
theorem dX11_dated_23 : decode cX11_dated 23 = .ok (.iload_n 2, 1) := by decide +kernel
theorem dX11_dated_24 : decode cX11_dated 24 = .ok (.ifCond .ne 16, 3) := by decide +kernel
theorem dX11_dated_27 : decode cX11_dated 27 = .ok (.aload_n 0, 1) := by decide +kernel
theorem dX11_dated_28 : decode cX11_dated 28 = .ok (.getfield 89, 3) := by decide +kernel
theorem dX11_dated_31 : decode cX11_dated 31 = .ok (.bipush 10, 2) := by decide +kernel
theorem dX11_dated_33 : decode cX11_dated 33 = .ok (.iload_n 1, 1) := by decide +kernel
theorem dX11_dated_34 : decode cX11_dated 34 = .ok (.invokevirtual 311, 3) := by decide +kernel
theorem dX11_dated_37 : decode cX11_dated 37 = .ok (.goto 13, 3) := by decide +kernel
theorem dX11_dated_40 : decode cX11_dated 40 = .ok (.aload_n 0, 1) := by decide +kernel
theorem dX11_dated_41 : decode cX11_dated 41 = .ok (.getfield 89, 3) := by decide +kernel
theorem dX11_dated_44 : decode cX11_dated 44 = .ok (.iload_n 1, 1) := by decide +kernel
theorem dX11_dated_45 : decode cX11_dated 45 = .ok (.bipush 10, 2) := by decide +kernel
theorem dX11_dated_47 : decode cX11_dated 47 = .ok (.invokevirtual 311, 3) := by decide +kernel
theorem dX11_dated_50 : decode cX11_dated 50 = .ok (.istore_n 3, 1) := by decide +kernel
theorem dX11_dated_51 : decode cX11_dated 51 = .ok (.iload_n 3, 1) := by decide +kernel
theorem dX11_dated_52 : decode cX11_dated 52 = .ok (.ldc_w 289, 3) := by decide +kernel
theorem dX11_dated_55 : decode cX11_dated 55 = .ok (.if_icmp .ne 7, 3) := by decide +kernel
theorem dX11_dated_58 : decode cX11_dated 58 = .ok (.ldc_w 310, 3) := by decide +kernel
theorem dX11_dated_61 : decode cX11_dated 61 = .ok (.ireturn, 1) := by decide +kernel
theorem dX11_draw_0 : decode cX11_draw 0 = .ok (.aload_n 0, 1) := by decide +kernel
theorem dX11_draw_1 : decode cX11_draw 1 = .ok (.iload_n 1, 1) := by decide +kernel
theorem dX11_draw_2 : decode cX11_draw 2 = .ok (.invokevirtual 108, 3) := by decide +kernel
theorem dX11_draw_5 : decode cX11_draw 5 = .ok (.astore_n 2, 1) := by decide +kernel
theorem dX11_draw_6 : decode cX11_draw 6 = .ok (.aload_n 2, 1) := by decide +kernel
theorem dX11_draw_7 : decode cX11_draw 7 = .ok (.ifnonnull 5, 3) := by decide +kernel
theorem dX11_draw_10 : decode cX11_draw 10 = .ok (.iconst (-1), 1) := by decide +kernel
theorem dX11_draw_11 : decode cX11_draw 11 = .ok (.ireturn, 1) := by decide +kernel
theorem dX11_first_0 : decode cX11_first 0 = .ok (.aload_n 0, 1) := by decide +kernel
theorem dX11_first_1 : decode cX11_first 1 = .ok (.iload_n 1, 1) := by decide +kernel
theorem dX11_first_2 : decode cX11_first 2 = .ok (.invokevirtual 108, 3) := by decide +kernel
theorem dX11_first_5 : decode cX11_first 5 = .ok (.astore 6, 2) := by decide +kernel
theorem dX11_first_7 : decode cX11_first 7 = .ok (.aload 6, 2) := by decide +kernel
theorem dX11_first_9 : decode cX11_first 9 = .ok (.ifnull 25, 3) := by decide +kernel
theorem dX11_first_34 : decode cX11_first 34 = .ok (.iconst (-1), 1) := by decide +kernel
theorem dX11_first_35 : decode cX11_first 35 = .ok (.ireturn, 1) := by decide +kernel
theorem dX11_homeAt_0 : decode cX11_homeAt 0 = .ok (.iload_n 1, 1) := by decide +kernel
theorem dX11_homeAt_1 : decode cX11_homeAt 1 = .ok (.iconst 0, 1) := by decide +kernel
theorem dX11_homeAt_2 : decode cX11_homeAt 2 = .ok (.aload_n 0, 1) := by decide +kernel
theorem dX11_homeAt_3 : decode cX11_homeAt 3 = .ok (.getfield 22, 3) := by decide +kernel
theorem dX11_homeAt_6 : decode cX11_homeAt 6 = .ok (.iconst 1, 1) := by decide +kernel
theorem dX11_homeAt_7 : decode cX11_homeAt 7 = .ok (.isub, 1) := by decide +kernel
theorem dX11_homeAt_8 : decode cX11_homeAt 8 = .ok (.invokestatic 93, 3) := by decide +kernel
theorem dX11_homeAt_11 : decode cX11_homeAt 11 = .ok (.ifCond .eq 12, 3) := by decide +kernel
theorem dX11_homeAt_23 : decode cX11_homeAt 23 = .ok (.aconst_null, 1) := by decide +kernel
theorem dX11_homeAt_24 : decode cX11_homeAt 24 = .ok (.areturn, 1) := by decide +kernel
theorem dX11_isClaim_0 : decode cX11_isClaim 0 = .ok (.iload_n 1, 1) := by decide +kernel
theorem dX11_isClaim_1 : decode cX11_isClaim 1 = .ok (.iconst 0, 1) := by decide +kernel
theorem dX11_isClaim_2 : decode cX11_isClaim 2 = .ok (.aload_n 0, 1) := by decide +kernel
theorem dX11_isClaim_3 : decode cX11_isClaim 3 = .ok (.getfield 61, 3) := by decide +kernel
theorem dX11_isClaim_6 : decode cX11_isClaim 6 = .ok (.getfield 320, 3) := by decide +kernel
theorem dX11_isClaim_9 : decode cX11_isClaim 9 = .ok (.iconst 1, 1) := by decide +kernel
theorem dX11_isClaim_10 : decode cX11_isClaim 10 = .ok (.isub, 1) := by decide +kernel
theorem dX11_isClaim_11 : decode cX11_isClaim 11 = .ok (.invokestatic 93, 3) := by decide +kernel
theorem dX11_isClaim_14 : decode cX11_isClaim 14 = .ok (.ireturn, 1) := by decide +kernel
theorem dX11_isNew_0 : decode cX11_isNew 0 = .ok (.aload_n 0, 1) := by decide +kernel
theorem dX11_isNew_1 : decode cX11_isNew 1 = .ok (.iload_n 1, 1) := by decide +kernel
theorem dX11_isNew_2 : decode cX11_isNew 2 = .ok (.invokevirtual 108, 3) := by decide +kernel
theorem dX11_isNew_5 : decode cX11_isNew 5 = .ok (.astore_n 3, 1) := by decide +kernel
theorem dX11_isNew_6 : decode cX11_isNew 6 = .ok (.aload_n 3, 1) := by decide +kernel
theorem dX11_isNew_7 : decode cX11_isNew 7 = .ok (.ifnull 20, 3) := by decide +kernel
theorem dX11_isNew_27 : decode cX11_isNew 27 = .ok (.iconst (-1), 1) := by decide +kernel
theorem dX11_isNew_28 : decode cX11_isNew 28 = .ok (.ireturn, 1) := by decide +kernel
theorem dX11_judged_0 : decode cX11_judged 0 = .ok (.aload_n 0, 1) := by decide +kernel
theorem dX11_judged_1 : decode cX11_judged 1 = .ok (.iload_n 1, 1) := by decide +kernel
theorem dX11_judged_2 : decode cX11_judged 2 = .ok (.invokevirtual 108, 3) := by decide +kernel
theorem dX11_judged_5 : decode cX11_judged 5 = .ok (.astore 4, 2) := by decide +kernel
theorem dX11_judged_7 : decode cX11_judged 7 = .ok (.aload 4, 2) := by decide +kernel
theorem dX11_judged_9 : decode cX11_judged 9 = .ok (.ifnull 10, 3) := by decide +kernel
theorem dX11_judged_19 : decode cX11_judged 19 = .ok (.iconst (-1), 1) := by decide +kernel
theorem dX11_judged_20 : decode cX11_judged 20 = .ok (.ireturn, 1) := by decide +kernel
theorem dX11_kin_0 : decode cX11_kin 0 = .ok (.aload_n 0, 1) := by decide +kernel
theorem dX11_kin_1 : decode cX11_kin 1 = .ok (.iload_n 2, 1) := by decide +kernel
theorem dX11_kin_2 : decode cX11_kin 2 = .ok (.invokevirtual 108, 3) := by decide +kernel
theorem dX11_kin_5 : decode cX11_kin 5 = .ok (.astore 4, 2) := by decide +kernel
theorem dX11_kin_7 : decode cX11_kin 7 = .ok (.aload 4, 2) := by decide +kernel
theorem dX11_kin_9 : decode cX11_kin 9 = .ok (.ifnull 23, 3) := by decide +kernel
theorem dX11_kin_32 : decode cX11_kin 32 = .ok (.iconst 0, 1) := by decide +kernel
theorem dX11_kin_33 : decode cX11_kin 33 = .ok (.ireturn, 1) := by decide +kernel
theorem dX11_last_0 : decode cX11_last 0 = .ok (.aload_n 0, 1) := by decide +kernel
theorem dX11_last_1 : decode cX11_last 1 = .ok (.iload_n 1, 1) := by decide +kernel
theorem dX11_last_2 : decode cX11_last 2 = .ok (.invokevirtual 108, 3) := by decide +kernel
theorem dX11_last_5 : decode cX11_last 5 = .ok (.astore 5, 2) := by decide +kernel
theorem dX11_last_7 : decode cX11_last 7 = .ok (.aload 5, 2) := by decide +kernel
theorem dX11_last_9 : decode cX11_last 9 = .ok (.ifnull 13, 3) := by decide +kernel
theorem dX11_last_22 : decode cX11_last 22 = .ok (.iconst (-1), 1) := by decide +kernel
theorem dX11_last_23 : decode cX11_last 23 = .ok (.ireturn, 1) := by decide +kernel
theorem dX11_law_0 : decode cX11_law 0 = .ok (.iload_n 1, 1) := by decide +kernel
theorem dX11_law_1 : decode cX11_law 1 = .ok (.iconst 1, 1) := by decide +kernel
theorem dX11_law_2 : decode cX11_law 2 = .ok (.sipush 200, 3) := by decide +kernel
theorem dX11_law_5 : decode cX11_law 5 = .ok (.invokestatic 93, 3) := by decide +kernel
theorem dX11_law_8 : decode cX11_law 8 = .ok (.ifCond .eq 14, 3) := by decide +kernel
theorem dX11_law_11 : decode cX11_law 11 = .ok (.iload_n 1, 1) := by decide +kernel
theorem dX11_law_12 : decode cX11_law 12 = .ok (.aload_n 0, 1) := by decide +kernel
theorem dX11_law_13 : decode cX11_law 13 = .ok (.getfield 36, 3) := by decide +kernel
theorem dX11_law_16 : decode cX11_law 16 = .ok (.getfield 141, 3) := by decide +kernel
theorem dX11_law_19 : decode cX11_law 19 = .ok (.if_icmp .le 5, 3) := by decide +kernel
theorem dX11_law_22 : decode cX11_law 22 = .ok (.iconst (-1), 1) := by decide +kernel
theorem dX11_law_23 : decode cX11_law 23 = .ok (.ireturn, 1) := by decide +kernel
theorem dX11_led_0 : decode cX11_led 0 = .ok (.aload_n 0, 1) := by decide +kernel
theorem dX11_led_1 : decode cX11_led 1 = .ok (.iload_n 1, 1) := by decide +kernel
theorem dX11_led_2 : decode cX11_led 2 = .ok (.invokevirtual 108, 3) := by decide +kernel
theorem dX11_led_5 : decode cX11_led 5 = .ok (.astore 4, 2) := by decide +kernel
theorem dX11_led_7 : decode cX11_led 7 = .ok (.aload 4, 2) := by decide +kernel
theorem dX11_led_9 : decode cX11_led 9 = .ok (.ifnull 31, 3) := by decide +kernel
theorem dX11_led_40 : decode cX11_led 40 = .ok (.iconst (-1), 1) := by decide +kernel
theorem dX11_led_41 : decode cX11_led 41 = .ok (.ireturn, 1) := by decide +kernel
theorem dX11_like_0 : decode cX11_like 0 = .ok (.aload_n 0, 1) := by decide +kernel
theorem dX11_like_1 : decode cX11_like 1 = .ok (.iload_n 1, 1) := by decide +kernel
theorem dX11_like_2 : decode cX11_like 2 = .ok (.invokevirtual 108, 3) := by decide +kernel
theorem dX11_like_5 : decode cX11_like 5 = .ok (.astore_n 3, 1) := by decide +kernel
theorem dX11_like_6 : decode cX11_like 6 = .ok (.aload_n 3, 1) := by decide +kernel
theorem dX11_like_7 : decode cX11_like 7 = .ok (.ifnull 12, 3) := by decide +kernel
theorem dX11_like_19 : decode cX11_like 19 = .ok (.iconst (-1), 1) := by decide +kernel
theorem dX11_like_20 : decode cX11_like 20 = .ok (.ireturn, 1) := by decide +kernel
theorem dX11_met_0 : decode cX11_met 0 = .ok (.aload_n 0, 1) := by decide +kernel
theorem dX11_met_1 : decode cX11_met 1 = .ok (.iload_n 1, 1) := by decide +kernel
theorem dX11_met_2 : decode cX11_met 2 = .ok (.invokevirtual 108, 3) := by decide +kernel
theorem dX11_met_5 : decode cX11_met 5 = .ok (.ifnonnull 5, 3) := by decide +kernel
theorem dX11_met_8 : decode cX11_met 8 = .ok (.iconst (-1), 1) := by decide +kernel
theorem dX11_met_9 : decode cX11_met 9 = .ok (.ireturn, 1) := by decide +kernel
theorem dX11_offer_0 : decode cX11_offer 0 = .ok (.aload_n 0, 1) := by decide +kernel
theorem dX11_offer_1 : decode cX11_offer 1 = .ok (.iload_n 1, 1) := by decide +kernel
theorem dX11_offer_2 : decode cX11_offer 2 = .ok (.invokevirtual 108, 3) := by decide +kernel
theorem dX11_offer_5 : decode cX11_offer 5 = .ok (.ifnull 13, 3) := by decide +kernel
theorem dX11_offer_18 : decode cX11_offer 18 = .ok (.iconst (-1), 1) := by decide +kernel
theorem dX11_offer_19 : decode cX11_offer 19 = .ok (.ireturn, 1) := by decide +kernel
theorem dX11_owes_0 : decode cX11_owes 0 = .ok (.aload_n 0, 1) := by decide +kernel
theorem dX11_owes_1 : decode cX11_owes 1 = .ok (.iload_n 1, 1) := by decide +kernel
theorem dX11_owes_2 : decode cX11_owes 2 = .ok (.invokevirtual 108, 3) := by decide +kernel
theorem dX11_owes_5 : decode cX11_owes 5 = .ok (.astore 4, 2) := by decide +kernel
theorem dX11_owes_7 : decode cX11_owes 7 = .ok (.aload 4, 2) := by decide +kernel
theorem dX11_owes_9 : decode cX11_owes 9 = .ok (.ifnull 22, 3) := by decide +kernel
theorem dX11_owes_31 : decode cX11_owes 31 = .ok (.iconst 0, 1) := by decide +kernel
theorem dX11_owes_32 : decode cX11_owes 32 = .ok (.ireturn, 1) := by decide +kernel
theorem dX11_part_0 : decode cX11_part 0 = .ok (.aload_n 0, 1) := by decide +kernel
theorem dX11_part_1 : decode cX11_part 1 = .ok (.iload_n 1, 1) := by decide +kernel
theorem dX11_part_2 : decode cX11_part 2 = .ok (.invokevirtual 108, 3) := by decide +kernel
theorem dX11_part_5 : decode cX11_part 5 = .ok (.astore 4, 2) := by decide +kernel
theorem dX11_part_7 : decode cX11_part 7 = .ok (.aload 4, 2) := by decide +kernel
theorem dX11_part_9 : decode cX11_part 9 = .ok (.ifnull 28, 3) := by decide +kernel
theorem dX11_part_37 : decode cX11_part 37 = .ok (.iconst 0, 1) := by decide +kernel
theorem dX11_part_38 : decode cX11_part 38 = .ok (.ireturn, 1) := by decide +kernel
theorem dX11_spread_0 : decode cX11_spread 0 = .ok (.iload_n 1, 1) := by decide +kernel
theorem dX11_spread_1 : decode cX11_spread 1 = .ok (.iconst 0, 1) := by decide +kernel
theorem dX11_spread_2 : decode cX11_spread 2 = .ok (.iconst 5, 1) := by decide +kernel
theorem dX11_spread_3 : decode cX11_spread 3 = .ok (.invokestatic 93, 3) := by decide +kernel
theorem dX11_spread_6 : decode cX11_spread 6 = .ok (.ifCond .eq 24, 3) := by decide +kernel
theorem dX11_spread_9 : decode cX11_spread 9 = .ok (.iload_n 2, 1) := by decide +kernel
theorem dX11_spread_10 : decode cX11_spread 10 = .ok (.iconst 0, 1) := by decide +kernel
theorem dX11_spread_11 : decode cX11_spread 11 = .ok (.iconst 3, 1) := by decide +kernel
theorem dX11_spread_12 : decode cX11_spread 12 = .ok (.invokestatic 93, 3) := by decide +kernel
theorem dX11_spread_15 : decode cX11_spread 15 = .ok (.ifCond .eq 15, 3) := by decide +kernel
theorem dX11_spread_18 : decode cX11_spread 18 = .ok (.aload_n 0, 1) := by decide +kernel
theorem dX11_spread_19 : decode cX11_spread 19 = .ok (.getfield 82, 3) := by decide +kernel
theorem dX11_spread_22 : decode cX11_spread 22 = .ok (.getfield 286, 3) := by decide +kernel
theorem dX11_spread_25 : decode cX11_spread 25 = .ok (.iload_n 1, 1) := by decide +kernel
theorem dX11_spread_26 : decode cX11_spread 26 = .ok (.iaload, 1) := by decide +kernel
theorem dX11_spread_27 : decode cX11_spread 27 = .ok (.ifCond .ne 7, 3) := by decide +kernel
theorem dX11_spread_30 : decode cX11_spread 30 = .ok (.ldc_w 289, 3) := by decide +kernel
theorem dX11_spread_33 : decode cX11_spread 33 = .ok (.ireturn, 1) := by decide +kernel
theorem dX11_thing_0 : decode cX11_thing 0 = .ok (.aload_n 0, 1) := by decide +kernel
theorem dX11_thing_1 : decode cX11_thing 1 = .ok (.iload_n 1, 1) := by decide +kernel
theorem dX11_thing_2 : decode cX11_thing 2 = .ok (.invokevirtual 108, 3) := by decide +kernel
theorem dX11_thing_5 : decode cX11_thing 5 = .ok (.astore 4, 2) := by decide +kernel
theorem dX11_thing_7 : decode cX11_thing 7 = .ok (.aload 4, 2) := by decide +kernel
theorem dX11_thing_9 : decode cX11_thing 9 = .ok (.ifnull 21, 3) := by decide +kernel
theorem dX11_thing_30 : decode cX11_thing 30 = .ok (.iconst (-1), 1) := by decide +kernel
theorem dX11_thing_31 : decode cX11_thing 31 = .ok (.ireturn, 1) := by decide +kernel
theorem dX11_undo_0 : decode cX11_undo 0 = .ok (.aload_n 0, 1) := by decide +kernel
theorem dX11_undo_1 : decode cX11_undo 1 = .ok (.getfield 68, 3) := by decide +kernel
theorem dX11_undo_4 : decode cX11_undo 4 = .ok (.ifCond .ne 5, 3) := by decide +kernel
theorem dX11_undo_7 : decode cX11_undo 7 = .ok (.iconst 0, 1) := by decide +kernel
theorem dX11_undo_8 : decode cX11_undo 8 = .ok (.ireturn, 1) := by decide +kernel
theorem dX11_wrong_0 : decode cX11_wrong 0 = .ok (.iload_n 1, 1) := by decide +kernel
theorem dX11_wrong_1 : decode cX11_wrong 1 = .ok (.iconst (-1), 1) := by decide +kernel
theorem dX11_wrong_2 : decode cX11_wrong 2 = .ok (.if_icmp .ne 11, 3) := by decide +kernel
theorem dX11_wrong_5 : decode cX11_wrong 5 = .ok (.aload_n 0, 1) := by decide +kernel
theorem dX11_wrong_6 : decode cX11_wrong 6 = .ok (.getfield 89, 3) := by decide +kernel
theorem dX11_wrong_9 : decode cX11_wrong 9 = .ok (.getfield 314, 3) := by decide +kernel
theorem dX11_wrong_12 : decode cX11_wrong 12 = .ok (.ireturn, 1) := by decide +kernel
theorem dX11_wrong_13 : decode cX11_wrong 13 = .ok (.iload_n 1, 1) := by decide +kernel
theorem dX11_wrong_14 : decode cX11_wrong 14 = .ok (.iconst 0, 1) := by decide +kernel
theorem dX11_wrong_15 : decode cX11_wrong 15 = .ok (.aload_n 0, 1) := by decide +kernel
theorem dX11_wrong_16 : decode cX11_wrong 16 = .ok (.getfield 89, 3) := by decide +kernel
theorem dX11_wrong_19 : decode cX11_wrong 19 = .ok (.getfield 314, 3) := by decide +kernel
theorem dX11_wrong_22 : decode cX11_wrong 22 = .ok (.iconst 1, 1) := by decide +kernel
theorem dX11_wrong_23 : decode cX11_wrong 23 = .ok (.isub, 1) := by decide +kernel
theorem dX11_wrong_24 : decode cX11_wrong 24 = .ok (.invokestatic 93, 3) := by decide +kernel
theorem dX11_wrong_27 : decode cX11_wrong 27 = .ok (.ifCond .eq 15, 3) := by decide +kernel
theorem dX11_wrong_42 : decode cX11_wrong 42 = .ok (.iconst (-1), 1) := by decide +kernel
theorem dX11_wrong_43 : decode cX11_wrong 43 = .ok (.ireturn, 1) := by decide +kernel
theorem dX7_gap_0 : decode cX7_gap 0 = .ok (.aload_n 0, 1) := by decide +kernel
theorem dX7_gap_1 : decode cX7_gap 1 = .ok (.getfield 22, 3) := by decide +kernel
theorem dX7_gap_4 : decode cX7_gap 4 = .ok (.iload_n 1, 1) := by decide +kernel
theorem dX7_gap_5 : decode cX7_gap 5 = .ok (.bipush 11, 2) := by decide +kernel
theorem dX7_gap_7 : decode cX7_gap 7 = .ok (.imul, 1) := by decide +kernel
theorem dX7_gap_8 : decode cX7_gap 8 = .ok (.iload_n 2, 1) := by decide +kernel
theorem dX7_gap_9 : decode cX7_gap 9 = .ok (.iadd, 1) := by decide +kernel
theorem dX7_gap_10 : decode cX7_gap 10 = .ok (.iaload, 1) := by decide +kernel
theorem dX7_gap_11 : decode cX7_gap 11 = .ok (.ireturn, 1) := by decide +kernel
set_option maxHeartbeats 4000000 in
set_option maxRecDepth 100000 in
theorem c_X11_homeAt (l : Launch) (D : va_G) (cy : Nat → ClassId) (a : Nat → Nat) (i : Nat → Int32) (r : Nat → Nat → Int32) (q : Nat → Option Nat) (p0 : Int32) (hf : xZ i) (hg : xZr r) : Met l yX11_homeAt (Cond.code yX11_homeAt cX11_homeAt 2 (some (.object "DepositJudge$Home")) :: gT) { frames := 2, cells := 0, slots := 0, locals := 46 } (va_Pc [.ref (a 0), .int p0] (rP D cy (xW cy a i r q (a 20) (a 12)))) (va_Sq (fun r => r = none)) 0 0 (fun _ => False) := by
  refine Met.ofQ (cc := cX11_homeAt) (maxL := 2) (ret := (some (.object "DepositJudge$Home"))) (by decide) rfl ?_
  intro p e s m args below meth c s₁ B hml hv Q hQ
  obtain ⟨rfl, hP, hK⟩ := hv
  have hx := B.exec
  have hb := B.bytes
  have hr := B.returns
  have hlocks := B.notSynchronized
  have hT : ∀ w ∈ gT, w.before _ s = true := fun w h => atoms_spec (ws := (Cond.code yX11_homeAt cX11_homeAt 2 (some (.object "DepositJudge$Home")) :: gT)) B.pre w (List.mem_cons_of_mem _ h)
  have hown : s.vm.findClass RX11 = some m.cls := findClass_of_methodNamed B.named
  have hl := lv_entry ([.ref (a 0), .int p0]) (n := 2) (Nat.le_of_ble_eq_true rfl)
  rw [lg_entry_eq]
  generalize (lg_sl ([.ref (a 0), .int p0]) ++ List.replicate (2 - (lg_sl ([.ref (a 0), .int p0])).length) Slot.unset).toArray = ls at hl ⊢
  have hl : lv_has ls 2 [(0, .ref (a 0)), (1, .int p0)] := hl
  refine lv_iload_n hx hb dX11_homeAt_0 rfl (lv_at hl 1 rfl) ?_
  refine lv_iconst (v := 0) hx hb dX11_homeAt_1 (by decide) ?_
  refine lv_aload_n hx hb dX11_homeAt_2 rfl (lv_at hl 0 rfl) ?_
  refine va_get (D := D) (ci := 11) (v := .int 0) (C := RX11) (T := TX11) (N := 14) hx hb hT iX11 hown hK hP 0 rfl rfl 2 (by decide) (hT _ t_39) (fun _ h9 => h9) (congrArg (fun z => some (Value.int z)) (hf.1 0 (by decide) (by decide))) dX11_homeAt_3 ?_
  refine lv_iconst (v := 1) hx hb dX11_homeAt_6 (by decide) ?_
  refine lv_isub hx hb dX11_homeAt_7 ?_
  refine lv_topi (fun v_1 ev_1 => ?_)
  obtain rfl : v_1 = (-1) := ev_1.trans (by decide)
  refine vp_callSi (W.runS (As := [.int p0, .int 0, .int (-1)]) (rest := []) ⟨hx, hb, hml, hown, hT⟩ (c_X11_within l p0 0 (-1)) (va_cwS 3 hT (gS t_1 t_3 t_4 t_2) rfl rfl rfl (by decide +kernel) ⟨Nat.le_of_ble_eq_true rfl, Nat.le_of_ble_eq_true rfl⟩) preT rfl rfl hl.1 rfl (lv_room (Nat.le_of_ble_eq_true rfl)) dX11_homeAt_8 ⟨Nat.le_of_ble_eq_true rfl, Nat.le_of_ble_eq_true rfl⟩) (fun r_2 hr_2 => ?_)
  have hr_2 : BR r_2 (0 ≤ p0.toInt ∧ p0.toInt ≤ (-1)) 1 0 := hr_2
  rcases hr_2 with ⟨rfl, h_3⟩ | ⟨rfl, h_3⟩
  · exact absurd h_3 (by omega)
  · skip
    refine lv_if_eq (tgt := 23) hx hb dX11_homeAt_11 (by decide) (fun c_4 => ?_) (fun c_4 => absurd (by decide) c_4)
    refine lv_null hx hb dX11_homeAt_23 ?_
    subst hQ
    exact W.aret (v := .null) (rt := .object "DepositJudge$Home") hx hb hr (Or.inl ⟨_, rfl⟩) (Or.inl rfl) (fun t ht hW => ⟨none, rfl, rfl, ht⟩) (fun q hq => absurd hq List.not_mem_nil) dX11_homeAt_24
set_option maxHeartbeats 4000000 in
set_option maxRecDepth 100000 in
theorem c_X11_isClaim (l : Launch) (D : va_G) (cy : Nat → ClassId) (a : Nat → Nat) (i : Nat → Int32) (r : Nat → Nat → Int32) (q : Nat → Option Nat) (p0 : Int32) (hf : xZ i) (hg : xZr r) : Met l yX11_isClaim (Cond.code yX11_isClaim cX11_isClaim 2 (some .boolean) :: gT) { frames := 2, cells := 0, slots := 0, locals := 46 } (va_Pc [.ref (a 0), .int p0] (rP D cy (xW cy a i r q (a 20) (a 12)))) (vp_Si (fun z => z = 0)) 0 0 (fun _ => False) := by
  refine Met.ofQ (cc := cX11_isClaim) (maxL := 2) (ret := (some .boolean)) (by decide) rfl ?_
  intro p e s m args below meth c s₁ B hml hv Q hQ
  obtain ⟨rfl, hP, hK⟩ := hv
  have hx := B.exec
  have hb := B.bytes
  have hr := B.returns
  have hlocks := B.notSynchronized
  have hT : ∀ w ∈ gT, w.before _ s = true := fun w h => atoms_spec (ws := (Cond.code yX11_isClaim cX11_isClaim 2 (some .boolean) :: gT)) B.pre w (List.mem_cons_of_mem _ h)
  have hown : s.vm.findClass RX11 = some m.cls := findClass_of_methodNamed B.named
  have hl := lv_entry ([.ref (a 0), .int p0]) (n := 2) (Nat.le_of_ble_eq_true rfl)
  rw [lg_entry_eq]
  generalize (lg_sl ([.ref (a 0), .int p0]) ++ List.replicate (2 - (lg_sl ([.ref (a 0), .int p0])).length) Slot.unset).toArray = ls at hl ⊢
  have hl : lv_has ls 2 [(0, .ref (a 0)), (1, .int p0)] := hl
  refine lv_iload_n hx hb dX11_isClaim_0 rfl (lv_at hl 1 rfl) ?_
  refine lv_iconst (v := 0) hx hb dX11_isClaim_1 (by decide) ?_
  refine lv_aload_n hx hb dX11_isClaim_2 rfl (lv_at hl 0 rfl) ?_
  refine va_get (D := D) (ci := 11) (v := .ref (a 29)) (C := RX11) (T := TX11) (N := 14) hx hb hT iX11 hown hK hP 0 rfl rfl 8 (by decide) (hT _ t_40) (fun _ h9 => h9) rfl dX11_isClaim_3 ?_
  refine va_get (D := D) (ci := 1) (v := .int 0) (C := RX1) (T := TX1) (N := 12) hx hb hT iX1 hown hK hP 29 rfl rfl 0 (by decide) (hT _ t_41) (fun _ h9 => h9) (congrArg (fun z => some (Value.int z)) (hf.1 10 (by decide) (by decide))) dX11_isClaim_6 ?_
  refine lv_iconst (v := 1) hx hb dX11_isClaim_9 (by decide) ?_
  refine lv_isub hx hb dX11_isClaim_10 ?_
  refine lv_topi (fun v_1 ev_1 => ?_)
  obtain rfl : v_1 = (-1) := ev_1.trans (by decide)
  refine vp_callSi (W.runS (As := [.int p0, .int 0, .int (-1)]) (rest := []) ⟨hx, hb, hml, hown, hT⟩ (c_X11_within l p0 0 (-1)) (va_cwS 3 hT (gS t_1 t_3 t_4 t_2) rfl rfl rfl (by decide +kernel) ⟨Nat.le_of_ble_eq_true rfl, Nat.le_of_ble_eq_true rfl⟩) preT rfl rfl hl.1 rfl (lv_room (Nat.le_of_ble_eq_true rfl)) dX11_isClaim_11 ⟨Nat.le_of_ble_eq_true rfl, Nat.le_of_ble_eq_true rfl⟩) (fun r_2 hr_2 => ?_)
  have hr_2 : BR r_2 (0 ≤ p0.toInt ∧ p0.toInt ≤ (-1)) 1 0 := hr_2
  rcases hr_2 with ⟨rfl, h_3⟩ | ⟨rfl, h_3⟩
  · exact absurd h_3 (by omega)
  · skip
    subst hQ
    exact W.zret hx hb hr rfl (fun t ht hW => ⟨_, rfl, rfl, ht⟩) (fun q hq => absurd hq List.not_mem_nil) dX11_isClaim_14
set_option maxHeartbeats 4000000 in
set_option maxRecDepth 100000 in
theorem c_X11_part (l : Launch) (D : va_G) (cy : Nat → ClassId) (a : Nat → Nat) (i : Nat → Int32) (r : Nat → Nat → Int32) (q : Nat → Option Nat) (p0 p1 p2 : Int32) (hf : xZ i) (hg : xZr r) : Met l yX11_part (Cond.code yX11_part cX11_part 5 (some .boolean) :: gT) { frames := 3, cells := 0, slots := 0, locals := 67 } (va_Pc [.ref (a 0), .int p0, .int p1, .int p2] (rP D cy (xW cy a i r q (a 20) (a 12)))) (vp_Si (fun z => z = 0)) 0 0 (fun _ => False) := by
  refine Met.ofQ (cc := cX11_part) (maxL := 5) (ret := (some .boolean)) (by decide) rfl ?_
  intro p e s m args below meth c s₁ B hml hv Q hQ
  obtain ⟨rfl, hP, hK⟩ := hv
  have hx := B.exec
  have hb := B.bytes
  have hr := B.returns
  have hlocks := B.notSynchronized
  have hT : ∀ w ∈ gT, w.before _ s = true := fun w h => atoms_spec (ws := (Cond.code yX11_part cX11_part 5 (some .boolean) :: gT)) B.pre w (List.mem_cons_of_mem _ h)
  have hown : s.vm.findClass RX11 = some m.cls := findClass_of_methodNamed B.named
  have hl := lv_entry ([.ref (a 0), .int p0, .int p1, .int p2]) (n := 5) (Nat.le_of_ble_eq_true rfl)
  rw [lg_entry_eq]
  generalize (lg_sl ([.ref (a 0), .int p0, .int p1, .int p2]) ++ List.replicate (5 - (lg_sl ([.ref (a 0), .int p0, .int p1, .int p2])).length) Slot.unset).toArray = ls at hl ⊢
  have hl : lv_has ls 5 [(0, .ref (a 0)), (1, .int p0), (2, .int p1), (3, .int p2)] := hl
  refine lv_aload_n hx hb dX11_part_0 rfl (lv_at hl 0 rfl) ?_
  refine lv_iload_n hx hb dX11_part_1 rfl (lv_at hl 1 rfl) ?_
  refine va_csq (W.runV (As := [.int p0]) (rest := []) ⟨hx, hb, hml, hown, hT⟩ (c_X11_homeAt l D cy a i r q p0 hf hg) (cwV 1 hT (gV t_42 t_43 t_44 t_45 t_2) rfl rfl rfl (by decide +kernel) ⟨Nat.le_of_ble_eq_true rfl, Nat.le_of_ble_eq_true rfl⟩) (rP_v hP hK (va_recv hK hP (ci := 11) (q0 := 0) rfl rfl)) rfl rfl hl.1 rfl (lv_room (Nat.le_of_ble_eq_true rfl)) dX11_part_2 ⟨Nat.le_of_ble_eq_true rfl, Nat.le_of_ble_eq_true rfl⟩) (fun r_1 hr_1 => ?_)
  subst hr_1
  refine W.eq (g2 := F0 m 5 ls [.null]) rfl ?_
  refine lv_astoreN (lv' := [(4, .null), (0, .ref (a 0)), (1, .int p0), (2, .int p1), (3, .int p2)]) hx hb dX11_part_5 hl (by decide) rfl (fun ls hl => ?_)
  refine lv_aloadN hx hb dX11_part_7 (lv_at hl 0 rfl) ?_
  refine lv_ifnullN (tgt := 37) hx hb dX11_part_9 (by decide) ?_
  refine lv_iconst (v := 0) hx hb dX11_part_37 (by decide) ?_
  subst hQ
  exact W.zret hx hb hr rfl (fun t ht hW => ⟨_, rfl, rfl, ht⟩) (fun q hq => absurd hq List.not_mem_nil) dX11_part_38
set_option maxHeartbeats 4000000 in
set_option maxRecDepth 100000 in
theorem c_X11_owes (l : Launch) (D : va_G) (cy : Nat → ClassId) (a : Nat → Nat) (i : Nat → Int32) (r : Nat → Nat → Int32) (q : Nat → Option Nat) (p0 p1 p2 : Int32) (hf : xZ i) (hg : xZr r) : Met l yX11_owes (Cond.code yX11_owes cX11_owes 5 (some .boolean) :: gT) { frames := 3, cells := 0, slots := 0, locals := 67 } (va_Pc [.ref (a 0), .int p0, .int p1, .int p2] (rP D cy (xW cy a i r q (a 20) (a 12)))) (vp_Si (fun z => z = 0)) 0 0 (fun _ => False) := by
  refine Met.ofQ (cc := cX11_owes) (maxL := 5) (ret := (some .boolean)) (by decide) rfl ?_
  intro p e s m args below meth c s₁ B hml hv Q hQ
  obtain ⟨rfl, hP, hK⟩ := hv
  have hx := B.exec
  have hb := B.bytes
  have hr := B.returns
  have hlocks := B.notSynchronized
  have hT : ∀ w ∈ gT, w.before _ s = true := fun w h => atoms_spec (ws := (Cond.code yX11_owes cX11_owes 5 (some .boolean) :: gT)) B.pre w (List.mem_cons_of_mem _ h)
  have hown : s.vm.findClass RX11 = some m.cls := findClass_of_methodNamed B.named
  have hl := lv_entry ([.ref (a 0), .int p0, .int p1, .int p2]) (n := 5) (Nat.le_of_ble_eq_true rfl)
  rw [lg_entry_eq]
  generalize (lg_sl ([.ref (a 0), .int p0, .int p1, .int p2]) ++ List.replicate (5 - (lg_sl ([.ref (a 0), .int p0, .int p1, .int p2])).length) Slot.unset).toArray = ls at hl ⊢
  have hl : lv_has ls 5 [(0, .ref (a 0)), (1, .int p0), (2, .int p1), (3, .int p2)] := hl
  refine lv_aload_n hx hb dX11_owes_0 rfl (lv_at hl 0 rfl) ?_
  refine lv_iload_n hx hb dX11_owes_1 rfl (lv_at hl 1 rfl) ?_
  refine va_csq (W.runV (As := [.int p0]) (rest := []) ⟨hx, hb, hml, hown, hT⟩ (c_X11_homeAt l D cy a i r q p0 hf hg) (cwV 1 hT (gV t_42 t_43 t_44 t_45 t_2) rfl rfl rfl (by decide +kernel) ⟨Nat.le_of_ble_eq_true rfl, Nat.le_of_ble_eq_true rfl⟩) (rP_v hP hK (va_recv hK hP (ci := 11) (q0 := 0) rfl rfl)) rfl rfl hl.1 rfl (lv_room (Nat.le_of_ble_eq_true rfl)) dX11_owes_2 ⟨Nat.le_of_ble_eq_true rfl, Nat.le_of_ble_eq_true rfl⟩) (fun r_1 hr_1 => ?_)
  subst hr_1
  refine W.eq (g2 := F0 m 5 ls [.null]) rfl ?_
  refine lv_astoreN (lv' := [(4, .null), (0, .ref (a 0)), (1, .int p0), (2, .int p1), (3, .int p2)]) hx hb dX11_owes_5 hl (by decide) rfl (fun ls hl => ?_)
  refine lv_aloadN hx hb dX11_owes_7 (lv_at hl 0 rfl) ?_
  refine lv_ifnullN (tgt := 31) hx hb dX11_owes_9 (by decide) ?_
  refine lv_iconst (v := 0) hx hb dX11_owes_31 (by decide) ?_
  subst hQ
  exact W.zret hx hb hr rfl (fun t ht hW => ⟨_, rfl, rfl, ht⟩) (fun q hq => absurd hq List.not_mem_nil) dX11_owes_32
set_option maxHeartbeats 4000000 in
set_option maxRecDepth 100000 in
theorem c_X11_first (l : Launch) (D : va_G) (cy : Nat → ClassId) (a : Nat → Nat) (i : Nat → Int32) (r : Nat → Nat → Int32) (q : Nat → Option Nat) (p0 p1 p2 p3 p4 : Int32) (hf : xZ i) (hg : xZr r) : Met l yX11_first (Cond.code yX11_first cX11_first 7 (some .int) :: gT) { frames := 3, cells := 0, slots := 0, locals := 67 } (va_Pc [.ref (a 0), .int p0, .int p1, .int p2, .int p3, .int p4] (rP D cy (xW cy a i r q (a 20) (a 12)))) (vp_Si (fun z => z = (-1))) 0 0 (fun _ => False) := by
  refine Met.ofQ (cc := cX11_first) (maxL := 7) (ret := (some .int)) (by decide) rfl ?_
  intro p e s m args below meth c s₁ B hml hv Q hQ
  obtain ⟨rfl, hP, hK⟩ := hv
  have hx := B.exec
  have hb := B.bytes
  have hr := B.returns
  have hlocks := B.notSynchronized
  have hT : ∀ w ∈ gT, w.before _ s = true := fun w h => atoms_spec (ws := (Cond.code yX11_first cX11_first 7 (some .int) :: gT)) B.pre w (List.mem_cons_of_mem _ h)
  have hown : s.vm.findClass RX11 = some m.cls := findClass_of_methodNamed B.named
  have hl := lv_entry ([.ref (a 0), .int p0, .int p1, .int p2, .int p3, .int p4]) (n := 7) (Nat.le_of_ble_eq_true rfl)
  rw [lg_entry_eq]
  generalize (lg_sl ([.ref (a 0), .int p0, .int p1, .int p2, .int p3, .int p4]) ++ List.replicate (7 - (lg_sl ([.ref (a 0), .int p0, .int p1, .int p2, .int p3, .int p4])).length) Slot.unset).toArray = ls at hl ⊢
  have hl : lv_has ls 7 [(0, .ref (a 0)), (1, .int p0), (2, .int p1), (3, .int p2), (4, .int p3), (5, .int p4)] := hl
  refine lv_aload_n hx hb dX11_first_0 rfl (lv_at hl 0 rfl) ?_
  refine lv_iload_n hx hb dX11_first_1 rfl (lv_at hl 1 rfl) ?_
  refine va_csq (W.runV (As := [.int p0]) (rest := []) ⟨hx, hb, hml, hown, hT⟩ (c_X11_homeAt l D cy a i r q p0 hf hg) (cwV 1 hT (gV t_42 t_43 t_44 t_45 t_2) rfl rfl rfl (by decide +kernel) ⟨Nat.le_of_ble_eq_true rfl, Nat.le_of_ble_eq_true rfl⟩) (rP_v hP hK (va_recv hK hP (ci := 11) (q0 := 0) rfl rfl)) rfl rfl hl.1 rfl (lv_room (Nat.le_of_ble_eq_true rfl)) dX11_first_2 ⟨Nat.le_of_ble_eq_true rfl, Nat.le_of_ble_eq_true rfl⟩) (fun r_1 hr_1 => ?_)
  subst hr_1
  refine W.eq (g2 := F0 m 5 ls [.null]) rfl ?_
  refine lv_astoreN (lv' := [(6, .null), (0, .ref (a 0)), (1, .int p0), (2, .int p1), (3, .int p2), (4, .int p3), (5, .int p4)]) hx hb dX11_first_5 hl (by decide) rfl (fun ls hl => ?_)
  refine lv_aloadN hx hb dX11_first_7 (lv_at hl 0 rfl) ?_
  refine lv_ifnullN (tgt := 34) hx hb dX11_first_9 (by decide) ?_
  refine lv_iconst (v := (-1)) hx hb dX11_first_34 (by decide) ?_
  subst hQ
  exact W.iret (v := (-1)) hx hb hr (fun t ht hW => ⟨_, rfl, rfl, ht⟩) (fun q hq => absurd hq List.not_mem_nil) dX11_first_35
set_option maxHeartbeats 4000000 in
set_option maxRecDepth 100000 in
theorem c_X11_last (l : Launch) (D : va_G) (cy : Nat → ClassId) (a : Nat → Nat) (i : Nat → Int32) (r : Nat → Nat → Int32) (q : Nat → Option Nat) (p0 p1 p2 p3 : Int32) (hf : xZ i) (hg : xZr r) : Met l yX11_last (Cond.code yX11_last cX11_last 6 (some .int) :: gT) { frames := 3, cells := 0, slots := 0, locals := 67 } (va_Pc [.ref (a 0), .int p0, .int p1, .int p2, .int p3] (rP D cy (xW cy a i r q (a 20) (a 12)))) (vp_Si (fun z => z = (-1))) 0 0 (fun _ => False) := by
  refine Met.ofQ (cc := cX11_last) (maxL := 6) (ret := (some .int)) (by decide) rfl ?_
  intro p e s m args below meth c s₁ B hml hv Q hQ
  obtain ⟨rfl, hP, hK⟩ := hv
  have hx := B.exec
  have hb := B.bytes
  have hr := B.returns
  have hlocks := B.notSynchronized
  have hT : ∀ w ∈ gT, w.before _ s = true := fun w h => atoms_spec (ws := (Cond.code yX11_last cX11_last 6 (some .int) :: gT)) B.pre w (List.mem_cons_of_mem _ h)
  have hown : s.vm.findClass RX11 = some m.cls := findClass_of_methodNamed B.named
  have hl := lv_entry ([.ref (a 0), .int p0, .int p1, .int p2, .int p3]) (n := 6) (Nat.le_of_ble_eq_true rfl)
  rw [lg_entry_eq]
  generalize (lg_sl ([.ref (a 0), .int p0, .int p1, .int p2, .int p3]) ++ List.replicate (6 - (lg_sl ([.ref (a 0), .int p0, .int p1, .int p2, .int p3])).length) Slot.unset).toArray = ls at hl ⊢
  have hl : lv_has ls 6 [(0, .ref (a 0)), (1, .int p0), (2, .int p1), (3, .int p2), (4, .int p3)] := hl
  refine lv_aload_n hx hb dX11_last_0 rfl (lv_at hl 0 rfl) ?_
  refine lv_iload_n hx hb dX11_last_1 rfl (lv_at hl 1 rfl) ?_
  refine va_csq (W.runV (As := [.int p0]) (rest := []) ⟨hx, hb, hml, hown, hT⟩ (c_X11_homeAt l D cy a i r q p0 hf hg) (cwV 1 hT (gV t_42 t_43 t_44 t_45 t_2) rfl rfl rfl (by decide +kernel) ⟨Nat.le_of_ble_eq_true rfl, Nat.le_of_ble_eq_true rfl⟩) (rP_v hP hK (va_recv hK hP (ci := 11) (q0 := 0) rfl rfl)) rfl rfl hl.1 rfl (lv_room (Nat.le_of_ble_eq_true rfl)) dX11_last_2 ⟨Nat.le_of_ble_eq_true rfl, Nat.le_of_ble_eq_true rfl⟩) (fun r_1 hr_1 => ?_)
  subst hr_1
  refine W.eq (g2 := F0 m 5 ls [.null]) rfl ?_
  refine lv_astoreN (lv' := [(5, .null), (0, .ref (a 0)), (1, .int p0), (2, .int p1), (3, .int p2), (4, .int p3)]) hx hb dX11_last_5 hl (by decide) rfl (fun ls hl => ?_)
  refine lv_aloadN hx hb dX11_last_7 (lv_at hl 0 rfl) ?_
  refine lv_ifnullN (tgt := 22) hx hb dX11_last_9 (by decide) ?_
  refine lv_iconst (v := (-1)) hx hb dX11_last_22 (by decide) ?_
  subst hQ
  exact W.iret (v := (-1)) hx hb hr (fun t ht hW => ⟨_, rfl, rfl, ht⟩) (fun q hq => absurd hq List.not_mem_nil) dX11_last_23
set_option maxHeartbeats 4000000 in
set_option maxRecDepth 100000 in
theorem c_X11_law (l : Launch) (D : va_G) (cy : Nat → ClassId) (a : Nat → Nat) (i : Nat → Int32) (r : Nat → Nat → Int32) (q : Nat → Option Nat) (p0 : Int32) (hf : xZ i) (hg : xZr r) : Met l yX11_law (Cond.code yX11_law cX11_law 4 (some .int) :: gT) { frames := 2, cells := 0, slots := 0, locals := 46 } (va_Pc [.ref (a 0), .int p0] (rP D cy (xW cy a i r q (a 20) (a 12)))) (vp_Si (fun z => z = (-1))) 0 0 (fun _ => False) := by
  refine Met.ofQ (cc := cX11_law) (maxL := 4) (ret := (some .int)) (by decide) rfl ?_
  intro p e s m args below meth c s₁ B hml hv Q hQ
  obtain ⟨rfl, hP, hK⟩ := hv
  have hx := B.exec
  have hb := B.bytes
  have hr := B.returns
  have hlocks := B.notSynchronized
  have hT : ∀ w ∈ gT, w.before _ s = true := fun w h => atoms_spec (ws := (Cond.code yX11_law cX11_law 4 (some .int) :: gT)) B.pre w (List.mem_cons_of_mem _ h)
  have hown : s.vm.findClass RX11 = some m.cls := findClass_of_methodNamed B.named
  have hl := lv_entry ([.ref (a 0), .int p0]) (n := 4) (Nat.le_of_ble_eq_true rfl)
  rw [lg_entry_eq]
  generalize (lg_sl ([.ref (a 0), .int p0]) ++ List.replicate (4 - (lg_sl ([.ref (a 0), .int p0])).length) Slot.unset).toArray = ls at hl ⊢
  have hl : lv_has ls 4 [(0, .ref (a 0)), (1, .int p0)] := hl
  refine lv_iload_n hx hb dX11_law_0 rfl (lv_at hl 1 rfl) ?_
  refine lv_iconst (v := 1) hx hb dX11_law_1 (by decide) ?_
  refine lv_sipush (v := 200) hx hb dX11_law_2 (by decide) ?_
  refine vp_callSi (W.runS (As := [.int p0, .int 1, .int 200]) (rest := []) ⟨hx, hb, hml, hown, hT⟩ (c_X11_within l p0 1 200) (va_cwS 3 hT (gS t_1 t_3 t_4 t_2) rfl rfl rfl (by decide +kernel) ⟨Nat.le_of_ble_eq_true rfl, Nat.le_of_ble_eq_true rfl⟩) preT rfl rfl hl.1 rfl (lv_room (Nat.le_of_ble_eq_true rfl)) dX11_law_5 ⟨Nat.le_of_ble_eq_true rfl, Nat.le_of_ble_eq_true rfl⟩) (fun r_1 hr_1 => ?_)
  have hr_1 : BR r_1 (1 ≤ p0.toInt ∧ p0.toInt ≤ 200) 1 0 := hr_1
  rcases hr_1 with ⟨rfl, h_2⟩ | ⟨rfl, h_2⟩
  · skip
    refine lv_if_eq (tgt := 22) hx hb dX11_law_8 (by decide) (fun c_3 => absurd c_3 (by decide)) (fun c_3 => ?_)
    refine lv_iload_n hx hb dX11_law_11 rfl (lv_at hl 1 rfl) ?_
    refine lv_aload_n hx hb dX11_law_12 rfl (lv_at hl 0 rfl) ?_
    refine va_get (D := D) (ci := 11) (v := .ref (a 8)) (C := RX11) (T := TX11) (N := 14) hx hb hT iX11 hown hK hP 0 rfl rfl 4 (by decide) (hT _ t_46) (fun _ h9 => h9) rfl dX11_law_13 ?_
    refine va_get (D := D) (ci := 9) (v := .int 0) (C := RX9) (T := TX9) (N := 2) hx hb hT iX9 hown hK hP 8 rfl rfl 1 (by decide) (hT _ t_47) (fun _ h9 => h9) (congrArg (fun z => some (Value.int z)) (hf.1 2 (by decide) (by decide))) dX11_law_16 ?_
    refine lv_icmp_le (tgt := 24) hx hb dX11_law_19 (by decide) (fun c_4 => by have c_4 : p0.toInt ≤ 0 := b_le c_4; omega) (fun c_4 => ?_)
    have c_4 : 0 < p0.toInt := b_nle c_4
    refine lv_iconst (v := (-1)) hx hb dX11_law_22 (by decide) ?_
    subst hQ
    exact W.iret (v := (-1)) hx hb hr (fun t ht hW => ⟨_, rfl, rfl, ht⟩) (fun q hq => absurd hq List.not_mem_nil) dX11_law_23
  · skip
    refine lv_if_eq (tgt := 22) hx hb dX11_law_8 (by decide) (fun c_5 => ?_) (fun c_5 => absurd (by decide) c_5)
    refine lv_iconst (v := (-1)) hx hb dX11_law_22 (by decide) ?_
    subst hQ
    exact W.iret (v := (-1)) hx hb hr (fun t ht hW => ⟨_, rfl, rfl, ht⟩) (fun q hq => absurd hq List.not_mem_nil) dX11_law_23
set_option maxHeartbeats 4000000 in
set_option maxRecDepth 100000 in
theorem c_X11_thing (l : Launch) (D : va_G) (cy : Nat → ClassId) (a : Nat → Nat) (i : Nat → Int32) (r : Nat → Nat → Int32) (q : Nat → Option Nat) (p0 p1 p2 : Int32) (hf : xZ i) (hg : xZr r) : Met l yX11_thing (Cond.code yX11_thing cX11_thing 5 (some .int) :: gT) { frames := 3, cells := 0, slots := 0, locals := 67 } (va_Pc [.ref (a 0), .int p0, .int p1, .int p2] (rP D cy (xW cy a i r q (a 20) (a 12)))) (vp_Si (fun z => z = (-1))) 0 0 (fun _ => False) := by
  refine Met.ofQ (cc := cX11_thing) (maxL := 5) (ret := (some .int)) (by decide) rfl ?_
  intro p e s m args below meth c s₁ B hml hv Q hQ
  obtain ⟨rfl, hP, hK⟩ := hv
  have hx := B.exec
  have hb := B.bytes
  have hr := B.returns
  have hlocks := B.notSynchronized
  have hT : ∀ w ∈ gT, w.before _ s = true := fun w h => atoms_spec (ws := (Cond.code yX11_thing cX11_thing 5 (some .int) :: gT)) B.pre w (List.mem_cons_of_mem _ h)
  have hown : s.vm.findClass RX11 = some m.cls := findClass_of_methodNamed B.named
  have hl := lv_entry ([.ref (a 0), .int p0, .int p1, .int p2]) (n := 5) (Nat.le_of_ble_eq_true rfl)
  rw [lg_entry_eq]
  generalize (lg_sl ([.ref (a 0), .int p0, .int p1, .int p2]) ++ List.replicate (5 - (lg_sl ([.ref (a 0), .int p0, .int p1, .int p2])).length) Slot.unset).toArray = ls at hl ⊢
  have hl : lv_has ls 5 [(0, .ref (a 0)), (1, .int p0), (2, .int p1), (3, .int p2)] := hl
  refine lv_aload_n hx hb dX11_thing_0 rfl (lv_at hl 0 rfl) ?_
  refine lv_iload_n hx hb dX11_thing_1 rfl (lv_at hl 1 rfl) ?_
  refine va_csq (W.runV (As := [.int p0]) (rest := []) ⟨hx, hb, hml, hown, hT⟩ (c_X11_homeAt l D cy a i r q p0 hf hg) (cwV 1 hT (gV t_42 t_43 t_44 t_45 t_2) rfl rfl rfl (by decide +kernel) ⟨Nat.le_of_ble_eq_true rfl, Nat.le_of_ble_eq_true rfl⟩) (rP_v hP hK (va_recv hK hP (ci := 11) (q0 := 0) rfl rfl)) rfl rfl hl.1 rfl (lv_room (Nat.le_of_ble_eq_true rfl)) dX11_thing_2 ⟨Nat.le_of_ble_eq_true rfl, Nat.le_of_ble_eq_true rfl⟩) (fun r_1 hr_1 => ?_)
  subst hr_1
  refine W.eq (g2 := F0 m 5 ls [.null]) rfl ?_
  refine lv_astoreN (lv' := [(4, .null), (0, .ref (a 0)), (1, .int p0), (2, .int p1), (3, .int p2)]) hx hb dX11_thing_5 hl (by decide) rfl (fun ls hl => ?_)
  refine lv_aloadN hx hb dX11_thing_7 (lv_at hl 0 rfl) ?_
  refine lv_ifnullN (tgt := 30) hx hb dX11_thing_9 (by decide) ?_
  refine lv_iconst (v := (-1)) hx hb dX11_thing_30 (by decide) ?_
  subst hQ
  exact W.iret (v := (-1)) hx hb hr (fun t ht hW => ⟨_, rfl, rfl, ht⟩) (fun q hq => absurd hq List.not_mem_nil) dX11_thing_31
set_option maxHeartbeats 4000000 in
set_option maxRecDepth 100000 in
theorem c_X11_isNew (l : Launch) (D : va_G) (cy : Nat → ClassId) (a : Nat → Nat) (i : Nat → Int32) (r : Nat → Nat → Int32) (q : Nat → Option Nat) (p0 p1 : Int32) (hf : xZ i) (hg : xZr r) : Met l yX11_isNew (Cond.code yX11_isNew cX11_isNew 4 (some .int) :: gT) { frames := 3, cells := 0, slots := 0, locals := 67 } (va_Pc [.ref (a 0), .int p0, .int p1] (rP D cy (xW cy a i r q (a 20) (a 12)))) (vp_Si (fun z => z = (-1))) 0 0 (fun _ => False) := by
  refine Met.ofQ (cc := cX11_isNew) (maxL := 4) (ret := (some .int)) (by decide) rfl ?_
  intro p e s m args below meth c s₁ B hml hv Q hQ
  obtain ⟨rfl, hP, hK⟩ := hv
  have hx := B.exec
  have hb := B.bytes
  have hr := B.returns
  have hlocks := B.notSynchronized
  have hT : ∀ w ∈ gT, w.before _ s = true := fun w h => atoms_spec (ws := (Cond.code yX11_isNew cX11_isNew 4 (some .int) :: gT)) B.pre w (List.mem_cons_of_mem _ h)
  have hown : s.vm.findClass RX11 = some m.cls := findClass_of_methodNamed B.named
  have hl := lv_entry ([.ref (a 0), .int p0, .int p1]) (n := 4) (Nat.le_of_ble_eq_true rfl)
  rw [lg_entry_eq]
  generalize (lg_sl ([.ref (a 0), .int p0, .int p1]) ++ List.replicate (4 - (lg_sl ([.ref (a 0), .int p0, .int p1])).length) Slot.unset).toArray = ls at hl ⊢
  have hl : lv_has ls 4 [(0, .ref (a 0)), (1, .int p0), (2, .int p1)] := hl
  refine lv_aload_n hx hb dX11_isNew_0 rfl (lv_at hl 0 rfl) ?_
  refine lv_iload_n hx hb dX11_isNew_1 rfl (lv_at hl 1 rfl) ?_
  refine va_csq (W.runV (As := [.int p0]) (rest := []) ⟨hx, hb, hml, hown, hT⟩ (c_X11_homeAt l D cy a i r q p0 hf hg) (cwV 1 hT (gV t_42 t_43 t_44 t_45 t_2) rfl rfl rfl (by decide +kernel) ⟨Nat.le_of_ble_eq_true rfl, Nat.le_of_ble_eq_true rfl⟩) (rP_v hP hK (va_recv hK hP (ci := 11) (q0 := 0) rfl rfl)) rfl rfl hl.1 rfl (lv_room (Nat.le_of_ble_eq_true rfl)) dX11_isNew_2 ⟨Nat.le_of_ble_eq_true rfl, Nat.le_of_ble_eq_true rfl⟩) (fun r_1 hr_1 => ?_)
  subst hr_1
  refine W.eq (g2 := F0 m 5 ls [.null]) rfl ?_
  refine lv_astore_nN (lv' := [(3, .null), (0, .ref (a 0)), (1, .int p0), (2, .int p1)]) hx hb dX11_isNew_5 rfl hl (by decide) rfl (fun ls hl => ?_)
  refine lv_aload_nN hx hb dX11_isNew_6 rfl (lv_at hl 0 rfl) ?_
  refine lv_ifnullN (tgt := 27) hx hb dX11_isNew_7 (by decide) ?_
  refine lv_iconst (v := (-1)) hx hb dX11_isNew_27 (by decide) ?_
  subst hQ
  exact W.iret (v := (-1)) hx hb hr (fun t ht hW => ⟨_, rfl, rfl, ht⟩) (fun q hq => absurd hq List.not_mem_nil) dX11_isNew_28
set_option maxHeartbeats 4000000 in
set_option maxRecDepth 100000 in
theorem c_X11_led (l : Launch) (D : va_G) (cy : Nat → ClassId) (a : Nat → Nat) (i : Nat → Int32) (r : Nat → Nat → Int32) (q : Nat → Option Nat) (p0 p1 p2 : Int32) (hf : xZ i) (hg : xZr r) : Met l yX11_led (Cond.code yX11_led cX11_led 5 (some .int) :: gT) { frames := 3, cells := 0, slots := 0, locals := 67 } (va_Pc [.ref (a 0), .int p0, .int p1, .int p2] (rP D cy (xW cy a i r q (a 20) (a 12)))) (vp_Si (fun z => z = (-1))) 0 0 (fun _ => False) := by
  refine Met.ofQ (cc := cX11_led) (maxL := 5) (ret := (some .int)) (by decide) rfl ?_
  intro p e s m args below meth c s₁ B hml hv Q hQ
  obtain ⟨rfl, hP, hK⟩ := hv
  have hx := B.exec
  have hb := B.bytes
  have hr := B.returns
  have hlocks := B.notSynchronized
  have hT : ∀ w ∈ gT, w.before _ s = true := fun w h => atoms_spec (ws := (Cond.code yX11_led cX11_led 5 (some .int) :: gT)) B.pre w (List.mem_cons_of_mem _ h)
  have hown : s.vm.findClass RX11 = some m.cls := findClass_of_methodNamed B.named
  have hl := lv_entry ([.ref (a 0), .int p0, .int p1, .int p2]) (n := 5) (Nat.le_of_ble_eq_true rfl)
  rw [lg_entry_eq]
  generalize (lg_sl ([.ref (a 0), .int p0, .int p1, .int p2]) ++ List.replicate (5 - (lg_sl ([.ref (a 0), .int p0, .int p1, .int p2])).length) Slot.unset).toArray = ls at hl ⊢
  have hl : lv_has ls 5 [(0, .ref (a 0)), (1, .int p0), (2, .int p1), (3, .int p2)] := hl
  refine lv_aload_n hx hb dX11_led_0 rfl (lv_at hl 0 rfl) ?_
  refine lv_iload_n hx hb dX11_led_1 rfl (lv_at hl 1 rfl) ?_
  refine va_csq (W.runV (As := [.int p0]) (rest := []) ⟨hx, hb, hml, hown, hT⟩ (c_X11_homeAt l D cy a i r q p0 hf hg) (cwV 1 hT (gV t_42 t_43 t_44 t_45 t_2) rfl rfl rfl (by decide +kernel) ⟨Nat.le_of_ble_eq_true rfl, Nat.le_of_ble_eq_true rfl⟩) (rP_v hP hK (va_recv hK hP (ci := 11) (q0 := 0) rfl rfl)) rfl rfl hl.1 rfl (lv_room (Nat.le_of_ble_eq_true rfl)) dX11_led_2 ⟨Nat.le_of_ble_eq_true rfl, Nat.le_of_ble_eq_true rfl⟩) (fun r_1 hr_1 => ?_)
  subst hr_1
  refine W.eq (g2 := F0 m 5 ls [.null]) rfl ?_
  refine lv_astoreN (lv' := [(4, .null), (0, .ref (a 0)), (1, .int p0), (2, .int p1), (3, .int p2)]) hx hb dX11_led_5 hl (by decide) rfl (fun ls hl => ?_)
  refine lv_aloadN hx hb dX11_led_7 (lv_at hl 0 rfl) ?_
  refine lv_ifnullN (tgt := 40) hx hb dX11_led_9 (by decide) ?_
  refine lv_iconst (v := (-1)) hx hb dX11_led_40 (by decide) ?_
  subst hQ
  exact W.iret (v := (-1)) hx hb hr (fun t ht hW => ⟨_, rfl, rfl, ht⟩) (fun q hq => absurd hq List.not_mem_nil) dX11_led_41
set_option maxHeartbeats 4000000 in
set_option maxRecDepth 100000 in
theorem c_X11_claim (l : Launch) (D : va_G) (cy : Nat → ClassId) (a : Nat → Nat) (i : Nat → Int32) (r : Nat → Nat → Int32) (q : Nat → Option Nat) (p0 p1 p2 p3 p4 : Int32) (hf : xZ i) (hg : xZr r) : Met l yX11_claim (Cond.code yX11_claim cX11_claim 7 (some .int) :: gT) { frames := 3, cells := 0, slots := 0, locals := 67 } (va_Pc [.ref (a 0), .int p0, .int p1, .int p2, .int p3, .int p4] (rP D cy (xW cy a i r q (a 20) (a 12)))) (vp_Si (fun z => z = (-1))) 0 0 (fun _ => False) := by
  refine Met.ofQ (cc := cX11_claim) (maxL := 7) (ret := (some .int)) (by decide) rfl ?_
  intro p e s m args below meth c s₁ B hml hv Q hQ
  obtain ⟨rfl, hP, hK⟩ := hv
  have hx := B.exec
  have hb := B.bytes
  have hr := B.returns
  have hlocks := B.notSynchronized
  have hT : ∀ w ∈ gT, w.before _ s = true := fun w h => atoms_spec (ws := (Cond.code yX11_claim cX11_claim 7 (some .int) :: gT)) B.pre w (List.mem_cons_of_mem _ h)
  have hown : s.vm.findClass RX11 = some m.cls := findClass_of_methodNamed B.named
  have hl := lv_entry ([.ref (a 0), .int p0, .int p1, .int p2, .int p3, .int p4]) (n := 7) (Nat.le_of_ble_eq_true rfl)
  rw [lg_entry_eq]
  generalize (lg_sl ([.ref (a 0), .int p0, .int p1, .int p2, .int p3, .int p4]) ++ List.replicate (7 - (lg_sl ([.ref (a 0), .int p0, .int p1, .int p2, .int p3, .int p4])).length) Slot.unset).toArray = ls at hl ⊢
  have hl : lv_has ls 7 [(0, .ref (a 0)), (1, .int p0), (2, .int p1), (3, .int p2), (4, .int p3), (5, .int p4)] := hl
  refine lv_aload_n hx hb dX11_claim_0 rfl (lv_at hl 0 rfl) ?_
  refine lv_iload_n hx hb dX11_claim_1 rfl (lv_at hl 1 rfl) ?_
  refine va_csq (W.runV (As := [.int p0]) (rest := []) ⟨hx, hb, hml, hown, hT⟩ (c_X11_homeAt l D cy a i r q p0 hf hg) (cwV 1 hT (gV t_42 t_43 t_44 t_45 t_2) rfl rfl rfl (by decide +kernel) ⟨Nat.le_of_ble_eq_true rfl, Nat.le_of_ble_eq_true rfl⟩) (rP_v hP hK (va_recv hK hP (ci := 11) (q0 := 0) rfl rfl)) rfl rfl hl.1 rfl (lv_room (Nat.le_of_ble_eq_true rfl)) dX11_claim_2 ⟨Nat.le_of_ble_eq_true rfl, Nat.le_of_ble_eq_true rfl⟩) (fun r_1 hr_1 => ?_)
  subst hr_1
  refine W.eq (g2 := F0 m 5 ls [.null]) rfl ?_
  refine lv_astoreN (lv' := [(6, .null), (0, .ref (a 0)), (1, .int p0), (2, .int p1), (3, .int p2), (4, .int p3), (5, .int p4)]) hx hb dX11_claim_5 hl (by decide) rfl (fun ls hl => ?_)
  refine lv_aloadN hx hb dX11_claim_7 (lv_at hl 0 rfl) ?_
  refine lv_ifnullN (tgt := 59) hx hb dX11_claim_9 (by decide) ?_
  refine lv_iconst (v := (-1)) hx hb dX11_claim_59 (by decide) ?_
  subst hQ
  exact W.iret (v := (-1)) hx hb hr (fun t ht hW => ⟨_, rfl, rfl, ht⟩) (fun q hq => absurd hq List.not_mem_nil) dX11_claim_60
set_option maxHeartbeats 4000000 in
set_option maxRecDepth 100000 in
theorem c_X11_agree (l : Launch) (D : va_G) (cy : Nat → ClassId) (a : Nat → Nat) (i : Nat → Int32) (r : Nat → Nat → Int32) (q : Nat → Option Nat) (p0 p1 : Int32) (hf : xZ i) (hg : xZr r) : Met l yX11_agree (Cond.code yX11_agree cX11_agree 3 (some .boolean) :: gT) { frames := 3, cells := 0, slots := 0, locals := 67 } (va_Pc [.ref (a 0), .int p0, .int p1] (rP D cy (xW cy a i r q (a 20) (a 12)))) (vp_Si (fun z => z = 0)) 0 0 (fun _ => False) := by
  refine Met.ofQ (cc := cX11_agree) (maxL := 3) (ret := (some .boolean)) (by decide) rfl ?_
  intro p e s m args below meth c s₁ B hml hv Q hQ
  obtain ⟨rfl, hP, hK⟩ := hv
  have hx := B.exec
  have hb := B.bytes
  have hr := B.returns
  have hlocks := B.notSynchronized
  have hT : ∀ w ∈ gT, w.before _ s = true := fun w h => atoms_spec (ws := (Cond.code yX11_agree cX11_agree 3 (some .boolean) :: gT)) B.pre w (List.mem_cons_of_mem _ h)
  have hown : s.vm.findClass RX11 = some m.cls := findClass_of_methodNamed B.named
  have hl := lv_entry ([.ref (a 0), .int p0, .int p1]) (n := 3) (Nat.le_of_ble_eq_true rfl)
  rw [lg_entry_eq]
  generalize (lg_sl ([.ref (a 0), .int p0, .int p1]) ++ List.replicate (3 - (lg_sl ([.ref (a 0), .int p0, .int p1])).length) Slot.unset).toArray = ls at hl ⊢
  have hl : lv_has ls 3 [(0, .ref (a 0)), (1, .int p0), (2, .int p1)] := hl
  refine lv_aload_n hx hb dX11_agree_0 rfl (lv_at hl 0 rfl) ?_
  refine lv_iload_n hx hb dX11_agree_1 rfl (lv_at hl 1 rfl) ?_
  refine vp_callSi (W.runV (As := [.int p0]) (rest := []) ⟨hx, hb, hml, hown, hT⟩ (c_X11_isClaim l D cy a i r q p0 hf hg) (cwV 1 hT (gV t_48 t_49 t_50 t_51 t_2) rfl rfl rfl (by decide +kernel) ⟨Nat.le_of_ble_eq_true rfl, Nat.le_of_ble_eq_true rfl⟩) (rP_v hP hK (va_recv hK hP (ci := 11) (q0 := 0) rfl rfl)) rfl rfl hl.1 rfl (lv_room (Nat.le_of_ble_eq_true rfl)) dX11_agree_2 ⟨Nat.le_of_ble_eq_true rfl, Nat.le_of_ble_eq_true rfl⟩) (fun r_1 hr_1 => ?_)
  subst hr_1
  refine lv_if_eq (tgt := 18) hx hb dX11_agree_5 (by decide) (fun c_2 => ?_) (fun c_2 => absurd (by decide) c_2)
  refine lv_iconst (v := 0) hx hb dX11_agree_18 (by decide) ?_
  subst hQ
  exact W.zret hx hb hr rfl (fun t ht hW => ⟨_, rfl, rfl, ht⟩) (fun q hq => absurd hq List.not_mem_nil) dX11_agree_19
set_option maxHeartbeats 4000000 in
set_option maxRecDepth 100000 in
theorem c_X11_answer (l : Launch) (D : va_G) (cy : Nat → ClassId) (a : Nat → Nat) (i : Nat → Int32) (r : Nat → Nat → Int32) (q : Nat → Option Nat) (p0 p1 p2 : Int32) (hf : xZ i) (hg : xZr r) : Met l yX11_answer (Cond.code yX11_answer cX11_answer 4 (some .boolean) :: gT) { frames := 3, cells := 0, slots := 0, locals := 67 } (va_Pc [.ref (a 0), .int p0, .int p1, .int p2] (rP D cy (xW cy a i r q (a 20) (a 12)))) (vp_Si (fun z => z = 0)) 0 0 (fun _ => False) := by
  refine Met.ofQ (cc := cX11_answer) (maxL := 4) (ret := (some .boolean)) (by decide) rfl ?_
  intro p e s m args below meth c s₁ B hml hv Q hQ
  obtain ⟨rfl, hP, hK⟩ := hv
  have hx := B.exec
  have hb := B.bytes
  have hr := B.returns
  have hlocks := B.notSynchronized
  have hT : ∀ w ∈ gT, w.before _ s = true := fun w h => atoms_spec (ws := (Cond.code yX11_answer cX11_answer 4 (some .boolean) :: gT)) B.pre w (List.mem_cons_of_mem _ h)
  have hown : s.vm.findClass RX11 = some m.cls := findClass_of_methodNamed B.named
  have hl := lv_entry ([.ref (a 0), .int p0, .int p1, .int p2]) (n := 4) (Nat.le_of_ble_eq_true rfl)
  rw [lg_entry_eq]
  generalize (lg_sl ([.ref (a 0), .int p0, .int p1, .int p2]) ++ List.replicate (4 - (lg_sl ([.ref (a 0), .int p0, .int p1, .int p2])).length) Slot.unset).toArray = ls at hl ⊢
  have hl : lv_has ls 4 [(0, .ref (a 0)), (1, .int p0), (2, .int p1), (3, .int p2)] := hl
  refine lv_aload_n hx hb dX11_answer_0 rfl (lv_at hl 0 rfl) ?_
  refine lv_iload_n hx hb dX11_answer_1 rfl (lv_at hl 1 rfl) ?_
  refine vp_callSi (W.runV (As := [.int p0]) (rest := []) ⟨hx, hb, hml, hown, hT⟩ (c_X11_isClaim l D cy a i r q p0 hf hg) (cwV 1 hT (gV t_48 t_49 t_50 t_51 t_2) rfl rfl rfl (by decide +kernel) ⟨Nat.le_of_ble_eq_true rfl, Nat.le_of_ble_eq_true rfl⟩) (rP_v hP hK (va_recv hK hP (ci := 11) (q0 := 0) rfl rfl)) rfl rfl hl.1 rfl (lv_room (Nat.le_of_ble_eq_true rfl)) dX11_answer_2 ⟨Nat.le_of_ble_eq_true rfl, Nat.le_of_ble_eq_true rfl⟩) (fun r_1 hr_1 => ?_)
  subst hr_1
  refine lv_if_eq (tgt := 28) hx hb dX11_answer_5 (by decide) (fun c_2 => ?_) (fun c_2 => absurd (by decide) c_2)
  refine lv_iconst (v := 0) hx hb dX11_answer_28 (by decide) ?_
  subst hQ
  exact W.zret hx hb hr rfl (fun t ht hW => ⟨_, rfl, rfl, ht⟩) (fun q hq => absurd hq List.not_mem_nil) dX11_answer_29
set_option maxHeartbeats 4000000 in
set_option maxRecDepth 100000 in
theorem c_X11_award (l : Launch) (D : va_G) (cy : Nat → ClassId) (a : Nat → Nat) (i : Nat → Int32) (r : Nat → Nat → Int32) (q : Nat → Option Nat) (p0 p1 p2 : Int32) (hf : xZ i) (hg : xZr r) : Met l yX11_award (Cond.code yX11_award cX11_award 8 (some .int) :: gT) { frames := 3, cells := 0, slots := 0, locals := 67 } (va_Pc [.ref (a 0), .int p0, .int p1, .int p2] (rP D cy (xW cy a i r q (a 20) (a 12)))) (vp_Si (fun z => z = (-1))) 0 0 (fun _ => False) := by
  refine Met.ofQ (cc := cX11_award) (maxL := 8) (ret := (some .int)) (by decide) rfl ?_
  intro p e s m args below meth c s₁ B hml hv Q hQ
  obtain ⟨rfl, hP, hK⟩ := hv
  have hx := B.exec
  have hb := B.bytes
  have hr := B.returns
  have hlocks := B.notSynchronized
  have hT : ∀ w ∈ gT, w.before _ s = true := fun w h => atoms_spec (ws := (Cond.code yX11_award cX11_award 8 (some .int) :: gT)) B.pre w (List.mem_cons_of_mem _ h)
  have hown : s.vm.findClass RX11 = some m.cls := findClass_of_methodNamed B.named
  have hl := lv_entry ([.ref (a 0), .int p0, .int p1, .int p2]) (n := 8) (Nat.le_of_ble_eq_true rfl)
  rw [lg_entry_eq]
  generalize (lg_sl ([.ref (a 0), .int p0, .int p1, .int p2]) ++ List.replicate (8 - (lg_sl ([.ref (a 0), .int p0, .int p1, .int p2])).length) Slot.unset).toArray = ls at hl ⊢
  have hl : lv_has ls 8 [(0, .ref (a 0)), (1, .int p0), (2, .int p1), (3, .int p2)] := hl
  refine lv_aload_n hx hb dX11_award_0 rfl (lv_at hl 0 rfl) ?_
  refine lv_iload_n hx hb dX11_award_1 rfl (lv_at hl 1 rfl) ?_
  refine vp_callSi (W.runV (As := [.int p0]) (rest := []) ⟨hx, hb, hml, hown, hT⟩ (c_X11_isClaim l D cy a i r q p0 hf hg) (cwV 1 hT (gV t_48 t_49 t_50 t_51 t_2) rfl rfl rfl (by decide +kernel) ⟨Nat.le_of_ble_eq_true rfl, Nat.le_of_ble_eq_true rfl⟩) (rP_v hP hK (va_recv hK hP (ci := 11) (q0 := 0) rfl rfl)) rfl rfl hl.1 rfl (lv_room (Nat.le_of_ble_eq_true rfl)) dX11_award_2 ⟨Nat.le_of_ble_eq_true rfl, Nat.le_of_ble_eq_true rfl⟩) (fun r_1 hr_1 => ?_)
  subst hr_1
  refine lv_if_eq (tgt := 24) hx hb dX11_award_5 (by decide) (fun c_2 => ?_) (fun c_2 => absurd (by decide) c_2)
  refine lv_null hx hb dX11_award_24 ?_
  refine lv_astoreN (lv' := [(4, .null), (0, .ref (a 0)), (1, .int p0), (2, .int p1), (3, .int p2)]) hx hb dX11_award_25 hl (by decide) rfl (fun ls hl => ?_)
  refine lv_aloadN hx hb dX11_award_27 (lv_at hl 0 rfl) ?_
  refine lv_ifnullN (tgt := 48) hx hb dX11_award_29 (by decide) ?_
  refine lv_iconst (v := (-1)) hx hb dX11_award_48 (by decide) ?_
  subst hQ
  exact W.iret (v := (-1)) hx hb hr (fun t ht hW => ⟨_, rfl, rfl, ht⟩) (fun q hq => absurd hq List.not_mem_nil) dX11_award_49
set_option maxHeartbeats 4000000 in
set_option maxRecDepth 100000 in
theorem c_X11_judged (l : Launch) (D : va_G) (cy : Nat → ClassId) (a : Nat → Nat) (i : Nat → Int32) (r : Nat → Nat → Int32) (q : Nat → Option Nat) (p0 p1 p2 : Int32) (hf : xZ i) (hg : xZr r) : Met l yX11_judged (Cond.code yX11_judged cX11_judged 5 (some .int) :: gT) { frames := 3, cells := 0, slots := 0, locals := 67 } (va_Pc [.ref (a 0), .int p0, .int p1, .int p2] (rP D cy (xW cy a i r q (a 20) (a 12)))) (vp_Si (fun z => z = (-1))) 0 0 (fun _ => False) := by
  refine Met.ofQ (cc := cX11_judged) (maxL := 5) (ret := (some .int)) (by decide) rfl ?_
  intro p e s m args below meth c s₁ B hml hv Q hQ
  obtain ⟨rfl, hP, hK⟩ := hv
  have hx := B.exec
  have hb := B.bytes
  have hr := B.returns
  have hlocks := B.notSynchronized
  have hT : ∀ w ∈ gT, w.before _ s = true := fun w h => atoms_spec (ws := (Cond.code yX11_judged cX11_judged 5 (some .int) :: gT)) B.pre w (List.mem_cons_of_mem _ h)
  have hown : s.vm.findClass RX11 = some m.cls := findClass_of_methodNamed B.named
  have hl := lv_entry ([.ref (a 0), .int p0, .int p1, .int p2]) (n := 5) (Nat.le_of_ble_eq_true rfl)
  rw [lg_entry_eq]
  generalize (lg_sl ([.ref (a 0), .int p0, .int p1, .int p2]) ++ List.replicate (5 - (lg_sl ([.ref (a 0), .int p0, .int p1, .int p2])).length) Slot.unset).toArray = ls at hl ⊢
  have hl : lv_has ls 5 [(0, .ref (a 0)), (1, .int p0), (2, .int p1), (3, .int p2)] := hl
  refine lv_aload_n hx hb dX11_judged_0 rfl (lv_at hl 0 rfl) ?_
  refine lv_iload_n hx hb dX11_judged_1 rfl (lv_at hl 1 rfl) ?_
  refine va_csq (W.runV (As := [.int p0]) (rest := []) ⟨hx, hb, hml, hown, hT⟩ (c_X11_homeAt l D cy a i r q p0 hf hg) (cwV 1 hT (gV t_42 t_43 t_44 t_45 t_2) rfl rfl rfl (by decide +kernel) ⟨Nat.le_of_ble_eq_true rfl, Nat.le_of_ble_eq_true rfl⟩) (rP_v hP hK (va_recv hK hP (ci := 11) (q0 := 0) rfl rfl)) rfl rfl hl.1 rfl (lv_room (Nat.le_of_ble_eq_true rfl)) dX11_judged_2 ⟨Nat.le_of_ble_eq_true rfl, Nat.le_of_ble_eq_true rfl⟩) (fun r_1 hr_1 => ?_)
  subst hr_1
  refine W.eq (g2 := F0 m 5 ls [.null]) rfl ?_
  refine lv_astoreN (lv' := [(4, .null), (0, .ref (a 0)), (1, .int p0), (2, .int p1), (3, .int p2)]) hx hb dX11_judged_5 hl (by decide) rfl (fun ls hl => ?_)
  refine lv_aloadN hx hb dX11_judged_7 (lv_at hl 0 rfl) ?_
  refine lv_ifnullN (tgt := 19) hx hb dX11_judged_9 (by decide) ?_
  refine lv_iconst (v := (-1)) hx hb dX11_judged_19 (by decide) ?_
  subst hQ
  exact W.iret (v := (-1)) hx hb hr (fun t ht hW => ⟨_, rfl, rfl, ht⟩) (fun q hq => absurd hq List.not_mem_nil) dX11_judged_20
set_option maxHeartbeats 4000000 in
set_option maxRecDepth 100000 in
theorem c_X11_offer (l : Launch) (D : va_G) (cy : Nat → ClassId) (a : Nat → Nat) (i : Nat → Int32) (r : Nat → Nat → Int32) (q : Nat → Option Nat) (p0 p1 p2 : Int32) (hf : xZ i) (hg : xZr r) : Met l yX11_offer (Cond.code yX11_offer cX11_offer 4 (some .int) :: gT) { frames := 3, cells := 0, slots := 0, locals := 67 } (va_Pc [.ref (a 0), .int p0, .int p1, .int p2] (rP D cy (xW cy a i r q (a 20) (a 12)))) (vp_Si (fun z => z = (-1))) 0 0 (fun _ => False) := by
  refine Met.ofQ (cc := cX11_offer) (maxL := 4) (ret := (some .int)) (by decide) rfl ?_
  intro p e s m args below meth c s₁ B hml hv Q hQ
  obtain ⟨rfl, hP, hK⟩ := hv
  have hx := B.exec
  have hb := B.bytes
  have hr := B.returns
  have hlocks := B.notSynchronized
  have hT : ∀ w ∈ gT, w.before _ s = true := fun w h => atoms_spec (ws := (Cond.code yX11_offer cX11_offer 4 (some .int) :: gT)) B.pre w (List.mem_cons_of_mem _ h)
  have hown : s.vm.findClass RX11 = some m.cls := findClass_of_methodNamed B.named
  have hl := lv_entry ([.ref (a 0), .int p0, .int p1, .int p2]) (n := 4) (Nat.le_of_ble_eq_true rfl)
  rw [lg_entry_eq]
  generalize (lg_sl ([.ref (a 0), .int p0, .int p1, .int p2]) ++ List.replicate (4 - (lg_sl ([.ref (a 0), .int p0, .int p1, .int p2])).length) Slot.unset).toArray = ls at hl ⊢
  have hl : lv_has ls 4 [(0, .ref (a 0)), (1, .int p0), (2, .int p1), (3, .int p2)] := hl
  refine lv_aload_n hx hb dX11_offer_0 rfl (lv_at hl 0 rfl) ?_
  refine lv_iload_n hx hb dX11_offer_1 rfl (lv_at hl 1 rfl) ?_
  refine va_csq (W.runV (As := [.int p0]) (rest := []) ⟨hx, hb, hml, hown, hT⟩ (c_X11_homeAt l D cy a i r q p0 hf hg) (cwV 1 hT (gV t_42 t_43 t_44 t_45 t_2) rfl rfl rfl (by decide +kernel) ⟨Nat.le_of_ble_eq_true rfl, Nat.le_of_ble_eq_true rfl⟩) (rP_v hP hK (va_recv hK hP (ci := 11) (q0 := 0) rfl rfl)) rfl rfl hl.1 rfl (lv_room (Nat.le_of_ble_eq_true rfl)) dX11_offer_2 ⟨Nat.le_of_ble_eq_true rfl, Nat.le_of_ble_eq_true rfl⟩) (fun r_1 hr_1 => ?_)
  subst hr_1
  refine W.eq (g2 := F0 m 5 ls [.null]) rfl ?_
  refine lv_ifnullN (tgt := 18) hx hb dX11_offer_5 (by decide) ?_
  refine lv_iconst (v := (-1)) hx hb dX11_offer_18 (by decide) ?_
  subst hQ
  exact W.iret (v := (-1)) hx hb hr (fun t ht hW => ⟨_, rfl, rfl, ht⟩) (fun q hq => absurd hq List.not_mem_nil) dX11_offer_19
set_option maxHeartbeats 4000000 in
set_option maxRecDepth 100000 in
theorem c_X11_met (l : Launch) (D : va_G) (cy : Nat → ClassId) (a : Nat → Nat) (i : Nat → Int32) (r : Nat → Nat → Int32) (q : Nat → Option Nat) (p0 : Int32) (hf : xZ i) (hg : xZr r) : Met l yX11_met (Cond.code yX11_met cX11_met 4 (some .int) :: gT) { frames := 3, cells := 0, slots := 0, locals := 67 } (va_Pc [.ref (a 0), .int p0] (rP D cy (xW cy a i r q (a 20) (a 12)))) (vp_Si (fun z => z = (-1))) 0 0 (fun _ => False) := by
  refine Met.ofQ (cc := cX11_met) (maxL := 4) (ret := (some .int)) (by decide) rfl ?_
  intro p e s m args below meth c s₁ B hml hv Q hQ
  obtain ⟨rfl, hP, hK⟩ := hv
  have hx := B.exec
  have hb := B.bytes
  have hr := B.returns
  have hlocks := B.notSynchronized
  have hT : ∀ w ∈ gT, w.before _ s = true := fun w h => atoms_spec (ws := (Cond.code yX11_met cX11_met 4 (some .int) :: gT)) B.pre w (List.mem_cons_of_mem _ h)
  have hown : s.vm.findClass RX11 = some m.cls := findClass_of_methodNamed B.named
  have hl := lv_entry ([.ref (a 0), .int p0]) (n := 4) (Nat.le_of_ble_eq_true rfl)
  rw [lg_entry_eq]
  generalize (lg_sl ([.ref (a 0), .int p0]) ++ List.replicate (4 - (lg_sl ([.ref (a 0), .int p0])).length) Slot.unset).toArray = ls at hl ⊢
  have hl : lv_has ls 4 [(0, .ref (a 0)), (1, .int p0)] := hl
  refine lv_aload_n hx hb dX11_met_0 rfl (lv_at hl 0 rfl) ?_
  refine lv_iload_n hx hb dX11_met_1 rfl (lv_at hl 1 rfl) ?_
  refine va_csq (W.runV (As := [.int p0]) (rest := []) ⟨hx, hb, hml, hown, hT⟩ (c_X11_homeAt l D cy a i r q p0 hf hg) (cwV 1 hT (gV t_42 t_43 t_44 t_45 t_2) rfl rfl rfl (by decide +kernel) ⟨Nat.le_of_ble_eq_true rfl, Nat.le_of_ble_eq_true rfl⟩) (rP_v hP hK (va_recv hK hP (ci := 11) (q0 := 0) rfl rfl)) rfl rfl hl.1 rfl (lv_room (Nat.le_of_ble_eq_true rfl)) dX11_met_2 ⟨Nat.le_of_ble_eq_true rfl, Nat.le_of_ble_eq_true rfl⟩) (fun r_1 hr_1 => ?_)
  subst hr_1
  refine W.eq (g2 := F0 m 5 ls [.null]) rfl ?_
  refine lv_ifnonnullN hx hb dX11_met_5 ?_
  refine lv_iconst (v := (-1)) hx hb dX11_met_8 (by decide) ?_
  subst hQ
  exact W.iret (v := (-1)) hx hb hr (fun t ht hW => ⟨_, rfl, rfl, ht⟩) (fun q hq => absurd hq List.not_mem_nil) dX11_met_9
set_option maxHeartbeats 4000000 in
set_option maxRecDepth 100000 in
theorem c_X11_kin (l : Launch) (D : va_G) (cy : Nat → ClassId) (a : Nat → Nat) (i : Nat → Int32) (r : Nat → Nat → Int32) (q : Nat → Option Nat) (p0 p1 p2 : Int32) (hf : xZ i) (hg : xZr r) : Met l yX11_kin (Cond.code yX11_kin cX11_kin 5 (some .boolean) :: gT) { frames := 3, cells := 0, slots := 0, locals := 67 } (va_Pc [.ref (a 0), .int p0, .int p1, .int p2] (rP D cy (xW cy a i r q (a 20) (a 12)))) (vp_Si (fun z => z = 0)) 0 0 (fun _ => False) := by
  refine Met.ofQ (cc := cX11_kin) (maxL := 5) (ret := (some .boolean)) (by decide) rfl ?_
  intro p e s m args below meth c s₁ B hml hv Q hQ
  obtain ⟨rfl, hP, hK⟩ := hv
  have hx := B.exec
  have hb := B.bytes
  have hr := B.returns
  have hlocks := B.notSynchronized
  have hT : ∀ w ∈ gT, w.before _ s = true := fun w h => atoms_spec (ws := (Cond.code yX11_kin cX11_kin 5 (some .boolean) :: gT)) B.pre w (List.mem_cons_of_mem _ h)
  have hown : s.vm.findClass RX11 = some m.cls := findClass_of_methodNamed B.named
  have hl := lv_entry ([.ref (a 0), .int p0, .int p1, .int p2]) (n := 5) (Nat.le_of_ble_eq_true rfl)
  rw [lg_entry_eq]
  generalize (lg_sl ([.ref (a 0), .int p0, .int p1, .int p2]) ++ List.replicate (5 - (lg_sl ([.ref (a 0), .int p0, .int p1, .int p2])).length) Slot.unset).toArray = ls at hl ⊢
  have hl : lv_has ls 5 [(0, .ref (a 0)), (1, .int p0), (2, .int p1), (3, .int p2)] := hl
  refine lv_aload_n hx hb dX11_kin_0 rfl (lv_at hl 0 rfl) ?_
  refine lv_iload_n hx hb dX11_kin_1 rfl (lv_at hl 2 rfl) ?_
  refine va_csq (W.runV (As := [.int p1]) (rest := []) ⟨hx, hb, hml, hown, hT⟩ (c_X11_homeAt l D cy a i r q p1 hf hg) (cwV 1 hT (gV t_42 t_43 t_44 t_45 t_2) rfl rfl rfl (by decide +kernel) ⟨Nat.le_of_ble_eq_true rfl, Nat.le_of_ble_eq_true rfl⟩) (rP_v hP hK (va_recv hK hP (ci := 11) (q0 := 0) rfl rfl)) rfl rfl hl.1 rfl (lv_room (Nat.le_of_ble_eq_true rfl)) dX11_kin_2 ⟨Nat.le_of_ble_eq_true rfl, Nat.le_of_ble_eq_true rfl⟩) (fun r_1 hr_1 => ?_)
  subst hr_1
  refine W.eq (g2 := F0 m 5 ls [.null]) rfl ?_
  refine lv_astoreN (lv' := [(4, .null), (0, .ref (a 0)), (1, .int p0), (2, .int p1), (3, .int p2)]) hx hb dX11_kin_5 hl (by decide) rfl (fun ls hl => ?_)
  refine lv_aloadN hx hb dX11_kin_7 (lv_at hl 0 rfl) ?_
  refine lv_ifnullN (tgt := 32) hx hb dX11_kin_9 (by decide) ?_
  refine lv_iconst (v := 0) hx hb dX11_kin_32 (by decide) ?_
  subst hQ
  exact W.zret hx hb hr rfl (fun t ht hW => ⟨_, rfl, rfl, ht⟩) (fun q hq => absurd hq List.not_mem_nil) dX11_kin_33
set_option maxHeartbeats 4000000 in
set_option maxRecDepth 100000 in
theorem c_X11_draw (l : Launch) (D : va_G) (cy : Nat → ClassId) (a : Nat → Nat) (i : Nat → Int32) (r : Nat → Nat → Int32) (q : Nat → Option Nat) (p0 : Int32) (hf : xZ i) (hg : xZr r) : Met l yX11_draw (Cond.code yX11_draw cX11_draw 5 (some .int) :: gT) { frames := 3, cells := 0, slots := 0, locals := 67 } (va_Pc [.ref (a 0), .int p0] (rP D cy (xW cy a i r q (a 20) (a 12)))) (vp_Si (fun z => z = (-1))) 0 0 (fun _ => False) := by
  refine Met.ofQ (cc := cX11_draw) (maxL := 5) (ret := (some .int)) (by decide) rfl ?_
  intro p e s m args below meth c s₁ B hml hv Q hQ
  obtain ⟨rfl, hP, hK⟩ := hv
  have hx := B.exec
  have hb := B.bytes
  have hr := B.returns
  have hlocks := B.notSynchronized
  have hT : ∀ w ∈ gT, w.before _ s = true := fun w h => atoms_spec (ws := (Cond.code yX11_draw cX11_draw 5 (some .int) :: gT)) B.pre w (List.mem_cons_of_mem _ h)
  have hown : s.vm.findClass RX11 = some m.cls := findClass_of_methodNamed B.named
  have hl := lv_entry ([.ref (a 0), .int p0]) (n := 5) (Nat.le_of_ble_eq_true rfl)
  rw [lg_entry_eq]
  generalize (lg_sl ([.ref (a 0), .int p0]) ++ List.replicate (5 - (lg_sl ([.ref (a 0), .int p0])).length) Slot.unset).toArray = ls at hl ⊢
  have hl : lv_has ls 5 [(0, .ref (a 0)), (1, .int p0)] := hl
  refine lv_aload_n hx hb dX11_draw_0 rfl (lv_at hl 0 rfl) ?_
  refine lv_iload_n hx hb dX11_draw_1 rfl (lv_at hl 1 rfl) ?_
  refine va_csq (W.runV (As := [.int p0]) (rest := []) ⟨hx, hb, hml, hown, hT⟩ (c_X11_homeAt l D cy a i r q p0 hf hg) (cwV 1 hT (gV t_42 t_43 t_44 t_45 t_2) rfl rfl rfl (by decide +kernel) ⟨Nat.le_of_ble_eq_true rfl, Nat.le_of_ble_eq_true rfl⟩) (rP_v hP hK (va_recv hK hP (ci := 11) (q0 := 0) rfl rfl)) rfl rfl hl.1 rfl (lv_room (Nat.le_of_ble_eq_true rfl)) dX11_draw_2 ⟨Nat.le_of_ble_eq_true rfl, Nat.le_of_ble_eq_true rfl⟩) (fun r_1 hr_1 => ?_)
  subst hr_1
  refine W.eq (g2 := F0 m 5 ls [.null]) rfl ?_
  refine lv_astore_nN (lv' := [(2, .null), (0, .ref (a 0)), (1, .int p0)]) hx hb dX11_draw_5 rfl hl (by decide) rfl (fun ls hl => ?_)
  refine lv_aload_nN hx hb dX11_draw_6 rfl (lv_at hl 0 rfl) ?_
  refine lv_ifnonnullN hx hb dX11_draw_7 ?_
  refine lv_iconst (v := (-1)) hx hb dX11_draw_10 (by decide) ?_
  subst hQ
  exact W.iret (v := (-1)) hx hb hr (fun t ht hW => ⟨_, rfl, rfl, ht⟩) (fun q hq => absurd hq List.not_mem_nil) dX11_draw_11
set_option maxHeartbeats 4000000 in
set_option maxRecDepth 100000 in
theorem c_X11_like (l : Launch) (D : va_G) (cy : Nat → ClassId) (a : Nat → Nat) (i : Nat → Int32) (r : Nat → Nat → Int32) (q : Nat → Option Nat) (p0 p1 : Int32) (hf : xZ i) (hg : xZr r) : Met l yX11_like (Cond.code yX11_like cX11_like 9 (some .int) :: gT) { frames := 3, cells := 0, slots := 0, locals := 67 } (va_Pc [.ref (a 0), .int p0, .int p1] (rP D cy (xW cy a i r q (a 20) (a 12)))) (vp_Si (fun z => z = (-1))) 0 0 (fun _ => False) := by
  refine Met.ofQ (cc := cX11_like) (maxL := 9) (ret := (some .int)) (by decide) rfl ?_
  intro p e s m args below meth c s₁ B hml hv Q hQ
  obtain ⟨rfl, hP, hK⟩ := hv
  have hx := B.exec
  have hb := B.bytes
  have hr := B.returns
  have hlocks := B.notSynchronized
  have hT : ∀ w ∈ gT, w.before _ s = true := fun w h => atoms_spec (ws := (Cond.code yX11_like cX11_like 9 (some .int) :: gT)) B.pre w (List.mem_cons_of_mem _ h)
  have hown : s.vm.findClass RX11 = some m.cls := findClass_of_methodNamed B.named
  have hl := lv_entry ([.ref (a 0), .int p0, .int p1]) (n := 9) (Nat.le_of_ble_eq_true rfl)
  rw [lg_entry_eq]
  generalize (lg_sl ([.ref (a 0), .int p0, .int p1]) ++ List.replicate (9 - (lg_sl ([.ref (a 0), .int p0, .int p1])).length) Slot.unset).toArray = ls at hl ⊢
  have hl : lv_has ls 9 [(0, .ref (a 0)), (1, .int p0), (2, .int p1)] := hl
  refine lv_aload_n hx hb dX11_like_0 rfl (lv_at hl 0 rfl) ?_
  refine lv_iload_n hx hb dX11_like_1 rfl (lv_at hl 1 rfl) ?_
  refine va_csq (W.runV (As := [.int p0]) (rest := []) ⟨hx, hb, hml, hown, hT⟩ (c_X11_homeAt l D cy a i r q p0 hf hg) (cwV 1 hT (gV t_42 t_43 t_44 t_45 t_2) rfl rfl rfl (by decide +kernel) ⟨Nat.le_of_ble_eq_true rfl, Nat.le_of_ble_eq_true rfl⟩) (rP_v hP hK (va_recv hK hP (ci := 11) (q0 := 0) rfl rfl)) rfl rfl hl.1 rfl (lv_room (Nat.le_of_ble_eq_true rfl)) dX11_like_2 ⟨Nat.le_of_ble_eq_true rfl, Nat.le_of_ble_eq_true rfl⟩) (fun r_1 hr_1 => ?_)
  subst hr_1
  refine W.eq (g2 := F0 m 5 ls [.null]) rfl ?_
  refine lv_astore_nN (lv' := [(3, .null), (0, .ref (a 0)), (1, .int p0), (2, .int p1)]) hx hb dX11_like_5 rfl hl (by decide) rfl (fun ls hl => ?_)
  refine lv_aload_nN hx hb dX11_like_6 rfl (lv_at hl 0 rfl) ?_
  refine lv_ifnullN (tgt := 19) hx hb dX11_like_7 (by decide) ?_
  refine lv_iconst (v := (-1)) hx hb dX11_like_19 (by decide) ?_
  subst hQ
  exact W.iret (v := (-1)) hx hb hr (fun t ht hW => ⟨_, rfl, rfl, ht⟩) (fun q hq => absurd hq List.not_mem_nil) dX11_like_20
set_option maxHeartbeats 4000000 in
set_option maxRecDepth 100000 in
theorem c_X11_undo (l : Launch) (D : va_G) (cy : Nat → ClassId) (a : Nat → Nat) (i : Nat → Int32) (r : Nat → Nat → Int32) (q : Nat → Option Nat) (hf : xZ i) (hg : xZr r) : Met l yX11_undo (Cond.code yX11_undo cX11_undo 1 (some .boolean) :: gT) { frames := 1, cells := 0, slots := 0, locals := 24 } (va_Pc [.ref (a 0)] (rP D cy (xW cy a i r q (a 20) (a 12)))) (vp_Si (fun z => z = 0)) 0 0 (fun _ => False) := by
  refine Met.ofQ (cc := cX11_undo) (maxL := 1) (ret := (some .boolean)) (by decide) rfl ?_
  intro p e s m args below meth c s₁ B hml hv Q hQ
  obtain ⟨rfl, hP, hK⟩ := hv
  have hx := B.exec
  have hb := B.bytes
  have hr := B.returns
  have hlocks := B.notSynchronized
  have hT : ∀ w ∈ gT, w.before _ s = true := fun w h => atoms_spec (ws := (Cond.code yX11_undo cX11_undo 1 (some .boolean) :: gT)) B.pre w (List.mem_cons_of_mem _ h)
  have hown : s.vm.findClass RX11 = some m.cls := findClass_of_methodNamed B.named
  have hl := lv_entry ([.ref (a 0)]) (n := 1) (Nat.le_of_ble_eq_true rfl)
  rw [lg_entry_eq]
  generalize (lg_sl ([.ref (a 0)]) ++ List.replicate (1 - (lg_sl ([.ref (a 0)])).length) Slot.unset).toArray = ls at hl ⊢
  have hl : lv_has ls 1 [(0, .ref (a 0))] := hl
  refine lv_aload_n hx hb dX11_undo_0 rfl (lv_at hl 0 rfl) ?_
  refine va_get (D := D) (ci := 11) (v := .int 0) (C := RX11) (T := TX11) (N := 14) hx hb hT iX11 hown hK hP 0 rfl rfl 10 (by decide) (hT _ t_52) (fun _ h9 => h9) (congrArg (fun z => some (Value.int z)) (hf.1 1 (by decide) (by decide))) dX11_undo_1 ?_
  refine lv_if_ne (tgt := 9) hx hb dX11_undo_4 (by decide) (fun c_1 => absurd (by decide) c_1) (fun c_1 => ?_)
  refine lv_iconst (v := 0) hx hb dX11_undo_7 (by decide) ?_
  subst hQ
  exact W.zret hx hb hr rfl (fun t ht hW => ⟨_, rfl, rfl, ht⟩) (fun q hq => absurd hq List.not_mem_nil) dX11_undo_8
set_option maxHeartbeats 4000000 in
set_option maxRecDepth 100000 in
theorem c_X11_check (l : Launch) (D : va_G) (cy : Nat → ClassId) (a : Nat → Nat) (i : Nat → Int32) (r : Nat → Nat → Int32) (q : Nat → Option Nat) (p0 p1 p2 : Int32) (hf : xZ i) (hg : xZr r) : Met l yX11_check (Cond.code yX11_check cX11_check 6 (some .int) :: gT) { frames := 3, cells := 0, slots := 0, locals := 67 } (va_Pc [.ref (a 0), .int p0, .int p1, .int p2] (rP D cy (xW cy a i r q (a 20) (a 12)))) (vp_Si (fun z => z = (-2))) 0 0 (fun _ => False) := by
  refine Met.ofQ (cc := cX11_check) (maxL := 6) (ret := (some .int)) (by decide) rfl ?_
  intro p e s m args below meth c s₁ B hml hv Q hQ
  obtain ⟨rfl, hP, hK⟩ := hv
  have hx := B.exec
  have hb := B.bytes
  have hr := B.returns
  have hlocks := B.notSynchronized
  have hT : ∀ w ∈ gT, w.before _ s = true := fun w h => atoms_spec (ws := (Cond.code yX11_check cX11_check 6 (some .int) :: gT)) B.pre w (List.mem_cons_of_mem _ h)
  have hown : s.vm.findClass RX11 = some m.cls := findClass_of_methodNamed B.named
  have hl := lv_entry ([.ref (a 0), .int p0, .int p1, .int p2]) (n := 6) (Nat.le_of_ble_eq_true rfl)
  rw [lg_entry_eq]
  generalize (lg_sl ([.ref (a 0), .int p0, .int p1, .int p2]) ++ List.replicate (6 - (lg_sl ([.ref (a 0), .int p0, .int p1, .int p2])).length) Slot.unset).toArray = ls at hl ⊢
  have hl : lv_has ls 6 [(0, .ref (a 0)), (1, .int p0), (2, .int p1), (3, .int p2)] := hl
  refine lv_aload_n hx hb dX11_check_0 rfl (lv_at hl 0 rfl) ?_
  refine lv_iload_n hx hb dX11_check_1 rfl (lv_at hl 1 rfl) ?_
  refine va_csq (W.runV (As := [.int p0]) (rest := []) ⟨hx, hb, hml, hown, hT⟩ (c_X11_homeAt l D cy a i r q p0 hf hg) (cwV 1 hT (gV t_42 t_43 t_44 t_45 t_2) rfl rfl rfl (by decide +kernel) ⟨Nat.le_of_ble_eq_true rfl, Nat.le_of_ble_eq_true rfl⟩) (rP_v hP hK (va_recv hK hP (ci := 11) (q0 := 0) rfl rfl)) rfl rfl hl.1 rfl (lv_room (Nat.le_of_ble_eq_true rfl)) dX11_check_2 ⟨Nat.le_of_ble_eq_true rfl, Nat.le_of_ble_eq_true rfl⟩) (fun r_1 hr_1 => ?_)
  subst hr_1
  refine W.eq (g2 := F0 m 5 ls [.null]) rfl ?_
  refine lv_astoreN (lv' := [(4, .null), (0, .ref (a 0)), (1, .int p0), (2, .int p1), (3, .int p2)]) hx hb dX11_check_5 hl (by decide) rfl (fun ls hl => ?_)
  refine lv_aloadN hx hb dX11_check_7 (lv_at hl 0 rfl) ?_
  refine lv_ifnullN (tgt := 41) hx hb dX11_check_9 (by decide) ?_
  refine lv_bipush (v := (-2)) hx hb dX11_check_41 (by decide) ?_
  subst hQ
  exact W.iret (v := (-2)) hx hb hr (fun t ht hW => ⟨_, rfl, rfl, ht⟩) (fun q hq => absurd hq List.not_mem_nil) dX11_check_43
set_option maxHeartbeats 4000000 in
set_option maxRecDepth 100000 in
theorem c_X11_byKind (l : Launch) (D : va_G) (cy : Nat → ClassId) (a : Nat → Nat) (i : Nat → Int32) (r : Nat → Nat → Int32) (q : Nat → Option Nat) (p0 p1 : Int32) (hf : xZ i) (hg : xZr r) : Met l yX11_byKind (Cond.code yX11_byKind cX11_byKind 6 (some .int) :: gT) { frames := 3, cells := 0, slots := 0, locals := 66 } (va_Pc [.ref (a 0), .int p0, .int p1] (rP D cy (xW cy a i r q (a 20) (a 12)))) (vp_Si (fun z => BR z ((0 ≤ p0.toInt ∧ p0.toInt ≤ 7) ∧ 0 ≤ p1.toInt ∧ p1.toInt ≤ 9999) 0 (-1))) 0 0 (fun _ => False) := by
  refine Met.ofQ (cc := cX11_byKind) (maxL := 6) (ret := (some .int)) (by decide) rfl ?_
  intro p e s m args below meth c s₁ B hml hv Q hQ
  obtain ⟨rfl, hP, hK⟩ := hv
  have hx := B.exec
  have hb := B.bytes
  have hr := B.returns
  have hlocks := B.notSynchronized
  have hT : ∀ w ∈ gT, w.before _ s = true := fun w h => atoms_spec (ws := (Cond.code yX11_byKind cX11_byKind 6 (some .int) :: gT)) B.pre w (List.mem_cons_of_mem _ h)
  have hown : s.vm.findClass RX11 = some m.cls := findClass_of_methodNamed B.named
  have hl := lv_entry ([.ref (a 0), .int p0, .int p1]) (n := 6) (Nat.le_of_ble_eq_true rfl)
  rw [lg_entry_eq]
  generalize (lg_sl ([.ref (a 0), .int p0, .int p1]) ++ List.replicate (6 - (lg_sl ([.ref (a 0), .int p0, .int p1])).length) Slot.unset).toArray = ls at hl ⊢
  have hl : lv_has ls 6 [(0, .ref (a 0)), (1, .int p0), (2, .int p1)] := hl
  refine lv_iload_n hx hb dX11_byKind_0 rfl (lv_at hl 1 rfl) ?_
  refine lv_iconst (v := 0) hx hb dX11_byKind_1 (by decide) ?_
  refine lv_bipush (v := 7) hx hb dX11_byKind_2 (by decide) ?_
  refine vp_callSi (W.runS (As := [.int p0, .int 0, .int 7]) (rest := []) ⟨hx, hb, hml, hown, hT⟩ (c_X11_within l p0 0 7) (va_cwS 3 hT (gS t_1 t_3 t_4 t_2) rfl rfl rfl (by decide +kernel) ⟨Nat.le_of_ble_eq_true rfl, Nat.le_of_ble_eq_true rfl⟩) preT rfl rfl hl.1 rfl (lv_room (Nat.le_of_ble_eq_true rfl)) dX11_byKind_4 ⟨Nat.le_of_ble_eq_true rfl, Nat.le_of_ble_eq_true rfl⟩) (fun r_1 hr_1 => ?_)
  have hr_1 : BR r_1 (0 ≤ p0.toInt ∧ p0.toInt ≤ 7) 1 0 := hr_1
  rcases hr_1 with ⟨rfl, h_2⟩ | ⟨rfl, h_2⟩
  · skip
    refine lv_if_eq (tgt := 17) hx hb dX11_byKind_7 (by decide) (fun c_3 => absurd c_3 (by decide)) (fun c_3 => ?_)
    refine lv_iload_n hx hb dX11_byKind_10 rfl (lv_at hl 2 rfl) ?_
    refine vp_callSi (W.runS (As := [.int p1]) (rest := []) ⟨hx, hb, hml, hown, hT⟩ (c_X11_isDay l p1) (va_cwS 1 hT (gS t_53 t_54 t_55 t_2) rfl rfl rfl (by decide +kernel) ⟨Nat.le_of_ble_eq_true rfl, Nat.le_of_ble_eq_true rfl⟩) preT rfl rfl hl.1 rfl (lv_room (Nat.le_of_ble_eq_true rfl)) dX11_byKind_11 ⟨Nat.le_of_ble_eq_true rfl, Nat.le_of_ble_eq_true rfl⟩) (fun r_4 hr_4 => ?_)
    have hr_4 : BR r_4 (0 ≤ p1.toInt ∧ p1.toInt ≤ 9999) 1 0 := hr_4
    rcases hr_4 with ⟨rfl, h_5⟩ | ⟨rfl, h_5⟩
    · skip
      refine lv_if_ne (tgt := 19) hx hb dX11_byKind_14 (by decide) (fun c_6 => ?_) (fun c_6 => absurd c_6 (by decide))
      refine lv_iconst (v := 0) hx hb dX11_byKind_19 (by decide) ?_
      refine lv_istore_n (lv' := [(3, .int 0), (0, .ref (a 0)), (1, .int p0), (2, .int p1)]) hx hb dX11_byKind_20 rfl hl (by decide) rfl (fun ls hl => ?_)
      refine lv_iconst (v := 0) hx hb dX11_byKind_21 (by decide) ?_
      refine lv_istore (lv' := [(4, .int 0), (3, .int 0), (0, .ref (a 0)), (1, .int p0), (2, .int p1)]) hx hb dX11_byKind_22 hl (by decide) rfl (fun ls hl => ?_)
      refine lv_iload hx hb dX11_byKind_24 (lv_at hl 0 rfl) ?_
      refine lv_aload_n hx hb dX11_byKind_26 rfl (lv_at hl 2 rfl) ?_
      refine va_get (D := D) (ci := 11) (v := .ref (a 29)) (C := RX11) (T := TX11) (N := 14) hx hb hT iX11 hown hK hP 0 rfl rfl 8 (by decide) (hT _ t_40) (fun _ h9 => h9) rfl dX11_byKind_27 ?_
      refine va_get (D := D) (ci := 1) (v := .int 0) (C := RX1) (T := TX1) (N := 12) hx hb hT iX1 hown hK hP 29 rfl rfl 0 (by decide) (hT _ t_41) (fun _ h9 => h9) (congrArg (fun z => some (Value.int z)) (hf.1 10 (by decide) (by decide))) dX11_byKind_30 ?_
      refine lv_icmp_ge (tgt := 101) hx hb dX11_byKind_33 (by decide) (fun c_7 => ?_) (fun c_7 => absurd (by decide) c_7)
      refine lv_iload_n hx hb dX11_byKind_101 rfl (lv_at hl 1 rfl) ?_
      subst hQ
      exact W.iret (v := 0) hx hb hr (fun t ht hW => ⟨_, rfl, Or.inl ⟨rfl, by omega⟩, ht⟩) (fun q hq => absurd hq List.not_mem_nil) dX11_byKind_102
    · skip
      refine lv_if_ne (tgt := 19) hx hb dX11_byKind_14 (by decide) (fun c_8 => absurd (by decide) c_8) (fun c_8 => ?_)
      refine lv_iconst (v := (-1)) hx hb dX11_byKind_17 (by decide) ?_
      subst hQ
      exact W.iret (v := (-1)) hx hb hr (fun t ht hW => ⟨_, rfl, Or.inr ⟨rfl, by omega⟩, ht⟩) (fun q hq => absurd hq List.not_mem_nil) dX11_byKind_18
  · skip
    refine lv_if_eq (tgt := 17) hx hb dX11_byKind_7 (by decide) (fun c_9 => ?_) (fun c_9 => absurd (by decide) c_9)
    refine lv_iconst (v := (-1)) hx hb dX11_byKind_17 (by decide) ?_
    subst hQ
    exact W.iret (v := (-1)) hx hb hr (fun t ht hW => ⟨_, rfl, Or.inr ⟨rfl, by omega⟩, ht⟩) (fun q hq => absurd hq List.not_mem_nil) dX11_byKind_18
set_option maxHeartbeats 4000000 in
set_option maxRecDepth 100000 in
theorem c_X11_wrong (l : Launch) (D : va_G) (cy : Nat → ClassId) (a : Nat → Nat) (i : Nat → Int32) (r : Nat → Nat → Int32) (q : Nat → Option Nat) (p0 : Int32) (hf : xZ i) (hg : xZr r) : Met l yX11_wrong (Cond.code yX11_wrong cX11_wrong 2 (some .int) :: gT) { frames := 2, cells := 0, slots := 0, locals := 46 } (va_Pc [.ref (a 0), .int p0] (rP D cy (xW cy a i r q (a 20) (a 12)))) (vp_Si (fun z => BR z (p0.toInt = -1) 0 (-1))) 0 0 (fun _ => False) := by
  refine Met.ofQ (cc := cX11_wrong) (maxL := 2) (ret := (some .int)) (by decide) rfl ?_
  intro p e s m args below meth c s₁ B hml hv Q hQ
  obtain ⟨rfl, hP, hK⟩ := hv
  have hx := B.exec
  have hb := B.bytes
  have hr := B.returns
  have hlocks := B.notSynchronized
  have hT : ∀ w ∈ gT, w.before _ s = true := fun w h => atoms_spec (ws := (Cond.code yX11_wrong cX11_wrong 2 (some .int) :: gT)) B.pre w (List.mem_cons_of_mem _ h)
  have hown : s.vm.findClass RX11 = some m.cls := findClass_of_methodNamed B.named
  have hl := lv_entry ([.ref (a 0), .int p0]) (n := 2) (Nat.le_of_ble_eq_true rfl)
  rw [lg_entry_eq]
  generalize (lg_sl ([.ref (a 0), .int p0]) ++ List.replicate (2 - (lg_sl ([.ref (a 0), .int p0])).length) Slot.unset).toArray = ls at hl ⊢
  have hl : lv_has ls 2 [(0, .ref (a 0)), (1, .int p0)] := hl
  refine lv_iload_n hx hb dX11_wrong_0 rfl (lv_at hl 1 rfl) ?_
  refine lv_iconst (v := (-1)) hx hb dX11_wrong_1 (by decide) ?_
  refine lv_icmp_ne (tgt := 13) hx hb dX11_wrong_2 (by decide) (fun c_1 => ?_) (fun c_1 => ?_)
  · have c_1 : p0.toInt ≠ (-1) := b_ne c_1
    refine lv_iload_n hx hb dX11_wrong_13 rfl (lv_at hl 1 rfl) ?_
    refine lv_iconst (v := 0) hx hb dX11_wrong_14 (by decide) ?_
    refine lv_aload_n hx hb dX11_wrong_15 rfl (lv_at hl 0 rfl) ?_
    refine va_get (D := D) (ci := 11) (v := .ref (a 58)) (C := RX11) (T := TX11) (N := 14) hx hb hT iX11 hown hK hP 0 rfl rfl 13 (by decide) (hT _ t_56) (fun _ h9 => h9) rfl dX11_wrong_16 ?_
    refine va_get (D := D) (ci := 7) (v := .int 0) (C := RX7) (T := TX7) (N := 4) hx hb hT iX7 hown hK hP 58 rfl rfl 1 (by decide) (hT _ t_57) (fun _ h9 => h9) (congrArg (fun z => some (Value.int z)) (hf.1 16 (by decide) (by decide))) dX11_wrong_19 ?_
    refine lv_iconst (v := 1) hx hb dX11_wrong_22 (by decide) ?_
    refine lv_isub hx hb dX11_wrong_23 ?_
    refine lv_topi (fun v_2 ev_2 => ?_)
    obtain rfl : v_2 = (-1) := ev_2.trans (by decide)
    refine vp_callSi (W.runS (As := [.int p0, .int 0, .int (-1)]) (rest := []) ⟨hx, hb, hml, hown, hT⟩ (c_X11_within l p0 0 (-1)) (va_cwS 3 hT (gS t_1 t_3 t_4 t_2) rfl rfl rfl (by decide +kernel) ⟨Nat.le_of_ble_eq_true rfl, Nat.le_of_ble_eq_true rfl⟩) preT rfl rfl hl.1 rfl (lv_room (Nat.le_of_ble_eq_true rfl)) dX11_wrong_24 ⟨Nat.le_of_ble_eq_true rfl, Nat.le_of_ble_eq_true rfl⟩) (fun r_3 hr_3 => ?_)
    have hr_3 : BR r_3 (0 ≤ p0.toInt ∧ p0.toInt ≤ (-1)) 1 0 := hr_3
    rcases hr_3 with ⟨rfl, h_4⟩ | ⟨rfl, h_4⟩
    · exact absurd h_4 (by omega)
    · skip
      refine lv_if_eq (tgt := 42) hx hb dX11_wrong_27 (by decide) (fun c_5 => ?_) (fun c_5 => absurd (by decide) c_5)
      refine lv_iconst (v := (-1)) hx hb dX11_wrong_42 (by decide) ?_
      subst hQ
      exact W.iret (v := (-1)) hx hb hr (fun t ht hW => ⟨_, rfl, Or.inr ⟨rfl, by omega⟩, ht⟩) (fun q hq => absurd hq List.not_mem_nil) dX11_wrong_43
  · have c_1 : p0.toInt = (-1) := b_nne c_1
    refine lv_aload_n hx hb dX11_wrong_5 rfl (lv_at hl 0 rfl) ?_
    refine va_get (D := D) (ci := 11) (v := .ref (a 58)) (C := RX11) (T := TX11) (N := 14) hx hb hT iX11 hown hK hP 0 rfl rfl 13 (by decide) (hT _ t_56) (fun _ h9 => h9) rfl dX11_wrong_6 ?_
    refine va_get (D := D) (ci := 7) (v := .int 0) (C := RX7) (T := TX7) (N := 4) hx hb hT iX7 hown hK hP 58 rfl rfl 1 (by decide) (hT _ t_57) (fun _ h9 => h9) (congrArg (fun z => some (Value.int z)) (hf.1 16 (by decide) (by decide))) dX11_wrong_9 ?_
    subst hQ
    exact W.iret (v := 0) hx hb hr (fun t ht hW => ⟨_, rfl, Or.inl ⟨rfl, by omega⟩, ht⟩) (fun q hq => absurd hq List.not_mem_nil) dX11_wrong_12
set_option maxHeartbeats 4000000 in
set_option maxRecDepth 100000 in
theorem c_X11_spread (l : Launch) (D : va_G) (cy : Nat → ClassId) (a : Nat → Nat) (i : Nat → Int32) (r : Nat → Nat → Int32) (q : Nat → Option Nat) (p0 p1 : Int32) (hf : xZ i) (hg : xZr r) : Met l yX11_spread (Cond.code yX11_spread cX11_spread 6 (some .int) :: gT) { frames := 2, cells := 0, slots := 0, locals := 46 } (va_Pc [.ref (a 0), .int p0, .int p1] (rP D cy (xW cy a i r q (a 20) (a 12)))) (vp_Si (fun z => z = (-1000000))) 0 0 (fun _ => False) := by
  refine Met.ofQ (cc := cX11_spread) (maxL := 6) (ret := (some .int)) (by decide) rfl ?_
  intro p e s m args below meth c s₁ B hml hv Q hQ
  obtain ⟨rfl, hP, hK⟩ := hv
  have hx := B.exec
  have hb := B.bytes
  have hr := B.returns
  have hlocks := B.notSynchronized
  have hT : ∀ w ∈ gT, w.before _ s = true := fun w h => atoms_spec (ws := (Cond.code yX11_spread cX11_spread 6 (some .int) :: gT)) B.pre w (List.mem_cons_of_mem _ h)
  have hown : s.vm.findClass RX11 = some m.cls := findClass_of_methodNamed B.named
  have hl := lv_entry ([.ref (a 0), .int p0, .int p1]) (n := 6) (Nat.le_of_ble_eq_true rfl)
  rw [lg_entry_eq]
  generalize (lg_sl ([.ref (a 0), .int p0, .int p1]) ++ List.replicate (6 - (lg_sl ([.ref (a 0), .int p0, .int p1])).length) Slot.unset).toArray = ls at hl ⊢
  have hl : lv_has ls 6 [(0, .ref (a 0)), (1, .int p0), (2, .int p1)] := hl
  refine lv_iload_n hx hb dX11_spread_0 rfl (lv_at hl 1 rfl) ?_
  refine lv_iconst (v := 0) hx hb dX11_spread_1 (by decide) ?_
  refine lv_iconst (v := 5) hx hb dX11_spread_2 (by decide) ?_
  refine vp_callSi (W.runS (As := [.int p0, .int 0, .int 5]) (rest := []) ⟨hx, hb, hml, hown, hT⟩ (c_X11_within l p0 0 5) (va_cwS 3 hT (gS t_1 t_3 t_4 t_2) rfl rfl rfl (by decide +kernel) ⟨Nat.le_of_ble_eq_true rfl, Nat.le_of_ble_eq_true rfl⟩) preT rfl rfl hl.1 rfl (lv_room (Nat.le_of_ble_eq_true rfl)) dX11_spread_3 ⟨Nat.le_of_ble_eq_true rfl, Nat.le_of_ble_eq_true rfl⟩) (fun r_1 hr_1 => ?_)
  have hr_1 : BR r_1 (0 ≤ p0.toInt ∧ p0.toInt ≤ 5) 1 0 := hr_1
  rcases hr_1 with ⟨rfl, h_2⟩ | ⟨rfl, h_2⟩
  · skip
    refine lv_if_eq (tgt := 30) hx hb dX11_spread_6 (by decide) (fun c_3 => absurd c_3 (by decide)) (fun c_3 => ?_)
    refine lv_iload_n hx hb dX11_spread_9 rfl (lv_at hl 2 rfl) ?_
    refine lv_iconst (v := 0) hx hb dX11_spread_10 (by decide) ?_
    refine lv_iconst (v := 3) hx hb dX11_spread_11 (by decide) ?_
    refine vp_callSi (W.runS (As := [.int p1, .int 0, .int 3]) (rest := []) ⟨hx, hb, hml, hown, hT⟩ (c_X11_within l p1 0 3) (va_cwS 3 hT (gS t_1 t_3 t_4 t_2) rfl rfl rfl (by decide +kernel) ⟨Nat.le_of_ble_eq_true rfl, Nat.le_of_ble_eq_true rfl⟩) preT rfl rfl hl.1 rfl (lv_room (Nat.le_of_ble_eq_true rfl)) dX11_spread_12 ⟨Nat.le_of_ble_eq_true rfl, Nat.le_of_ble_eq_true rfl⟩) (fun r_4 hr_4 => ?_)
    have hr_4 : BR r_4 (0 ≤ p1.toInt ∧ p1.toInt ≤ 3) 1 0 := hr_4
    rcases hr_4 with ⟨rfl, h_5⟩ | ⟨rfl, h_5⟩
    · skip
      refine lv_if_eq (tgt := 30) hx hb dX11_spread_15 (by decide) (fun c_6 => absurd c_6 (by decide)) (fun c_6 => ?_)
      refine lv_aload_n hx hb dX11_spread_18 rfl (lv_at hl 0 rfl) ?_
      refine va_get (D := D) (ci := 11) (v := .ref (a 54)) (C := RX11) (T := TX11) (N := 14) hx hb hT iX11 hown hK hP 0 rfl rfl 12 (by decide) (hT _ t_58) (fun _ h9 => h9) rfl dX11_spread_19 ?_
      refine va_get (D := D) (ci := 2) (v := .ref (a 55)) (C := RX2) (T := TX2) (N := 4) hx hb hT iX2 hown hK hP 54 rfl rfl 1 (by decide) (hT _ t_59) (fun _ h9 => h9) rfl dX11_spread_22 ?_
      refine lv_iload_n hx hb dX11_spread_25 rfl (lv_at hl 1 rfl) ?_
      refine va_iald hx hb hK hP 55 0 rfl rfl (vp_inI (by omega) (by omega)) dX11_spread_26 ?_
      refine lv_topi (fun v_7 ev_7 => ?_)
      obtain rfl : v_7 = 0 := ev_7.trans (hg.1 _)
      refine lv_if_ne (tgt := 34) hx hb dX11_spread_27 (by decide) (fun c_8 => absurd (by decide) c_8) (fun c_8 => ?_)
      refine lv_ldcw (v := (-1000000)) hx hb hown (hT _ t_60) dX11_spread_30 ?_
      subst hQ
      exact W.iret (v := (-1000000)) hx hb hr (fun t ht hW => ⟨_, rfl, rfl, ht⟩) (fun q hq => absurd hq List.not_mem_nil) dX11_spread_33
    · skip
      refine lv_if_eq (tgt := 30) hx hb dX11_spread_15 (by decide) (fun c_9 => ?_) (fun c_9 => absurd (by decide) c_9)
      refine lv_ldcw (v := (-1000000)) hx hb hown (hT _ t_60) dX11_spread_30 ?_
      subst hQ
      exact W.iret (v := (-1000000)) hx hb hr (fun t ht hW => ⟨_, rfl, rfl, ht⟩) (fun q hq => absurd hq List.not_mem_nil) dX11_spread_33
  · skip
    refine lv_if_eq (tgt := 30) hx hb dX11_spread_6 (by decide) (fun c_10 => ?_) (fun c_10 => absurd (by decide) c_10)
    refine lv_ldcw (v := (-1000000)) hx hb hown (hT _ t_60) dX11_spread_30 ?_
    subst hQ
    exact W.iret (v := (-1000000)) hx hb hr (fun t ht hW => ⟨_, rfl, rfl, ht⟩) (fun q hq => absurd hq List.not_mem_nil) dX11_spread_33
set_option maxHeartbeats 4000000 in
set_option maxRecDepth 100000 in
theorem c_X11_count (l : Launch) (D : va_G) (cy : Nat → ClassId) (a : Nat → Nat) (i : Nat → Int32) (r : Nat → Nat → Int32) (q : Nat → Option Nat) (p0 : Int32) (hf : xZ i) (hg : xZr r) : Met l yX11_count (Cond.code yX11_count cX11_count 3 (some .int) :: gT) { frames := 3, cells := 0, slots := 0, locals := 67 } (va_Pc [.ref (a 0), .int p0] (rP D cy (xW cy a i r q (a 20) (a 12)))) (vp_Si (fun z => (p0.toInt = 6 → z = 1) ∧ (0 ≤ p0.toInt → p0.toInt ≤ 5 → z = 0) ∧ (p0.toInt < 0 ∨ 6 < p0.toInt → z = -1))) 0 0 (fun _ => False) := by
  refine Met.ofQ (cc := cX11_count) (maxL := 3) (ret := (some .int)) (by decide) rfl ?_
  intro p e s m args below meth c s₁ B hml hv Q hQ
  obtain ⟨rfl, hP, hK⟩ := hv
  have hx := B.exec
  have hb := B.bytes
  have hr := B.returns
  have hlocks := B.notSynchronized
  have hT : ∀ w ∈ gT, w.before _ s = true := fun w h => atoms_spec (ws := (Cond.code yX11_count cX11_count 3 (some .int) :: gT)) B.pre w (List.mem_cons_of_mem _ h)
  have hown : s.vm.findClass RX11 = some m.cls := findClass_of_methodNamed B.named
  have hl := lv_entry ([.ref (a 0), .int p0]) (n := 3) (Nat.le_of_ble_eq_true rfl)
  rw [lg_entry_eq]
  generalize (lg_sl ([.ref (a 0), .int p0]) ++ List.replicate (3 - (lg_sl ([.ref (a 0), .int p0])).length) Slot.unset).toArray = ls at hl ⊢
  have hl : lv_has ls 3 [(0, .ref (a 0)), (1, .int p0)] := hl
  refine lv_iload_n hx hb dX11_count_0 rfl (lv_at hl 1 rfl) ?_
  refine lv_bipush (v := 30) hx hb dX11_count_1 (by decide) ?_
  refine lv_icmp_lt (tgt := 34) hx hb dX11_count_3 (by decide) (fun c_1 => ?_) (fun c_1 => ?_)
  · have c_1 : p0.toInt < 30 := b_lt c_1
    refine lv_iload_n hx hb dX11_count_34 rfl (lv_at hl 1 rfl) ?_
    refine lv_bipush (v := 10) hx hb dX11_count_35 (by decide) ?_
    refine lv_icmp_lt (tgt := 79) hx hb dX11_count_37 (by decide) (fun c_2 => ?_) (fun c_2 => ?_)
    · have c_2 : p0.toInt < 10 := b_lt c_2
      refine lv_iload_n hx hb dX11_count_79 rfl (lv_at hl 1 rfl) ?_
      rcases (show (p0.toInt < 0 ∨ 6 < p0.toInt) ∨ p0.toInt = 0 ∨ p0.toInt = 1 ∨ p0.toInt = 2 ∨ p0.toInt = 3 ∨ p0.toInt = 4 ∨ p0.toInt = 5 ∨ p0.toInt = 6 by omega) with h_3 | h_3 | h_3 | h_3 | h_3 | h_3 | h_3 | h_3
      · refine lv_tableOut (tgt := 177) hx hb dX11_count_80 h_3 (by decide) ?_
        refine lv_iconst (v := (-1)) hx hb dX11_count_177 (by decide) ?_
        subst hQ
        exact W.iret (v := (-1)) hx hb hr (fun t ht hW => ⟨_, rfl, ⟨fun _ => by first | rfl | omega, fun _ _ => by first | rfl | omega, fun _ => by first | rfl | omega⟩, ht⟩) (fun q hq => absurd hq List.not_mem_nil) dX11_count_178
      · refine lv_tableIn (off := 44) (tgt := 124) hx hb dX11_count_80 (by omega) (by omega) (by rw [h_3]; rfl) (by decide) ?_
        refine lv_aload_n hx hb dX11_count_124 rfl (lv_at hl 0 rfl) ?_
        refine va_get (D := D) (ci := 11) (v := .int 0) (C := RX11) (T := TX11) (N := 14) hx hb hT iX11 hown hK hP 0 rfl rfl 2 (by decide) (hT _ t_39) (fun _ h9 => h9) (congrArg (fun z => some (Value.int z)) (hf.1 0 (by decide) (by decide))) dX11_count_125 ?_
        subst hQ
        exact W.iret (v := 0) hx hb hr (fun t ht hW => ⟨_, rfl, ⟨fun _ => by first | rfl | omega, fun _ _ => by first | rfl | omega, fun _ => by first | rfl | omega⟩, ht⟩) (fun q hq => absurd hq List.not_mem_nil) dX11_count_128
      · refine lv_tableIn (off := 49) (tgt := 129) hx hb dX11_count_80 (by omega) (by omega) (by rw [h_3]; rfl) (by decide) ?_
        refine lv_aload_n hx hb dX11_count_129 rfl (lv_at hl 0 rfl) ?_
        refine va_get (D := D) (ci := 11) (v := .ref (a 29)) (C := RX11) (T := TX11) (N := 14) hx hb hT iX11 hown hK hP 0 rfl rfl 8 (by decide) (hT _ t_40) (fun _ h9 => h9) rfl dX11_count_130 ?_
        refine va_get (D := D) (ci := 1) (v := .int 0) (C := RX1) (T := TX1) (N := 12) hx hb hT iX1 hown hK hP 29 rfl rfl 0 (by decide) (hT _ t_41) (fun _ h9 => h9) (congrArg (fun z => some (Value.int z)) (hf.1 10 (by decide) (by decide))) dX11_count_133 ?_
        subst hQ
        exact W.iret (v := 0) hx hb hr (fun t ht hW => ⟨_, rfl, ⟨fun _ => by first | rfl | omega, fun _ _ => by first | rfl | omega, fun _ => by first | rfl | omega⟩, ht⟩) (fun q hq => absurd hq List.not_mem_nil) dX11_count_136
      · refine lv_tableIn (off := 57) (tgt := 137) hx hb dX11_count_80 (by omega) (by omega) (by rw [h_3]; rfl) (by decide) ?_
        refine lv_aload_n hx hb dX11_count_137 rfl (lv_at hl 0 rfl) ?_
        refine va_get (D := D) (ci := 11) (v := .ref (a 20)) (C := RX11) (T := TX11) (N := 14) hx hb hT iX11 hown hK hP 0 rfl rfl 6 (by decide) (hT _ t_61) (fun _ h9 => h9) rfl dX11_count_138 ?_
        refine va_get (D := D) (ci := 5) (v := .int 0) (C := RX5) (T := TX5) (N := 9) hx hb hT iX5 hown hK hP 20 rfl rfl 0 (by decide) (hT _ t_62) (fun _ h9 => h9) (congrArg (fun z => some (Value.int z)) (hf.1 8 (by decide) (by decide))) dX11_count_141 ?_
        subst hQ
        exact W.iret (v := 0) hx hb hr (fun t ht hW => ⟨_, rfl, ⟨fun _ => by first | rfl | omega, fun _ _ => by first | rfl | omega, fun _ => by first | rfl | omega⟩, ht⟩) (fun q hq => absurd hq List.not_mem_nil) dX11_count_144
      · refine lv_tableIn (off := 65) (tgt := 145) hx hb dX11_count_80 (by omega) (by omega) (by rw [h_3]; rfl) (by decide) ?_
        refine lv_aload_n hx hb dX11_count_145 rfl (lv_at hl 0 rfl) ?_
        refine va_get (D := D) (ci := 11) (v := .ref (a 8)) (C := RX11) (T := TX11) (N := 14) hx hb hT iX11 hown hK hP 0 rfl rfl 4 (by decide) (hT _ t_46) (fun _ h9 => h9) rfl dX11_count_146 ?_
        refine va_get (D := D) (ci := 9) (v := .int 0) (C := RX9) (T := TX9) (N := 2) hx hb hT iX9 hown hK hP 8 rfl rfl 1 (by decide) (hT _ t_47) (fun _ h9 => h9) (congrArg (fun z => some (Value.int z)) (hf.1 2 (by decide) (by decide))) dX11_count_149 ?_
        subst hQ
        exact W.iret (v := 0) hx hb hr (fun t ht hW => ⟨_, rfl, ⟨fun _ => by first | rfl | omega, fun _ _ => by first | rfl | omega, fun _ => by first | rfl | omega⟩, ht⟩) (fun q hq => absurd hq List.not_mem_nil) dX11_count_152
      · refine lv_tableIn (off := 73) (tgt := 153) hx hb dX11_count_80 (by omega) (by omega) (by rw [h_3]; rfl) (by decide) ?_
        refine lv_aload_n hx hb dX11_count_153 rfl (lv_at hl 0 rfl) ?_
        refine va_get (D := D) (ci := 11) (v := .ref (a 54)) (C := RX11) (T := TX11) (N := 14) hx hb hT iX11 hown hK hP 0 rfl rfl 12 (by decide) (hT _ t_58) (fun _ h9 => h9) rfl dX11_count_154 ?_
        refine va_get (D := D) (ci := 2) (v := .int 0) (C := RX2) (T := TX2) (N := 4) hx hb hT iX2 hown hK hP 54 rfl rfl 0 (by decide) (hT _ t_63) (fun _ h9 => h9) (congrArg (fun z => some (Value.int z)) (hf.1 14 (by decide) (by decide))) dX11_count_157 ?_
        subst hQ
        exact W.iret (v := 0) hx hb hr (fun t ht hW => ⟨_, rfl, ⟨fun _ => by first | rfl | omega, fun _ _ => by first | rfl | omega, fun _ => by first | rfl | omega⟩, ht⟩) (fun q hq => absurd hq List.not_mem_nil) dX11_count_160
      · refine lv_tableIn (off := 81) (tgt := 161) hx hb dX11_count_80 (by omega) (by omega) (by rw [h_3]; rfl) (by decide) ?_
        refine lv_aload_n hx hb dX11_count_161 rfl (lv_at hl 0 rfl) ?_
        refine va_get (D := D) (ci := 11) (v := .ref (a 58)) (C := RX11) (T := TX11) (N := 14) hx hb hT iX11 hown hK hP 0 rfl rfl 13 (by decide) (hT _ t_56) (fun _ h9 => h9) rfl dX11_count_162 ?_
        refine va_get (D := D) (ci := 7) (v := .int 0) (C := RX7) (T := TX7) (N := 4) hx hb hT iX7 hown hK hP 58 rfl rfl 0 (by decide) (hT _ t_64) (fun _ h9 => h9) (congrArg (fun z => some (Value.int z)) (hf.1 15 (by decide) (by decide))) dX11_count_165 ?_
        subst hQ
        exact W.iret (v := 0) hx hb hr (fun t ht hW => ⟨_, rfl, ⟨fun _ => by first | rfl | omega, fun _ _ => by first | rfl | omega, fun _ => by first | rfl | omega⟩, ht⟩) (fun q hq => absurd hq List.not_mem_nil) dX11_count_168
      · refine lv_tableIn (off := 89) (tgt := 169) hx hb dX11_count_80 (by omega) (by omega) (by rw [h_3]; rfl) (by decide) ?_
        refine lv_aload_n hx hb dX11_count_169 rfl (lv_at hl 0 rfl) ?_
        refine va_get (D := D) (ci := 11) (v := .ref (a 29)) (C := RX11) (T := TX11) (N := 14) hx hb hT iX11 hown hK hP 0 rfl rfl 8 (by decide) (hT _ t_40) (fun _ h9 => h9) rfl dX11_count_170 ?_
        refine va_get (D := D) (ci := 1) (v := .int 1) (C := RX1) (T := TX1) (N := 12) hx hb hT iX1 hown hK hP 29 rfl rfl 11 (by decide) (hT _ t_65) (fun _ h9 => h9) (congrArg (fun z => some (Value.int z)) (hf.2.1)) dX11_count_173 ?_
        subst hQ
        exact W.iret (v := 1) hx hb hr (fun t ht hW => ⟨_, rfl, ⟨fun _ => by first | rfl | omega, fun _ _ => by first | rfl | omega, fun _ => by first | rfl | omega⟩, ht⟩) (fun q hq => absurd hq List.not_mem_nil) dX11_count_176
    · have c_2 : 10 ≤ p0.toInt := b_nlt c_2
      refine lv_aload_n hx hb dX11_count_40 rfl (lv_at hl 0 rfl) ?_
      refine lv_iload_n hx hb dX11_count_41 rfl (lv_at hl 1 rfl) ?_
      refine lv_bipush (v := 10) hx hb dX11_count_42 (by decide) ?_
      refine lv_irem hx hb dX11_count_44 (by decide) ?_
      refine lv_topi (fun v_4 ev_4 => ?_)
      refine va_csq (W.runV (As := [.int v_4]) (rest := []) ⟨hx, hb, hml, hown, hT⟩ (c_X11_homeAt l D cy a i r q v_4 hf hg) (cwV 1 hT (gV t_42 t_43 t_44 t_45 t_2) rfl rfl rfl (by decide +kernel) ⟨Nat.le_of_ble_eq_true rfl, Nat.le_of_ble_eq_true rfl⟩) (rP_v hP hK (va_recv hK hP (ci := 11) (q0 := 0) rfl rfl)) rfl rfl hl.1 rfl (lv_room (Nat.le_of_ble_eq_true rfl)) dX11_count_45 ⟨Nat.le_of_ble_eq_true rfl, Nat.le_of_ble_eq_true rfl⟩) (fun r_5 hr_5 => ?_)
      subst hr_5
      refine W.eq (g2 := F0 m 48 ls [.null]) rfl ?_
      refine lv_astore_nN (lv' := [(2, .null), (0, .ref (a 0)), (1, .int p0)]) hx hb dX11_count_48 rfl hl (by decide) rfl (fun ls hl => ?_)
      refine lv_aload_nN hx hb dX11_count_49 rfl (lv_at hl 0 rfl) ?_
      refine lv_ifnonnullN hx hb dX11_count_50 ?_
      refine lv_iconst (v := (-1)) hx hb dX11_count_53 (by decide) ?_
      subst hQ
      exact W.iret (v := (-1)) hx hb hr (fun t ht hW => ⟨_, rfl, ⟨fun _ => by first | rfl | omega, fun _ _ => by first | rfl | omega, fun _ => by first | rfl | omega⟩, ht⟩) (fun q hq => absurd hq List.not_mem_nil) dX11_count_54
  · have c_1 : 30 ≤ p0.toInt := b_nlt c_1
    refine lv_aload_n hx hb dX11_count_6 rfl (lv_at hl 0 rfl) ?_
    refine lv_iload_n hx hb dX11_count_7 rfl (lv_at hl 1 rfl) ?_
    refine lv_bipush (v := 30) hx hb dX11_count_8 (by decide) ?_
    refine lv_isub hx hb dX11_count_10 ?_
    refine lv_topi (fun v_6 ev_6 => ?_)
    have hv_6 : v_6.toInt = p0.toInt - 30 := by rw [ev_6]; have := b_rg p0; exact i_sub (a := p0.toInt) (b := 30) rfl rfl (by omega) (by omega)
    refine vp_callSi (W.runV (As := [.int v_6]) (rest := []) ⟨hx, hb, hml, hown, hT⟩ (c_X11_isClaim l D cy a i r q v_6 hf hg) (cwV 1 hT (gV t_48 t_49 t_50 t_51 t_2) rfl rfl rfl (by decide +kernel) ⟨Nat.le_of_ble_eq_true rfl, Nat.le_of_ble_eq_true rfl⟩) (rP_v hP hK (va_recv hK hP (ci := 11) (q0 := 0) rfl rfl)) rfl rfl hl.1 rfl (lv_room (Nat.le_of_ble_eq_true rfl)) dX11_count_11 ⟨Nat.le_of_ble_eq_true rfl, Nat.le_of_ble_eq_true rfl⟩) (fun r_7 hr_7 => ?_)
    subst hr_7
    refine lv_if_eq (tgt := 32) hx hb dX11_count_14 (by decide) (fun c_8 => ?_) (fun c_8 => absurd (by decide) c_8)
    refine lv_iconst (v := (-1)) hx hb dX11_count_32 (by decide) ?_
    subst hQ
    exact W.iret (v := (-1)) hx hb hr (fun t ht hW => ⟨_, rfl, ⟨fun _ => by first | rfl | omega, fun _ _ => by first | rfl | omega, fun _ => by first | rfl | omega⟩, ht⟩) (fun q hq => absurd hq List.not_mem_nil) dX11_count_33
set_option maxHeartbeats 4000000 in
set_option maxRecDepth 100000 in
theorem c_X7_gap (l : Launch) (D : va_G) (cy : Nat → ClassId) (h0 h1 h2 : Nat) (f0 f1 : Int32) (g : Nat → Int32) (p0 p1 : Int32) (q0 : 0 ≤ p0.toInt ∧ p0.toInt ≤ 10) (q1 : 0 ≤ p1.toInt ∧ p1.toInt ≤ 10) : Met l yX7_gap (Cond.code yX7_gap cX7_gap 3 (some .int) :: gT) { frames := 1, cells := 0, slots := 0, locals := 24 } (va_Pc [.ref h0, .int p0, .int p1] (rP D cy [(h0, .inr (7, [.int f0, .int f1, .ref h1, .ref h2])), (h2, .inl (cy 0, 121, .inl g))])) (vp_Si (fun z => z = g ((p0.toInt * 11 + p1.toInt).toNat))) 0 0 (fun _ => False) := by
  refine Met.ofQ (cc := cX7_gap) (maxL := 3) (ret := (some .int)) (by decide) rfl ?_
  intro p e s m args below meth c s₁ B hml hv Q hQ
  obtain ⟨rfl, hP, hK⟩ := hv
  have hx := B.exec
  have hb := B.bytes
  have hr := B.returns
  have hlocks := B.notSynchronized
  have hT : ∀ w ∈ gT, w.before _ s = true := fun w h => atoms_spec (ws := (Cond.code yX7_gap cX7_gap 3 (some .int) :: gT)) B.pre w (List.mem_cons_of_mem _ h)
  have hown : s.vm.findClass RX7 = some m.cls := findClass_of_methodNamed B.named
  have hl := lv_entry ([.ref h0, .int p0, .int p1]) (n := 3) (Nat.le_of_ble_eq_true rfl)
  rw [lg_entry_eq]
  generalize (lg_sl ([.ref h0, .int p0, .int p1]) ++ List.replicate (3 - (lg_sl ([.ref h0, .int p0, .int p1])).length) Slot.unset).toArray = ls at hl ⊢
  have hl : lv_has ls 3 [(0, .ref h0), (1, .int p0), (2, .int p1)] := hl
  refine lv_aload_n hx hb dX7_gap_0 rfl (lv_at hl 0 rfl) ?_
  refine va_get (D := D) (ci := 7) (v := .ref h2) (C := RX7) (T := TX7) (N := 4) hx hb hT iX7 hown hK hP 0 rfl rfl 3 (by decide) (hT _ t_66) (fun _ h9 => h9) rfl dX7_gap_1 ?_
  refine lv_iload_n hx hb dX7_gap_4 rfl (lv_at hl 1 rfl) ?_
  refine lv_bipush (v := 11) hx hb dX7_gap_5 (by decide) ?_
  refine lv_imul hx hb dX7_gap_7 ?_
  refine lv_topi (fun v_1 ev_1 => ?_)
  have hv_1 : v_1.toInt = p0.toInt * 11 := by rw [ev_1]; have := b_rg p0; exact i_mul (a := p0.toInt) (b := 11) rfl rfl (by omega) (by omega)
  refine lv_iload_n hx hb dX7_gap_8 rfl (lv_at hl 2 rfl) ?_
  refine lv_iadd hx hb dX7_gap_9 ?_
  refine lv_topi (fun v_2 ev_2 => ?_)
  have hv_2 : v_2.toInt = v_1.toInt + p1.toInt := by rw [ev_2]; have := b_rg v_1; have := b_rg p1; exact i_add (a := v_1.toInt) (b := p1.toInt) rfl rfl (by omega) (by omega)
  refine va_iald hx hb hK hP 1 0 rfl rfl (vp_inI (by omega) (by omega)) dX7_gap_10 ?_
  refine lv_topi (fun v_3 ev_3 => ?_)
  subst hQ
  exact W.iret (v := v_3) hx hb hr (fun t ht hW => ⟨_, rfl, by rw [ev_3]; exact congrArg g (by show v_2.toInt.toNat = _; rw [hv_2, hv_1]), ht⟩) (fun q hq => absurd hq List.not_mem_nil) dX7_gap_11
set_option maxHeartbeats 4000000 in
set_option maxRecDepth 100000 in
theorem c_X11_dated (l : Launch) (D : va_G) (cy : Nat → ClassId) (a : Nat → Nat) (i : Nat → Int32) (r : Nat → Nat → Int32) (q : Nat → Option Nat) (p0 p1 : Int32) (hf : xZ i) (hg : xZr r) : Met l yX11_dated (Cond.code yX11_dated cX11_dated 4 (some .int) :: gT) { frames := 2, cells := 0, slots := 0, locals := 46 } (va_Pc [.ref (a 0), .int p0, .int p1] (rP D cy (xW cy a i r q (a 20) (a 12)))) (vp_Si (fun z => z = (-100000))) 0 0 (fun _ => False) := by
  refine Met.ofQ (cc := cX11_dated) (maxL := 4) (ret := (some .int)) (by decide) rfl ?_
  intro p e s m args below meth c s₁ B hml hv Q hQ
  obtain ⟨rfl, hP, hK⟩ := hv
  have hx := B.exec
  have hb := B.bytes
  have hr := B.returns
  have hlocks := B.notSynchronized
  have hT : ∀ w ∈ gT, w.before _ s = true := fun w h => atoms_spec (ws := (Cond.code yX11_dated cX11_dated 4 (some .int) :: gT)) B.pre w (List.mem_cons_of_mem _ h)
  have hown : s.vm.findClass RX11 = some m.cls := findClass_of_methodNamed B.named
  have hl := lv_entry ([.ref (a 0), .int p0, .int p1]) (n := 4) (Nat.le_of_ble_eq_true rfl)
  rw [lg_entry_eq]
  generalize (lg_sl ([.ref (a 0), .int p0, .int p1]) ++ List.replicate (4 - (lg_sl ([.ref (a 0), .int p0, .int p1])).length) Slot.unset).toArray = ls at hl ⊢
  have hl : lv_has ls 4 [(0, .ref (a 0)), (1, .int p0), (2, .int p1)] := hl
  refine lv_iload_n hx hb dX11_dated_0 rfl (lv_at hl 1 rfl) ?_
  refine lv_iconst (v := 0) hx hb dX11_dated_1 (by decide) ?_
  refine lv_bipush (v := 9) hx hb dX11_dated_2 (by decide) ?_
  refine vp_callSi (W.runS (As := [.int p0, .int 0, .int 9]) (rest := []) ⟨hx, hb, hml, hown, hT⟩ (c_X11_within l p0 0 9) (va_cwS 3 hT (gS t_1 t_3 t_4 t_2) rfl rfl rfl (by decide +kernel) ⟨Nat.le_of_ble_eq_true rfl, Nat.le_of_ble_eq_true rfl⟩) preT rfl rfl hl.1 rfl (lv_room (Nat.le_of_ble_eq_true rfl)) dX11_dated_4 ⟨Nat.le_of_ble_eq_true rfl, Nat.le_of_ble_eq_true rfl⟩) (fun r_1 hr_1 => ?_)
  have hr_1 : BR r_1 (0 ≤ p0.toInt ∧ p0.toInt ≤ 9) 1 0 := hr_1
  rcases hr_1 with ⟨rfl, h_2⟩ | ⟨rfl, h_2⟩
  · skip
    refine lv_if_eq (tgt := 19) hx hb dX11_dated_7 (by decide) (fun c_3 => absurd c_3 (by decide)) (fun c_3 => ?_)
    refine lv_iload_n hx hb dX11_dated_10 rfl (lv_at hl 2 rfl) ?_
    refine lv_iconst (v := 0) hx hb dX11_dated_11 (by decide) ?_
    refine lv_iconst (v := 1) hx hb dX11_dated_12 (by decide) ?_
    refine vp_callSi (W.runS (As := [.int p1, .int 0, .int 1]) (rest := []) ⟨hx, hb, hml, hown, hT⟩ (c_X11_within l p1 0 1) (va_cwS 3 hT (gS t_1 t_3 t_4 t_2) rfl rfl rfl (by decide +kernel) ⟨Nat.le_of_ble_eq_true rfl, Nat.le_of_ble_eq_true rfl⟩) preT rfl rfl hl.1 rfl (lv_room (Nat.le_of_ble_eq_true rfl)) dX11_dated_13 ⟨Nat.le_of_ble_eq_true rfl, Nat.le_of_ble_eq_true rfl⟩) (fun r_4 hr_4 => ?_)
    have hr_4 : BR r_4 (0 ≤ p1.toInt ∧ p1.toInt ≤ 1) 1 0 := hr_4
    rcases hr_4 with ⟨rfl, h_5⟩ | ⟨rfl, h_5⟩
    · skip
      refine lv_if_ne (tgt := 23) hx hb dX11_dated_16 (by decide) (fun c_6 => ?_) (fun c_6 => absurd c_6 (by decide))
      refine lv_iload_n hx hb dX11_dated_23 rfl (lv_at hl 2 rfl) ?_
      refine lv_if_ne (tgt := 40) hx hb dX11_dated_24 (by decide) (fun c_7 => ?_) (fun c_7 => ?_)
      · have c_7 : p1.toInt ≠ 0 := b_ne c_7
        refine lv_aload_n hx hb dX11_dated_40 rfl (lv_at hl 0 rfl) ?_
        refine va_get (D := D) (ci := 11) (v := .ref (a 58)) (C := RX11) (T := TX11) (N := 14) hx hb hT iX11 hown hK hP 0 rfl rfl 13 (by decide) (hT _ t_56) (fun _ h9 => h9) rfl dX11_dated_41 ?_
        refine lv_iload_n hx hb dX11_dated_44 rfl (lv_at hl 1 rfl) ?_
        refine lv_bipush (v := 10) hx hb dX11_dated_45 (by decide) ?_
        have hP_8 := hP.sub (ws' := [(a 58, .inr (7, [.int (i 15), .int (i 16), .ref (a 59), .ref (a 60)])), (a 60, .inl (cy 0, 121, .inl (r 60)))]) [58, 60] rfl
        refine vp_callSi (W.runV (As := [.int p0, .int 10]) (rest := []) ⟨hx, hb, hml, hown, hT⟩ (c_X7_gap l D cy (a 58) (a 59) (a 60) (i 15) (i 16) (r 60) p0 10 (by first | omega | decide) (by first | omega | decide)) (cwV 2 hT (gV t_67 t_69 t_70 t_71 t_68) rfl rfl rfl (by decide +kernel) ⟨Nat.le_of_ble_eq_true rfl, Nat.le_of_ble_eq_true rfl⟩) (rP_v hP_8 hK (va_recv hK hP_8 (ci := 7) (q0 := 0) rfl rfl)) rfl rfl hl.1 rfl (lv_room (Nat.le_of_ble_eq_true rfl)) dX11_dated_47 ⟨Nat.le_of_ble_eq_true rfl, Nat.le_of_ble_eq_true rfl⟩) (fun r_9 hr_9 => ?_)
        obtain rfl : r_9 = (-1000000) := by rw [hr_9]; exact (hg.2 _ (by show (p0.toInt * 11 + (10 : Int32).toInt).toNat < 121; have : (10 : Int32).toInt = 10 := rfl; omega)).trans (if_neg (by have : (10 : Int32).toInt = 10 := rfl; omega))
        refine lv_istore_n (lv' := [(3, .int (-1000000)), (0, .ref (a 0)), (1, .int p0), (2, .int p1)]) hx hb dX11_dated_50 rfl hl (by decide) rfl (fun ls hl => ?_)
        refine lv_iload_n hx hb dX11_dated_51 rfl (lv_at hl 0 rfl) ?_
        refine lv_ldcw (v := (-1000000)) hx hb hown (hT _ t_60) dX11_dated_52 ?_
        refine lv_icmp_ne (tgt := 62) hx hb dX11_dated_55 (by decide) (fun c_10 => absurd (by decide) c_10) (fun c_10 => ?_)
        refine lv_ldcw (v := (-100000)) hx hb hown (hT _ t_72) dX11_dated_58 ?_
        subst hQ
        exact W.iret (v := (-100000)) hx hb hr (fun t ht hW => ⟨_, rfl, rfl, ht⟩) (fun q hq => absurd hq List.not_mem_nil) dX11_dated_61
      · have c_7 : p1.toInt = 0 := b_nne c_7
        refine lv_aload_n hx hb dX11_dated_27 rfl (lv_at hl 0 rfl) ?_
        refine va_get (D := D) (ci := 11) (v := .ref (a 58)) (C := RX11) (T := TX11) (N := 14) hx hb hT iX11 hown hK hP 0 rfl rfl 13 (by decide) (hT _ t_56) (fun _ h9 => h9) rfl dX11_dated_28 ?_
        refine lv_bipush (v := 10) hx hb dX11_dated_31 (by decide) ?_
        refine lv_iload_n hx hb dX11_dated_33 rfl (lv_at hl 1 rfl) ?_
        have hP_11 := hP.sub (ws' := [(a 58, .inr (7, [.int (i 15), .int (i 16), .ref (a 59), .ref (a 60)])), (a 60, .inl (cy 0, 121, .inl (r 60)))]) [58, 60] rfl
        refine vp_callSi (W.runV (As := [.int 10, .int p0]) (rest := []) ⟨hx, hb, hml, hown, hT⟩ (c_X7_gap l D cy (a 58) (a 59) (a 60) (i 15) (i 16) (r 60) 10 p0 (by first | omega | decide) (by first | omega | decide)) (cwV 2 hT (gV t_67 t_69 t_70 t_71 t_68) rfl rfl rfl (by decide +kernel) ⟨Nat.le_of_ble_eq_true rfl, Nat.le_of_ble_eq_true rfl⟩) (rP_v hP_11 hK (va_recv hK hP_11 (ci := 7) (q0 := 0) rfl rfl)) rfl rfl hl.1 rfl (lv_room (Nat.le_of_ble_eq_true rfl)) dX11_dated_34 ⟨Nat.le_of_ble_eq_true rfl, Nat.le_of_ble_eq_true rfl⟩) (fun r_12 hr_12 => ?_)
        obtain rfl : r_12 = (-1000000) := by rw [hr_12]; exact (hg.2 _ (by show ((10 : Int32).toInt * 11 + p0.toInt).toNat < 121; have : (10 : Int32).toInt = 10 := rfl; omega)).trans (if_neg (by have : (10 : Int32).toInt = 10 := rfl; omega))
        refine lv_goto (tgt := 50) hx hb dX11_dated_37 (by decide) ?_
        refine lv_istore_n (lv' := [(3, .int (-1000000)), (0, .ref (a 0)), (1, .int p0), (2, .int p1)]) hx hb dX11_dated_50 rfl hl (by decide) rfl (fun ls hl => ?_)
        refine lv_iload_n hx hb dX11_dated_51 rfl (lv_at hl 0 rfl) ?_
        refine lv_ldcw (v := (-1000000)) hx hb hown (hT _ t_60) dX11_dated_52 ?_
        refine lv_icmp_ne (tgt := 62) hx hb dX11_dated_55 (by decide) (fun c_13 => absurd (by decide) c_13) (fun c_13 => ?_)
        refine lv_ldcw (v := (-100000)) hx hb hown (hT _ t_72) dX11_dated_58 ?_
        subst hQ
        exact W.iret (v := (-100000)) hx hb hr (fun t ht hW => ⟨_, rfl, rfl, ht⟩) (fun q hq => absurd hq List.not_mem_nil) dX11_dated_61
    · skip
      refine lv_if_ne (tgt := 23) hx hb dX11_dated_16 (by decide) (fun c_14 => absurd (by decide) c_14) (fun c_14 => ?_)
      refine lv_ldcw (v := (-100000)) hx hb hown (hT _ t_72) dX11_dated_19 ?_
      subst hQ
      exact W.iret (v := (-100000)) hx hb hr (fun t ht hW => ⟨_, rfl, rfl, ht⟩) (fun q hq => absurd hq List.not_mem_nil) dX11_dated_22
  · skip
    refine lv_if_eq (tgt := 19) hx hb dX11_dated_7 (by decide) (fun c_15 => ?_) (fun c_15 => absurd (by decide) c_15)
    refine lv_ldcw (v := (-100000)) hx hb hown (hT _ t_72) dX11_dated_19 ?_
    subst hQ
    exact W.iret (v := (-100000)) hx hb hr (fun t ht hW => ⟨_, rfl, rfl, ht⟩) (fun q hq => absurd hq List.not_mem_nil) dX11_dated_22
end
section
theorem t_73 : Cond.fieldLink RX12 7 "DepositJudgeModel" "lifeOf" "[I" ∈ gT := tm (List.mem_of_getElem? (i := 919) (by decide +kernel)) (by decide +kernel)
theorem t_74 : Cond.constant RX12 245 (99999) ∈ gT := tm (List.mem_of_getElem? (i := 1206) (by decide +kernel)) (by decide +kernel)
theorem t_75 : Cond.fieldLink RX12 13 "DepositJudgeModel" "priceOf" "[I" ∈ gT := tm (List.mem_of_getElem? (i := 920) (by decide +kernel)) (by decide +kernel)
theorem t_76 : Cond.code yX12_isPence cX12_isPence 1 (some .boolean) ∈ gT := tm (List.mem_of_getElem? (i := 1213) (by decide +kernel)) (by decide +kernel)
theorem t_77 : Cond.methodLink RX12 246 yX12_isPence ∈ gT := tm (List.mem_of_getElem? (i := 1211) (by decide +kernel)) (by decide +kernel)
theorem t_78 : Cond.static yX12_isPence ∈ gT := tm (List.mem_of_getElem? (i := 1212) (by decide +kernel)) (by decide +kernel)
theorem t_79 : Cond.fieldLink RX12 16 "DepositJudgeModel" "regionOf" "[I" ∈ gT := tm (List.mem_of_getElem? (i := 921) (by decide +kernel)) (by decide +kernel)
theorem t_80 : Cond.fieldLink RX12 19 "DepositJudgeModel" "tenantsOf" "[I" ∈ gT := tm (List.mem_of_getElem? (i := 922) (by decide +kernel)) (by decide +kernel)
theorem t_81 : Cond.fieldLink RX12 22 "DepositJudgeModel" "depositOf" "[I" ∈ gT := tm (List.mem_of_getElem? (i := 923) (by decide +kernel)) (by decide +kernel)
theorem t_82 : Cond.fieldLink RX12 25 "DepositJudgeModel" "fromOf" "[I" ∈ gT := tm (List.mem_of_getElem? (i := 924) (by decide +kernel)) (by decide +kernel)
theorem t_83 : Cond.fieldLink RX12 28 "DepositJudgeModel" "toOf" "[I" ∈ gT := tm (List.mem_of_getElem? (i := 925) (by decide +kernel)) (by decide +kernel)
theorem t_84 : Cond.fieldLink RX12 64 "DepositJudgeModel" "wasKept" "[Z" ∈ gT := tm (List.mem_of_getElem? (i := 937) (by decide +kernel)) (by decide +kernel)
theorem t_85 : Cond.fieldLink RX12 31 "DepositJudgeModel" "partOf" "[I" ∈ gT := tm (List.mem_of_getElem? (i := 926) (by decide +kernel)) (by decide +kernel)
theorem t_86 : Cond.constant RX12 468 (65535) ∈ gT := tm (List.mem_of_getElem? (i := 1507) (by decide +kernel)) (by decide +kernel)
theorem t_87 : Cond.fieldLink RX12 166 "DepositJudgeModel" "doubleA" "[I" ∈ gT := tm (List.mem_of_getElem? (i := 983) (by decide +kernel)) (by decide +kernel)
theorem t_88 : Cond.fieldLink RX12 169 "DepositJudgeModel" "doubleB" "[I" ∈ gT := tm (List.mem_of_getElem? (i := 984) (by decide +kernel)) (by decide +kernel)
theorem t_89 : Cond.fieldLink RX12 172 "DepositJudgeModel" "doubleByA" "[I" ∈ gT := tm (List.mem_of_getElem? (i := 985) (by decide +kernel)) (by decide +kernel)
theorem t_90 : Cond.fieldLink RX12 175 "DepositJudgeModel" "doubleByB" "[I" ∈ gT := tm (List.mem_of_getElem? (i := 986) (by decide +kernel)) (by decide +kernel)
theorem t_91 : Cond.fieldLink RX12 184 "DepositJudgeModel" "factA" "[I" ∈ gT := tm (List.mem_of_getElem? (i := 990) (by decide +kernel)) (by decide +kernel)
theorem t_92 : Cond.fieldLink RX12 187 "DepositJudgeModel" "factB" "[I" ∈ gT := tm (List.mem_of_getElem? (i := 991) (by decide +kernel)) (by decide +kernel)
theorem t_93 : Cond.fieldLink RX12 190 "DepositJudgeModel" "factDays" "[I" ∈ gT := tm (List.mem_of_getElem? (i := 992) (by decide +kernel)) (by decide +kernel)
theorem t_94 : Cond.fieldLink RX12 68 "DepositJudgeModel" "tape" "[B" ∈ gT := tm (List.mem_of_getElem? (i := 938) (by decide +kernel)) (by decide +kernel)
theorem t_95 : Cond.code yX12_types cX12_types 3 none ∈ gT := tm (List.mem_of_getElem? (i := 1245) (by decide +kernel)) (by decide +kernel)
theorem t_96 : Cond.methodLink RX12 258 yX12_types ∈ gT := tm (List.mem_of_getElem? (i := 1242) (by decide +kernel)) (by decide +kernel)
theorem t_97 : Cond.instanceMethod yX12_types ∈ gT := tm (List.mem_of_getElem? (i := 1244) (by decide +kernel)) (by decide +kernel)
theorem t_98 : Cond.selects RX12 yX12_types yX12_types ∈ gT := tmp (List.mem_of_getElem? (i := 33) (by decide +kernel)) (by decide +kernel)
theorem t_99 : Cond.fieldLink RX12 193 "DepositJudgeModel" "behind" "[I" ∈ gT := tm (List.mem_of_getElem? (i := 993) (by decide +kernel)) (by decide +kernel)
theorem t_100 : Cond.constant RX12 489 (-1000000000) ∈ gT := tm (List.mem_of_getElem? (i := 1553) (by decide +kernel)) (by decide +kernel)
theorem t_101 : Cond.code yX12_laysFacts cX12_laysFacts 2 none ∈ gT := tm (List.mem_of_getElem? (i := 1552) (by decide +kernel)) (by decide +kernel)
theorem t_102 : Cond.methodLink RX12 497 yX12_laysFacts ∈ gT := tm (List.mem_of_getElem? (i := 1549) (by decide +kernel)) (by decide +kernel)
theorem t_103 : Cond.instanceMethod yX12_laysFacts ∈ gT := tm (List.mem_of_getElem? (i := 1551) (by decide +kernel)) (by decide +kernel)
theorem t_104 : Cond.selects RX12 yX12_laysFacts yX12_laysFacts ∈ gT := tmp (List.mem_of_getElem? (i := 84) (by decide +kernel)) (by decide +kernel)
theorem t_105 : Cond.constant RX12 496 (-100000) ∈ gT := tm (List.mem_of_getElem? (i := 1548) (by decide +kernel)) (by decide +kernel)
theorem t_106 : Cond.fieldLink RX12 504 "DepositJudgeModel" "keptClaims" "I" ∈ gT := tm (List.mem_of_getElem? (i := 996) (by decide +kernel)) (by decide +kernel)
theorem t_107 : Cond.fieldLink RX12 507 "DepositJudgeModel" "keptX" "I" ∈ gT := tm (List.mem_of_getElem? (i := 997) (by decide +kernel)) (by decide +kernel)
theorem t_108 : Cond.fieldLink RX12 129 "DepositJudgeModel" "claimHome" "[I" ∈ gT := tm (List.mem_of_getElem? (i := 969) (by decide +kernel)) (by decide +kernel)
theorem t_109 : Cond.fieldLink RX12 199 "DepositJudgeModel" "keptHome" "[I" ∈ gT := tm (List.mem_of_getElem? (i := 998) (by decide +kernel)) (by decide +kernel)
theorem t_110 : Cond.code yX12_copies cX12_copies 4 none ∈ gT := tm (List.mem_of_getElem? (i := 1575) (by decide +kernel)) (by decide +kernel)
theorem t_111 : Cond.methodLink RX12 510 yX12_copies ∈ gT := tm (List.mem_of_getElem? (i := 1573) (by decide +kernel)) (by decide +kernel)
theorem t_112 : Cond.static yX12_copies ∈ gT := tm (List.mem_of_getElem? (i := 1574) (by decide +kernel)) (by decide +kernel)
theorem t_113 : Cond.fieldLink RX12 132 "DepositJudgeModel" "claimThing" "[I" ∈ gT := tm (List.mem_of_getElem? (i := 970) (by decide +kernel)) (by decide +kernel)
theorem t_114 : Cond.fieldLink RX12 202 "DepositJudgeModel" "keptThing" "[I" ∈ gT := tm (List.mem_of_getElem? (i := 999) (by decide +kernel)) (by decide +kernel)
theorem t_115 : Cond.fieldLink RX12 135 "DepositJudgeModel" "causeOf" "[I" ∈ gT := tm (List.mem_of_getElem? (i := 971) (by decide +kernel)) (by decide +kernel)
theorem t_116 : Cond.fieldLink RX12 205 "DepositJudgeModel" "keptCause" "[I" ∈ gT := tm (List.mem_of_getElem? (i := 1000) (by decide +kernel)) (by decide +kernel)
theorem t_117 : Cond.fieldLink RX12 138 "DepositJudgeModel" "evidenceOf" "[I" ∈ gT := tm (List.mem_of_getElem? (i := 972) (by decide +kernel)) (by decide +kernel)
theorem t_118 : Cond.fieldLink RX12 208 "DepositJudgeModel" "keptEvidence" "[I" ∈ gT := tm (List.mem_of_getElem? (i := 1001) (by decide +kernel)) (by decide +kernel)
theorem t_119 : Cond.fieldLink RX12 141 "DepositJudgeModel" "claimDay" "[I" ∈ gT := tm (List.mem_of_getElem? (i := 973) (by decide +kernel)) (by decide +kernel)
theorem t_120 : Cond.fieldLink RX12 211 "DepositJudgeModel" "keptDay" "[I" ∈ gT := tm (List.mem_of_getElem? (i := 1002) (by decide +kernel)) (by decide +kernel)
theorem t_121 : Cond.fieldLink RX12 144 "DepositJudgeModel" "agreedOf" "[I" ∈ gT := tm (List.mem_of_getElem? (i := 974) (by decide +kernel)) (by decide +kernel)
theorem t_122 : Cond.fieldLink RX12 214 "DepositJudgeModel" "keptAgreed" "[I" ∈ gT := tm (List.mem_of_getElem? (i := 1003) (by decide +kernel)) (by decide +kernel)
theorem t_123 : Cond.fieldLink RX12 147 "DepositJudgeModel" "answerDay" "[I" ∈ gT := tm (List.mem_of_getElem? (i := 975) (by decide +kernel)) (by decide +kernel)
theorem t_124 : Cond.fieldLink RX12 217 "DepositJudgeModel" "keptAnswer" "[I" ∈ gT := tm (List.mem_of_getElem? (i := 1004) (by decide +kernel)) (by decide +kernel)
theorem t_125 : Cond.fieldLink RX12 160 "DepositJudgeModel" "ownerOffer" "[I" ∈ gT := tm (List.mem_of_getElem? (i := 981) (by decide +kernel)) (by decide +kernel)
theorem t_126 : Cond.fieldLink RX12 220 "DepositJudgeModel" "keptOwner" "[I" ∈ gT := tm (List.mem_of_getElem? (i := 1005) (by decide +kernel)) (by decide +kernel)
theorem t_127 : Cond.fieldLink RX12 163 "DepositJudgeModel" "tenantOffer" "[I" ∈ gT := tm (List.mem_of_getElem? (i := 982) (by decide +kernel)) (by decide +kernel)
theorem t_128 : Cond.fieldLink RX12 223 "DepositJudgeModel" "keptTenant" "[I" ∈ gT := tm (List.mem_of_getElem? (i := 1006) (by decide +kernel)) (by decide +kernel)
theorem t_129 : Cond.fieldLink RX12 226 "DepositJudgeModel" "keptProof" "[Z" ∈ gT := tm (List.mem_of_getElem? (i := 1007) (by decide +kernel)) (by decide +kernel)
theorem t_130 : Cond.fieldLink RX12 150 "DepositJudgeModel" "isProof" "[Z" ∈ gT := tm (List.mem_of_getElem? (i := 976) (by decide +kernel)) (by decide +kernel)
theorem dX12_copies_0 : decode cX12_copies 0 = .ok (.iconst 0, 1) := by decide +kernel
theorem dX12_copies_1 : decode cX12_copies 1 = .ok (.istore_n 3, 1) := by decide +kernel
theorem dX12_copies_2 : decode cX12_copies 2 = .ok (.iload_n 3, 1) := by decide +kernel
theorem dX12_copies_3 : decode cX12_copies 3 = .ok (.iload_n 2, 1) := by decide +kernel
theorem dX12_copies_4 : decode cX12_copies 4 = .ok (.if_icmp .ge 15, 3) := by decide +kernel
theorem dX12_copies_7 : decode cX12_copies 7 = .ok (.aload_n 1, 1) := by decide +kernel
theorem dX12_copies_8 : decode cX12_copies 8 = .ok (.iload_n 3, 1) := by decide +kernel
theorem dX12_copies_9 : decode cX12_copies 9 = .ok (.aload_n 0, 1) := by decide +kernel
theorem dX12_copies_10 : decode cX12_copies 10 = .ok (.iload_n 3, 1) := by decide +kernel
theorem dX12_copies_11 : decode cX12_copies 11 = .ok (.iaload, 1) := by decide +kernel
theorem dX12_copies_12 : decode cX12_copies 12 = .ok (.iastore, 1) := by decide +kernel
theorem dX12_copies_13 : decode cX12_copies 13 = .ok (.iinc 3 1, 3) := by decide +kernel
theorem dX12_copies_16 : decode cX12_copies 16 = .ok (.goto (-14), 3) := by decide +kernel
theorem dX12_copies_19 : decode cX12_copies 19 = .ok (.return_, 1) := by decide +kernel
theorem dX12_dated_0 : decode cX12_dated 0 = .ok (.iload_n 1, 1) := by decide +kernel
theorem dX12_dated_1 : decode cX12_dated 1 = .ok (.iconst 0, 1) := by decide +kernel
theorem dX12_dated_2 : decode cX12_dated 2 = .ok (.bipush 9, 2) := by decide +kernel
theorem dX12_dated_4 : decode cX12_dated 4 = .ok (.invokestatic 241, 3) := by decide +kernel
theorem dX12_dated_7 : decode cX12_dated 7 = .ok (.ifCond .eq 12, 3) := by decide +kernel
theorem dX12_dated_10 : decode cX12_dated 10 = .ok (.iload_n 2, 1) := by decide +kernel
theorem dX12_dated_11 : decode cX12_dated 11 = .ok (.iconst 0, 1) := by decide +kernel
theorem dX12_dated_12 : decode cX12_dated 12 = .ok (.iconst 1, 1) := by decide +kernel
theorem dX12_dated_13 : decode cX12_dated 13 = .ok (.invokestatic 241, 3) := by decide +kernel
theorem dX12_dated_16 : decode cX12_dated 16 = .ok (.ifCond .ne 7, 3) := by decide +kernel
theorem dX12_dated_19 : decode cX12_dated 19 = .ok (.ldc_w 496, 3) := by decide +kernel
theorem dX12_dated_22 : decode cX12_dated 22 = .ok (.ireturn, 1) := by decide +kernel
theorem dX12_dated_23 : decode cX12_dated 23 = .ok (.aload_n 0, 1) := by decide +kernel
theorem dX12_dated_24 : decode cX12_dated 24 = .ok (.invokevirtual 497, 3) := by decide +kernel
theorem dX12_dated_27 : decode cX12_dated 27 = .ok (.iload_n 2, 1) := by decide +kernel
theorem dX12_dated_28 : decode cX12_dated 28 = .ok (.ifCond .ne 15, 3) := by decide +kernel
theorem dX12_dated_31 : decode cX12_dated 31 = .ok (.aload_n 0, 1) := by decide +kernel
theorem dX12_dated_32 : decode cX12_dated 32 = .ok (.getfield 193, 3) := by decide +kernel
theorem dX12_dated_35 : decode cX12_dated 35 = .ok (.bipush 110, 2) := by decide +kernel
theorem dX12_dated_37 : decode cX12_dated 37 = .ok (.iload_n 1, 1) := by decide +kernel
theorem dX12_dated_38 : decode cX12_dated 38 = .ok (.iadd, 1) := by decide +kernel
theorem dX12_dated_39 : decode cX12_dated 39 = .ok (.iaload, 1) := by decide +kernel
theorem dX12_dated_40 : decode cX12_dated 40 = .ok (.goto 15, 3) := by decide +kernel
theorem dX12_dated_43 : decode cX12_dated 43 = .ok (.aload_n 0, 1) := by decide +kernel
theorem dX12_dated_44 : decode cX12_dated 44 = .ok (.getfield 193, 3) := by decide +kernel
theorem dX12_dated_47 : decode cX12_dated 47 = .ok (.bipush 11, 2) := by decide +kernel
theorem dX12_dated_49 : decode cX12_dated 49 = .ok (.iload_n 1, 1) := by decide +kernel
theorem dX12_dated_50 : decode cX12_dated 50 = .ok (.imul, 1) := by decide +kernel
theorem dX12_dated_51 : decode cX12_dated 51 = .ok (.bipush 10, 2) := by decide +kernel
theorem dX12_dated_53 : decode cX12_dated 53 = .ok (.iadd, 1) := by decide +kernel
theorem dX12_dated_54 : decode cX12_dated 54 = .ok (.iaload, 1) := by decide +kernel
theorem dX12_dated_55 : decode cX12_dated 55 = .ok (.istore_n 3, 1) := by decide +kernel
theorem dX12_dated_56 : decode cX12_dated 56 = .ok (.iload_n 3, 1) := by decide +kernel
theorem dX12_dated_57 : decode cX12_dated 57 = .ok (.ldc_w 489, 3) := by decide +kernel
theorem dX12_dated_60 : decode cX12_dated 60 = .ok (.if_icmp .ne 9, 3) := by decide +kernel
theorem dX12_dated_63 : decode cX12_dated 63 = .ok (.ldc_w 496, 3) := by decide +kernel
theorem dX12_dated_66 : decode cX12_dated 66 = .ok (.goto 13, 3) := by decide +kernel
theorem dX12_dated_79 : decode cX12_dated 79 = .ok (.ireturn, 1) := by decide +kernel
theorem dX12_fact_0 : decode cX12_fact 0 = .ok (.iload_n 1, 1) := by decide +kernel
theorem dX12_fact_1 : decode cX12_fact 1 = .ok (.iconst 0, 1) := by decide +kernel
theorem dX12_fact_2 : decode cX12_fact 2 = .ok (.bipush 10, 2) := by decide +kernel
theorem dX12_fact_4 : decode cX12_fact 4 = .ok (.invokestatic 241, 3) := by decide +kernel
theorem dX12_fact_7 : decode cX12_fact 7 = .ok (.ifCond .eq 40, 3) := by decide +kernel
theorem dX12_fact_10 : decode cX12_fact 10 = .ok (.iload_n 2, 1) := by decide +kernel
theorem dX12_fact_11 : decode cX12_fact 11 = .ok (.iconst 0, 1) := by decide +kernel
theorem dX12_fact_12 : decode cX12_fact 12 = .ok (.bipush 10, 2) := by decide +kernel
theorem dX12_fact_14 : decode cX12_fact 14 = .ok (.invokestatic 241, 3) := by decide +kernel
theorem dX12_fact_17 : decode cX12_fact 17 = .ok (.ifCond .eq 30, 3) := by decide +kernel
theorem dX12_fact_20 : decode cX12_fact 20 = .ok (.iload_n 1, 1) := by decide +kernel
theorem dX12_fact_21 : decode cX12_fact 21 = .ok (.iload_n 2, 1) := by decide +kernel
theorem dX12_fact_22 : decode cX12_fact 22 = .ok (.if_icmp .eq 25, 3) := by decide +kernel
theorem dX12_fact_25 : decode cX12_fact 25 = .ok (.iload_n 3, 1) := by decide +kernel
theorem dX12_fact_26 : decode cX12_fact 26 = .ok (.sipush (-999), 3) := by decide +kernel
theorem dX12_fact_29 : decode cX12_fact 29 = .ok (.sipush 999, 3) := by decide +kernel
theorem dX12_fact_32 : decode cX12_fact 32 = .ok (.invokestatic 241, 3) := by decide +kernel
theorem dX12_fact_35 : decode cX12_fact 35 = .ok (.ifCond .eq 12, 3) := by decide +kernel
theorem dX12_fact_38 : decode cX12_fact 38 = .ok (.aload_n 0, 1) := by decide +kernel
theorem dX12_fact_39 : decode cX12_fact 39 = .ok (.getfield 486, 3) := by decide +kernel
theorem dX12_fact_42 : decode cX12_fact 42 = .ok (.bipush 30, 2) := by decide +kernel
theorem dX12_fact_44 : decode cX12_fact 44 = .ok (.if_icmp .ne 5, 3) := by decide +kernel
theorem dX12_fact_47 : decode cX12_fact 47 = .ok (.iconst (-1), 1) := by decide +kernel
theorem dX12_fact_48 : decode cX12_fact 48 = .ok (.ireturn, 1) := by decide +kernel
theorem dX12_fact_49 : decode cX12_fact 49 = .ok (.aload_n 0, 1) := by decide +kernel
theorem dX12_fact_50 : decode cX12_fact 50 = .ok (.getfield 184, 3) := by decide +kernel
theorem dX12_fact_53 : decode cX12_fact 53 = .ok (.aload_n 0, 1) := by decide +kernel
theorem dX12_fact_54 : decode cX12_fact 54 = .ok (.getfield 486, 3) := by decide +kernel
theorem dX12_fact_57 : decode cX12_fact 57 = .ok (.iload_n 1, 1) := by decide +kernel
theorem dX12_fact_58 : decode cX12_fact 58 = .ok (.iastore, 1) := by decide +kernel
theorem dX12_fact_59 : decode cX12_fact 59 = .ok (.aload_n 0, 1) := by decide +kernel
theorem dX12_fact_60 : decode cX12_fact 60 = .ok (.getfield 187, 3) := by decide +kernel
theorem dX12_fact_63 : decode cX12_fact 63 = .ok (.aload_n 0, 1) := by decide +kernel
theorem dX12_fact_64 : decode cX12_fact 64 = .ok (.getfield 486, 3) := by decide +kernel
theorem dX12_fact_67 : decode cX12_fact 67 = .ok (.iload_n 2, 1) := by decide +kernel
theorem dX12_fact_68 : decode cX12_fact 68 = .ok (.iastore, 1) := by decide +kernel
theorem dX12_fact_69 : decode cX12_fact 69 = .ok (.aload_n 0, 1) := by decide +kernel
theorem dX12_fact_70 : decode cX12_fact 70 = .ok (.getfield 190, 3) := by decide +kernel
theorem dX12_fact_73 : decode cX12_fact 73 = .ok (.aload_n 0, 1) := by decide +kernel
theorem dX12_fact_74 : decode cX12_fact 74 = .ok (.getfield 486, 3) := by decide +kernel
theorem dX12_fact_77 : decode cX12_fact 77 = .ok (.iload_n 3, 1) := by decide +kernel
theorem dX12_fact_78 : decode cX12_fact 78 = .ok (.iastore, 1) := by decide +kernel
theorem dX12_fact_79 : decode cX12_fact 79 = .ok (.aload_n 0, 1) := by decide +kernel
theorem dX12_fact_80 : decode cX12_fact 80 = .ok (.aload_n 0, 1) := by decide +kernel
theorem dX12_fact_81 : decode cX12_fact 81 = .ok (.getfield 486, 3) := by decide +kernel
theorem dX12_fact_84 : decode cX12_fact 84 = .ok (.iconst 1, 1) := by decide +kernel
theorem dX12_fact_85 : decode cX12_fact 85 = .ok (.iadd, 1) := by decide +kernel
theorem dX12_fact_86 : decode cX12_fact 86 = .ok (.putfield 486, 3) := by decide +kernel
theorem dX12_fact_89 : decode cX12_fact 89 = .ok (.aload_n 0, 1) := by decide +kernel
theorem dX12_fact_90 : decode cX12_fact 90 = .ok (.getfield 486, 3) := by decide +kernel
theorem dX12_fact_93 : decode cX12_fact 93 = .ok (.ireturn, 1) := by decide +kernel
theorem dX12_feed_0 : decode cX12_feed 0 = .ok (.aload_n 0, 1) := by decide +kernel
theorem dX12_feed_1 : decode cX12_feed 1 = .ok (.getfield 255, 3) := by decide +kernel
theorem dX12_feed_4 : decode cX12_feed 4 = .ok (.bipush 20, 2) := by decide +kernel
theorem dX12_feed_6 : decode cX12_feed 6 = .ok (.iadd, 1) := by decide +kernel
theorem dX12_feed_7 : decode cX12_feed 7 = .ok (.sipush 220, 3) := by decide +kernel
theorem dX12_feed_10 : decode cX12_feed 10 = .ok (.if_icmp .le 5, 3) := by decide +kernel
theorem dX12_feed_15 : decode cX12_feed 15 = .ok (.aload_n 0, 1) := by decide +kernel
theorem dX12_feed_16 : decode cX12_feed 16 = .ok (.iload_n 1, 1) := by decide +kernel
theorem dX12_feed_17 : decode cX12_feed 17 = .ok (.invokevirtual 258, 3) := by decide +kernel
theorem dX12_feed_20 : decode cX12_feed 20 = .ok (.aload_n 0, 1) := by decide +kernel
theorem dX12_feed_21 : decode cX12_feed 21 = .ok (.iload_n 2, 1) := by decide +kernel
theorem dX12_feed_22 : decode cX12_feed 22 = .ok (.invokevirtual 258, 3) := by decide +kernel
theorem dX12_feed_25 : decode cX12_feed 25 = .ok (.aload_n 0, 1) := by decide +kernel
theorem dX12_feed_26 : decode cX12_feed 26 = .ok (.iload_n 3, 1) := by decide +kernel
theorem dX12_feed_27 : decode cX12_feed 27 = .ok (.invokevirtual 258, 3) := by decide +kernel
theorem dX12_feed_30 : decode cX12_feed 30 = .ok (.aload_n 0, 1) := by decide +kernel
theorem dX12_feed_31 : decode cX12_feed 31 = .ok (.iload 4, 2) := by decide +kernel
theorem dX12_feed_33 : decode cX12_feed 33 = .ok (.invokevirtual 258, 3) := by decide +kernel
theorem dX12_feed_36 : decode cX12_feed 36 = .ok (.aload_n 0, 1) := by decide +kernel
theorem dX12_feed_37 : decode cX12_feed 37 = .ok (.iload 5, 2) := by decide +kernel
theorem dX12_feed_39 : decode cX12_feed 39 = .ok (.invokevirtual 258, 3) := by decide +kernel
theorem dX12_feed_42 : decode cX12_feed 42 = .ok (.aload_n 0, 1) := by decide +kernel
theorem dX12_feed_43 : decode cX12_feed 43 = .ok (.getfield 255, 3) := by decide +kernel
theorem dX12_feed_46 : decode cX12_feed 46 = .ok (.ireturn, 1) := by decide +kernel
theorem dX12_home_0 : decode cX12_home 0 = .ok (.iload_n 1, 1) := by decide +kernel
theorem dX12_home_1 : decode cX12_home 1 = .ok (.iconst 0, 1) := by decide +kernel
theorem dX12_home_2 : decode cX12_home 2 = .ok (.iconst 3, 1) := by decide +kernel
theorem dX12_home_3 : decode cX12_home 3 = .ok (.invokestatic 241, 3) := by decide +kernel
theorem dX12_home_6 : decode cX12_home 6 = .ok (.ifCond .eq 53, 3) := by decide +kernel
theorem dX12_home_9 : decode cX12_home 9 = .ok (.iload_n 2, 1) := by decide +kernel
theorem dX12_home_10 : decode cX12_home 10 = .ok (.iconst 1, 1) := by decide +kernel
theorem dX12_home_11 : decode cX12_home 11 = .ok (.iconst 4, 1) := by decide +kernel
theorem dX12_home_12 : decode cX12_home 12 = .ok (.invokestatic 241, 3) := by decide +kernel
theorem dX12_home_15 : decode cX12_home 15 = .ok (.ifCond .eq 44, 3) := by decide +kernel
theorem dX12_home_18 : decode cX12_home 18 = .ok (.iload_n 3, 1) := by decide +kernel
theorem dX12_home_19 : decode cX12_home 19 = .ok (.invokestatic 246, 3) := by decide +kernel
theorem dX12_home_22 : decode cX12_home 22 = .ok (.ifCond .eq 37, 3) := by decide +kernel
theorem dX12_home_25 : decode cX12_home 25 = .ok (.iload 4, 2) := by decide +kernel
theorem dX12_home_27 : decode cX12_home 27 = .ok (.iconst 0, 1) := by decide +kernel
theorem dX12_home_28 : decode cX12_home 28 = .ok (.sipush 999, 3) := by decide +kernel
theorem dX12_home_31 : decode cX12_home 31 = .ok (.invokestatic 241, 3) := by decide +kernel
theorem dX12_home_34 : decode cX12_home 34 = .ok (.ifCond .eq 25, 3) := by decide +kernel
theorem dX12_home_37 : decode cX12_home 37 = .ok (.iload 5, 2) := by decide +kernel
theorem dX12_home_39 : decode cX12_home 39 = .ok (.iload 4, 2) := by decide +kernel
theorem dX12_home_41 : decode cX12_home 41 = .ok (.sipush 999, 3) := by decide +kernel
theorem dX12_home_44 : decode cX12_home 44 = .ok (.invokestatic 241, 3) := by decide +kernel
theorem dX12_home_47 : decode cX12_home 47 = .ok (.ifCond .eq 12, 3) := by decide +kernel
theorem dX12_home_50 : decode cX12_home 50 = .ok (.aload_n 0, 1) := by decide +kernel
theorem dX12_home_51 : decode cX12_home 51 = .ok (.getfield 234, 3) := by decide +kernel
theorem dX12_home_54 : decode cX12_home 54 = .ok (.bipush 6, 2) := by decide +kernel
theorem dX12_home_56 : decode cX12_home 56 = .ok (.if_icmp .ne 5, 3) := by decide +kernel
theorem dX12_home_59 : decode cX12_home 59 = .ok (.iconst (-1), 1) := by decide +kernel
theorem dX12_home_60 : decode cX12_home 60 = .ok (.ireturn, 1) := by decide +kernel
theorem dX12_home_61 : decode cX12_home 61 = .ok (.aload_n 0, 1) := by decide +kernel
theorem dX12_home_62 : decode cX12_home 62 = .ok (.getfield 16, 3) := by decide +kernel
theorem dX12_home_65 : decode cX12_home 65 = .ok (.aload_n 0, 1) := by decide +kernel
theorem dX12_home_66 : decode cX12_home 66 = .ok (.getfield 234, 3) := by decide +kernel
theorem dX12_home_69 : decode cX12_home 69 = .ok (.iload_n 1, 1) := by decide +kernel
theorem dX12_home_70 : decode cX12_home 70 = .ok (.iastore, 1) := by decide +kernel
theorem dX12_home_71 : decode cX12_home 71 = .ok (.aload_n 0, 1) := by decide +kernel
theorem dX12_home_72 : decode cX12_home 72 = .ok (.getfield 19, 3) := by decide +kernel
theorem dX12_home_75 : decode cX12_home 75 = .ok (.aload_n 0, 1) := by decide +kernel
theorem dX12_home_76 : decode cX12_home 76 = .ok (.getfield 234, 3) := by decide +kernel
theorem dX12_home_79 : decode cX12_home 79 = .ok (.iload_n 2, 1) := by decide +kernel
theorem dX12_home_80 : decode cX12_home 80 = .ok (.iastore, 1) := by decide +kernel
theorem dX12_home_81 : decode cX12_home 81 = .ok (.aload_n 0, 1) := by decide +kernel
theorem dX12_home_82 : decode cX12_home 82 = .ok (.getfield 22, 3) := by decide +kernel
theorem dX12_home_85 : decode cX12_home 85 = .ok (.aload_n 0, 1) := by decide +kernel
theorem dX12_home_86 : decode cX12_home 86 = .ok (.getfield 234, 3) := by decide +kernel
theorem dX12_home_89 : decode cX12_home 89 = .ok (.iload_n 3, 1) := by decide +kernel
theorem dX12_home_90 : decode cX12_home 90 = .ok (.iastore, 1) := by decide +kernel
theorem dX12_home_91 : decode cX12_home 91 = .ok (.aload_n 0, 1) := by decide +kernel
theorem dX12_home_92 : decode cX12_home 92 = .ok (.getfield 25, 3) := by decide +kernel
theorem dX12_home_95 : decode cX12_home 95 = .ok (.aload_n 0, 1) := by decide +kernel
theorem dX12_home_96 : decode cX12_home 96 = .ok (.getfield 234, 3) := by decide +kernel
theorem dX12_home_99 : decode cX12_home 99 = .ok (.iload 4, 2) := by decide +kernel
theorem dX12_home_101 : decode cX12_home 101 = .ok (.iastore, 1) := by decide +kernel
theorem dX12_home_102 : decode cX12_home 102 = .ok (.aload_n 0, 1) := by decide +kernel
theorem dX12_home_103 : decode cX12_home 103 = .ok (.getfield 28, 3) := by decide +kernel
theorem dX12_home_106 : decode cX12_home 106 = .ok (.aload_n 0, 1) := by decide +kernel
theorem dX12_home_107 : decode cX12_home 107 = .ok (.getfield 234, 3) := by decide +kernel
theorem dX12_home_110 : decode cX12_home 110 = .ok (.iload 5, 2) := by decide +kernel
theorem dX12_home_112 : decode cX12_home 112 = .ok (.iastore, 1) := by decide +kernel
theorem dX12_home_113 : decode cX12_home 113 = .ok (.aload_n 0, 1) := by decide +kernel
theorem dX12_home_114 : decode cX12_home 114 = .ok (.getfield 64, 3) := by decide +kernel
theorem dX12_home_117 : decode cX12_home 117 = .ok (.aload_n 0, 1) := by decide +kernel
theorem dX12_home_118 : decode cX12_home 118 = .ok (.getfield 234, 3) := by decide +kernel
theorem dX12_home_121 : decode cX12_home 121 = .ok (.iload 6, 2) := by decide +kernel
theorem dX12_home_123 : decode cX12_home 123 = .ok (.bastore, 1) := by decide +kernel
theorem dX12_home_124 : decode cX12_home 124 = .ok (.iconst 0, 1) := by decide +kernel
theorem dX12_home_125 : decode cX12_home 125 = .ok (.istore 7, 2) := by decide +kernel
theorem dX12_home_127 : decode cX12_home 127 = .ok (.iload 7, 2) := by decide +kernel
theorem dX12_home_129 : decode cX12_home 129 = .ok (.iconst 4, 1) := by decide +kernel
theorem dX12_home_130 : decode cX12_home 130 = .ok (.if_icmp .ge 24, 3) := by decide +kernel
theorem dX12_home_133 : decode cX12_home 133 = .ok (.aload_n 0, 1) := by decide +kernel
theorem dX12_home_134 : decode cX12_home 134 = .ok (.getfield 31, 3) := by decide +kernel
theorem dX12_home_137 : decode cX12_home 137 = .ok (.iconst 4, 1) := by decide +kernel
theorem dX12_home_138 : decode cX12_home 138 = .ok (.aload_n 0, 1) := by decide +kernel
theorem dX12_home_139 : decode cX12_home 139 = .ok (.getfield 234, 3) := by decide +kernel
theorem dX12_home_142 : decode cX12_home 142 = .ok (.imul, 1) := by decide +kernel
theorem dX12_home_143 : decode cX12_home 143 = .ok (.iload 7, 2) := by decide +kernel
theorem dX12_home_145 : decode cX12_home 145 = .ok (.iadd, 1) := by decide +kernel
theorem dX12_home_146 : decode cX12_home 146 = .ok (.iconst 1, 1) := by decide +kernel
theorem dX12_home_147 : decode cX12_home 147 = .ok (.iastore, 1) := by decide +kernel
theorem dX12_home_148 : decode cX12_home 148 = .ok (.iinc 7 1, 3) := by decide +kernel
theorem dX12_home_151 : decode cX12_home 151 = .ok (.goto (-24), 3) := by decide +kernel
theorem dX12_home_154 : decode cX12_home 154 = .ok (.aload_n 0, 1) := by decide +kernel
theorem dX12_home_155 : decode cX12_home 155 = .ok (.aload_n 0, 1) := by decide +kernel
theorem dX12_home_156 : decode cX12_home 156 = .ok (.getfield 234, 3) := by decide +kernel
theorem dX12_home_159 : decode cX12_home 159 = .ok (.iconst 1, 1) := by decide +kernel
theorem dX12_home_160 : decode cX12_home 160 = .ok (.iadd, 1) := by decide +kernel
theorem dX12_home_161 : decode cX12_home 161 = .ok (.putfield 234, 3) := by decide +kernel
theorem dX12_home_164 : decode cX12_home 164 = .ok (.aload_n 0, 1) := by decide +kernel
theorem dX12_home_165 : decode cX12_home 165 = .ok (.getfield 234, 3) := by decide +kernel
theorem dX12_home_168 : decode cX12_home 168 = .ok (.iconst 1, 1) := by decide +kernel
theorem dX12_home_169 : decode cX12_home 169 = .ok (.isub, 1) := by decide +kernel
theorem dX12_home_170 : decode cX12_home 170 = .ok (.ireturn, 1) := by decide +kernel
theorem dX12_keep_0 : decode cX12_keep 0 = .ok (.aload_n 0, 1) := by decide +kernel
theorem dX12_keep_1 : decode cX12_keep 1 = .ok (.iconst 1, 1) := by decide +kernel
theorem dX12_keep_2 : decode cX12_keep 2 = .ok (.putfield 500, 3) := by decide +kernel
theorem dX12_keep_5 : decode cX12_keep 5 = .ok (.aload_n 0, 1) := by decide +kernel
theorem dX12_keep_6 : decode cX12_keep 6 = .ok (.aload_n 0, 1) := by decide +kernel
theorem dX12_keep_7 : decode cX12_keep 7 = .ok (.getfield 417, 3) := by decide +kernel
theorem dX12_keep_10 : decode cX12_keep 10 = .ok (.putfield 504, 3) := by decide +kernel
theorem dX12_keep_13 : decode cX12_keep 13 = .ok (.aload_n 0, 1) := by decide +kernel
theorem dX12_keep_14 : decode cX12_keep 14 = .ok (.aload_n 0, 1) := by decide +kernel
theorem dX12_keep_15 : decode cX12_keep 15 = .ok (.getfield 229, 3) := by decide +kernel
theorem dX12_keep_18 : decode cX12_keep 18 = .ok (.putfield 507, 3) := by decide +kernel
theorem dX12_keep_21 : decode cX12_keep 21 = .ok (.aload_n 0, 1) := by decide +kernel
theorem dX12_keep_22 : decode cX12_keep 22 = .ok (.getfield 129, 3) := by decide +kernel
theorem dX12_keep_25 : decode cX12_keep 25 = .ok (.aload_n 0, 1) := by decide +kernel
theorem dX12_keep_26 : decode cX12_keep 26 = .ok (.getfield 199, 3) := by decide +kernel
theorem dX12_keep_29 : decode cX12_keep 29 = .ok (.bipush 30, 2) := by decide +kernel
theorem dX12_keep_31 : decode cX12_keep 31 = .ok (.invokestatic 510, 3) := by decide +kernel
theorem dX12_keep_34 : decode cX12_keep 34 = .ok (.aload_n 0, 1) := by decide +kernel
theorem dX12_keep_35 : decode cX12_keep 35 = .ok (.getfield 132, 3) := by decide +kernel
theorem dX12_keep_38 : decode cX12_keep 38 = .ok (.aload_n 0, 1) := by decide +kernel
theorem dX12_keep_39 : decode cX12_keep 39 = .ok (.getfield 202, 3) := by decide +kernel
theorem dX12_keep_42 : decode cX12_keep 42 = .ok (.bipush 30, 2) := by decide +kernel
theorem dX12_keep_44 : decode cX12_keep 44 = .ok (.invokestatic 510, 3) := by decide +kernel
theorem dX12_keep_47 : decode cX12_keep 47 = .ok (.aload_n 0, 1) := by decide +kernel
theorem dX12_keep_48 : decode cX12_keep 48 = .ok (.getfield 135, 3) := by decide +kernel
theorem dX12_keep_51 : decode cX12_keep 51 = .ok (.aload_n 0, 1) := by decide +kernel
theorem dX12_keep_52 : decode cX12_keep 52 = .ok (.getfield 205, 3) := by decide +kernel
theorem dX12_keep_55 : decode cX12_keep 55 = .ok (.bipush 30, 2) := by decide +kernel
theorem dX12_keep_57 : decode cX12_keep 57 = .ok (.invokestatic 510, 3) := by decide +kernel
theorem dX12_keep_60 : decode cX12_keep 60 = .ok (.aload_n 0, 1) := by decide +kernel
theorem dX12_keep_61 : decode cX12_keep 61 = .ok (.getfield 138, 3) := by decide +kernel
theorem dX12_keep_64 : decode cX12_keep 64 = .ok (.aload_n 0, 1) := by decide +kernel
theorem dX12_keep_65 : decode cX12_keep 65 = .ok (.getfield 208, 3) := by decide +kernel
theorem dX12_keep_68 : decode cX12_keep 68 = .ok (.bipush 30, 2) := by decide +kernel
theorem dX12_keep_70 : decode cX12_keep 70 = .ok (.invokestatic 510, 3) := by decide +kernel
theorem dX12_keep_73 : decode cX12_keep 73 = .ok (.aload_n 0, 1) := by decide +kernel
theorem dX12_keep_74 : decode cX12_keep 74 = .ok (.getfield 141, 3) := by decide +kernel
theorem dX12_keep_77 : decode cX12_keep 77 = .ok (.aload_n 0, 1) := by decide +kernel
theorem dX12_keep_78 : decode cX12_keep 78 = .ok (.getfield 211, 3) := by decide +kernel
theorem dX12_keep_81 : decode cX12_keep 81 = .ok (.bipush 30, 2) := by decide +kernel
theorem dX12_keep_83 : decode cX12_keep 83 = .ok (.invokestatic 510, 3) := by decide +kernel
theorem dX12_keep_86 : decode cX12_keep 86 = .ok (.aload_n 0, 1) := by decide +kernel
theorem dX12_keep_87 : decode cX12_keep 87 = .ok (.getfield 144, 3) := by decide +kernel
theorem dX12_keep_90 : decode cX12_keep 90 = .ok (.aload_n 0, 1) := by decide +kernel
theorem dX12_keep_91 : decode cX12_keep 91 = .ok (.getfield 214, 3) := by decide +kernel
theorem dX12_keep_94 : decode cX12_keep 94 = .ok (.bipush 30, 2) := by decide +kernel
theorem dX12_keep_96 : decode cX12_keep 96 = .ok (.invokestatic 510, 3) := by decide +kernel
theorem dX12_keep_99 : decode cX12_keep 99 = .ok (.aload_n 0, 1) := by decide +kernel
theorem dX12_keep_100 : decode cX12_keep 100 = .ok (.getfield 147, 3) := by decide +kernel
theorem dX12_keep_103 : decode cX12_keep 103 = .ok (.aload_n 0, 1) := by decide +kernel
theorem dX12_keep_104 : decode cX12_keep 104 = .ok (.getfield 217, 3) := by decide +kernel
theorem dX12_keep_107 : decode cX12_keep 107 = .ok (.bipush 30, 2) := by decide +kernel
theorem dX12_keep_109 : decode cX12_keep 109 = .ok (.invokestatic 510, 3) := by decide +kernel
theorem dX12_keep_112 : decode cX12_keep 112 = .ok (.aload_n 0, 1) := by decide +kernel
theorem dX12_keep_113 : decode cX12_keep 113 = .ok (.getfield 160, 3) := by decide +kernel
theorem dX12_keep_116 : decode cX12_keep 116 = .ok (.aload_n 0, 1) := by decide +kernel
theorem dX12_keep_117 : decode cX12_keep 117 = .ok (.getfield 220, 3) := by decide +kernel
theorem dX12_keep_120 : decode cX12_keep 120 = .ok (.bipush 6, 2) := by decide +kernel
theorem dX12_keep_122 : decode cX12_keep 122 = .ok (.invokestatic 510, 3) := by decide +kernel
theorem dX12_keep_125 : decode cX12_keep 125 = .ok (.aload_n 0, 1) := by decide +kernel
theorem dX12_keep_126 : decode cX12_keep 126 = .ok (.getfield 163, 3) := by decide +kernel
theorem dX12_keep_129 : decode cX12_keep 129 = .ok (.aload_n 0, 1) := by decide +kernel
theorem dX12_keep_130 : decode cX12_keep 130 = .ok (.getfield 223, 3) := by decide +kernel
theorem dX12_keep_133 : decode cX12_keep 133 = .ok (.bipush 6, 2) := by decide +kernel
theorem dX12_keep_135 : decode cX12_keep 135 = .ok (.invokestatic 510, 3) := by decide +kernel
theorem dX12_keep_138 : decode cX12_keep 138 = .ok (.iconst 0, 1) := by decide +kernel
theorem dX12_keep_139 : decode cX12_keep 139 = .ok (.istore_n 1, 1) := by decide +kernel
theorem dX12_keep_140 : decode cX12_keep 140 = .ok (.iload_n 1, 1) := by decide +kernel
theorem dX12_keep_141 : decode cX12_keep 141 = .ok (.bipush 30, 2) := by decide +kernel
theorem dX12_keep_143 : decode cX12_keep 143 = .ok (.if_icmp .ge 21, 3) := by decide +kernel
theorem dX12_keep_146 : decode cX12_keep 146 = .ok (.aload_n 0, 1) := by decide +kernel
theorem dX12_keep_147 : decode cX12_keep 147 = .ok (.getfield 226, 3) := by decide +kernel
theorem dX12_keep_150 : decode cX12_keep 150 = .ok (.iload_n 1, 1) := by decide +kernel
theorem dX12_keep_151 : decode cX12_keep 151 = .ok (.aload_n 0, 1) := by decide +kernel
theorem dX12_keep_152 : decode cX12_keep 152 = .ok (.getfield 150, 3) := by decide +kernel
theorem dX12_keep_155 : decode cX12_keep 155 = .ok (.iload_n 1, 1) := by decide +kernel
theorem dX12_keep_156 : decode cX12_keep 156 = .ok (.baload, 1) := by decide +kernel
theorem dX12_keep_157 : decode cX12_keep 157 = .ok (.bastore, 1) := by decide +kernel
theorem dX12_keep_158 : decode cX12_keep 158 = .ok (.iinc 1 1, 3) := by decide +kernel
theorem dX12_keep_161 : decode cX12_keep 161 = .ok (.goto (-21), 3) := by decide +kernel
theorem dX12_keep_164 : decode cX12_keep 164 = .ok (.aload_n 0, 1) := by decide +kernel
theorem dX12_keep_165 : decode cX12_keep 165 = .ok (.getfield 417, 3) := by decide +kernel
theorem dX12_keep_168 : decode cX12_keep 168 = .ok (.ireturn, 1) := by decide +kernel
theorem dX12_laysFacts_0 : decode cX12_laysFacts 0 = .ok (.iconst 0, 1) := by decide +kernel
theorem dX12_laysFacts_1 : decode cX12_laysFacts 1 = .ok (.istore_n 1, 1) := by decide +kernel
theorem dX12_laysFacts_2 : decode cX12_laysFacts 2 = .ok (.iload_n 1, 1) := by decide +kernel
theorem dX12_laysFacts_3 : decode cX12_laysFacts 3 = .ok (.bipush 121, 2) := by decide +kernel
theorem dX12_laysFacts_5 : decode cX12_laysFacts 5 = .ok (.if_icmp .ge 33, 3) := by decide +kernel
theorem dX12_laysFacts_8 : decode cX12_laysFacts 8 = .ok (.aload_n 0, 1) := by decide +kernel
theorem dX12_laysFacts_9 : decode cX12_laysFacts 9 = .ok (.getfield 193, 3) := by decide +kernel
theorem dX12_laysFacts_12 : decode cX12_laysFacts 12 = .ok (.iload_n 1, 1) := by decide +kernel
theorem dX12_laysFacts_13 : decode cX12_laysFacts 13 = .ok (.iload_n 1, 1) := by decide +kernel
theorem dX12_laysFacts_14 : decode cX12_laysFacts 14 = .ok (.bipush 11, 2) := by decide +kernel
theorem dX12_laysFacts_16 : decode cX12_laysFacts 16 = .ok (.idiv, 1) := by decide +kernel
theorem dX12_laysFacts_17 : decode cX12_laysFacts 17 = .ok (.iload_n 1, 1) := by decide +kernel
theorem dX12_laysFacts_18 : decode cX12_laysFacts 18 = .ok (.bipush 11, 2) := by decide +kernel
theorem dX12_laysFacts_20 : decode cX12_laysFacts 20 = .ok (.irem, 1) := by decide +kernel
theorem dX12_laysFacts_21 : decode cX12_laysFacts 21 = .ok (.if_icmp .ne 7, 3) := by decide +kernel
theorem dX12_laysFacts_24 : decode cX12_laysFacts 24 = .ok (.iconst 0, 1) := by decide +kernel
theorem dX12_laysFacts_25 : decode cX12_laysFacts 25 = .ok (.goto 6, 3) := by decide +kernel
theorem dX12_laysFacts_28 : decode cX12_laysFacts 28 = .ok (.ldc_w 489, 3) := by decide +kernel
theorem dX12_laysFacts_31 : decode cX12_laysFacts 31 = .ok (.iastore, 1) := by decide +kernel
theorem dX12_laysFacts_32 : decode cX12_laysFacts 32 = .ok (.iinc 1 1, 3) := by decide +kernel
theorem dX12_laysFacts_35 : decode cX12_laysFacts 35 = .ok (.goto (-33), 3) := by decide +kernel
theorem dX12_laysFacts_38 : decode cX12_laysFacts 38 = .ok (.iconst 0, 1) := by decide +kernel
theorem dX12_laysFacts_39 : decode cX12_laysFacts 39 = .ok (.istore_n 1, 1) := by decide +kernel
theorem dX12_laysFacts_40 : decode cX12_laysFacts 40 = .ok (.iload_n 1, 1) := by decide +kernel
theorem dX12_laysFacts_41 : decode cX12_laysFacts 41 = .ok (.aload_n 0, 1) := by decide +kernel
theorem dX12_laysFacts_42 : decode cX12_laysFacts 42 = .ok (.getfield 486, 3) := by decide +kernel
theorem dX12_laysFacts_45 : decode cX12_laysFacts 45 = .ok (.if_icmp .ge 14, 3) := by decide +kernel
theorem dX12_laysFacts_59 : decode cX12_laysFacts 59 = .ok (.return_, 1) := by decide +kernel
theorem dX12_life_0 : decode cX12_life 0 = .ok (.iload_n 1, 1) := by decide +kernel
theorem dX12_life_1 : decode cX12_life 1 = .ok (.invokestatic 237, 3) := by decide +kernel
theorem dX12_life_4 : decode cX12_life 4 = .ok (.ifCond .eq 14, 3) := by decide +kernel
theorem dX12_life_7 : decode cX12_life 7 = .ok (.iload_n 2, 1) := by decide +kernel
theorem dX12_life_8 : decode cX12_life 8 = .ok (.iconst 1, 1) := by decide +kernel
theorem dX12_life_9 : decode cX12_life 9 = .ok (.sipush 360, 3) := by decide +kernel
theorem dX12_life_12 : decode cX12_life 12 = .ok (.invokestatic 241, 3) := by decide +kernel
theorem dX12_life_15 : decode cX12_life 15 = .ok (.ifCond .ne 5, 3) := by decide +kernel
theorem dX12_life_18 : decode cX12_life 18 = .ok (.iconst 0, 1) := by decide +kernel
theorem dX12_life_19 : decode cX12_life 19 = .ok (.ireturn, 1) := by decide +kernel
theorem dX12_life_20 : decode cX12_life 20 = .ok (.aload_n 0, 1) := by decide +kernel
theorem dX12_life_21 : decode cX12_life 21 = .ok (.getfield 7, 3) := by decide +kernel
theorem dX12_life_24 : decode cX12_life 24 = .ok (.iload_n 1, 1) := by decide +kernel
theorem dX12_life_25 : decode cX12_life 25 = .ok (.iload_n 2, 1) := by decide +kernel
theorem dX12_life_26 : decode cX12_life 26 = .ok (.iastore, 1) := by decide +kernel
theorem dX12_life_27 : decode cX12_life 27 = .ok (.iconst 1, 1) := by decide +kernel
theorem dX12_life_28 : decode cX12_life 28 = .ok (.ireturn, 1) := by decide +kernel
theorem dX12_price_0 : decode cX12_price 0 = .ok (.iload_n 1, 1) := by decide +kernel
theorem dX12_price_1 : decode cX12_price 1 = .ok (.invokestatic 237, 3) := by decide +kernel
theorem dX12_price_4 : decode cX12_price 4 = .ok (.ifCond .eq 22, 3) := by decide +kernel
theorem dX12_price_7 : decode cX12_price 7 = .ok (.iload_n 2, 1) := by decide +kernel
theorem dX12_price_8 : decode cX12_price 8 = .ok (.iconst 0, 1) := by decide +kernel
theorem dX12_price_9 : decode cX12_price 9 = .ok (.iconst 3, 1) := by decide +kernel
theorem dX12_price_10 : decode cX12_price 10 = .ok (.invokestatic 241, 3) := by decide +kernel
theorem dX12_price_13 : decode cX12_price 13 = .ok (.ifCond .eq 13, 3) := by decide +kernel
theorem dX12_price_16 : decode cX12_price 16 = .ok (.iload_n 3, 1) := by decide +kernel
theorem dX12_price_17 : decode cX12_price 17 = .ok (.iconst 0, 1) := by decide +kernel
theorem dX12_price_18 : decode cX12_price 18 = .ok (.ldc 245, 2) := by decide +kernel
theorem dX12_price_20 : decode cX12_price 20 = .ok (.invokestatic 241, 3) := by decide +kernel
theorem dX12_price_23 : decode cX12_price 23 = .ok (.ifCond .ne 5, 3) := by decide +kernel
theorem dX12_price_26 : decode cX12_price 26 = .ok (.iconst 0, 1) := by decide +kernel
theorem dX12_price_27 : decode cX12_price 27 = .ok (.ireturn, 1) := by decide +kernel
theorem dX12_price_28 : decode cX12_price 28 = .ok (.aload_n 0, 1) := by decide +kernel
theorem dX12_price_29 : decode cX12_price 29 = .ok (.getfield 13, 3) := by decide +kernel
theorem dX12_price_32 : decode cX12_price 32 = .ok (.iconst 4, 1) := by decide +kernel
theorem dX12_price_33 : decode cX12_price 33 = .ok (.iload_n 1, 1) := by decide +kernel
theorem dX12_price_34 : decode cX12_price 34 = .ok (.imul, 1) := by decide +kernel
theorem dX12_price_35 : decode cX12_price 35 = .ok (.iload_n 2, 1) := by decide +kernel
theorem dX12_price_36 : decode cX12_price 36 = .ok (.iadd, 1) := by decide +kernel
theorem dX12_price_37 : decode cX12_price 37 = .ok (.iload_n 3, 1) := by decide +kernel
theorem dX12_price_38 : decode cX12_price 38 = .ok (.iastore, 1) := by decide +kernel
theorem dX12_price_39 : decode cX12_price 39 = .ok (.iconst 1, 1) := by decide +kernel
theorem dX12_price_40 : decode cX12_price 40 = .ok (.ireturn, 1) := by decide +kernel
theorem dX12_seed_0 : decode cX12_seed 0 = .ok (.iload_n 1, 1) := by decide +kernel
theorem dX12_seed_1 : decode cX12_seed 1 = .ok (.iconst 0, 1) := by decide +kernel
theorem dX12_seed_2 : decode cX12_seed 2 = .ok (.ldc_w 468, 3) := by decide +kernel
theorem dX12_seed_5 : decode cX12_seed 5 = .ok (.invokestatic 241, 3) := by decide +kernel
theorem dX12_seed_8 : decode cX12_seed 8 = .ok (.ifCond .ne 5, 3) := by decide +kernel
theorem dX12_seed_11 : decode cX12_seed 11 = .ok (.iconst 0, 1) := by decide +kernel
theorem dX12_seed_12 : decode cX12_seed 12 = .ok (.ireturn, 1) := by decide +kernel
theorem dX12_seed_13 : decode cX12_seed 13 = .ok (.aload_n 0, 1) := by decide +kernel
theorem dX12_seed_14 : decode cX12_seed 14 = .ok (.iload_n 1, 1) := by decide +kernel
theorem dX12_seed_15 : decode cX12_seed 15 = .ok (.putfield 229, 3) := by decide +kernel
theorem dX12_seed_18 : decode cX12_seed 18 = .ok (.iconst 1, 1) := by decide +kernel
theorem dX12_seed_19 : decode cX12_seed 19 = .ok (.ireturn, 1) := by decide +kernel
theorem dX12_twice_0 : decode cX12_twice 0 = .ok (.iload_n 1, 1) := by decide +kernel
theorem dX12_twice_1 : decode cX12_twice 1 = .ok (.invokestatic 465, 3) := by decide +kernel
theorem dX12_twice_4 : decode cX12_twice 4 = .ok (.ifCond .eq 47, 3) := by decide +kernel
theorem dX12_twice_7 : decode cX12_twice 7 = .ok (.iload_n 2, 1) := by decide +kernel
theorem dX12_twice_8 : decode cX12_twice 8 = .ok (.invokestatic 465, 3) := by decide +kernel
theorem dX12_twice_11 : decode cX12_twice 11 = .ok (.ifCond .eq 40, 3) := by decide +kernel
theorem dX12_twice_14 : decode cX12_twice 14 = .ok (.iload_n 1, 1) := by decide +kernel
theorem dX12_twice_15 : decode cX12_twice 15 = .ok (.iload_n 2, 1) := by decide +kernel
theorem dX12_twice_16 : decode cX12_twice 16 = .ok (.if_icmp .eq 35, 3) := by decide +kernel
theorem dX12_twice_19 : decode cX12_twice 19 = .ok (.iload_n 3, 1) := by decide +kernel
theorem dX12_twice_20 : decode cX12_twice 20 = .ok (.iconst 0, 1) := by decide +kernel
theorem dX12_twice_21 : decode cX12_twice 21 = .ok (.sipush 9999, 3) := by decide +kernel
theorem dX12_twice_24 : decode cX12_twice 24 = .ok (.invokestatic 241, 3) := by decide +kernel
theorem dX12_twice_27 : decode cX12_twice 27 = .ok (.ifCond .eq 24, 3) := by decide +kernel
theorem dX12_twice_30 : decode cX12_twice 30 = .ok (.iload 4, 2) := by decide +kernel
theorem dX12_twice_32 : decode cX12_twice 32 = .ok (.iconst 0, 1) := by decide +kernel
theorem dX12_twice_33 : decode cX12_twice 33 = .ok (.sipush 9999, 3) := by decide +kernel
theorem dX12_twice_36 : decode cX12_twice 36 = .ok (.invokestatic 241, 3) := by decide +kernel
theorem dX12_twice_39 : decode cX12_twice 39 = .ok (.ifCond .eq 12, 3) := by decide +kernel
theorem dX12_twice_42 : decode cX12_twice 42 = .ok (.aload_n 0, 1) := by decide +kernel
theorem dX12_twice_43 : decode cX12_twice 43 = .ok (.getfield 470, 3) := by decide +kernel
theorem dX12_twice_46 : decode cX12_twice 46 = .ok (.bipush 40, 2) := by decide +kernel
theorem dX12_twice_48 : decode cX12_twice 48 = .ok (.if_icmp .ne 5, 3) := by decide +kernel
theorem dX12_twice_51 : decode cX12_twice 51 = .ok (.iconst (-1), 1) := by decide +kernel
theorem dX12_twice_52 : decode cX12_twice 52 = .ok (.ireturn, 1) := by decide +kernel
theorem dX12_twice_53 : decode cX12_twice 53 = .ok (.aload_n 0, 1) := by decide +kernel
theorem dX12_twice_54 : decode cX12_twice 54 = .ok (.getfield 166, 3) := by decide +kernel
theorem dX12_twice_57 : decode cX12_twice 57 = .ok (.aload_n 0, 1) := by decide +kernel
theorem dX12_twice_58 : decode cX12_twice 58 = .ok (.getfield 470, 3) := by decide +kernel
theorem dX12_twice_61 : decode cX12_twice 61 = .ok (.iload_n 1, 1) := by decide +kernel
theorem dX12_twice_62 : decode cX12_twice 62 = .ok (.iastore, 1) := by decide +kernel
theorem dX12_twice_63 : decode cX12_twice 63 = .ok (.aload_n 0, 1) := by decide +kernel
theorem dX12_twice_64 : decode cX12_twice 64 = .ok (.getfield 169, 3) := by decide +kernel
theorem dX12_twice_67 : decode cX12_twice 67 = .ok (.aload_n 0, 1) := by decide +kernel
theorem dX12_twice_68 : decode cX12_twice 68 = .ok (.getfield 470, 3) := by decide +kernel
theorem dX12_twice_71 : decode cX12_twice 71 = .ok (.iload_n 2, 1) := by decide +kernel
theorem dX12_twice_72 : decode cX12_twice 72 = .ok (.iastore, 1) := by decide +kernel
theorem dX12_twice_73 : decode cX12_twice 73 = .ok (.aload_n 0, 1) := by decide +kernel
theorem dX12_twice_74 : decode cX12_twice 74 = .ok (.getfield 172, 3) := by decide +kernel
theorem dX12_twice_77 : decode cX12_twice 77 = .ok (.aload_n 0, 1) := by decide +kernel
theorem dX12_twice_78 : decode cX12_twice 78 = .ok (.getfield 470, 3) := by decide +kernel
theorem dX12_twice_81 : decode cX12_twice 81 = .ok (.iload_n 3, 1) := by decide +kernel
theorem dX12_twice_82 : decode cX12_twice 82 = .ok (.iastore, 1) := by decide +kernel
theorem dX12_twice_83 : decode cX12_twice 83 = .ok (.aload_n 0, 1) := by decide +kernel
theorem dX12_twice_84 : decode cX12_twice 84 = .ok (.getfield 175, 3) := by decide +kernel
theorem dX12_twice_87 : decode cX12_twice 87 = .ok (.aload_n 0, 1) := by decide +kernel
theorem dX12_twice_88 : decode cX12_twice 88 = .ok (.getfield 470, 3) := by decide +kernel
theorem dX12_twice_91 : decode cX12_twice 91 = .ok (.iload 4, 2) := by decide +kernel
theorem dX12_twice_93 : decode cX12_twice 93 = .ok (.iastore, 1) := by decide +kernel
theorem dX12_twice_94 : decode cX12_twice 94 = .ok (.aload_n 0, 1) := by decide +kernel
theorem dX12_twice_95 : decode cX12_twice 95 = .ok (.aload_n 0, 1) := by decide +kernel
theorem dX12_twice_96 : decode cX12_twice 96 = .ok (.getfield 470, 3) := by decide +kernel
theorem dX12_twice_99 : decode cX12_twice 99 = .ok (.iconst 1, 1) := by decide +kernel
theorem dX12_twice_100 : decode cX12_twice 100 = .ok (.iadd, 1) := by decide +kernel
theorem dX12_twice_101 : decode cX12_twice 101 = .ok (.putfield 470, 3) := by decide +kernel
theorem dX12_twice_104 : decode cX12_twice 104 = .ok (.aload_n 0, 1) := by decide +kernel
theorem dX12_twice_105 : decode cX12_twice 105 = .ok (.getfield 470, 3) := by decide +kernel
theorem dX12_twice_108 : decode cX12_twice 108 = .ok (.ireturn, 1) := by decide +kernel
theorem dX12_types_0 : decode cX12_types 0 = .ok (.iconst 3, 1) := by decide +kernel
theorem dX12_types_1 : decode cX12_types 1 = .ok (.istore_n 2, 1) := by decide +kernel
theorem dX12_types_2 : decode cX12_types 2 = .ok (.iload_n 2, 1) := by decide +kernel
theorem dX12_types_3 : decode cX12_types 3 = .ok (.ifCond .lt 35, 3) := by decide +kernel
theorem dX12_types_6 : decode cX12_types 6 = .ok (.aload_n 0, 1) := by decide +kernel
theorem dX12_types_7 : decode cX12_types 7 = .ok (.getfield 68, 3) := by decide +kernel
theorem dX12_types_10 : decode cX12_types 10 = .ok (.aload_n 0, 1) := by decide +kernel
theorem dX12_types_11 : decode cX12_types 11 = .ok (.getfield 255, 3) := by decide +kernel
theorem dX12_types_14 : decode cX12_types 14 = .ok (.iload_n 1, 1) := by decide +kernel
theorem dX12_types_15 : decode cX12_types 15 = .ok (.bipush 8, 2) := by decide +kernel
theorem dX12_types_17 : decode cX12_types 17 = .ok (.iload_n 2, 1) := by decide +kernel
theorem dX12_types_18 : decode cX12_types 18 = .ok (.imul, 1) := by decide +kernel
theorem dX12_types_19 : decode cX12_types 19 = .ok (.ishr, 1) := by decide +kernel
theorem dX12_types_20 : decode cX12_types 20 = .ok (.i2b, 1) := by decide +kernel
theorem dX12_types_21 : decode cX12_types 21 = .ok (.bastore, 1) := by decide +kernel
theorem dX12_types_22 : decode cX12_types 22 = .ok (.aload_n 0, 1) := by decide +kernel
theorem dX12_types_23 : decode cX12_types 23 = .ok (.aload_n 0, 1) := by decide +kernel
theorem dX12_types_24 : decode cX12_types 24 = .ok (.getfield 255, 3) := by decide +kernel
theorem dX12_types_27 : decode cX12_types 27 = .ok (.iconst 1, 1) := by decide +kernel
theorem dX12_types_28 : decode cX12_types 28 = .ok (.iadd, 1) := by decide +kernel
theorem dX12_types_29 : decode cX12_types 29 = .ok (.putfield 255, 3) := by decide +kernel
theorem dX12_types_32 : decode cX12_types 32 = .ok (.iinc 2 (-1), 3) := by decide +kernel
theorem dX12_types_35 : decode cX12_types 35 = .ok (.goto (-33), 3) := by decide +kernel
theorem dX12_types_38 : decode cX12_types 38 = .ok (.return_, 1) := by decide +kernel
theorem dX12_wrong_0 : decode cX12_wrong 0 = .ok (.iload_n 1, 1) := by decide +kernel
theorem dX12_wrong_1 : decode cX12_wrong 1 = .ok (.iconst (-1), 1) := by decide +kernel
theorem dX12_wrong_2 : decode cX12_wrong 2 = .ok (.if_icmp .ge 5, 3) := by decide +kernel
theorem dX12_wrong_5 : decode cX12_wrong 5 = .ok (.iconst (-1), 1) := by decide +kernel
theorem dX12_wrong_6 : decode cX12_wrong 6 = .ok (.ireturn, 1) := by decide +kernel
theorem dX12_wrong_7 : decode cX12_wrong 7 = .ok (.aload_n 0, 1) := by decide +kernel
theorem dX12_wrong_8 : decode cX12_wrong 8 = .ok (.invokevirtual 497, 3) := by decide +kernel
theorem dX12_wrong_11 : decode cX12_wrong 11 = .ok (.iconst 0, 1) := by decide +kernel
theorem dX12_wrong_12 : decode cX12_wrong 12 = .ok (.istore_n 2, 1) := by decide +kernel
theorem dX12_wrong_13 : decode cX12_wrong 13 = .ok (.iconst 0, 1) := by decide +kernel
theorem dX12_wrong_14 : decode cX12_wrong 14 = .ok (.istore_n 3, 1) := by decide +kernel
theorem dX12_wrong_15 : decode cX12_wrong 15 = .ok (.iload_n 3, 1) := by decide +kernel
theorem dX12_wrong_16 : decode cX12_wrong 16 = .ok (.aload_n 0, 1) := by decide +kernel
theorem dX12_wrong_17 : decode cX12_wrong 17 = .ok (.getfield 486, 3) := by decide +kernel
theorem dX12_wrong_20 : decode cX12_wrong 20 = .ok (.if_icmp .ge 32, 3) := by decide +kernel
theorem dX12_wrong_52 : decode cX12_wrong 52 = .ok (.iload_n 1, 1) := by decide +kernel
theorem dX12_wrong_53 : decode cX12_wrong 53 = .ok (.iconst (-1), 1) := by decide +kernel
theorem dX12_wrong_54 : decode cX12_wrong 54 = .ok (.if_icmp .ne 7, 3) := by decide +kernel
theorem dX12_wrong_57 : decode cX12_wrong 57 = .ok (.iload_n 2, 1) := by decide +kernel
theorem dX12_wrong_58 : decode cX12_wrong 58 = .ok (.goto 4, 3) := by decide +kernel
theorem dX12_wrong_61 : decode cX12_wrong 61 = .ok (.iconst (-1), 1) := by decide +kernel
theorem dX12_wrong_62 : decode cX12_wrong 62 = .ok (.ireturn, 1) := by decide +kernel
set_option maxHeartbeats 4000000 in
set_option maxRecDepth 100000 in
theorem c_X12_life (l : Launch) (D : va_G) (cy : Nat → ClassId) (a : Nat → Nat) (i : Nat → Int32) (r : Nat → Nat → Int32) (rl : Nat → Int64) (p0 p1 : Int32) (sz : Nat) (hf : mZ i) : Met l yX12_life (Cond.code yX12_life cX12_life 3 (some .boolean) :: gT) { frames := 2, cells := 0, slots := 0, locals := 46 } (va_Pc [.ref (a 0), .int p0, .int p1] (rQ D cy (mW cy a i r rl) sz)) (va_Qi (fun (z : Int32) (u : Unit) => BR z ((0 ≤ p0.toInt ∧ p0.toInt ≤ 7) ∧ (1 ≤ p1.toInt ∧ p1.toInt ≤ 360)) 1 0) (fun _ _ => True) (va_A (mW cy a i r rl) sz)) 0 0 (va_A (mW cy a i r rl) sz) := by
  refine Met.ofQ (cc := cX12_life) (maxL := 3) (ret := (some .boolean)) (by decide) rfl ?_
  intro p e s m args below meth c s₁ B hml hv Q hQ
  obtain ⟨rfl, hsz, hP, hK, hD0⟩ := hv
  have hx := B.exec
  have hb := B.bytes
  have hr := B.returns
  have hlocks := B.notSynchronized
  have hT : ∀ w ∈ gT, w.before _ s = true := fun w h => atoms_spec (ws := (Cond.code yX12_life cX12_life 3 (some .boolean) :: gT)) B.pre w (List.mem_cons_of_mem _ h)
  have hown : s.vm.findClass RX12 = some m.cls := findClass_of_methodNamed B.named
  subst hsz
  have hD := hD0.self (sz := s.heap.size)
  generalize hAe : va_A (mW cy a i r rl) s.heap.size = A at hD hQ
  have hA : ∀ q : Nat, s.heap.size ≤ q → A q := fun q h => by rw [← hAe]; exact Or.inr h
  have hS : va_S A s.heap s.heap [] := va_S.rf
  have hl := lv_entry ([.ref (a 0), .int p0, .int p1]) (n := 3) (Nat.le_of_ble_eq_true rfl)
  rw [lg_entry_eq]
  generalize (lg_sl ([.ref (a 0), .int p0, .int p1]) ++ List.replicate (3 - (lg_sl ([.ref (a 0), .int p0, .int p1])).length) Slot.unset).toArray = ls at hl ⊢
  have hl : lv_has ls 3 [(0, .ref (a 0)), (1, .int p0), (2, .int p1)] := hl
  refine lv_iload_n hx hb dX12_life_0 rfl (lv_at hl 1 rfl) ?_
  refine vp_callSi (W.runS (As := [.int p0]) (rest := []) ⟨hx, hb, hml, hown, hT⟩ (c_X12_isKind l p0) (va_cwS 1 hT (gS t_30 t_31 t_32 t_8) rfl rfl rfl (by decide +kernel) ⟨Nat.le_of_ble_eq_true rfl, Nat.le_of_ble_eq_true rfl⟩) preT rfl rfl hl.1 rfl (lv_room (Nat.le_of_ble_eq_true rfl)) dX12_life_1 ⟨Nat.le_of_ble_eq_true rfl, Nat.le_of_ble_eq_true rfl⟩) (fun r_1 hr_1 => ?_)
  have hr_1 : BR r_1 (0 ≤ p0.toInt ∧ p0.toInt ≤ 7) 1 0 := hr_1
  rcases hr_1 with ⟨rfl, h_2⟩ | ⟨rfl, h_2⟩
  · skip
    refine lv_if_eq (tgt := 18) hx hb dX12_life_4 (by decide) (fun c_3 => absurd c_3 (by decide)) (fun c_3 => ?_)
    refine lv_iload_n hx hb dX12_life_7 rfl (lv_at hl 2 rfl) ?_
    refine lv_iconst (v := 1) hx hb dX12_life_8 (by decide) ?_
    refine lv_sipush (v := 360) hx hb dX12_life_9 (by decide) ?_
    refine vp_callSi (W.runS (As := [.int p1, .int 1, .int 360]) (rest := []) ⟨hx, hb, hml, hown, hT⟩ (c_X12_in l p1 1 360) (va_cwS 3 hT (gS t_12 t_13 t_14 t_8) rfl rfl rfl (by decide +kernel) ⟨Nat.le_of_ble_eq_true rfl, Nat.le_of_ble_eq_true rfl⟩) preT rfl rfl hl.1 rfl (lv_room (Nat.le_of_ble_eq_true rfl)) dX12_life_12 ⟨Nat.le_of_ble_eq_true rfl, Nat.le_of_ble_eq_true rfl⟩) (fun r_4 hr_4 => ?_)
    have hr_4 : BR r_4 (1 ≤ p1.toInt ∧ p1.toInt ≤ 360) 1 0 := hr_4
    rcases hr_4 with ⟨rfl, h_5⟩ | ⟨rfl, h_5⟩
    · skip
      refine lv_if_ne (tgt := 20) hx hb dX12_life_15 (by decide) (fun c_6 => ?_) (fun c_6 => absurd c_6 (by decide))
      refine lv_aload_n hx hb dX12_life_20 rfl (lv_at hl 0 rfl) ?_
      refine va_get (D := D) (ci := 12) (v := .ref (a 1)) (C := RX12) (T := TX12) (N := 91) hx hb hT iX12 hown hK hP 0 rfl rfl 2 (by decide) (hT _ t_73) (fun _ h9 => h9) rfl dX12_life_21 ?_
      refine lv_iload_n hx hb dX12_life_24 rfl (lv_at hl 1 rfl) ?_
      refine lv_iload_n hx hb dX12_life_25 rfl (lv_at hl 2 rfl) ?_
      refine va_iast hx hb hK hP hD hS 1 0 rfl rfl (vp_inI (by omega) (by omega)) dX12_life_26 (fun H locs hP hD hS => ?_)
      rw [mS1] at hP hD
      refine lv_iconst (v := 1) hx hb dX12_life_27 (by decide) ?_
      subst hQ
      exact W.zret hx hb hr rfl (fun t ht hW => ⟨⟨_, (), rfl, Or.inl ⟨rfl, by omega⟩, trivial⟩, hS.F ht⟩) hS.2.2 dX12_life_28
    · skip
      refine lv_if_ne (tgt := 20) hx hb dX12_life_15 (by decide) (fun c_7 => absurd (by decide) c_7) (fun c_7 => ?_)
      refine lv_iconst (v := 0) hx hb dX12_life_18 (by decide) ?_
      subst hQ
      exact W.zret hx hb hr rfl (fun t ht hW => ⟨⟨_, (), rfl, Or.inr ⟨rfl, by omega⟩, trivial⟩, hS.F ht⟩) hS.2.2 dX12_life_19
  · skip
    refine lv_if_eq (tgt := 18) hx hb dX12_life_4 (by decide) (fun c_8 => ?_) (fun c_8 => absurd (by decide) c_8)
    refine lv_iconst (v := 0) hx hb dX12_life_18 (by decide) ?_
    subst hQ
    exact W.zret hx hb hr rfl (fun t ht hW => ⟨⟨_, (), rfl, Or.inr ⟨rfl, by omega⟩, trivial⟩, hS.F ht⟩) hS.2.2 dX12_life_19
set_option maxHeartbeats 4000000 in
set_option maxRecDepth 100000 in
theorem c_X12_price (l : Launch) (D : va_G) (cy : Nat → ClassId) (a : Nat → Nat) (i : Nat → Int32) (r : Nat → Nat → Int32) (rl : Nat → Int64) (p0 p1 p2 : Int32) (sz : Nat) (hf : mZ i) : Met l yX12_price (Cond.code yX12_price cX12_price 4 (some .boolean) :: gT) { frames := 2, cells := 0, slots := 0, locals := 46 } (va_Pc [.ref (a 0), .int p0, .int p1, .int p2] (rQ D cy (mW cy a i r rl) sz)) (va_Qi (fun (z : Int32) (u : Unit) => BR z ((0 ≤ p0.toInt ∧ p0.toInt ≤ 7) ∧ (0 ≤ p1.toInt ∧ p1.toInt ≤ 3) ∧ (0 ≤ p2.toInt ∧ p2.toInt ≤ 99999)) 1 0) (fun _ _ => True) (va_A (mW cy a i r rl) sz)) 0 0 (va_A (mW cy a i r rl) sz) := by
  refine Met.ofQ (cc := cX12_price) (maxL := 4) (ret := (some .boolean)) (by decide) rfl ?_
  intro p e s m args below meth c s₁ B hml hv Q hQ
  obtain ⟨rfl, hsz, hP, hK, hD0⟩ := hv
  have hx := B.exec
  have hb := B.bytes
  have hr := B.returns
  have hlocks := B.notSynchronized
  have hT : ∀ w ∈ gT, w.before _ s = true := fun w h => atoms_spec (ws := (Cond.code yX12_price cX12_price 4 (some .boolean) :: gT)) B.pre w (List.mem_cons_of_mem _ h)
  have hown : s.vm.findClass RX12 = some m.cls := findClass_of_methodNamed B.named
  subst hsz
  have hD := hD0.self (sz := s.heap.size)
  generalize hAe : va_A (mW cy a i r rl) s.heap.size = A at hD hQ
  have hA : ∀ q : Nat, s.heap.size ≤ q → A q := fun q h => by rw [← hAe]; exact Or.inr h
  have hS : va_S A s.heap s.heap [] := va_S.rf
  have hl := lv_entry ([.ref (a 0), .int p0, .int p1, .int p2]) (n := 4) (Nat.le_of_ble_eq_true rfl)
  rw [lg_entry_eq]
  generalize (lg_sl ([.ref (a 0), .int p0, .int p1, .int p2]) ++ List.replicate (4 - (lg_sl ([.ref (a 0), .int p0, .int p1, .int p2])).length) Slot.unset).toArray = ls at hl ⊢
  have hl : lv_has ls 4 [(0, .ref (a 0)), (1, .int p0), (2, .int p1), (3, .int p2)] := hl
  refine lv_iload_n hx hb dX12_price_0 rfl (lv_at hl 1 rfl) ?_
  refine vp_callSi (W.runS (As := [.int p0]) (rest := []) ⟨hx, hb, hml, hown, hT⟩ (c_X12_isKind l p0) (va_cwS 1 hT (gS t_30 t_31 t_32 t_8) rfl rfl rfl (by decide +kernel) ⟨Nat.le_of_ble_eq_true rfl, Nat.le_of_ble_eq_true rfl⟩) preT rfl rfl hl.1 rfl (lv_room (Nat.le_of_ble_eq_true rfl)) dX12_price_1 ⟨Nat.le_of_ble_eq_true rfl, Nat.le_of_ble_eq_true rfl⟩) (fun r_1 hr_1 => ?_)
  have hr_1 : BR r_1 (0 ≤ p0.toInt ∧ p0.toInt ≤ 7) 1 0 := hr_1
  rcases hr_1 with ⟨rfl, h_2⟩ | ⟨rfl, h_2⟩
  · skip
    refine lv_if_eq (tgt := 26) hx hb dX12_price_4 (by decide) (fun c_3 => absurd c_3 (by decide)) (fun c_3 => ?_)
    refine lv_iload_n hx hb dX12_price_7 rfl (lv_at hl 2 rfl) ?_
    refine lv_iconst (v := 0) hx hb dX12_price_8 (by decide) ?_
    refine lv_iconst (v := 3) hx hb dX12_price_9 (by decide) ?_
    refine vp_callSi (W.runS (As := [.int p1, .int 0, .int 3]) (rest := []) ⟨hx, hb, hml, hown, hT⟩ (c_X12_in l p1 0 3) (va_cwS 3 hT (gS t_12 t_13 t_14 t_8) rfl rfl rfl (by decide +kernel) ⟨Nat.le_of_ble_eq_true rfl, Nat.le_of_ble_eq_true rfl⟩) preT rfl rfl hl.1 rfl (lv_room (Nat.le_of_ble_eq_true rfl)) dX12_price_10 ⟨Nat.le_of_ble_eq_true rfl, Nat.le_of_ble_eq_true rfl⟩) (fun r_4 hr_4 => ?_)
    have hr_4 : BR r_4 (0 ≤ p1.toInt ∧ p1.toInt ≤ 3) 1 0 := hr_4
    rcases hr_4 with ⟨rfl, h_5⟩ | ⟨rfl, h_5⟩
    · skip
      refine lv_if_eq (tgt := 26) hx hb dX12_price_13 (by decide) (fun c_6 => absurd c_6 (by decide)) (fun c_6 => ?_)
      refine lv_iload_n hx hb dX12_price_16 rfl (lv_at hl 3 rfl) ?_
      refine lv_iconst (v := 0) hx hb dX12_price_17 (by decide) ?_
      refine lv_ldc (v := 99999) hx hb hown (hT _ t_74) dX12_price_18 ?_
      refine vp_callSi (W.runS (As := [.int p2, .int 0, .int 99999]) (rest := []) ⟨hx, hb, hml, hown, hT⟩ (c_X12_in l p2 0 99999) (va_cwS 3 hT (gS t_12 t_13 t_14 t_8) rfl rfl rfl (by decide +kernel) ⟨Nat.le_of_ble_eq_true rfl, Nat.le_of_ble_eq_true rfl⟩) preT rfl rfl hl.1 rfl (lv_room (Nat.le_of_ble_eq_true rfl)) dX12_price_20 ⟨Nat.le_of_ble_eq_true rfl, Nat.le_of_ble_eq_true rfl⟩) (fun r_7 hr_7 => ?_)
      have hr_7 : BR r_7 (0 ≤ p2.toInt ∧ p2.toInt ≤ 99999) 1 0 := hr_7
      rcases hr_7 with ⟨rfl, h_8⟩ | ⟨rfl, h_8⟩
      · skip
        refine lv_if_ne (tgt := 28) hx hb dX12_price_23 (by decide) (fun c_9 => ?_) (fun c_9 => absurd c_9 (by decide))
        refine lv_aload_n hx hb dX12_price_28 rfl (lv_at hl 0 rfl) ?_
        refine va_get (D := D) (ci := 12) (v := .ref (a 2)) (C := RX12) (T := TX12) (N := 91) hx hb hT iX12 hown hK hP 0 rfl rfl 3 (by decide) (hT _ t_75) (fun _ h9 => h9) rfl dX12_price_29 ?_
        refine lv_iconst (v := 4) hx hb dX12_price_32 (by decide) ?_
        refine lv_iload_n hx hb dX12_price_33 rfl (lv_at hl 1 rfl) ?_
        refine lv_imul hx hb dX12_price_34 ?_
        refine lv_topi (fun v_10 ev_10 => ?_)
        have hv_10 : v_10.toInt = 4 * p0.toInt := by rw [ev_10]; have := b_rg p0; exact i_mul (a := 4) (b := p0.toInt) rfl rfl (by omega) (by omega)
        refine lv_iload_n hx hb dX12_price_35 rfl (lv_at hl 2 rfl) ?_
        refine lv_iadd hx hb dX12_price_36 ?_
        refine lv_topi (fun v_11 ev_11 => ?_)
        have hv_11 : v_11.toInt = v_10.toInt + p1.toInt := by rw [ev_11]; have := b_rg v_10; have := b_rg p1; exact i_add (a := v_10.toInt) (b := p1.toInt) rfl rfl (by omega) (by omega)
        refine lv_iload_n hx hb dX12_price_37 rfl (lv_at hl 3 rfl) ?_
        refine va_iast hx hb hK hP hD hS 2 0 rfl rfl (vp_inI (by omega) (by omega)) dX12_price_38 (fun H locs hP hD hS => ?_)
        rw [mS2] at hP hD
        refine lv_iconst (v := 1) hx hb dX12_price_39 (by decide) ?_
        subst hQ
        exact W.zret hx hb hr rfl (fun t ht hW => ⟨⟨_, (), rfl, Or.inl ⟨rfl, by omega⟩, trivial⟩, hS.F ht⟩) hS.2.2 dX12_price_40
      · skip
        refine lv_if_ne (tgt := 28) hx hb dX12_price_23 (by decide) (fun c_12 => absurd (by decide) c_12) (fun c_12 => ?_)
        refine lv_iconst (v := 0) hx hb dX12_price_26 (by decide) ?_
        subst hQ
        exact W.zret hx hb hr rfl (fun t ht hW => ⟨⟨_, (), rfl, Or.inr ⟨rfl, by omega⟩, trivial⟩, hS.F ht⟩) hS.2.2 dX12_price_27
    · skip
      refine lv_if_eq (tgt := 26) hx hb dX12_price_13 (by decide) (fun c_13 => ?_) (fun c_13 => absurd (by decide) c_13)
      refine lv_iconst (v := 0) hx hb dX12_price_26 (by decide) ?_
      subst hQ
      exact W.zret hx hb hr rfl (fun t ht hW => ⟨⟨_, (), rfl, Or.inr ⟨rfl, by omega⟩, trivial⟩, hS.F ht⟩) hS.2.2 dX12_price_27
  · skip
    refine lv_if_eq (tgt := 26) hx hb dX12_price_4 (by decide) (fun c_14 => ?_) (fun c_14 => absurd (by decide) c_14)
    refine lv_iconst (v := 0) hx hb dX12_price_26 (by decide) ?_
    subst hQ
    exact W.zret hx hb hr rfl (fun t ht hW => ⟨⟨_, (), rfl, Or.inr ⟨rfl, by omega⟩, trivial⟩, hS.F ht⟩) hS.2.2 dX12_price_27
set_option maxHeartbeats 4000000 in
set_option maxRecDepth 100000 in
theorem c_X12_home (l : Launch) (D : va_G) (cy : Nat → ClassId) (a : Nat → Nat) (i : Nat → Int32) (r : Nat → Nat → Int32) (rl : Nat → Int64) (p0 p1 p2 p3 p4 p5 : Int32) (sz : Nat) (hf : mZ i) : Met l yX12_home (Cond.code yX12_home cX12_home 8 (some .int) :: gT) { frames := 2, cells := 0, slots := 0, locals := 46 } (va_Pc [.ref (a 0), .int p0, .int p1, .int p2, .int p3, .int p4, .int p5] (rQ D cy (mW cy a i r rl) sz)) (va_Qi (fun (z : Int32) (u : Unit) => BR z ((0 ≤ p0.toInt ∧ p0.toInt ≤ 3) ∧ (1 ≤ p1.toInt ∧ p1.toInt ≤ 4) ∧ (0 ≤ p2.toInt ∧ p2.toInt ≤ 999999) ∧ (0 ≤ p3.toInt ∧ p3.toInt ≤ 999) ∧ p3.toInt ≤ p4.toInt ∧ p4.toInt ≤ 999) 0 (-1)) (fun _ _ => True) (va_A (mW cy a i r rl) sz)) 0 0 (va_A (mW cy a i r rl) sz) := by
  refine Met.ofQ (cc := cX12_home) (maxL := 8) (ret := (some .int)) (by decide) rfl ?_
  intro p e s m args below meth c s₁ B hml hv Q hQ
  obtain ⟨rfl, hsz, hP, hK, hD0⟩ := hv
  have hx := B.exec
  have hb := B.bytes
  have hr := B.returns
  have hlocks := B.notSynchronized
  have hT : ∀ w ∈ gT, w.before _ s = true := fun w h => atoms_spec (ws := (Cond.code yX12_home cX12_home 8 (some .int) :: gT)) B.pre w (List.mem_cons_of_mem _ h)
  have hown : s.vm.findClass RX12 = some m.cls := findClass_of_methodNamed B.named
  subst hsz
  have hD := hD0.self (sz := s.heap.size)
  generalize hAe : va_A (mW cy a i r rl) s.heap.size = A at hD hQ
  have hA : ∀ q : Nat, s.heap.size ≤ q → A q := fun q h => by rw [← hAe]; exact Or.inr h
  have hS : va_S A s.heap s.heap [] := va_S.rf
  have hl := lv_entry ([.ref (a 0), .int p0, .int p1, .int p2, .int p3, .int p4, .int p5]) (n := 8) (Nat.le_of_ble_eq_true rfl)
  rw [lg_entry_eq]
  generalize (lg_sl ([.ref (a 0), .int p0, .int p1, .int p2, .int p3, .int p4, .int p5]) ++ List.replicate (8 - (lg_sl ([.ref (a 0), .int p0, .int p1, .int p2, .int p3, .int p4, .int p5])).length) Slot.unset).toArray = ls at hl ⊢
  have hl : lv_has ls 8 [(0, .ref (a 0)), (1, .int p0), (2, .int p1), (3, .int p2), (4, .int p3), (5, .int p4), (6, .int p5)] := hl
  refine lv_iload_n hx hb dX12_home_0 rfl (lv_at hl 1 rfl) ?_
  refine lv_iconst (v := 0) hx hb dX12_home_1 (by decide) ?_
  refine lv_iconst (v := 3) hx hb dX12_home_2 (by decide) ?_
  refine vp_callSi (W.runS (As := [.int p0, .int 0, .int 3]) (rest := []) ⟨hx, hb, hml, hown, hT⟩ (c_X12_in l p0 0 3) (va_cwS 3 hT (gS t_12 t_13 t_14 t_8) rfl rfl rfl (by decide +kernel) ⟨Nat.le_of_ble_eq_true rfl, Nat.le_of_ble_eq_true rfl⟩) preT rfl rfl hl.1 rfl (lv_room (Nat.le_of_ble_eq_true rfl)) dX12_home_3 ⟨Nat.le_of_ble_eq_true rfl, Nat.le_of_ble_eq_true rfl⟩) (fun r_1 hr_1 => ?_)
  have hr_1 : BR r_1 (0 ≤ p0.toInt ∧ p0.toInt ≤ 3) 1 0 := hr_1
  rcases hr_1 with ⟨rfl, h_2⟩ | ⟨rfl, h_2⟩
  · skip
    refine lv_if_eq (tgt := 59) hx hb dX12_home_6 (by decide) (fun c_3 => absurd c_3 (by decide)) (fun c_3 => ?_)
    refine lv_iload_n hx hb dX12_home_9 rfl (lv_at hl 2 rfl) ?_
    refine lv_iconst (v := 1) hx hb dX12_home_10 (by decide) ?_
    refine lv_iconst (v := 4) hx hb dX12_home_11 (by decide) ?_
    refine vp_callSi (W.runS (As := [.int p1, .int 1, .int 4]) (rest := []) ⟨hx, hb, hml, hown, hT⟩ (c_X12_in l p1 1 4) (va_cwS 3 hT (gS t_12 t_13 t_14 t_8) rfl rfl rfl (by decide +kernel) ⟨Nat.le_of_ble_eq_true rfl, Nat.le_of_ble_eq_true rfl⟩) preT rfl rfl hl.1 rfl (lv_room (Nat.le_of_ble_eq_true rfl)) dX12_home_12 ⟨Nat.le_of_ble_eq_true rfl, Nat.le_of_ble_eq_true rfl⟩) (fun r_4 hr_4 => ?_)
    have hr_4 : BR r_4 (1 ≤ p1.toInt ∧ p1.toInt ≤ 4) 1 0 := hr_4
    rcases hr_4 with ⟨rfl, h_5⟩ | ⟨rfl, h_5⟩
    · skip
      refine lv_if_eq (tgt := 59) hx hb dX12_home_15 (by decide) (fun c_6 => absurd c_6 (by decide)) (fun c_6 => ?_)
      refine lv_iload_n hx hb dX12_home_18 rfl (lv_at hl 3 rfl) ?_
      refine vp_callSi (W.runS (As := [.int p2]) (rest := []) ⟨hx, hb, hml, hown, hT⟩ (c_X12_isPence l p2) (va_cwS 1 hT (gS t_76 t_77 t_78 t_8) rfl rfl rfl (by decide +kernel) ⟨Nat.le_of_ble_eq_true rfl, Nat.le_of_ble_eq_true rfl⟩) preT rfl rfl hl.1 rfl (lv_room (Nat.le_of_ble_eq_true rfl)) dX12_home_19 ⟨Nat.le_of_ble_eq_true rfl, Nat.le_of_ble_eq_true rfl⟩) (fun r_7 hr_7 => ?_)
      have hr_7 : BR r_7 (0 ≤ p2.toInt ∧ p2.toInt ≤ 999999) 1 0 := hr_7
      rcases hr_7 with ⟨rfl, h_8⟩ | ⟨rfl, h_8⟩
      · skip
        refine lv_if_eq (tgt := 59) hx hb dX12_home_22 (by decide) (fun c_9 => absurd c_9 (by decide)) (fun c_9 => ?_)
        refine lv_iload hx hb dX12_home_25 (lv_at hl 4 rfl) ?_
        refine lv_iconst (v := 0) hx hb dX12_home_27 (by decide) ?_
        refine lv_sipush (v := 999) hx hb dX12_home_28 (by decide) ?_
        refine vp_callSi (W.runS (As := [.int p3, .int 0, .int 999]) (rest := []) ⟨hx, hb, hml, hown, hT⟩ (c_X12_in l p3 0 999) (va_cwS 3 hT (gS t_12 t_13 t_14 t_8) rfl rfl rfl (by decide +kernel) ⟨Nat.le_of_ble_eq_true rfl, Nat.le_of_ble_eq_true rfl⟩) preT rfl rfl hl.1 rfl (lv_room (Nat.le_of_ble_eq_true rfl)) dX12_home_31 ⟨Nat.le_of_ble_eq_true rfl, Nat.le_of_ble_eq_true rfl⟩) (fun r_10 hr_10 => ?_)
        have hr_10 : BR r_10 (0 ≤ p3.toInt ∧ p3.toInt ≤ 999) 1 0 := hr_10
        rcases hr_10 with ⟨rfl, h_11⟩ | ⟨rfl, h_11⟩
        · skip
          refine lv_if_eq (tgt := 59) hx hb dX12_home_34 (by decide) (fun c_12 => absurd c_12 (by decide)) (fun c_12 => ?_)
          refine lv_iload hx hb dX12_home_37 (lv_at hl 5 rfl) ?_
          refine lv_iload hx hb dX12_home_39 (lv_at hl 4 rfl) ?_
          refine lv_sipush (v := 999) hx hb dX12_home_41 (by decide) ?_
          refine vp_callSi (W.runS (As := [.int p4, .int p3, .int 999]) (rest := []) ⟨hx, hb, hml, hown, hT⟩ (c_X12_in l p4 p3 999) (va_cwS 3 hT (gS t_12 t_13 t_14 t_8) rfl rfl rfl (by decide +kernel) ⟨Nat.le_of_ble_eq_true rfl, Nat.le_of_ble_eq_true rfl⟩) preT rfl rfl hl.1 rfl (lv_room (Nat.le_of_ble_eq_true rfl)) dX12_home_44 ⟨Nat.le_of_ble_eq_true rfl, Nat.le_of_ble_eq_true rfl⟩) (fun r_13 hr_13 => ?_)
          have hr_13 : BR r_13 (p3.toInt ≤ p4.toInt ∧ p4.toInt ≤ 999) 1 0 := hr_13
          rcases hr_13 with ⟨rfl, h_14⟩ | ⟨rfl, h_14⟩
          · skip
            refine lv_if_eq (tgt := 59) hx hb dX12_home_47 (by decide) (fun c_15 => absurd c_15 (by decide)) (fun c_15 => ?_)
            refine lv_aload_n hx hb dX12_home_50 rfl (lv_at hl 0 rfl) ?_
            refine va_get (D := D) (ci := 12) (v := .int 0) (C := RX12) (T := TX12) (N := 91) hx hb hT iX12 hown hK hP 0 rfl rfl 0 (by decide) (hT _ t_5) (fun _ h9 => h9) (congrArg (fun z => some (Value.int z)) (hf.1 0 (by decide))) dX12_home_51 ?_
            refine lv_bipush (v := 6) hx hb dX12_home_54 (by decide) ?_
            refine lv_icmp_ne (tgt := 61) hx hb dX12_home_56 (by decide) (fun c_16 => ?_) (fun c_16 => absurd c_16 (by decide))
            refine lv_aload_n hx hb dX12_home_61 rfl (lv_at hl 0 rfl) ?_
            refine va_get (D := D) (ci := 12) (v := .ref (a 3)) (C := RX12) (T := TX12) (N := 91) hx hb hT iX12 hown hK hP 0 rfl rfl 4 (by decide) (hT _ t_79) (fun _ h9 => h9) rfl dX12_home_62 ?_
            refine lv_aload_n hx hb dX12_home_65 rfl (lv_at hl 0 rfl) ?_
            refine va_get (D := D) (ci := 12) (v := .int 0) (C := RX12) (T := TX12) (N := 91) hx hb hT iX12 hown hK hP 0 rfl rfl 0 (by decide) (hT _ t_5) (fun _ h9 => h9) (congrArg (fun z => some (Value.int z)) (hf.1 0 (by decide))) dX12_home_66 ?_
            refine lv_iload_n hx hb dX12_home_69 rfl (lv_at hl 1 rfl) ?_
            refine va_iast hx hb hK hP hD hS 3 0 rfl rfl (vp_inI (by decide) (by decide)) dX12_home_70 (fun H locs hP hD hS => ?_)
            rw [mS3] at hP hD
            refine lv_aload_n hx hb dX12_home_71 rfl (lv_at hl 0 rfl) ?_
            refine va_get (D := D) (ci := 12) (v := .ref (a 4)) (C := RX12) (T := TX12) (N := 91) hx hb hT iX12 hown hK hP 0 rfl rfl 5 (by decide) (hT _ t_80) (fun _ h9 => h9) rfl dX12_home_72 ?_
            refine lv_aload_n hx hb dX12_home_75 rfl (lv_at hl 0 rfl) ?_
            refine va_get (D := D) (ci := 12) (v := .int 0) (C := RX12) (T := TX12) (N := 91) hx hb hT iX12 hown hK hP 0 rfl rfl 0 (by decide) (hT _ t_5) (fun _ h9 => h9) (congrArg (fun z => some (Value.int z)) (hf.1 0 (by decide))) dX12_home_76 ?_
            refine lv_iload_n hx hb dX12_home_79 rfl (lv_at hl 2 rfl) ?_
            refine va_iast hx hb hK hP hD hS 4 0 rfl rfl (vp_inI (by decide) (by decide)) dX12_home_80 (fun H locs hP hD hS => ?_)
            rw [mS4] at hP hD
            refine lv_aload_n hx hb dX12_home_81 rfl (lv_at hl 0 rfl) ?_
            refine va_get (D := D) (ci := 12) (v := .ref (a 5)) (C := RX12) (T := TX12) (N := 91) hx hb hT iX12 hown hK hP 0 rfl rfl 6 (by decide) (hT _ t_81) (fun _ h9 => h9) rfl dX12_home_82 ?_
            refine lv_aload_n hx hb dX12_home_85 rfl (lv_at hl 0 rfl) ?_
            refine va_get (D := D) (ci := 12) (v := .int 0) (C := RX12) (T := TX12) (N := 91) hx hb hT iX12 hown hK hP 0 rfl rfl 0 (by decide) (hT _ t_5) (fun _ h9 => h9) (congrArg (fun z => some (Value.int z)) (hf.1 0 (by decide))) dX12_home_86 ?_
            refine lv_iload_n hx hb dX12_home_89 rfl (lv_at hl 3 rfl) ?_
            refine va_iast hx hb hK hP hD hS 5 0 rfl rfl (vp_inI (by decide) (by decide)) dX12_home_90 (fun H locs hP hD hS => ?_)
            rw [mS5] at hP hD
            refine lv_aload_n hx hb dX12_home_91 rfl (lv_at hl 0 rfl) ?_
            refine va_get (D := D) (ci := 12) (v := .ref (a 6)) (C := RX12) (T := TX12) (N := 91) hx hb hT iX12 hown hK hP 0 rfl rfl 7 (by decide) (hT _ t_82) (fun _ h9 => h9) rfl dX12_home_92 ?_
            refine lv_aload_n hx hb dX12_home_95 rfl (lv_at hl 0 rfl) ?_
            refine va_get (D := D) (ci := 12) (v := .int 0) (C := RX12) (T := TX12) (N := 91) hx hb hT iX12 hown hK hP 0 rfl rfl 0 (by decide) (hT _ t_5) (fun _ h9 => h9) (congrArg (fun z => some (Value.int z)) (hf.1 0 (by decide))) dX12_home_96 ?_
            refine lv_iload hx hb dX12_home_99 (lv_at hl 4 rfl) ?_
            refine va_iast hx hb hK hP hD hS 6 0 rfl rfl (vp_inI (by decide) (by decide)) dX12_home_101 (fun H locs hP hD hS => ?_)
            rw [mS6] at hP hD
            refine lv_aload_n hx hb dX12_home_102 rfl (lv_at hl 0 rfl) ?_
            refine va_get (D := D) (ci := 12) (v := .ref (a 7)) (C := RX12) (T := TX12) (N := 91) hx hb hT iX12 hown hK hP 0 rfl rfl 8 (by decide) (hT _ t_83) (fun _ h9 => h9) rfl dX12_home_103 ?_
            refine lv_aload_n hx hb dX12_home_106 rfl (lv_at hl 0 rfl) ?_
            refine va_get (D := D) (ci := 12) (v := .int 0) (C := RX12) (T := TX12) (N := 91) hx hb hT iX12 hown hK hP 0 rfl rfl 0 (by decide) (hT _ t_5) (fun _ h9 => h9) (congrArg (fun z => some (Value.int z)) (hf.1 0 (by decide))) dX12_home_107 ?_
            refine lv_iload hx hb dX12_home_110 (lv_at hl 5 rfl) ?_
            refine va_iast hx hb hK hP hD hS 7 0 rfl rfl (vp_inI (by decide) (by decide)) dX12_home_112 (fun H locs hP hD hS => ?_)
            rw [mS7] at hP hD
            refine lv_aload_n hx hb dX12_home_113 rfl (lv_at hl 0 rfl) ?_
            refine va_get (D := D) (ci := 12) (v := .ref (a 19)) (C := RX12) (T := TX12) (N := 91) hx hb hT iX12 hown hK hP 0 rfl rfl 20 (by decide) (hT _ t_84) (fun _ h9 => h9) rfl dX12_home_114 ?_
            refine lv_aload_n hx hb dX12_home_117 rfl (lv_at hl 0 rfl) ?_
            refine va_get (D := D) (ci := 12) (v := .int 0) (C := RX12) (T := TX12) (N := 91) hx hb hT iX12 hown hK hP 0 rfl rfl 0 (by decide) (hT _ t_5) (fun _ h9 => h9) (congrArg (fun z => some (Value.int z)) (hf.1 0 (by decide))) dX12_home_118 ?_
            refine lv_iload hx hb dX12_home_121 (lv_at hl 6 rfl) ?_
            refine va_zast hx hb hK hP hD hS 19 2 rfl rfl (vp_inI (by decide) (by decide)) dX12_home_123 (fun H locs hP hD hS => ?_)
            rw [mS19] at hP hD
            refine lv_iconst (v := 0) hx hb dX12_home_124 (by decide) ?_
            refine lv_istore (lv' := [(7, .int 0), (0, .ref (a 0)), (1, .int p0), (2, .int p1), (3, .int p2), (4, .int p3), (5, .int p4), (6, .int p5)]) hx hb dX12_home_125 hl (by decide) rfl (fun ls hl => ?_)
            refine lv_iload hx hb dX12_home_127 (lv_at hl 0 rfl) ?_
            refine lv_iconst (v := 4) hx hb dX12_home_129 (by decide) ?_
            refine lv_icmp_ge (tgt := 154) hx hb dX12_home_130 (by decide) (fun c_17 => absurd c_17 (by decide)) (fun c_17 => ?_)
            refine lv_aload_n hx hb dX12_home_133 rfl (lv_at hl 1 rfl) ?_
            refine va_get (D := D) (ci := 12) (v := .ref (a 8)) (C := RX12) (T := TX12) (N := 91) hx hb hT iX12 hown hK hP 0 rfl rfl 9 (by decide) (hT _ t_85) (fun _ h9 => h9) rfl dX12_home_134 ?_
            refine lv_iconst (v := 4) hx hb dX12_home_137 (by decide) ?_
            refine lv_aload_n hx hb dX12_home_138 rfl (lv_at hl 1 rfl) ?_
            refine va_get (D := D) (ci := 12) (v := .int 0) (C := RX12) (T := TX12) (N := 91) hx hb hT iX12 hown hK hP 0 rfl rfl 0 (by decide) (hT _ t_5) (fun _ h9 => h9) (congrArg (fun z => some (Value.int z)) (hf.1 0 (by decide))) dX12_home_139 ?_
            refine lv_imul hx hb dX12_home_142 ?_
            refine lv_topi (fun v_18 ev_18 => ?_)
            obtain rfl : v_18 = 0 := ev_18.trans (by decide)
            refine lv_iload hx hb dX12_home_143 (lv_at hl 0 rfl) ?_
            refine lv_iadd hx hb dX12_home_145 ?_
            refine lv_topi (fun v_19 ev_19 => ?_)
            obtain rfl : v_19 = 0 := ev_19.trans (by decide)
            refine lv_iconst (v := 1) hx hb dX12_home_146 (by decide) ?_
            refine va_iast hx hb hK hP hD hS 8 0 rfl rfl (vp_inI (by decide) (by decide)) dX12_home_147 (fun H locs hP hD hS => ?_)
            rw [mS8] at hP hD
            obtain ⟨x_20, ex_20⟩ : ∃ y : Int32, y = (0 : Int32) + 1 := ⟨_, rfl⟩
            refine lv_iinc (v := x_20) (lv' := [(7, .int x_20), (0, .ref (a 0)), (1, .int p0), (2, .int p1), (3, .int p2), (4, .int p3), (5, .int p4), (6, .int p5)]) hx hb dX12_home_148 hl (k := 0) rfl (by rw [ex_20]; rfl) (by decide) rfl (fun ls hl => ?_)
            obtain rfl : x_20 = 1 := ex_20.trans (by decide)
            refine lv_goto (tgt := 127) hx hb dX12_home_151 (by decide) ?_
            refine lv_iload hx hb dX12_home_127 (lv_at hl 0 rfl) ?_
            refine lv_iconst (v := 4) hx hb dX12_home_129 (by decide) ?_
            refine lv_icmp_ge (tgt := 154) hx hb dX12_home_130 (by decide) (fun c_21 => absurd c_21 (by decide)) (fun c_21 => ?_)
            refine lv_aload_n hx hb dX12_home_133 rfl (lv_at hl 1 rfl) ?_
            refine va_get (D := D) (ci := 12) (v := .ref (a 8)) (C := RX12) (T := TX12) (N := 91) hx hb hT iX12 hown hK hP 0 rfl rfl 9 (by decide) (hT _ t_85) (fun _ h9 => h9) rfl dX12_home_134 ?_
            refine lv_iconst (v := 4) hx hb dX12_home_137 (by decide) ?_
            refine lv_aload_n hx hb dX12_home_138 rfl (lv_at hl 1 rfl) ?_
            refine va_get (D := D) (ci := 12) (v := .int 0) (C := RX12) (T := TX12) (N := 91) hx hb hT iX12 hown hK hP 0 rfl rfl 0 (by decide) (hT _ t_5) (fun _ h9 => h9) (congrArg (fun z => some (Value.int z)) (hf.1 0 (by decide))) dX12_home_139 ?_
            refine lv_imul hx hb dX12_home_142 ?_
            refine lv_topi (fun v_22 ev_22 => ?_)
            obtain rfl : v_22 = 0 := ev_22.trans (by decide)
            refine lv_iload hx hb dX12_home_143 (lv_at hl 0 rfl) ?_
            refine lv_iadd hx hb dX12_home_145 ?_
            refine lv_topi (fun v_23 ev_23 => ?_)
            obtain rfl : v_23 = 1 := ev_23.trans (by decide)
            refine lv_iconst (v := 1) hx hb dX12_home_146 (by decide) ?_
            refine va_iast hx hb hK hP hD hS 8 0 rfl rfl (vp_inI (by decide) (by decide)) dX12_home_147 (fun H locs hP hD hS => ?_)
            rw [mS8] at hP hD
            obtain ⟨x_24, ex_24⟩ : ∃ y : Int32, y = (1 : Int32) + 1 := ⟨_, rfl⟩
            refine lv_iinc (v := x_24) (lv' := [(7, .int x_24), (0, .ref (a 0)), (1, .int p0), (2, .int p1), (3, .int p2), (4, .int p3), (5, .int p4), (6, .int p5)]) hx hb dX12_home_148 hl (k := 0) rfl (by rw [ex_24]; rfl) (by decide) rfl (fun ls hl => ?_)
            obtain rfl : x_24 = 2 := ex_24.trans (by decide)
            refine lv_goto (tgt := 127) hx hb dX12_home_151 (by decide) ?_
            refine lv_iload hx hb dX12_home_127 (lv_at hl 0 rfl) ?_
            refine lv_iconst (v := 4) hx hb dX12_home_129 (by decide) ?_
            refine lv_icmp_ge (tgt := 154) hx hb dX12_home_130 (by decide) (fun c_25 => absurd c_25 (by decide)) (fun c_25 => ?_)
            refine lv_aload_n hx hb dX12_home_133 rfl (lv_at hl 1 rfl) ?_
            refine va_get (D := D) (ci := 12) (v := .ref (a 8)) (C := RX12) (T := TX12) (N := 91) hx hb hT iX12 hown hK hP 0 rfl rfl 9 (by decide) (hT _ t_85) (fun _ h9 => h9) rfl dX12_home_134 ?_
            refine lv_iconst (v := 4) hx hb dX12_home_137 (by decide) ?_
            refine lv_aload_n hx hb dX12_home_138 rfl (lv_at hl 1 rfl) ?_
            refine va_get (D := D) (ci := 12) (v := .int 0) (C := RX12) (T := TX12) (N := 91) hx hb hT iX12 hown hK hP 0 rfl rfl 0 (by decide) (hT _ t_5) (fun _ h9 => h9) (congrArg (fun z => some (Value.int z)) (hf.1 0 (by decide))) dX12_home_139 ?_
            refine lv_imul hx hb dX12_home_142 ?_
            refine lv_topi (fun v_26 ev_26 => ?_)
            obtain rfl : v_26 = 0 := ev_26.trans (by decide)
            refine lv_iload hx hb dX12_home_143 (lv_at hl 0 rfl) ?_
            refine lv_iadd hx hb dX12_home_145 ?_
            refine lv_topi (fun v_27 ev_27 => ?_)
            obtain rfl : v_27 = 2 := ev_27.trans (by decide)
            refine lv_iconst (v := 1) hx hb dX12_home_146 (by decide) ?_
            refine va_iast hx hb hK hP hD hS 8 0 rfl rfl (vp_inI (by decide) (by decide)) dX12_home_147 (fun H locs hP hD hS => ?_)
            rw [mS8] at hP hD
            obtain ⟨x_28, ex_28⟩ : ∃ y : Int32, y = (2 : Int32) + 1 := ⟨_, rfl⟩
            refine lv_iinc (v := x_28) (lv' := [(7, .int x_28), (0, .ref (a 0)), (1, .int p0), (2, .int p1), (3, .int p2), (4, .int p3), (5, .int p4), (6, .int p5)]) hx hb dX12_home_148 hl (k := 0) rfl (by rw [ex_28]; rfl) (by decide) rfl (fun ls hl => ?_)
            obtain rfl : x_28 = 3 := ex_28.trans (by decide)
            refine lv_goto (tgt := 127) hx hb dX12_home_151 (by decide) ?_
            refine lv_iload hx hb dX12_home_127 (lv_at hl 0 rfl) ?_
            refine lv_iconst (v := 4) hx hb dX12_home_129 (by decide) ?_
            refine lv_icmp_ge (tgt := 154) hx hb dX12_home_130 (by decide) (fun c_29 => absurd c_29 (by decide)) (fun c_29 => ?_)
            refine lv_aload_n hx hb dX12_home_133 rfl (lv_at hl 1 rfl) ?_
            refine va_get (D := D) (ci := 12) (v := .ref (a 8)) (C := RX12) (T := TX12) (N := 91) hx hb hT iX12 hown hK hP 0 rfl rfl 9 (by decide) (hT _ t_85) (fun _ h9 => h9) rfl dX12_home_134 ?_
            refine lv_iconst (v := 4) hx hb dX12_home_137 (by decide) ?_
            refine lv_aload_n hx hb dX12_home_138 rfl (lv_at hl 1 rfl) ?_
            refine va_get (D := D) (ci := 12) (v := .int 0) (C := RX12) (T := TX12) (N := 91) hx hb hT iX12 hown hK hP 0 rfl rfl 0 (by decide) (hT _ t_5) (fun _ h9 => h9) (congrArg (fun z => some (Value.int z)) (hf.1 0 (by decide))) dX12_home_139 ?_
            refine lv_imul hx hb dX12_home_142 ?_
            refine lv_topi (fun v_30 ev_30 => ?_)
            obtain rfl : v_30 = 0 := ev_30.trans (by decide)
            refine lv_iload hx hb dX12_home_143 (lv_at hl 0 rfl) ?_
            refine lv_iadd hx hb dX12_home_145 ?_
            refine lv_topi (fun v_31 ev_31 => ?_)
            obtain rfl : v_31 = 3 := ev_31.trans (by decide)
            refine lv_iconst (v := 1) hx hb dX12_home_146 (by decide) ?_
            refine va_iast hx hb hK hP hD hS 8 0 rfl rfl (vp_inI (by decide) (by decide)) dX12_home_147 (fun H locs hP hD hS => ?_)
            rw [mS8] at hP hD
            obtain ⟨x_32, ex_32⟩ : ∃ y : Int32, y = (3 : Int32) + 1 := ⟨_, rfl⟩
            refine lv_iinc (v := x_32) (lv' := [(7, .int x_32), (0, .ref (a 0)), (1, .int p0), (2, .int p1), (3, .int p2), (4, .int p3), (5, .int p4), (6, .int p5)]) hx hb dX12_home_148 hl (k := 0) rfl (by rw [ex_32]; rfl) (by decide) rfl (fun ls hl => ?_)
            obtain rfl : x_32 = 4 := ex_32.trans (by decide)
            refine lv_goto (tgt := 127) hx hb dX12_home_151 (by decide) ?_
            refine lv_iload hx hb dX12_home_127 (lv_at hl 0 rfl) ?_
            refine lv_iconst (v := 4) hx hb dX12_home_129 (by decide) ?_
            refine lv_icmp_ge (tgt := 154) hx hb dX12_home_130 (by decide) (fun c_33 => ?_) (fun c_33 => absurd (by decide) c_33)
            refine lv_aload_n hx hb dX12_home_154 rfl (lv_at hl 1 rfl) ?_
            refine lv_aload_n hx hb dX12_home_155 rfl (lv_at hl 1 rfl) ?_
            refine va_get (D := D) (ci := 12) (v := .int 0) (C := RX12) (T := TX12) (N := 91) hx hb hT iX12 hown hK hP 0 rfl rfl 0 (by decide) (hT _ t_5) (fun _ h9 => h9) (congrArg (fun z => some (Value.int z)) (hf.1 0 (by decide))) dX12_home_156 ?_
            refine lv_iconst (v := 1) hx hb dX12_home_159 (by decide) ?_
            refine lv_iadd hx hb dX12_home_160 ?_
            refine lv_topi (fun v_34 ev_34 => ?_)
            obtain rfl : v_34 = 1 := ev_34.trans (by decide)
            refine va_put (D := D) (ci := 12) (v := .int 1) (ty := .int) (C := RX12) (T := TX12) (N := 91) hx hb hT iX12 tyX12 tyX12_ok nmX12 hown hK hP hD hS 0 rfl rfl 0 (by decide) (hT _ t_5) (fun _ h9 => h9) rfl (by decide +kernel) rfl rfl (Nat.le_of_ble_eq_true rfl) dX12_home_161 (fun H locs hP hD hS => ?_)
            rw [mP0] at hP hD
            refine lv_aload_n hx hb dX12_home_164 rfl (lv_at hl 1 rfl) ?_
            refine va_get (D := D) (ci := 12) (v := .int 1) (C := RX12) (T := TX12) (N := 91) hx hb hT iX12 hown hK hP 0 rfl rfl 0 (by decide) (hT _ t_5) (fun _ h9 => h9) rfl dX12_home_165 ?_
            refine lv_iconst (v := 1) hx hb dX12_home_168 (by decide) ?_
            refine lv_isub hx hb dX12_home_169 ?_
            refine lv_topi (fun v_35 ev_35 => ?_)
            obtain rfl : v_35 = 0 := ev_35.trans (by decide)
            subst hQ
            exact W.iret (v := 0) hx hb hr (fun t ht hW => ⟨⟨_, (), rfl, Or.inl ⟨rfl, by omega⟩, trivial⟩, hS.F ht⟩) hS.2.2 dX12_home_170
          · skip
            refine lv_if_eq (tgt := 59) hx hb dX12_home_47 (by decide) (fun c_36 => ?_) (fun c_36 => absurd (by decide) c_36)
            refine lv_iconst (v := (-1)) hx hb dX12_home_59 (by decide) ?_
            subst hQ
            exact W.iret (v := (-1)) hx hb hr (fun t ht hW => ⟨⟨_, (), rfl, Or.inr ⟨rfl, by omega⟩, trivial⟩, hS.F ht⟩) hS.2.2 dX12_home_60
        · skip
          refine lv_if_eq (tgt := 59) hx hb dX12_home_34 (by decide) (fun c_37 => ?_) (fun c_37 => absurd (by decide) c_37)
          refine lv_iconst (v := (-1)) hx hb dX12_home_59 (by decide) ?_
          subst hQ
          exact W.iret (v := (-1)) hx hb hr (fun t ht hW => ⟨⟨_, (), rfl, Or.inr ⟨rfl, by omega⟩, trivial⟩, hS.F ht⟩) hS.2.2 dX12_home_60
      · skip
        refine lv_if_eq (tgt := 59) hx hb dX12_home_22 (by decide) (fun c_38 => ?_) (fun c_38 => absurd (by decide) c_38)
        refine lv_iconst (v := (-1)) hx hb dX12_home_59 (by decide) ?_
        subst hQ
        exact W.iret (v := (-1)) hx hb hr (fun t ht hW => ⟨⟨_, (), rfl, Or.inr ⟨rfl, by omega⟩, trivial⟩, hS.F ht⟩) hS.2.2 dX12_home_60
    · skip
      refine lv_if_eq (tgt := 59) hx hb dX12_home_15 (by decide) (fun c_39 => ?_) (fun c_39 => absurd (by decide) c_39)
      refine lv_iconst (v := (-1)) hx hb dX12_home_59 (by decide) ?_
      subst hQ
      exact W.iret (v := (-1)) hx hb hr (fun t ht hW => ⟨⟨_, (), rfl, Or.inr ⟨rfl, by omega⟩, trivial⟩, hS.F ht⟩) hS.2.2 dX12_home_60
  · skip
    refine lv_if_eq (tgt := 59) hx hb dX12_home_6 (by decide) (fun c_40 => ?_) (fun c_40 => absurd (by decide) c_40)
    refine lv_iconst (v := (-1)) hx hb dX12_home_59 (by decide) ?_
    subst hQ
    exact W.iret (v := (-1)) hx hb hr (fun t ht hW => ⟨⟨_, (), rfl, Or.inr ⟨rfl, by omega⟩, trivial⟩, hS.F ht⟩) hS.2.2 dX12_home_60
set_option maxHeartbeats 4000000 in
set_option maxRecDepth 100000 in
theorem c_X12_seed (l : Launch) (D : va_G) (cy : Nat → ClassId) (a : Nat → Nat) (i : Nat → Int32) (r : Nat → Nat → Int32) (rl : Nat → Int64) (p0 : Int32) (sz : Nat) (hf : mZ i) : Met l yX12_seed (Cond.code yX12_seed cX12_seed 2 (some .boolean) :: gT) { frames := 2, cells := 0, slots := 0, locals := 46 } (va_Pc [.ref (a 0), .int p0] (rQ D cy (mW cy a i r rl) sz)) (va_Qi (fun (z : Int32) (u : Unit) => BR z (0 ≤ p0.toInt ∧ p0.toInt ≤ 65535) 1 0) (fun _ _ => True) (va_A (mW cy a i r rl) sz)) 0 0 (va_A (mW cy a i r rl) sz) := by
  refine Met.ofQ (cc := cX12_seed) (maxL := 2) (ret := (some .boolean)) (by decide) rfl ?_
  intro p e s m args below meth c s₁ B hml hv Q hQ
  obtain ⟨rfl, hsz, hP, hK, hD0⟩ := hv
  have hx := B.exec
  have hb := B.bytes
  have hr := B.returns
  have hlocks := B.notSynchronized
  have hT : ∀ w ∈ gT, w.before _ s = true := fun w h => atoms_spec (ws := (Cond.code yX12_seed cX12_seed 2 (some .boolean) :: gT)) B.pre w (List.mem_cons_of_mem _ h)
  have hown : s.vm.findClass RX12 = some m.cls := findClass_of_methodNamed B.named
  subst hsz
  have hD := hD0.self (sz := s.heap.size)
  generalize hAe : va_A (mW cy a i r rl) s.heap.size = A at hD hQ
  have hA : ∀ q : Nat, s.heap.size ≤ q → A q := fun q h => by rw [← hAe]; exact Or.inr h
  have hS : va_S A s.heap s.heap [] := va_S.rf
  have hl := lv_entry ([.ref (a 0), .int p0]) (n := 2) (Nat.le_of_ble_eq_true rfl)
  rw [lg_entry_eq]
  generalize (lg_sl ([.ref (a 0), .int p0]) ++ List.replicate (2 - (lg_sl ([.ref (a 0), .int p0])).length) Slot.unset).toArray = ls at hl ⊢
  have hl : lv_has ls 2 [(0, .ref (a 0)), (1, .int p0)] := hl
  refine lv_iload_n hx hb dX12_seed_0 rfl (lv_at hl 1 rfl) ?_
  refine lv_iconst (v := 0) hx hb dX12_seed_1 (by decide) ?_
  refine lv_ldcw (v := 65535) hx hb hown (hT _ t_86) dX12_seed_2 ?_
  refine vp_callSi (W.runS (As := [.int p0, .int 0, .int 65535]) (rest := []) ⟨hx, hb, hml, hown, hT⟩ (c_X12_in l p0 0 65535) (va_cwS 3 hT (gS t_12 t_13 t_14 t_8) rfl rfl rfl (by decide +kernel) ⟨Nat.le_of_ble_eq_true rfl, Nat.le_of_ble_eq_true rfl⟩) preT rfl rfl hl.1 rfl (lv_room (Nat.le_of_ble_eq_true rfl)) dX12_seed_5 ⟨Nat.le_of_ble_eq_true rfl, Nat.le_of_ble_eq_true rfl⟩) (fun r_1 hr_1 => ?_)
  have hr_1 : BR r_1 (0 ≤ p0.toInt ∧ p0.toInt ≤ 65535) 1 0 := hr_1
  rcases hr_1 with ⟨rfl, h_2⟩ | ⟨rfl, h_2⟩
  · skip
    refine lv_if_ne (tgt := 13) hx hb dX12_seed_8 (by decide) (fun c_3 => ?_) (fun c_3 => absurd c_3 (by decide))
    refine lv_aload_n hx hb dX12_seed_13 rfl (lv_at hl 0 rfl) ?_
    refine lv_iload_n hx hb dX12_seed_14 rfl (lv_at hl 1 rfl) ?_
    refine va_put (D := D) (ci := 12) (v := .int p0) (ty := .int) (C := RX12) (T := TX12) (N := 91) hx hb hT iX12 tyX12 tyX12_ok nmX12 hown hK hP hD hS 0 rfl rfl 1 (by decide) (hT _ t_38) (fun _ h9 => h9) rfl (by decide +kernel) rfl rfl (Nat.le_of_ble_eq_true rfl) dX12_seed_15 (fun H locs hP hD hS => ?_)
    rw [mP1] at hP hD
    refine lv_iconst (v := 1) hx hb dX12_seed_18 (by decide) ?_
    subst hQ
    exact W.zret hx hb hr rfl (fun t ht hW => ⟨⟨_, (), rfl, Or.inl ⟨rfl, by omega⟩, trivial⟩, hS.F ht⟩) hS.2.2 dX12_seed_19
  · skip
    refine lv_if_ne (tgt := 13) hx hb dX12_seed_8 (by decide) (fun c_4 => absurd (by decide) c_4) (fun c_4 => ?_)
    refine lv_iconst (v := 0) hx hb dX12_seed_11 (by decide) ?_
    subst hQ
    exact W.zret hx hb hr rfl (fun t ht hW => ⟨⟨_, (), rfl, Or.inr ⟨rfl, by omega⟩, trivial⟩, hS.F ht⟩) hS.2.2 dX12_seed_12
set_option maxHeartbeats 4000000 in
set_option maxRecDepth 100000 in
theorem c_X12_twice (l : Launch) (D : va_G) (cy : Nat → ClassId) (a : Nat → Nat) (i : Nat → Int32) (r : Nat → Nat → Int32) (rl : Nat → Int64) (p0 p1 p2 p3 : Int32) (sz : Nat) (hf : mZ i) : Met l yX12_twice (Cond.code yX12_twice cX12_twice 5 (some .int) :: gT) { frames := 2, cells := 0, slots := 0, locals := 46 } (va_Pc [.ref (a 0), .int p0, .int p1, .int p2, .int p3] (rQ D cy (mW cy a i r rl) sz)) (va_Qi (fun (z : Int32) (u : Unit) => BR z ((0 ≤ p0.toInt ∧ p0.toInt ≤ 5) ∧ (0 ≤ p1.toInt ∧ p1.toInt ≤ 5) ∧ p0.toInt ≠ p1.toInt ∧ (0 ≤ p2.toInt ∧ p2.toInt ≤ 9999) ∧ (0 ≤ p3.toInt ∧ p3.toInt ≤ 9999)) 1 (-1)) (fun _ _ => True) (va_A (mW cy a i r rl) sz)) 0 0 (va_A (mW cy a i r rl) sz) := by
  refine Met.ofQ (cc := cX12_twice) (maxL := 5) (ret := (some .int)) (by decide) rfl ?_
  intro p e s m args below meth c s₁ B hml hv Q hQ
  obtain ⟨rfl, hsz, hP, hK, hD0⟩ := hv
  have hx := B.exec
  have hb := B.bytes
  have hr := B.returns
  have hlocks := B.notSynchronized
  have hT : ∀ w ∈ gT, w.before _ s = true := fun w h => atoms_spec (ws := (Cond.code yX12_twice cX12_twice 5 (some .int) :: gT)) B.pre w (List.mem_cons_of_mem _ h)
  have hown : s.vm.findClass RX12 = some m.cls := findClass_of_methodNamed B.named
  subst hsz
  have hD := hD0.self (sz := s.heap.size)
  generalize hAe : va_A (mW cy a i r rl) s.heap.size = A at hD hQ
  have hA : ∀ q : Nat, s.heap.size ≤ q → A q := fun q h => by rw [← hAe]; exact Or.inr h
  have hS : va_S A s.heap s.heap [] := va_S.rf
  have hl := lv_entry ([.ref (a 0), .int p0, .int p1, .int p2, .int p3]) (n := 5) (Nat.le_of_ble_eq_true rfl)
  rw [lg_entry_eq]
  generalize (lg_sl ([.ref (a 0), .int p0, .int p1, .int p2, .int p3]) ++ List.replicate (5 - (lg_sl ([.ref (a 0), .int p0, .int p1, .int p2, .int p3])).length) Slot.unset).toArray = ls at hl ⊢
  have hl : lv_has ls 5 [(0, .ref (a 0)), (1, .int p0), (2, .int p1), (3, .int p2), (4, .int p3)] := hl
  refine lv_iload_n hx hb dX12_twice_0 rfl (lv_at hl 1 rfl) ?_
  refine vp_callSi (W.runS (As := [.int p0]) (rest := []) ⟨hx, hb, hml, hown, hT⟩ (c_X12_isJudge l p0) (va_cwS 1 hT (gS t_24 t_25 t_26 t_8) rfl rfl rfl (by decide +kernel) ⟨Nat.le_of_ble_eq_true rfl, Nat.le_of_ble_eq_true rfl⟩) preT rfl rfl hl.1 rfl (lv_room (Nat.le_of_ble_eq_true rfl)) dX12_twice_1 ⟨Nat.le_of_ble_eq_true rfl, Nat.le_of_ble_eq_true rfl⟩) (fun r_1 hr_1 => ?_)
  have hr_1 : BR r_1 (0 ≤ p0.toInt ∧ p0.toInt ≤ 5) 1 0 := hr_1
  rcases hr_1 with ⟨rfl, h_2⟩ | ⟨rfl, h_2⟩
  · skip
    refine lv_if_eq (tgt := 51) hx hb dX12_twice_4 (by decide) (fun c_3 => absurd c_3 (by decide)) (fun c_3 => ?_)
    refine lv_iload_n hx hb dX12_twice_7 rfl (lv_at hl 2 rfl) ?_
    refine vp_callSi (W.runS (As := [.int p1]) (rest := []) ⟨hx, hb, hml, hown, hT⟩ (c_X12_isJudge l p1) (va_cwS 1 hT (gS t_24 t_25 t_26 t_8) rfl rfl rfl (by decide +kernel) ⟨Nat.le_of_ble_eq_true rfl, Nat.le_of_ble_eq_true rfl⟩) preT rfl rfl hl.1 rfl (lv_room (Nat.le_of_ble_eq_true rfl)) dX12_twice_8 ⟨Nat.le_of_ble_eq_true rfl, Nat.le_of_ble_eq_true rfl⟩) (fun r_4 hr_4 => ?_)
    have hr_4 : BR r_4 (0 ≤ p1.toInt ∧ p1.toInt ≤ 5) 1 0 := hr_4
    rcases hr_4 with ⟨rfl, h_5⟩ | ⟨rfl, h_5⟩
    · skip
      refine lv_if_eq (tgt := 51) hx hb dX12_twice_11 (by decide) (fun c_6 => absurd c_6 (by decide)) (fun c_6 => ?_)
      refine lv_iload_n hx hb dX12_twice_14 rfl (lv_at hl 1 rfl) ?_
      refine lv_iload_n hx hb dX12_twice_15 rfl (lv_at hl 2 rfl) ?_
      refine lv_icmp_eq (tgt := 51) hx hb dX12_twice_16 (by decide) (fun c_7 => ?_) (fun c_7 => ?_)
      · have c_7 : p0.toInt = p1.toInt := b_eq c_7
        refine lv_iconst (v := (-1)) hx hb dX12_twice_51 (by decide) ?_
        subst hQ
        exact W.iret (v := (-1)) hx hb hr (fun t ht hW => ⟨⟨_, (), rfl, Or.inr ⟨rfl, by omega⟩, trivial⟩, hS.F ht⟩) hS.2.2 dX12_twice_52
      · have c_7 : p0.toInt ≠ p1.toInt := b_ne c_7
        refine lv_iload_n hx hb dX12_twice_19 rfl (lv_at hl 3 rfl) ?_
        refine lv_iconst (v := 0) hx hb dX12_twice_20 (by decide) ?_
        refine lv_sipush (v := 9999) hx hb dX12_twice_21 (by decide) ?_
        refine vp_callSi (W.runS (As := [.int p2, .int 0, .int 9999]) (rest := []) ⟨hx, hb, hml, hown, hT⟩ (c_X12_in l p2 0 9999) (va_cwS 3 hT (gS t_12 t_13 t_14 t_8) rfl rfl rfl (by decide +kernel) ⟨Nat.le_of_ble_eq_true rfl, Nat.le_of_ble_eq_true rfl⟩) preT rfl rfl hl.1 rfl (lv_room (Nat.le_of_ble_eq_true rfl)) dX12_twice_24 ⟨Nat.le_of_ble_eq_true rfl, Nat.le_of_ble_eq_true rfl⟩) (fun r_8 hr_8 => ?_)
        have hr_8 : BR r_8 (0 ≤ p2.toInt ∧ p2.toInt ≤ 9999) 1 0 := hr_8
        rcases hr_8 with ⟨rfl, h_9⟩ | ⟨rfl, h_9⟩
        · skip
          refine lv_if_eq (tgt := 51) hx hb dX12_twice_27 (by decide) (fun c_10 => absurd c_10 (by decide)) (fun c_10 => ?_)
          refine lv_iload hx hb dX12_twice_30 (lv_at hl 4 rfl) ?_
          refine lv_iconst (v := 0) hx hb dX12_twice_32 (by decide) ?_
          refine lv_sipush (v := 9999) hx hb dX12_twice_33 (by decide) ?_
          refine vp_callSi (W.runS (As := [.int p3, .int 0, .int 9999]) (rest := []) ⟨hx, hb, hml, hown, hT⟩ (c_X12_in l p3 0 9999) (va_cwS 3 hT (gS t_12 t_13 t_14 t_8) rfl rfl rfl (by decide +kernel) ⟨Nat.le_of_ble_eq_true rfl, Nat.le_of_ble_eq_true rfl⟩) preT rfl rfl hl.1 rfl (lv_room (Nat.le_of_ble_eq_true rfl)) dX12_twice_36 ⟨Nat.le_of_ble_eq_true rfl, Nat.le_of_ble_eq_true rfl⟩) (fun r_11 hr_11 => ?_)
          have hr_11 : BR r_11 (0 ≤ p3.toInt ∧ p3.toInt ≤ 9999) 1 0 := hr_11
          rcases hr_11 with ⟨rfl, h_12⟩ | ⟨rfl, h_12⟩
          · skip
            refine lv_if_eq (tgt := 51) hx hb dX12_twice_39 (by decide) (fun c_13 => absurd c_13 (by decide)) (fun c_13 => ?_)
            refine lv_aload_n hx hb dX12_twice_42 rfl (lv_at hl 0 rfl) ?_
            refine va_get (D := D) (ci := 12) (v := .int 0) (C := RX12) (T := TX12) (N := 91) hx hb hT iX12 hown hK hP 0 rfl rfl 63 (by decide) (hT _ t_27) (fun _ h9 => h9) (congrArg (fun z => some (Value.int z)) (hf.1 63 (by decide))) dX12_twice_43 ?_
            refine lv_bipush (v := 40) hx hb dX12_twice_46 (by decide) ?_
            refine lv_icmp_ne (tgt := 53) hx hb dX12_twice_48 (by decide) (fun c_14 => ?_) (fun c_14 => absurd c_14 (by decide))
            refine lv_aload_n hx hb dX12_twice_53 rfl (lv_at hl 0 rfl) ?_
            refine va_get (D := D) (ci := 12) (v := .ref (a 52)) (C := RX12) (T := TX12) (N := 91) hx hb hT iX12 hown hK hP 0 rfl rfl 66 (by decide) (hT _ t_87) (fun _ h9 => h9) rfl dX12_twice_54 ?_
            refine lv_aload_n hx hb dX12_twice_57 rfl (lv_at hl 0 rfl) ?_
            refine va_get (D := D) (ci := 12) (v := .int 0) (C := RX12) (T := TX12) (N := 91) hx hb hT iX12 hown hK hP 0 rfl rfl 63 (by decide) (hT _ t_27) (fun _ h9 => h9) (congrArg (fun z => some (Value.int z)) (hf.1 63 (by decide))) dX12_twice_58 ?_
            refine lv_iload_n hx hb dX12_twice_61 rfl (lv_at hl 1 rfl) ?_
            refine va_iast hx hb hK hP hD hS 52 0 rfl rfl (vp_inI (by decide) (by decide)) dX12_twice_62 (fun H locs hP hD hS => ?_)
            rw [mS52] at hP hD
            refine lv_aload_n hx hb dX12_twice_63 rfl (lv_at hl 0 rfl) ?_
            refine va_get (D := D) (ci := 12) (v := .ref (a 53)) (C := RX12) (T := TX12) (N := 91) hx hb hT iX12 hown hK hP 0 rfl rfl 67 (by decide) (hT _ t_88) (fun _ h9 => h9) rfl dX12_twice_64 ?_
            refine lv_aload_n hx hb dX12_twice_67 rfl (lv_at hl 0 rfl) ?_
            refine va_get (D := D) (ci := 12) (v := .int 0) (C := RX12) (T := TX12) (N := 91) hx hb hT iX12 hown hK hP 0 rfl rfl 63 (by decide) (hT _ t_27) (fun _ h9 => h9) (congrArg (fun z => some (Value.int z)) (hf.1 63 (by decide))) dX12_twice_68 ?_
            refine lv_iload_n hx hb dX12_twice_71 rfl (lv_at hl 2 rfl) ?_
            refine va_iast hx hb hK hP hD hS 53 0 rfl rfl (vp_inI (by decide) (by decide)) dX12_twice_72 (fun H locs hP hD hS => ?_)
            rw [mS53] at hP hD
            refine lv_aload_n hx hb dX12_twice_73 rfl (lv_at hl 0 rfl) ?_
            refine va_get (D := D) (ci := 12) (v := .ref (a 54)) (C := RX12) (T := TX12) (N := 91) hx hb hT iX12 hown hK hP 0 rfl rfl 68 (by decide) (hT _ t_89) (fun _ h9 => h9) rfl dX12_twice_74 ?_
            refine lv_aload_n hx hb dX12_twice_77 rfl (lv_at hl 0 rfl) ?_
            refine va_get (D := D) (ci := 12) (v := .int 0) (C := RX12) (T := TX12) (N := 91) hx hb hT iX12 hown hK hP 0 rfl rfl 63 (by decide) (hT _ t_27) (fun _ h9 => h9) (congrArg (fun z => some (Value.int z)) (hf.1 63 (by decide))) dX12_twice_78 ?_
            refine lv_iload_n hx hb dX12_twice_81 rfl (lv_at hl 3 rfl) ?_
            refine va_iast hx hb hK hP hD hS 54 0 rfl rfl (vp_inI (by decide) (by decide)) dX12_twice_82 (fun H locs hP hD hS => ?_)
            rw [mS54] at hP hD
            refine lv_aload_n hx hb dX12_twice_83 rfl (lv_at hl 0 rfl) ?_
            refine va_get (D := D) (ci := 12) (v := .ref (a 55)) (C := RX12) (T := TX12) (N := 91) hx hb hT iX12 hown hK hP 0 rfl rfl 69 (by decide) (hT _ t_90) (fun _ h9 => h9) rfl dX12_twice_84 ?_
            refine lv_aload_n hx hb dX12_twice_87 rfl (lv_at hl 0 rfl) ?_
            refine va_get (D := D) (ci := 12) (v := .int 0) (C := RX12) (T := TX12) (N := 91) hx hb hT iX12 hown hK hP 0 rfl rfl 63 (by decide) (hT _ t_27) (fun _ h9 => h9) (congrArg (fun z => some (Value.int z)) (hf.1 63 (by decide))) dX12_twice_88 ?_
            refine lv_iload hx hb dX12_twice_91 (lv_at hl 4 rfl) ?_
            refine va_iast hx hb hK hP hD hS 55 0 rfl rfl (vp_inI (by decide) (by decide)) dX12_twice_93 (fun H locs hP hD hS => ?_)
            rw [mS55] at hP hD
            refine lv_aload_n hx hb dX12_twice_94 rfl (lv_at hl 0 rfl) ?_
            refine lv_aload_n hx hb dX12_twice_95 rfl (lv_at hl 0 rfl) ?_
            refine va_get (D := D) (ci := 12) (v := .int 0) (C := RX12) (T := TX12) (N := 91) hx hb hT iX12 hown hK hP 0 rfl rfl 63 (by decide) (hT _ t_27) (fun _ h9 => h9) (congrArg (fun z => some (Value.int z)) (hf.1 63 (by decide))) dX12_twice_96 ?_
            refine lv_iconst (v := 1) hx hb dX12_twice_99 (by decide) ?_
            refine lv_iadd hx hb dX12_twice_100 ?_
            refine lv_topi (fun v_15 ev_15 => ?_)
            obtain rfl : v_15 = 1 := ev_15.trans (by decide)
            refine va_put (D := D) (ci := 12) (v := .int 1) (ty := .int) (C := RX12) (T := TX12) (N := 91) hx hb hT iX12 tyX12 tyX12_ok nmX12 hown hK hP hD hS 0 rfl rfl 63 (by decide) (hT _ t_27) (fun _ h9 => h9) rfl (by decide +kernel) rfl rfl (Nat.le_of_ble_eq_true rfl) dX12_twice_101 (fun H locs hP hD hS => ?_)
            rw [mP63] at hP hD
            refine lv_aload_n hx hb dX12_twice_104 rfl (lv_at hl 0 rfl) ?_
            refine va_get (D := D) (ci := 12) (v := .int 1) (C := RX12) (T := TX12) (N := 91) hx hb hT iX12 hown hK hP 0 rfl rfl 63 (by decide) (hT _ t_27) (fun _ h9 => h9) rfl dX12_twice_105 ?_
            subst hQ
            exact W.iret (v := 1) hx hb hr (fun t ht hW => ⟨⟨_, (), rfl, Or.inl ⟨rfl, by omega⟩, trivial⟩, hS.F ht⟩) hS.2.2 dX12_twice_108
          · skip
            refine lv_if_eq (tgt := 51) hx hb dX12_twice_39 (by decide) (fun c_16 => ?_) (fun c_16 => absurd (by decide) c_16)
            refine lv_iconst (v := (-1)) hx hb dX12_twice_51 (by decide) ?_
            subst hQ
            exact W.iret (v := (-1)) hx hb hr (fun t ht hW => ⟨⟨_, (), rfl, Or.inr ⟨rfl, by omega⟩, trivial⟩, hS.F ht⟩) hS.2.2 dX12_twice_52
        · skip
          refine lv_if_eq (tgt := 51) hx hb dX12_twice_27 (by decide) (fun c_17 => ?_) (fun c_17 => absurd (by decide) c_17)
          refine lv_iconst (v := (-1)) hx hb dX12_twice_51 (by decide) ?_
          subst hQ
          exact W.iret (v := (-1)) hx hb hr (fun t ht hW => ⟨⟨_, (), rfl, Or.inr ⟨rfl, by omega⟩, trivial⟩, hS.F ht⟩) hS.2.2 dX12_twice_52
    · skip
      refine lv_if_eq (tgt := 51) hx hb dX12_twice_11 (by decide) (fun c_18 => ?_) (fun c_18 => absurd (by decide) c_18)
      refine lv_iconst (v := (-1)) hx hb dX12_twice_51 (by decide) ?_
      subst hQ
      exact W.iret (v := (-1)) hx hb hr (fun t ht hW => ⟨⟨_, (), rfl, Or.inr ⟨rfl, by omega⟩, trivial⟩, hS.F ht⟩) hS.2.2 dX12_twice_52
  · skip
    refine lv_if_eq (tgt := 51) hx hb dX12_twice_4 (by decide) (fun c_19 => ?_) (fun c_19 => absurd (by decide) c_19)
    refine lv_iconst (v := (-1)) hx hb dX12_twice_51 (by decide) ?_
    subst hQ
    exact W.iret (v := (-1)) hx hb hr (fun t ht hW => ⟨⟨_, (), rfl, Or.inr ⟨rfl, by omega⟩, trivial⟩, hS.F ht⟩) hS.2.2 dX12_twice_52
set_option maxHeartbeats 4000000 in
set_option maxRecDepth 100000 in
theorem c_X12_fact (l : Launch) (D : va_G) (cy : Nat → ClassId) (a : Nat → Nat) (i : Nat → Int32) (r : Nat → Nat → Int32) (rl : Nat → Int64) (p0 p1 p2 : Int32) (sz : Nat) (hf : mZ i) : Met l yX12_fact (Cond.code yX12_fact cX12_fact 4 (some .int) :: gT) { frames := 2, cells := 0, slots := 0, locals := 46 } (va_Pc [.ref (a 0), .int p0, .int p1, .int p2] (rQ D cy (mW cy a i r rl) sz)) (va_Qi (fun (z : Int32) (u : Unit) => BR z ((0 ≤ p0.toInt ∧ p0.toInt ≤ 10) ∧ (0 ≤ p1.toInt ∧ p1.toInt ≤ 10) ∧ p0.toInt ≠ p1.toInt ∧ (-999 ≤ p2.toInt ∧ p2.toInt ≤ 999)) 1 (-1)) (fun _ _ => True) (va_A (mW cy a i r rl) sz)) 0 0 (va_A (mW cy a i r rl) sz) := by
  refine Met.ofQ (cc := cX12_fact) (maxL := 4) (ret := (some .int)) (by decide) rfl ?_
  intro p e s m args below meth c s₁ B hml hv Q hQ
  obtain ⟨rfl, hsz, hP, hK, hD0⟩ := hv
  have hx := B.exec
  have hb := B.bytes
  have hr := B.returns
  have hlocks := B.notSynchronized
  have hT : ∀ w ∈ gT, w.before _ s = true := fun w h => atoms_spec (ws := (Cond.code yX12_fact cX12_fact 4 (some .int) :: gT)) B.pre w (List.mem_cons_of_mem _ h)
  have hown : s.vm.findClass RX12 = some m.cls := findClass_of_methodNamed B.named
  subst hsz
  have hD := hD0.self (sz := s.heap.size)
  generalize hAe : va_A (mW cy a i r rl) s.heap.size = A at hD hQ
  have hA : ∀ q : Nat, s.heap.size ≤ q → A q := fun q h => by rw [← hAe]; exact Or.inr h
  have hS : va_S A s.heap s.heap [] := va_S.rf
  have hl := lv_entry ([.ref (a 0), .int p0, .int p1, .int p2]) (n := 4) (Nat.le_of_ble_eq_true rfl)
  rw [lg_entry_eq]
  generalize (lg_sl ([.ref (a 0), .int p0, .int p1, .int p2]) ++ List.replicate (4 - (lg_sl ([.ref (a 0), .int p0, .int p1, .int p2])).length) Slot.unset).toArray = ls at hl ⊢
  have hl : lv_has ls 4 [(0, .ref (a 0)), (1, .int p0), (2, .int p1), (3, .int p2)] := hl
  refine lv_iload_n hx hb dX12_fact_0 rfl (lv_at hl 1 rfl) ?_
  refine lv_iconst (v := 0) hx hb dX12_fact_1 (by decide) ?_
  refine lv_bipush (v := 10) hx hb dX12_fact_2 (by decide) ?_
  refine vp_callSi (W.runS (As := [.int p0, .int 0, .int 10]) (rest := []) ⟨hx, hb, hml, hown, hT⟩ (c_X12_in l p0 0 10) (va_cwS 3 hT (gS t_12 t_13 t_14 t_8) rfl rfl rfl (by decide +kernel) ⟨Nat.le_of_ble_eq_true rfl, Nat.le_of_ble_eq_true rfl⟩) preT rfl rfl hl.1 rfl (lv_room (Nat.le_of_ble_eq_true rfl)) dX12_fact_4 ⟨Nat.le_of_ble_eq_true rfl, Nat.le_of_ble_eq_true rfl⟩) (fun r_1 hr_1 => ?_)
  have hr_1 : BR r_1 (0 ≤ p0.toInt ∧ p0.toInt ≤ 10) 1 0 := hr_1
  rcases hr_1 with ⟨rfl, h_2⟩ | ⟨rfl, h_2⟩
  · skip
    refine lv_if_eq (tgt := 47) hx hb dX12_fact_7 (by decide) (fun c_3 => absurd c_3 (by decide)) (fun c_3 => ?_)
    refine lv_iload_n hx hb dX12_fact_10 rfl (lv_at hl 2 rfl) ?_
    refine lv_iconst (v := 0) hx hb dX12_fact_11 (by decide) ?_
    refine lv_bipush (v := 10) hx hb dX12_fact_12 (by decide) ?_
    refine vp_callSi (W.runS (As := [.int p1, .int 0, .int 10]) (rest := []) ⟨hx, hb, hml, hown, hT⟩ (c_X12_in l p1 0 10) (va_cwS 3 hT (gS t_12 t_13 t_14 t_8) rfl rfl rfl (by decide +kernel) ⟨Nat.le_of_ble_eq_true rfl, Nat.le_of_ble_eq_true rfl⟩) preT rfl rfl hl.1 rfl (lv_room (Nat.le_of_ble_eq_true rfl)) dX12_fact_14 ⟨Nat.le_of_ble_eq_true rfl, Nat.le_of_ble_eq_true rfl⟩) (fun r_4 hr_4 => ?_)
    have hr_4 : BR r_4 (0 ≤ p1.toInt ∧ p1.toInt ≤ 10) 1 0 := hr_4
    rcases hr_4 with ⟨rfl, h_5⟩ | ⟨rfl, h_5⟩
    · skip
      refine lv_if_eq (tgt := 47) hx hb dX12_fact_17 (by decide) (fun c_6 => absurd c_6 (by decide)) (fun c_6 => ?_)
      refine lv_iload_n hx hb dX12_fact_20 rfl (lv_at hl 1 rfl) ?_
      refine lv_iload_n hx hb dX12_fact_21 rfl (lv_at hl 2 rfl) ?_
      refine lv_icmp_eq (tgt := 47) hx hb dX12_fact_22 (by decide) (fun c_7 => ?_) (fun c_7 => ?_)
      · have c_7 : p0.toInt = p1.toInt := b_eq c_7
        refine lv_iconst (v := (-1)) hx hb dX12_fact_47 (by decide) ?_
        subst hQ
        exact W.iret (v := (-1)) hx hb hr (fun t ht hW => ⟨⟨_, (), rfl, Or.inr ⟨rfl, by omega⟩, trivial⟩, hS.F ht⟩) hS.2.2 dX12_fact_48
      · have c_7 : p0.toInt ≠ p1.toInt := b_ne c_7
        refine lv_iload_n hx hb dX12_fact_25 rfl (lv_at hl 3 rfl) ?_
        refine lv_sipush (v := (-999)) hx hb dX12_fact_26 (by decide) ?_
        refine lv_sipush (v := 999) hx hb dX12_fact_29 (by decide) ?_
        refine vp_callSi (W.runS (As := [.int p2, .int (-999), .int 999]) (rest := []) ⟨hx, hb, hml, hown, hT⟩ (c_X12_in l p2 (-999) 999) (va_cwS 3 hT (gS t_12 t_13 t_14 t_8) rfl rfl rfl (by decide +kernel) ⟨Nat.le_of_ble_eq_true rfl, Nat.le_of_ble_eq_true rfl⟩) preT rfl rfl hl.1 rfl (lv_room (Nat.le_of_ble_eq_true rfl)) dX12_fact_32 ⟨Nat.le_of_ble_eq_true rfl, Nat.le_of_ble_eq_true rfl⟩) (fun r_8 hr_8 => ?_)
        have hr_8 : BR r_8 ((-999) ≤ p2.toInt ∧ p2.toInt ≤ 999) 1 0 := hr_8
        rcases hr_8 with ⟨rfl, h_9⟩ | ⟨rfl, h_9⟩
        · skip
          refine lv_if_eq (tgt := 47) hx hb dX12_fact_35 (by decide) (fun c_10 => absurd c_10 (by decide)) (fun c_10 => ?_)
          refine lv_aload_n hx hb dX12_fact_38 rfl (lv_at hl 0 rfl) ?_
          refine va_get (D := D) (ci := 12) (v := .int 0) (C := RX12) (T := TX12) (N := 91) hx hb hT iX12 hown hK hP 0 rfl rfl 72 (by decide) (hT _ t_37) (fun _ h9 => h9) (congrArg (fun z => some (Value.int z)) (hf.1 72 (by decide))) dX12_fact_39 ?_
          refine lv_bipush (v := 30) hx hb dX12_fact_42 (by decide) ?_
          refine lv_icmp_ne (tgt := 49) hx hb dX12_fact_44 (by decide) (fun c_11 => ?_) (fun c_11 => absurd c_11 (by decide))
          refine lv_aload_n hx hb dX12_fact_49 rfl (lv_at hl 0 rfl) ?_
          refine va_get (D := D) (ci := 12) (v := .ref (a 58)) (C := RX12) (T := TX12) (N := 91) hx hb hT iX12 hown hK hP 0 rfl rfl 73 (by decide) (hT _ t_91) (fun _ h9 => h9) rfl dX12_fact_50 ?_
          refine lv_aload_n hx hb dX12_fact_53 rfl (lv_at hl 0 rfl) ?_
          refine va_get (D := D) (ci := 12) (v := .int 0) (C := RX12) (T := TX12) (N := 91) hx hb hT iX12 hown hK hP 0 rfl rfl 72 (by decide) (hT _ t_37) (fun _ h9 => h9) (congrArg (fun z => some (Value.int z)) (hf.1 72 (by decide))) dX12_fact_54 ?_
          refine lv_iload_n hx hb dX12_fact_57 rfl (lv_at hl 1 rfl) ?_
          refine va_iast hx hb hK hP hD hS 58 0 rfl rfl (vp_inI (by decide) (by decide)) dX12_fact_58 (fun H locs hP hD hS => ?_)
          rw [mS58] at hP hD
          refine lv_aload_n hx hb dX12_fact_59 rfl (lv_at hl 0 rfl) ?_
          refine va_get (D := D) (ci := 12) (v := .ref (a 59)) (C := RX12) (T := TX12) (N := 91) hx hb hT iX12 hown hK hP 0 rfl rfl 74 (by decide) (hT _ t_92) (fun _ h9 => h9) rfl dX12_fact_60 ?_
          refine lv_aload_n hx hb dX12_fact_63 rfl (lv_at hl 0 rfl) ?_
          refine va_get (D := D) (ci := 12) (v := .int 0) (C := RX12) (T := TX12) (N := 91) hx hb hT iX12 hown hK hP 0 rfl rfl 72 (by decide) (hT _ t_37) (fun _ h9 => h9) (congrArg (fun z => some (Value.int z)) (hf.1 72 (by decide))) dX12_fact_64 ?_
          refine lv_iload_n hx hb dX12_fact_67 rfl (lv_at hl 2 rfl) ?_
          refine va_iast hx hb hK hP hD hS 59 0 rfl rfl (vp_inI (by decide) (by decide)) dX12_fact_68 (fun H locs hP hD hS => ?_)
          rw [mS59] at hP hD
          refine lv_aload_n hx hb dX12_fact_69 rfl (lv_at hl 0 rfl) ?_
          refine va_get (D := D) (ci := 12) (v := .ref (a 60)) (C := RX12) (T := TX12) (N := 91) hx hb hT iX12 hown hK hP 0 rfl rfl 75 (by decide) (hT _ t_93) (fun _ h9 => h9) rfl dX12_fact_70 ?_
          refine lv_aload_n hx hb dX12_fact_73 rfl (lv_at hl 0 rfl) ?_
          refine va_get (D := D) (ci := 12) (v := .int 0) (C := RX12) (T := TX12) (N := 91) hx hb hT iX12 hown hK hP 0 rfl rfl 72 (by decide) (hT _ t_37) (fun _ h9 => h9) (congrArg (fun z => some (Value.int z)) (hf.1 72 (by decide))) dX12_fact_74 ?_
          refine lv_iload_n hx hb dX12_fact_77 rfl (lv_at hl 3 rfl) ?_
          refine va_iast hx hb hK hP hD hS 60 0 rfl rfl (vp_inI (by decide) (by decide)) dX12_fact_78 (fun H locs hP hD hS => ?_)
          rw [mS60] at hP hD
          refine lv_aload_n hx hb dX12_fact_79 rfl (lv_at hl 0 rfl) ?_
          refine lv_aload_n hx hb dX12_fact_80 rfl (lv_at hl 0 rfl) ?_
          refine va_get (D := D) (ci := 12) (v := .int 0) (C := RX12) (T := TX12) (N := 91) hx hb hT iX12 hown hK hP 0 rfl rfl 72 (by decide) (hT _ t_37) (fun _ h9 => h9) (congrArg (fun z => some (Value.int z)) (hf.1 72 (by decide))) dX12_fact_81 ?_
          refine lv_iconst (v := 1) hx hb dX12_fact_84 (by decide) ?_
          refine lv_iadd hx hb dX12_fact_85 ?_
          refine lv_topi (fun v_12 ev_12 => ?_)
          obtain rfl : v_12 = 1 := ev_12.trans (by decide)
          refine va_put (D := D) (ci := 12) (v := .int 1) (ty := .int) (C := RX12) (T := TX12) (N := 91) hx hb hT iX12 tyX12 tyX12_ok nmX12 hown hK hP hD hS 0 rfl rfl 72 (by decide) (hT _ t_37) (fun _ h9 => h9) rfl (by decide +kernel) rfl rfl (Nat.le_of_ble_eq_true rfl) dX12_fact_86 (fun H locs hP hD hS => ?_)
          rw [mP72] at hP hD
          refine lv_aload_n hx hb dX12_fact_89 rfl (lv_at hl 0 rfl) ?_
          refine va_get (D := D) (ci := 12) (v := .int 1) (C := RX12) (T := TX12) (N := 91) hx hb hT iX12 hown hK hP 0 rfl rfl 72 (by decide) (hT _ t_37) (fun _ h9 => h9) rfl dX12_fact_90 ?_
          subst hQ
          exact W.iret (v := 1) hx hb hr (fun t ht hW => ⟨⟨_, (), rfl, Or.inl ⟨rfl, by omega⟩, trivial⟩, hS.F ht⟩) hS.2.2 dX12_fact_93
        · skip
          refine lv_if_eq (tgt := 47) hx hb dX12_fact_35 (by decide) (fun c_13 => ?_) (fun c_13 => absurd (by decide) c_13)
          refine lv_iconst (v := (-1)) hx hb dX12_fact_47 (by decide) ?_
          subst hQ
          exact W.iret (v := (-1)) hx hb hr (fun t ht hW => ⟨⟨_, (), rfl, Or.inr ⟨rfl, by omega⟩, trivial⟩, hS.F ht⟩) hS.2.2 dX12_fact_48
    · skip
      refine lv_if_eq (tgt := 47) hx hb dX12_fact_17 (by decide) (fun c_14 => ?_) (fun c_14 => absurd (by decide) c_14)
      refine lv_iconst (v := (-1)) hx hb dX12_fact_47 (by decide) ?_
      subst hQ
      exact W.iret (v := (-1)) hx hb hr (fun t ht hW => ⟨⟨_, (), rfl, Or.inr ⟨rfl, by omega⟩, trivial⟩, hS.F ht⟩) hS.2.2 dX12_fact_48
  · skip
    refine lv_if_eq (tgt := 47) hx hb dX12_fact_7 (by decide) (fun c_15 => ?_) (fun c_15 => absurd (by decide) c_15)
    refine lv_iconst (v := (-1)) hx hb dX12_fact_47 (by decide) ?_
    subst hQ
    exact W.iret (v := (-1)) hx hb hr (fun t ht hW => ⟨⟨_, (), rfl, Or.inr ⟨rfl, by omega⟩, trivial⟩, hS.F ht⟩) hS.2.2 dX12_fact_48
set_option maxHeartbeats 4000000 in
set_option maxRecDepth 100000 in
theorem c_X12_types (l : Launch) (D : va_G) (cy : Nat → ClassId) (a : Nat → Nat) (i : Nat → Int32) (r : Nat → Nat → Int32) (rl : Nat → Int64) (p0 : Int32) (sz : Nat) (h22 : 0 ≤ (i 22).toInt ∧ (i 22).toInt ≤ 216) : Met l yX12_types (Cond.code yX12_types cX12_types 3 none :: gT) { frames := 1, cells := 0, slots := 0, locals := 24 } (va_Pc [.ref (a 0), .int p0] (rQ D cy (mW cy a i r rl) sz)) (va_Qv (fun u : (Nat → Int32) × (Nat → Nat → Int32) => (u.1 22).toInt = (i 22).toInt + 4) (fun (u : (Nat → Int32) × (Nat → Nat → Int32)) t => va_P D vwCl (mW cy a u.1 u.2 rl) t.heap ∧ va_K D vwCl (vT cy) t ∧ va_D (va_A (mW cy a i r rl) sz) (mW cy a u.1 u.2 rl)) (va_A (mW cy a i r rl) sz)) 0 0 (va_A (mW cy a i r rl) sz) := by
  refine Met.ofQ (cc := cX12_types) (maxL := 3) (ret := none) (by decide) rfl ?_
  intro p e s m args below meth c s₁ B hml hv Q hQ
  obtain ⟨rfl, hsz, hP, hK, hD0⟩ := hv
  have hx := B.exec
  have hb := B.bytes
  have hr := B.returns
  have hlocks := B.notSynchronized
  have hT : ∀ w ∈ gT, w.before _ s = true := fun w h => atoms_spec (ws := (Cond.code yX12_types cX12_types 3 none :: gT)) B.pre w (List.mem_cons_of_mem _ h)
  have hown : s.vm.findClass RX12 = some m.cls := findClass_of_methodNamed B.named
  subst hsz
  have hD := hD0.self (sz := s.heap.size)
  generalize hAe : va_A (mW cy a i r rl) s.heap.size = A at hD hQ
  have hA : ∀ q : Nat, s.heap.size ≤ q → A q := fun q h => by rw [← hAe]; exact Or.inr h
  have hS : va_S A s.heap s.heap [] := va_S.rf
  have hl := lv_entry ([.ref (a 0), .int p0]) (n := 3) (Nat.le_of_ble_eq_true rfl)
  rw [lg_entry_eq]
  generalize (lg_sl ([.ref (a 0), .int p0]) ++ List.replicate (3 - (lg_sl ([.ref (a 0), .int p0])).length) Slot.unset).toArray = ls at hl ⊢
  have hl : lv_has ls 3 [(0, .ref (a 0)), (1, .int p0)] := hl
  refine lv_iconst (v := 3) hx hb dX12_types_0 (by decide) ?_
  refine lv_istore_n (lv' := [(2, .int 3), (0, .ref (a 0)), (1, .int p0)]) hx hb dX12_types_1 rfl hl (by decide) rfl (fun ls hl => ?_)
  refine lv_iload_n hx hb dX12_types_2 rfl (lv_at hl 0 rfl) ?_
  refine lv_if_lt (tgt := 38) hx hb dX12_types_3 (by decide) (fun c_1 => absurd c_1 (by decide)) (fun c_1 => ?_)
  refine lv_aload_n hx hb dX12_types_6 rfl (lv_at hl 1 rfl) ?_
  refine va_get (D := D) (ci := 12) (v := .ref (a 20)) (C := RX12) (T := TX12) (N := 91) hx hb hT iX12 hown hK hP 0 rfl rfl 21 (by decide) (hT _ t_94) (fun _ h9 => h9) rfl dX12_types_7 ?_
  refine lv_aload_n hx hb dX12_types_10 rfl (lv_at hl 1 rfl) ?_
  refine va_get (D := D) (ci := 12) (v := .int (i 22)) (C := RX12) (T := TX12) (N := 91) hx hb hT iX12 hown hK hP 0 rfl rfl 22 (by decide) (hT _ t_15) (fun _ h9 => h9) rfl dX12_types_11 ?_
  refine lv_iload_n hx hb dX12_types_14 rfl (lv_at hl 2 rfl) ?_
  refine lv_bipush (v := 8) hx hb dX12_types_15 (by decide) ?_
  refine lv_iload_n hx hb dX12_types_17 rfl (lv_at hl 0 rfl) ?_
  refine lv_imul hx hb dX12_types_18 ?_
  refine lv_topi (fun v_2 ev_2 => ?_)
  obtain rfl : v_2 = 24 := ev_2.trans (by decide)
  refine lv_ishr hx hb dX12_types_19 ?_
  refine lv_topi (fun v_3 ev_3 => ?_)
  obtain ⟨v_4, ev_4⟩ : ∃ y : Int32, v_3.toInt8.toInt32 = y := ⟨_, rfl⟩
  refine lv_i2b (v := v_4) hx hb dX12_types_20 ev_4 ?_
  refine va_bast hx hb hK hP hD hS 20 1 rfl rfl (vp_inI (by omega) (by omega)) dX12_types_21 (fun H locs hP hD hS => ?_)
  rw [mS20] at hP hD
  refine lv_aload_n hx hb dX12_types_22 rfl (lv_at hl 1 rfl) ?_
  refine lv_aload_n hx hb dX12_types_23 rfl (lv_at hl 1 rfl) ?_
  refine va_get (D := D) (ci := 12) (v := .int (i 22)) (C := RX12) (T := TX12) (N := 91) hx hb hT iX12 hown hK hP 0 rfl rfl 22 (by decide) (hT _ t_15) (fun _ h9 => h9) rfl dX12_types_24 ?_
  refine lv_iconst (v := 1) hx hb dX12_types_27 (by decide) ?_
  refine lv_iadd hx hb dX12_types_28 ?_
  refine lv_topi (fun v_5 ev_5 => ?_)
  have hv_5 : v_5.toInt = (i 22).toInt + 1 := by rw [ev_5]; have := b_rg (i 22); exact i_add (a := (i 22).toInt) (b := 1) rfl rfl (by omega) (by omega)
  refine va_put (D := D) (ci := 12) (v := .int v_5) (ty := .int) (C := RX12) (T := TX12) (N := 91) hx hb hT iX12 tyX12 tyX12_ok nmX12 hown hK hP hD hS 0 rfl rfl 22 (by decide) (hT _ t_15) (fun _ h9 => h9) rfl (by decide +kernel) rfl rfl (Nat.le_of_ble_eq_true rfl) dX12_types_29 (fun H locs hP hD hS => ?_)
  rw [mP22] at hP hD
  obtain ⟨x_6, ex_6⟩ : ∃ y : Int32, y = (3 : Int32) + (-1) := ⟨_, rfl⟩
  refine lv_iinc (v := x_6) (lv' := [(2, .int x_6), (0, .ref (a 0)), (1, .int p0)]) hx hb dX12_types_32 hl (k := 0) rfl (by rw [ex_6]; rfl) (by decide) rfl (fun ls hl => ?_)
  obtain rfl : x_6 = 2 := ex_6.trans (by decide)
  refine lv_goto (tgt := 2) hx hb dX12_types_35 (by decide) ?_
  refine lv_iload_n hx hb dX12_types_2 rfl (lv_at hl 0 rfl) ?_
  refine lv_if_lt (tgt := 38) hx hb dX12_types_3 (by decide) (fun c_7 => absurd c_7 (by decide)) (fun c_7 => ?_)
  refine lv_aload_n hx hb dX12_types_6 rfl (lv_at hl 1 rfl) ?_
  refine va_get (D := D) (ci := 12) (v := .ref (a 20)) (C := RX12) (T := TX12) (N := 91) hx hb hT iX12 hown hK hP 0 rfl rfl 21 (by decide) (hT _ t_94) (fun _ h9 => h9) rfl dX12_types_7 ?_
  refine lv_aload_n hx hb dX12_types_10 rfl (lv_at hl 1 rfl) ?_
  refine va_get (D := D) (ci := 12) (v := .int v_5) (C := RX12) (T := TX12) (N := 91) hx hb hT iX12 hown hK hP 0 rfl rfl 22 (by decide) (hT _ t_15) (fun _ h9 => h9) rfl dX12_types_11 ?_
  refine lv_iload_n hx hb dX12_types_14 rfl (lv_at hl 2 rfl) ?_
  refine lv_bipush (v := 8) hx hb dX12_types_15 (by decide) ?_
  refine lv_iload_n hx hb dX12_types_17 rfl (lv_at hl 0 rfl) ?_
  refine lv_imul hx hb dX12_types_18 ?_
  refine lv_topi (fun v_8 ev_8 => ?_)
  obtain rfl : v_8 = 16 := ev_8.trans (by decide)
  refine lv_ishr hx hb dX12_types_19 ?_
  refine lv_topi (fun v_9 ev_9 => ?_)
  obtain ⟨v_10, ev_10⟩ : ∃ y : Int32, v_9.toInt8.toInt32 = y := ⟨_, rfl⟩
  refine lv_i2b (v := v_10) hx hb dX12_types_20 ev_10 ?_
  refine va_bast hx hb hK hP hD hS 20 1 rfl rfl (vp_inI (by omega) (by omega)) dX12_types_21 (fun H locs hP hD hS => ?_)
  rw [mS20] at hP hD
  refine lv_aload_n hx hb dX12_types_22 rfl (lv_at hl 1 rfl) ?_
  refine lv_aload_n hx hb dX12_types_23 rfl (lv_at hl 1 rfl) ?_
  refine va_get (D := D) (ci := 12) (v := .int v_5) (C := RX12) (T := TX12) (N := 91) hx hb hT iX12 hown hK hP 0 rfl rfl 22 (by decide) (hT _ t_15) (fun _ h9 => h9) rfl dX12_types_24 ?_
  refine lv_iconst (v := 1) hx hb dX12_types_27 (by decide) ?_
  refine lv_iadd hx hb dX12_types_28 ?_
  refine lv_topi (fun v_11 ev_11 => ?_)
  have hv_11 : v_11.toInt = v_5.toInt + 1 := by rw [ev_11]; have := b_rg v_5; exact i_add (a := v_5.toInt) (b := 1) rfl rfl (by omega) (by omega)
  refine va_put (D := D) (ci := 12) (v := .int v_11) (ty := .int) (C := RX12) (T := TX12) (N := 91) hx hb hT iX12 tyX12 tyX12_ok nmX12 hown hK hP hD hS 0 rfl rfl 22 (by decide) (hT _ t_15) (fun _ h9 => h9) rfl (by decide +kernel) rfl rfl (Nat.le_of_ble_eq_true rfl) dX12_types_29 (fun H locs hP hD hS => ?_)
  rw [mP22] at hP hD
  obtain ⟨x_12, ex_12⟩ : ∃ y : Int32, y = (2 : Int32) + (-1) := ⟨_, rfl⟩
  refine lv_iinc (v := x_12) (lv' := [(2, .int x_12), (0, .ref (a 0)), (1, .int p0)]) hx hb dX12_types_32 hl (k := 0) rfl (by rw [ex_12]; rfl) (by decide) rfl (fun ls hl => ?_)
  obtain rfl : x_12 = 1 := ex_12.trans (by decide)
  refine lv_goto (tgt := 2) hx hb dX12_types_35 (by decide) ?_
  refine lv_iload_n hx hb dX12_types_2 rfl (lv_at hl 0 rfl) ?_
  refine lv_if_lt (tgt := 38) hx hb dX12_types_3 (by decide) (fun c_13 => absurd c_13 (by decide)) (fun c_13 => ?_)
  refine lv_aload_n hx hb dX12_types_6 rfl (lv_at hl 1 rfl) ?_
  refine va_get (D := D) (ci := 12) (v := .ref (a 20)) (C := RX12) (T := TX12) (N := 91) hx hb hT iX12 hown hK hP 0 rfl rfl 21 (by decide) (hT _ t_94) (fun _ h9 => h9) rfl dX12_types_7 ?_
  refine lv_aload_n hx hb dX12_types_10 rfl (lv_at hl 1 rfl) ?_
  refine va_get (D := D) (ci := 12) (v := .int v_11) (C := RX12) (T := TX12) (N := 91) hx hb hT iX12 hown hK hP 0 rfl rfl 22 (by decide) (hT _ t_15) (fun _ h9 => h9) rfl dX12_types_11 ?_
  refine lv_iload_n hx hb dX12_types_14 rfl (lv_at hl 2 rfl) ?_
  refine lv_bipush (v := 8) hx hb dX12_types_15 (by decide) ?_
  refine lv_iload_n hx hb dX12_types_17 rfl (lv_at hl 0 rfl) ?_
  refine lv_imul hx hb dX12_types_18 ?_
  refine lv_topi (fun v_14 ev_14 => ?_)
  obtain rfl : v_14 = 8 := ev_14.trans (by decide)
  refine lv_ishr hx hb dX12_types_19 ?_
  refine lv_topi (fun v_15 ev_15 => ?_)
  obtain ⟨v_16, ev_16⟩ : ∃ y : Int32, v_15.toInt8.toInt32 = y := ⟨_, rfl⟩
  refine lv_i2b (v := v_16) hx hb dX12_types_20 ev_16 ?_
  refine va_bast hx hb hK hP hD hS 20 1 rfl rfl (vp_inI (by omega) (by omega)) dX12_types_21 (fun H locs hP hD hS => ?_)
  rw [mS20] at hP hD
  refine lv_aload_n hx hb dX12_types_22 rfl (lv_at hl 1 rfl) ?_
  refine lv_aload_n hx hb dX12_types_23 rfl (lv_at hl 1 rfl) ?_
  refine va_get (D := D) (ci := 12) (v := .int v_11) (C := RX12) (T := TX12) (N := 91) hx hb hT iX12 hown hK hP 0 rfl rfl 22 (by decide) (hT _ t_15) (fun _ h9 => h9) rfl dX12_types_24 ?_
  refine lv_iconst (v := 1) hx hb dX12_types_27 (by decide) ?_
  refine lv_iadd hx hb dX12_types_28 ?_
  refine lv_topi (fun v_17 ev_17 => ?_)
  have hv_17 : v_17.toInt = v_11.toInt + 1 := by rw [ev_17]; have := b_rg v_11; exact i_add (a := v_11.toInt) (b := 1) rfl rfl (by omega) (by omega)
  refine va_put (D := D) (ci := 12) (v := .int v_17) (ty := .int) (C := RX12) (T := TX12) (N := 91) hx hb hT iX12 tyX12 tyX12_ok nmX12 hown hK hP hD hS 0 rfl rfl 22 (by decide) (hT _ t_15) (fun _ h9 => h9) rfl (by decide +kernel) rfl rfl (Nat.le_of_ble_eq_true rfl) dX12_types_29 (fun H locs hP hD hS => ?_)
  rw [mP22] at hP hD
  obtain ⟨x_18, ex_18⟩ : ∃ y : Int32, y = (1 : Int32) + (-1) := ⟨_, rfl⟩
  refine lv_iinc (v := x_18) (lv' := [(2, .int x_18), (0, .ref (a 0)), (1, .int p0)]) hx hb dX12_types_32 hl (k := 0) rfl (by rw [ex_18]; rfl) (by decide) rfl (fun ls hl => ?_)
  obtain rfl : x_18 = 0 := ex_18.trans (by decide)
  refine lv_goto (tgt := 2) hx hb dX12_types_35 (by decide) ?_
  refine lv_iload_n hx hb dX12_types_2 rfl (lv_at hl 0 rfl) ?_
  refine lv_if_lt (tgt := 38) hx hb dX12_types_3 (by decide) (fun c_19 => absurd c_19 (by decide)) (fun c_19 => ?_)
  refine lv_aload_n hx hb dX12_types_6 rfl (lv_at hl 1 rfl) ?_
  refine va_get (D := D) (ci := 12) (v := .ref (a 20)) (C := RX12) (T := TX12) (N := 91) hx hb hT iX12 hown hK hP 0 rfl rfl 21 (by decide) (hT _ t_94) (fun _ h9 => h9) rfl dX12_types_7 ?_
  refine lv_aload_n hx hb dX12_types_10 rfl (lv_at hl 1 rfl) ?_
  refine va_get (D := D) (ci := 12) (v := .int v_17) (C := RX12) (T := TX12) (N := 91) hx hb hT iX12 hown hK hP 0 rfl rfl 22 (by decide) (hT _ t_15) (fun _ h9 => h9) rfl dX12_types_11 ?_
  refine lv_iload_n hx hb dX12_types_14 rfl (lv_at hl 2 rfl) ?_
  refine lv_bipush (v := 8) hx hb dX12_types_15 (by decide) ?_
  refine lv_iload_n hx hb dX12_types_17 rfl (lv_at hl 0 rfl) ?_
  refine lv_imul hx hb dX12_types_18 ?_
  refine lv_topi (fun v_20 ev_20 => ?_)
  obtain rfl : v_20 = 0 := ev_20.trans (by decide)
  refine lv_ishr hx hb dX12_types_19 ?_
  refine lv_topi (fun v_21 ev_21 => ?_)
  obtain ⟨v_22, ev_22⟩ : ∃ y : Int32, v_21.toInt8.toInt32 = y := ⟨_, rfl⟩
  refine lv_i2b (v := v_22) hx hb dX12_types_20 ev_22 ?_
  refine va_bast hx hb hK hP hD hS 20 1 rfl rfl (vp_inI (by omega) (by omega)) dX12_types_21 (fun H locs hP hD hS => ?_)
  rw [mS20] at hP hD
  refine lv_aload_n hx hb dX12_types_22 rfl (lv_at hl 1 rfl) ?_
  refine lv_aload_n hx hb dX12_types_23 rfl (lv_at hl 1 rfl) ?_
  refine va_get (D := D) (ci := 12) (v := .int v_17) (C := RX12) (T := TX12) (N := 91) hx hb hT iX12 hown hK hP 0 rfl rfl 22 (by decide) (hT _ t_15) (fun _ h9 => h9) rfl dX12_types_24 ?_
  refine lv_iconst (v := 1) hx hb dX12_types_27 (by decide) ?_
  refine lv_iadd hx hb dX12_types_28 ?_
  refine lv_topi (fun v_23 ev_23 => ?_)
  have hv_23 : v_23.toInt = v_17.toInt + 1 := by rw [ev_23]; have := b_rg v_17; exact i_add (a := v_17.toInt) (b := 1) rfl rfl (by omega) (by omega)
  refine va_put (D := D) (ci := 12) (v := .int v_23) (ty := .int) (C := RX12) (T := TX12) (N := 91) hx hb hT iX12 tyX12 tyX12_ok nmX12 hown hK hP hD hS 0 rfl rfl 22 (by decide) (hT _ t_15) (fun _ h9 => h9) rfl (by decide +kernel) rfl rfl (Nat.le_of_ble_eq_true rfl) dX12_types_29 (fun H locs hP hD hS => ?_)
  rw [mP22] at hP hD
  obtain ⟨x_24, ex_24⟩ : ∃ y : Int32, y = (0 : Int32) + (-1) := ⟨_, rfl⟩
  refine lv_iinc (v := x_24) (lv' := [(2, .int x_24), (0, .ref (a 0)), (1, .int p0)]) hx hb dX12_types_32 hl (k := 0) rfl (by rw [ex_24]; rfl) (by decide) rfl (fun ls hl => ?_)
  obtain rfl : x_24 = (-1) := ex_24.trans (by decide)
  refine lv_goto (tgt := 2) hx hb dX12_types_35 (by decide) ?_
  refine lv_iload_n hx hb dX12_types_2 rfl (lv_at hl 0 rfl) ?_
  refine lv_if_lt (tgt := 38) hx hb dX12_types_3 (by decide) (fun c_25 => ?_) (fun c_25 => absurd (by decide) c_25)
  subst hQ
  have hres : (v_23).toInt = (i 22).toInt + 4 := by omega
  exact W.vret hx hb hr (fun t ht hW => ⟨⟨(upd (upd (upd (upd i 22 v_5) 22 v_11) 22 v_17) 22 v_23, va_up (va_up (va_up (va_up r 20 (upd (r 20) ((i 22).toNatClampNeg) (vp_nar .byte v_4))) 20 (upd (upd (r 20) ((i 22).toNatClampNeg) (vp_nar .byte v_4)) v_5.toNatClampNeg (vp_nar .byte v_10))) 20 (upd (upd (upd (r 20) ((i 22).toNatClampNeg) (vp_nar .byte v_4)) v_5.toNatClampNeg (vp_nar .byte v_10)) v_11.toNatClampNeg (vp_nar .byte v_16))) 20 (upd (upd (upd (upd (r 20) ((i 22).toNatClampNeg) (vp_nar .byte v_4)) v_5.toNatClampNeg (vp_nar .byte v_10)) v_11.toNatClampNeg (vp_nar .byte v_16)) v_17.toNatClampNeg (vp_nar .byte v_22))), rfl, hres, by rw [ht]; exact hP, va_K.moved hW.alike hK, hD⟩, hS.F ht⟩) hS.2.2 dX12_types_38
set_option maxHeartbeats 4000000 in
set_option maxRecDepth 100000 in
theorem c_X12_feed (l : Launch) (D : va_G) (cy : Nat → ClassId) (a : Nat → Nat) (i : Nat → Int32) (r : Nat → Nat → Int32) (rl : Nat → Int64) (p0 p1 p2 p3 p4 : Int32) (sz : Nat) (hf : mZ i) : Met l yX12_feed (Cond.code yX12_feed cX12_feed 6 (some .int) :: gT) { frames := 2, cells := 0, slots := 0, locals := 46 } (va_Pc [.ref (a 0), .int p0, .int p1, .int p2, .int p3, .int p4] (rQ D cy (mW cy a i r rl) sz)) (va_Qi (fun (z : Int32) (u : Unit) => z = 20) (fun _ _ => True) (va_A (mW cy a i r rl) sz)) 0 0 (va_A (mW cy a i r rl) sz) := by
  refine Met.ofQ (cc := cX12_feed) (maxL := 6) (ret := (some .int)) (by decide) rfl ?_
  intro p e s m args below meth c s₁ B hml hv Q hQ
  obtain ⟨rfl, hsz, hP, hK, hD0⟩ := hv
  have hx := B.exec
  have hb := B.bytes
  have hr := B.returns
  have hlocks := B.notSynchronized
  have hT : ∀ w ∈ gT, w.before _ s = true := fun w h => atoms_spec (ws := (Cond.code yX12_feed cX12_feed 6 (some .int) :: gT)) B.pre w (List.mem_cons_of_mem _ h)
  have hown : s.vm.findClass RX12 = some m.cls := findClass_of_methodNamed B.named
  subst hsz
  have hD := hD0.self (sz := s.heap.size)
  generalize hAe : va_A (mW cy a i r rl) s.heap.size = A at hD hQ
  have hA : ∀ q : Nat, s.heap.size ≤ q → A q := fun q h => by rw [← hAe]; exact Or.inr h
  have hS : va_S A s.heap s.heap [] := va_S.rf
  have hl := lv_entry ([.ref (a 0), .int p0, .int p1, .int p2, .int p3, .int p4]) (n := 6) (Nat.le_of_ble_eq_true rfl)
  rw [lg_entry_eq]
  generalize (lg_sl ([.ref (a 0), .int p0, .int p1, .int p2, .int p3, .int p4]) ++ List.replicate (6 - (lg_sl ([.ref (a 0), .int p0, .int p1, .int p2, .int p3, .int p4])).length) Slot.unset).toArray = ls at hl ⊢
  have hl : lv_has ls 6 [(0, .ref (a 0)), (1, .int p0), (2, .int p1), (3, .int p2), (4, .int p3), (5, .int p4)] := hl
  have h22 : (i 22).toInt = 0 := by rw [hf.1 22 (by decide)]; rfl
  refine lv_aload_n hx hb dX12_feed_0 rfl (lv_at hl 0 rfl) ?_
  refine va_get (D := D) (ci := 12) (v := .int 0) (C := RX12) (T := TX12) (N := 91) hx hb hT iX12 hown hK hP 0 rfl rfl 22 (by decide) (hT _ t_15) (fun _ h9 => h9) (congrArg (fun z => some (Value.int z)) (hf.1 22 (by decide))) dX12_feed_1 ?_
  refine lv_bipush (v := 20) hx hb dX12_feed_4 (by decide) ?_
  refine lv_iadd hx hb dX12_feed_6 ?_
  refine lv_topi (fun v_1 ev_1 => ?_)
  obtain rfl : v_1 = 20 := ev_1.trans (by decide)
  refine lv_sipush (v := 220) hx hb dX12_feed_7 (by decide) ?_
  refine lv_icmp_le (tgt := 15) hx hb dX12_feed_10 (by decide) (fun c_2 => ?_) (fun c_2 => absurd (by decide) c_2)
  refine lv_aload_n hx hb dX12_feed_15 rfl (lv_at hl 0 rfl) ?_
  refine lv_iload_n hx hb dX12_feed_16 rfl (lv_at hl 1 rfl) ?_
  have hF_3 := rF hD hS hA
  refine va_callv (va_runV (As := [.int p0]) (rest := []) ⟨hx, hb, hml, hown, hT⟩ (c_X12_types l D cy a i r rl p0 _ (by omega)) (cwV 1 hT (gV t_95 t_96 t_97 t_98 t_8) rfl rfl rfl (by decide +kernel) ⟨Nat.le_of_ble_eq_true rfl, Nat.le_of_ble_eq_true rfl⟩) (rQ_v hP hK hD (va_recv hK hP (ci := 12) (q0 := 0) rfl rfl)) rfl rfl hl.1 rfl (lv_room (Nat.le_of_ble_eq_true rfl)) dX12_feed_17 ⟨Nat.le_of_ble_eq_true rfl, Nat.le_of_ble_eq_true rfl⟩) hS (fun q _ h => hF_3 q h) hF_3 (fun u_5 t H1 locs ht hvm hr_4 hB hz1 hk1 hS => ?_)
  obtain ⟨i5, r5⟩ := u_5
  obtain ⟨hP, hK1, hD1⟩ := hB
  rw [ht] at hP
  have hD := hD1.weaken (fun k q _ h => hF_3 q.1 h)
  have hP : va_P D vwCl (mW cy a i5 r5 rl) H1 := hP
  have hD : va_D A (mW cy a i5 r5 rl) := hD
  have hr_4 : (i5 22).toInt = (i 22).toInt + 4 := hr_4
  refine lv_aload_n hx hb dX12_feed_20 rfl (lv_at hl 0 rfl) ?_
  refine lv_iload_n hx hb dX12_feed_21 rfl (lv_at hl 2 rfl) ?_
  have hF_6 := rF hD hS hA
  refine va_callv (va_runV (As := [.int p1]) (rest := []) ⟨hx, hb, hml, hown, hT⟩ (c_X12_types l D cy a i5 r5 rl p1 _ (by omega)) (cwV 1 hT (gV t_95 t_96 t_97 t_98 t_8) rfl rfl rfl (by decide +kernel) ⟨Nat.le_of_ble_eq_true rfl, Nat.le_of_ble_eq_true rfl⟩) (rQ_v hP hK hD (va_recv hK hP (ci := 12) (q0 := 0) rfl rfl)) rfl rfl hl.1 rfl (lv_room (Nat.le_of_ble_eq_true rfl)) dX12_feed_22 ⟨Nat.le_of_ble_eq_true rfl, Nat.le_of_ble_eq_true rfl⟩) hS (fun q _ h => hF_6 q h) hF_6 (fun u_8 t H1 locs ht hvm hr_7 hB hz1 hk1 hS => ?_)
  obtain ⟨i8, r8⟩ := u_8
  obtain ⟨hP, hK1, hD1⟩ := hB
  rw [ht] at hP
  have hD := hD1.weaken (fun k q _ h => hF_6 q.1 h)
  have hP : va_P D vwCl (mW cy a i8 r8 rl) H1 := hP
  have hD : va_D A (mW cy a i8 r8 rl) := hD
  have hr_7 : (i8 22).toInt = (i5 22).toInt + 4 := hr_7
  refine lv_aload_n hx hb dX12_feed_25 rfl (lv_at hl 0 rfl) ?_
  refine lv_iload_n hx hb dX12_feed_26 rfl (lv_at hl 3 rfl) ?_
  have hF_9 := rF hD hS hA
  refine va_callv (va_runV (As := [.int p2]) (rest := []) ⟨hx, hb, hml, hown, hT⟩ (c_X12_types l D cy a i8 r8 rl p2 _ (by omega)) (cwV 1 hT (gV t_95 t_96 t_97 t_98 t_8) rfl rfl rfl (by decide +kernel) ⟨Nat.le_of_ble_eq_true rfl, Nat.le_of_ble_eq_true rfl⟩) (rQ_v hP hK hD (va_recv hK hP (ci := 12) (q0 := 0) rfl rfl)) rfl rfl hl.1 rfl (lv_room (Nat.le_of_ble_eq_true rfl)) dX12_feed_27 ⟨Nat.le_of_ble_eq_true rfl, Nat.le_of_ble_eq_true rfl⟩) hS (fun q _ h => hF_9 q h) hF_9 (fun u_11 t H1 locs ht hvm hr_10 hB hz1 hk1 hS => ?_)
  obtain ⟨i11, r11⟩ := u_11
  obtain ⟨hP, hK1, hD1⟩ := hB
  rw [ht] at hP
  have hD := hD1.weaken (fun k q _ h => hF_9 q.1 h)
  have hP : va_P D vwCl (mW cy a i11 r11 rl) H1 := hP
  have hD : va_D A (mW cy a i11 r11 rl) := hD
  have hr_10 : (i11 22).toInt = (i8 22).toInt + 4 := hr_10
  refine lv_aload_n hx hb dX12_feed_30 rfl (lv_at hl 0 rfl) ?_
  refine lv_iload hx hb dX12_feed_31 (lv_at hl 4 rfl) ?_
  have hF_12 := rF hD hS hA
  refine va_callv (va_runV (As := [.int p3]) (rest := []) ⟨hx, hb, hml, hown, hT⟩ (c_X12_types l D cy a i11 r11 rl p3 _ (by omega)) (cwV 1 hT (gV t_95 t_96 t_97 t_98 t_8) rfl rfl rfl (by decide +kernel) ⟨Nat.le_of_ble_eq_true rfl, Nat.le_of_ble_eq_true rfl⟩) (rQ_v hP hK hD (va_recv hK hP (ci := 12) (q0 := 0) rfl rfl)) rfl rfl hl.1 rfl (lv_room (Nat.le_of_ble_eq_true rfl)) dX12_feed_33 ⟨Nat.le_of_ble_eq_true rfl, Nat.le_of_ble_eq_true rfl⟩) hS (fun q _ h => hF_12 q h) hF_12 (fun u_14 t H1 locs ht hvm hr_13 hB hz1 hk1 hS => ?_)
  obtain ⟨i14, r14⟩ := u_14
  obtain ⟨hP, hK1, hD1⟩ := hB
  rw [ht] at hP
  have hD := hD1.weaken (fun k q _ h => hF_12 q.1 h)
  have hP : va_P D vwCl (mW cy a i14 r14 rl) H1 := hP
  have hD : va_D A (mW cy a i14 r14 rl) := hD
  have hr_13 : (i14 22).toInt = (i11 22).toInt + 4 := hr_13
  refine lv_aload_n hx hb dX12_feed_36 rfl (lv_at hl 0 rfl) ?_
  refine lv_iload hx hb dX12_feed_37 (lv_at hl 5 rfl) ?_
  have hF_15 := rF hD hS hA
  refine va_callv (va_runV (As := [.int p4]) (rest := []) ⟨hx, hb, hml, hown, hT⟩ (c_X12_types l D cy a i14 r14 rl p4 _ (by omega)) (cwV 1 hT (gV t_95 t_96 t_97 t_98 t_8) rfl rfl rfl (by decide +kernel) ⟨Nat.le_of_ble_eq_true rfl, Nat.le_of_ble_eq_true rfl⟩) (rQ_v hP hK hD (va_recv hK hP (ci := 12) (q0 := 0) rfl rfl)) rfl rfl hl.1 rfl (lv_room (Nat.le_of_ble_eq_true rfl)) dX12_feed_39 ⟨Nat.le_of_ble_eq_true rfl, Nat.le_of_ble_eq_true rfl⟩) hS (fun q _ h => hF_15 q h) hF_15 (fun u_17 t H1 locs ht hvm hr_16 hB hz1 hk1 hS => ?_)
  obtain ⟨i17, r17⟩ := u_17
  obtain ⟨hP, hK1, hD1⟩ := hB
  rw [ht] at hP
  have hD := hD1.weaken (fun k q _ h => hF_15 q.1 h)
  have hP : va_P D vwCl (mW cy a i17 r17 rl) H1 := hP
  have hD : va_D A (mW cy a i17 r17 rl) := hD
  have hr_16 : (i17 22).toInt = (i14 22).toInt + 4 := hr_16
  refine lv_aload_n hx hb dX12_feed_42 rfl (lv_at hl 0 rfl) ?_
  refine va_get (D := D) (ci := 12) (v := .int (i17 22)) (C := RX12) (T := TX12) (N := 91) hx hb hT iX12 hown hK hP 0 rfl rfl 22 (by decide) (hT _ t_15) (fun _ h9 => h9) rfl dX12_feed_43 ?_
  subst hQ
  exact W.iret (v := i17 22) hx hb hr (fun t ht hW => ⟨⟨_, (), rfl, Int32.toInt_inj.mp (by show _ = (20 : Int); omega), trivial⟩, hS.F ht⟩) hS.2.2 dX12_feed_46
set_option maxHeartbeats 4000000 in
set_option maxRecDepth 100000 in
theorem c_X12_laysFacts (l : Launch) (D : va_G) (cy : Nat → ClassId) (a : Nat → Nat) (i : Nat → Int32) (r : Nat → Nat → Int32) (rl : Nat → Int64) (sz : Nat) (hf : mZ i) : Met l yX12_laysFacts (Cond.code yX12_laysFacts cX12_laysFacts 2 none :: gT) { frames := 1, cells := 0, slots := 0, locals := 24 } (va_Pc [.ref (a 0)] (rQ D cy (mW cy a i r rl) sz)) (va_Qv (fun u : Nat → Nat → Int32 => ∀ t, t < 121 → u 61 t = if t / 11 = t % 11 then 0 else (-1000000000)) (fun (u : Nat → Nat → Int32) t => va_P D vwCl (mW cy a i u rl) t.heap ∧ va_K D vwCl (vT cy) t ∧ va_D (va_A (mW cy a i r rl) sz) (mW cy a i u rl)) (va_A (mW cy a i r rl) sz)) 0 0 (va_A (mW cy a i r rl) sz) := by
  refine Met.ofQ (cc := cX12_laysFacts) (maxL := 2) (ret := none) (by decide) rfl ?_
  intro p e s m args below meth c s₁ B hml hv Q hQ
  obtain ⟨rfl, hsz, hP, hK, hD0⟩ := hv
  have hx := B.exec
  have hb := B.bytes
  have hr := B.returns
  have hlocks := B.notSynchronized
  have hT : ∀ w ∈ gT, w.before _ s = true := fun w h => atoms_spec (ws := (Cond.code yX12_laysFacts cX12_laysFacts 2 none :: gT)) B.pre w (List.mem_cons_of_mem _ h)
  have hown : s.vm.findClass RX12 = some m.cls := findClass_of_methodNamed B.named
  subst hsz
  have hD := hD0.self (sz := s.heap.size)
  generalize hAe : va_A (mW cy a i r rl) s.heap.size = A at hD hQ
  have hA : ∀ q : Nat, s.heap.size ≤ q → A q := fun q h => by rw [← hAe]; exact Or.inr h
  have hS : va_S A s.heap s.heap [] := va_S.rf
  have hl := lv_entry ([.ref (a 0)]) (n := 2) (Nat.le_of_ble_eq_true rfl)
  rw [lg_entry_eq]
  generalize (lg_sl ([.ref (a 0)]) ++ List.replicate (2 - (lg_sl ([.ref (a 0)])).length) Slot.unset).toArray = ls at hl ⊢
  have hl : lv_has ls 2 [(0, .ref (a 0))] := hl
  refine lv_iconst (v := 0) hx hb dX12_laysFacts_0 (by decide) ?_
  refine lv_istore_n (lv' := [(1, .int 0), (0, .ref (a 0))]) hx hb dX12_laysFacts_1 rfl hl (by decide) rfl (fun ls hl => ?_)
  have loop_1 : ∀ (n j1 : Nat) (x1 : Int32) (r1 : Nat → Nat → Int32) (H : Heap) (locs : List Loc) (ls : Array Slot), j1 + n = 121 → x1 = nI j1 → (∀ t, t < j1 → r1 61 t = if t / 11 = t % 11 then 0 else (-1000000000)) → va_P D vwCl (mW cy a i r1 rl) H → va_D A (mW cy a i r1 rl) → va_S A s.heap H locs → lv_has ls 2 [(1, .int x1), (0, .ref (a 0))] → W p l e ({ frames := 1, cells := 0, slots := 0, locals := 24 } : Room) s m ([.ref (a 0)] : List Value).toArray below meth c H locs 0 0 Q (F0 m 2 ls []) := by
    intro n
    induction n with
    | zero =>
      intro j1 x1 r1 H locs ls hj1 hq1 hi1 hP hD hS hl
      obtain rfl : j1 = 121 := by omega
      obtain rfl : x1 = 121 := hq1.trans (by decide)
      refine lv_iload_n hx hb dX12_laysFacts_2 rfl (lv_at hl 0 rfl) ?_
      refine lv_bipush (v := 121) hx hb dX12_laysFacts_3 (by decide) ?_
      refine lv_icmp_ge (tgt := 38) hx hb dX12_laysFacts_5 (by decide) (fun c_2 => ?_) (fun c_2 => absurd (by decide) c_2)
      refine lv_iconst (v := 0) hx hb dX12_laysFacts_38 (by decide) ?_
      refine lv_istore_n (lv' := [(1, .int 0), (0, .ref (a 0))]) hx hb dX12_laysFacts_39 rfl hl (by decide) rfl (fun ls hl => ?_)
      refine lv_iload_n hx hb dX12_laysFacts_40 rfl (lv_at hl 0 rfl) ?_
      refine lv_aload_n hx hb dX12_laysFacts_41 rfl (lv_at hl 1 rfl) ?_
      refine va_get (D := D) (ci := 12) (v := .int 0) (C := RX12) (T := TX12) (N := 91) hx hb hT iX12 hown hK hP 0 rfl rfl 72 (by decide) (hT _ t_37) (fun _ h9 => h9) (congrArg (fun z => some (Value.int z)) (hf.1 72 (by decide))) dX12_laysFacts_42 ?_
      refine lv_icmp_ge (tgt := 59) hx hb dX12_laysFacts_45 (by decide) (fun c_3 => ?_) (fun c_3 => absurd (by decide) c_3)
      subst hQ
      exact W.vret hx hb hr (fun t ht hW => ⟨⟨r1, rfl, hi1, by rw [ht]; exact hP, va_K.moved hW.alike hK, hD⟩, hS.F ht⟩) hS.2.2 dX12_laysFacts_59
    | succ n ih1 =>
      intro j1 x1 r1 H locs ls hj1 hq1 hi1 hP hD hS hl
      have hx1 : x1.toInt = (j1 : Int) := by rw [hq1]; exact nI_toInt (by omega)
      have hcx1 : x1.toNatClampNeg = j1 := by rw [hq1]; exact nI_clamp (by omega)
      refine lv_iload_n hx hb dX12_laysFacts_2 rfl (lv_at hl 0 rfl) ?_
      refine lv_bipush (v := 121) hx hb dX12_laysFacts_3 (by decide) ?_
      refine lv_icmp_ge (tgt := 38) hx hb dX12_laysFacts_5 (by decide) (fun c_4 => by have c_4 : 121 ≤ x1.toInt := b_le c_4; omega) (fun c_4 => ?_)
      have c_4 : x1.toInt < 121 := b_nle c_4
      refine lv_aload_n hx hb dX12_laysFacts_8 rfl (lv_at hl 1 rfl) ?_
      refine va_get (D := D) (ci := 12) (v := .ref (a 61)) (C := RX12) (T := TX12) (N := 91) hx hb hT iX12 hown hK hP 0 rfl rfl 76 (by decide) (hT _ t_99) (fun _ h9 => h9) rfl dX12_laysFacts_9 ?_
      refine lv_iload_n hx hb dX12_laysFacts_12 rfl (lv_at hl 0 rfl) ?_
      refine lv_iload_n hx hb dX12_laysFacts_13 rfl (lv_at hl 0 rfl) ?_
      refine lv_bipush (v := 11) hx hb dX12_laysFacts_14 (by decide) ?_
      refine lv_idiv hx hb dX12_laysFacts_16 (by decide) ?_
      refine lv_topi (fun v_5 ev_5 => ?_)
      have hv_5 : v_5.toInt = ((j1 / 11 : Nat) : Int) := by rw [ev_5, hq1]; rw [show (11 : Int32) = nI 11 from rfl, pk_div (by omega) (by omega) (by omega)]; exact nI_toInt (by omega)
      refine lv_iload_n hx hb dX12_laysFacts_17 rfl (lv_at hl 0 rfl) ?_
      refine lv_bipush (v := 11) hx hb dX12_laysFacts_18 (by decide) ?_
      refine lv_irem hx hb dX12_laysFacts_20 (by decide) ?_
      refine lv_topi (fun v_6 ev_6 => ?_)
      have hv_6 : v_6.toInt = ((j1 % 11 : Nat) : Int) := by rw [ev_6, hq1]; rw [show (11 : Int32) = nI 11 from rfl, pk_rem (by omega) (by omega) (by omega)]; exact nI_toInt (by omega)
      refine lv_icmp_ne (tgt := 28) hx hb dX12_laysFacts_21 (by decide) (fun c_7 => ?_) (fun c_7 => ?_)
      · have c_7 : v_5.toInt ≠ v_6.toInt := b_ne c_7
        refine lv_ldcw (v := (-1000000000)) hx hb hown (hT _ t_100) dX12_laysFacts_28 ?_
        refine va_iast hx hb hK hP hD hS 61 0 rfl rfl (vp_inI (by omega) (by omega)) dX12_laysFacts_31 (fun H locs hP hD hS => ?_)
        rw [mS61] at hP hD
        obtain ⟨x_8, ex_8⟩ : ∃ y : Int32, y = x1 + 1 := ⟨_, rfl⟩
        refine lv_iinc (v := x_8) (lv' := [(1, .int x_8), (0, .ref (a 0))]) hx hb dX12_laysFacts_32 hl (k := 0) rfl (by rw [ex_8]; rfl) (by decide) rfl (fun ls hl => ?_)
        refine lv_goto (tgt := 2) hx hb dX12_laysFacts_35 (by decide) ?_
        have hst_9 : ∀ t, t < j1 + 1 → (va_up r1 61 (upd (r1 61) x1.toNatClampNeg (-1000000000))) 61 t = if t / 11 = t % 11 then 0 else (-1000000000) := by
          intro t ht
          show upd (r1 61) x1.toNatClampNeg (-1000000000) t = _
          rw [hcx1]; unfold upd
          by_cases h9 : t = j1
          · subst h9; rw [if_pos rfl]; exact (if_neg (by omega)).symm
          · rw [if_neg h9]; exact hi1 t (by omega)
        exact ih1 (j1 + 1) x_8 (va_up r1 61 (upd (r1 61) x1.toNatClampNeg (-1000000000))) _ _ _ (by omega) (by rw [ex_8, hq1]; exact nI_1 j1) hst_9 hP hD hS (lv_sub hl [0, 1] rfl)
      · have c_7 : v_5.toInt = v_6.toInt := b_nne c_7
        refine lv_iconst (v := 0) hx hb dX12_laysFacts_24 (by decide) ?_
        refine lv_goto (tgt := 31) hx hb dX12_laysFacts_25 (by decide) ?_
        refine va_iast hx hb hK hP hD hS 61 0 rfl rfl (vp_inI (by omega) (by omega)) dX12_laysFacts_31 (fun H locs hP hD hS => ?_)
        rw [mS61] at hP hD
        obtain ⟨x_10, ex_10⟩ : ∃ y : Int32, y = x1 + 1 := ⟨_, rfl⟩
        refine lv_iinc (v := x_10) (lv' := [(1, .int x_10), (0, .ref (a 0))]) hx hb dX12_laysFacts_32 hl (k := 0) rfl (by rw [ex_10]; rfl) (by decide) rfl (fun ls hl => ?_)
        refine lv_goto (tgt := 2) hx hb dX12_laysFacts_35 (by decide) ?_
        have hst_11 : ∀ t, t < j1 + 1 → (va_up r1 61 (upd (r1 61) x1.toNatClampNeg 0)) 61 t = if t / 11 = t % 11 then 0 else (-1000000000) := by
          intro t ht
          show upd (r1 61) x1.toNatClampNeg 0 t = _
          rw [hcx1]; unfold upd
          by_cases h9 : t = j1
          · subst h9; rw [if_pos rfl]; exact (if_pos (by omega)).symm
          · rw [if_neg h9]; exact hi1 t (by omega)
        exact ih1 (j1 + 1) x_10 (va_up r1 61 (upd (r1 61) x1.toNatClampNeg 0)) _ _ _ (by omega) (by rw [ex_10, hq1]; exact nI_1 j1) hst_11 hP hD hS (lv_sub hl [0, 1] rfl)
  exact loop_1 121 0 0 r _ _ _ (by omega) rfl (fun t ht => absurd ht (by omega)) hP hD hS hl
set_option maxHeartbeats 4000000 in
set_option maxRecDepth 100000 in
theorem c_X12_dated (l : Launch) (D : va_G) (cy : Nat → ClassId) (a : Nat → Nat) (i : Nat → Int32) (r : Nat → Nat → Int32) (rl : Nat → Int64) (p0 p1 : Int32) (sz : Nat) (hf : mZ i) : Met l yX12_dated (Cond.code yX12_dated cX12_dated 4 (some .int) :: gT) { frames := 2, cells := 0, slots := 0, locals := 46 } (va_Pc [.ref (a 0), .int p0, .int p1] (rQ D cy (mW cy a i r rl) sz)) (va_Qi (fun (z : Int32) (u : Unit) => z = (-100000)) (fun _ _ => True) (va_A (mW cy a i r rl) sz)) 0 0 (va_A (mW cy a i r rl) sz) := by
  refine Met.ofQ (cc := cX12_dated) (maxL := 4) (ret := (some .int)) (by decide) rfl ?_
  intro p e s m args below meth c s₁ B hml hv Q hQ
  obtain ⟨rfl, hsz, hP, hK, hD0⟩ := hv
  have hx := B.exec
  have hb := B.bytes
  have hr := B.returns
  have hlocks := B.notSynchronized
  have hT : ∀ w ∈ gT, w.before _ s = true := fun w h => atoms_spec (ws := (Cond.code yX12_dated cX12_dated 4 (some .int) :: gT)) B.pre w (List.mem_cons_of_mem _ h)
  have hown : s.vm.findClass RX12 = some m.cls := findClass_of_methodNamed B.named
  subst hsz
  have hD := hD0.self (sz := s.heap.size)
  generalize hAe : va_A (mW cy a i r rl) s.heap.size = A at hD hQ
  have hA : ∀ q : Nat, s.heap.size ≤ q → A q := fun q h => by rw [← hAe]; exact Or.inr h
  have hS : va_S A s.heap s.heap [] := va_S.rf
  have hl := lv_entry ([.ref (a 0), .int p0, .int p1]) (n := 4) (Nat.le_of_ble_eq_true rfl)
  rw [lg_entry_eq]
  generalize (lg_sl ([.ref (a 0), .int p0, .int p1]) ++ List.replicate (4 - (lg_sl ([.ref (a 0), .int p0, .int p1])).length) Slot.unset).toArray = ls at hl ⊢
  have hl : lv_has ls 4 [(0, .ref (a 0)), (1, .int p0), (2, .int p1)] := hl
  refine lv_iload_n hx hb dX12_dated_0 rfl (lv_at hl 1 rfl) ?_
  refine lv_iconst (v := 0) hx hb dX12_dated_1 (by decide) ?_
  refine lv_bipush (v := 9) hx hb dX12_dated_2 (by decide) ?_
  refine vp_callSi (W.runS (As := [.int p0, .int 0, .int 9]) (rest := []) ⟨hx, hb, hml, hown, hT⟩ (c_X12_in l p0 0 9) (va_cwS 3 hT (gS t_12 t_13 t_14 t_8) rfl rfl rfl (by decide +kernel) ⟨Nat.le_of_ble_eq_true rfl, Nat.le_of_ble_eq_true rfl⟩) preT rfl rfl hl.1 rfl (lv_room (Nat.le_of_ble_eq_true rfl)) dX12_dated_4 ⟨Nat.le_of_ble_eq_true rfl, Nat.le_of_ble_eq_true rfl⟩) (fun r_1 hr_1 => ?_)
  have hr_1 : BR r_1 (0 ≤ p0.toInt ∧ p0.toInt ≤ 9) 1 0 := hr_1
  rcases hr_1 with ⟨rfl, h_2⟩ | ⟨rfl, h_2⟩
  · skip
    refine lv_if_eq (tgt := 19) hx hb dX12_dated_7 (by decide) (fun c_3 => absurd c_3 (by decide)) (fun c_3 => ?_)
    refine lv_iload_n hx hb dX12_dated_10 rfl (lv_at hl 2 rfl) ?_
    refine lv_iconst (v := 0) hx hb dX12_dated_11 (by decide) ?_
    refine lv_iconst (v := 1) hx hb dX12_dated_12 (by decide) ?_
    refine vp_callSi (W.runS (As := [.int p1, .int 0, .int 1]) (rest := []) ⟨hx, hb, hml, hown, hT⟩ (c_X12_in l p1 0 1) (va_cwS 3 hT (gS t_12 t_13 t_14 t_8) rfl rfl rfl (by decide +kernel) ⟨Nat.le_of_ble_eq_true rfl, Nat.le_of_ble_eq_true rfl⟩) preT rfl rfl hl.1 rfl (lv_room (Nat.le_of_ble_eq_true rfl)) dX12_dated_13 ⟨Nat.le_of_ble_eq_true rfl, Nat.le_of_ble_eq_true rfl⟩) (fun r_4 hr_4 => ?_)
    have hr_4 : BR r_4 (0 ≤ p1.toInt ∧ p1.toInt ≤ 1) 1 0 := hr_4
    rcases hr_4 with ⟨rfl, h_5⟩ | ⟨rfl, h_5⟩
    · skip
      refine lv_if_ne (tgt := 23) hx hb dX12_dated_16 (by decide) (fun c_6 => ?_) (fun c_6 => absurd c_6 (by decide))
      refine lv_aload_n hx hb dX12_dated_23 rfl (lv_at hl 0 rfl) ?_
      have hF_7 := rF hD hS hA
      refine va_callv (va_runV (As := []) (rest := []) ⟨hx, hb, hml, hown, hT⟩ (c_X12_laysFacts l D cy a i r rl _ hf) (cwV 0 hT (gV t_101 t_102 t_103 t_104 t_8) rfl rfl rfl (by decide +kernel) ⟨Nat.le_of_ble_eq_true rfl, Nat.le_of_ble_eq_true rfl⟩) (rQ_v hP hK hD (va_recv hK hP (ci := 12) (q0 := 0) rfl rfl)) rfl rfl hl.1 rfl (lv_room (Nat.le_of_ble_eq_true rfl)) dX12_dated_24 ⟨Nat.le_of_ble_eq_true rfl, Nat.le_of_ble_eq_true rfl⟩) hS (fun q _ h => hF_7 q h) hF_7 (fun u_9 t H1 locs ht hvm hr_8 hB hz1 hk1 hS => ?_)
      obtain ⟨hP, hK1, hD1⟩ := hB
      rw [ht] at hP
      have hD := hD1.weaken (fun k q _ h => hF_7 q.1 h)
      have hP : va_P D vwCl (mW cy a i u_9 rl) H1 := hP
      have hD : va_D A (mW cy a i u_9 rl) := hD
      refine lv_iload_n hx hb dX12_dated_27 rfl (lv_at hl 2 rfl) ?_
      refine lv_if_ne (tgt := 43) hx hb dX12_dated_28 (by decide) (fun c_10 => ?_) (fun c_10 => ?_)
      · have c_10 : p1.toInt ≠ 0 := b_ne c_10
        refine lv_aload_n hx hb dX12_dated_43 rfl (lv_at hl 0 rfl) ?_
        refine va_get (D := D) (ci := 12) (v := .ref (a 61)) (C := RX12) (T := TX12) (N := 91) hx hb hT iX12 hown hK hP 0 rfl rfl 76 (by decide) (hT _ t_99) (fun _ h9 => h9) rfl dX12_dated_44 ?_
        refine lv_bipush (v := 11) hx hb dX12_dated_47 (by decide) ?_
        refine lv_iload_n hx hb dX12_dated_49 rfl (lv_at hl 1 rfl) ?_
        refine lv_imul hx hb dX12_dated_50 ?_
        refine lv_topi (fun v_11 ev_11 => ?_)
        have hv_11 : v_11.toInt = 11 * p0.toInt := by rw [ev_11]; have := b_rg p0; exact i_mul (a := 11) (b := p0.toInt) rfl rfl (by omega) (by omega)
        refine lv_bipush (v := 10) hx hb dX12_dated_51 (by decide) ?_
        refine lv_iadd hx hb dX12_dated_53 ?_
        refine lv_topi (fun v_12 ev_12 => ?_)
        have hv_12 : v_12.toInt = v_11.toInt + 10 := by rw [ev_12]; have := b_rg v_11; exact i_add (a := v_11.toInt) (b := 10) rfl rfl (by omega) (by omega)
        refine va_iald hx hb hK hP 61 0 rfl rfl (vp_inI (by omega) (by omega)) dX12_dated_54 ?_
        refine lv_topi (fun v_13 ev_13 => ?_)
        obtain rfl : v_13 = (-1000000000) := by rw [ev_13]; exact (hr_8 _ (by show v_12.toInt.toNat < 121; omega)).trans (if_neg (by show ¬ v_12.toInt.toNat / 11 = v_12.toInt.toNat % 11; omega))
        refine lv_istore_n (lv' := [(3, .int (-1000000000)), (0, .ref (a 0)), (1, .int p0), (2, .int p1)]) hx hb dX12_dated_55 rfl hl (by decide) rfl (fun ls hl => ?_)
        refine lv_iload_n hx hb dX12_dated_56 rfl (lv_at hl 0 rfl) ?_
        refine lv_ldcw (v := (-1000000000)) hx hb hown (hT _ t_100) dX12_dated_57 ?_
        refine lv_icmp_ne (tgt := 69) hx hb dX12_dated_60 (by decide) (fun c_14 => absurd (by decide) c_14) (fun c_14 => ?_)
        refine lv_ldcw (v := (-100000)) hx hb hown (hT _ t_105) dX12_dated_63 ?_
        refine lv_goto (tgt := 79) hx hb dX12_dated_66 (by decide) ?_
        subst hQ
        exact W.iret (v := (-100000)) hx hb hr (fun t ht hW => ⟨⟨_, (), rfl, rfl, trivial⟩, hS.F ht⟩) hS.2.2 dX12_dated_79
      · have c_10 : p1.toInt = 0 := b_nne c_10
        refine lv_aload_n hx hb dX12_dated_31 rfl (lv_at hl 0 rfl) ?_
        refine va_get (D := D) (ci := 12) (v := .ref (a 61)) (C := RX12) (T := TX12) (N := 91) hx hb hT iX12 hown hK hP 0 rfl rfl 76 (by decide) (hT _ t_99) (fun _ h9 => h9) rfl dX12_dated_32 ?_
        refine lv_bipush (v := 110) hx hb dX12_dated_35 (by decide) ?_
        refine lv_iload_n hx hb dX12_dated_37 rfl (lv_at hl 1 rfl) ?_
        refine lv_iadd hx hb dX12_dated_38 ?_
        refine lv_topi (fun v_15 ev_15 => ?_)
        have hv_15 : v_15.toInt = 110 + p0.toInt := by rw [ev_15]; have := b_rg p0; exact i_add (a := 110) (b := p0.toInt) rfl rfl (by omega) (by omega)
        refine va_iald hx hb hK hP 61 0 rfl rfl (vp_inI (by omega) (by omega)) dX12_dated_39 ?_
        refine lv_topi (fun v_16 ev_16 => ?_)
        obtain rfl : v_16 = (-1000000000) := by rw [ev_16]; exact (hr_8 _ (by show v_15.toInt.toNat < 121; omega)).trans (if_neg (by show ¬ v_15.toInt.toNat / 11 = v_15.toInt.toNat % 11; omega))
        refine lv_goto (tgt := 55) hx hb dX12_dated_40 (by decide) ?_
        refine lv_istore_n (lv' := [(3, .int (-1000000000)), (0, .ref (a 0)), (1, .int p0), (2, .int p1)]) hx hb dX12_dated_55 rfl hl (by decide) rfl (fun ls hl => ?_)
        refine lv_iload_n hx hb dX12_dated_56 rfl (lv_at hl 0 rfl) ?_
        refine lv_ldcw (v := (-1000000000)) hx hb hown (hT _ t_100) dX12_dated_57 ?_
        refine lv_icmp_ne (tgt := 69) hx hb dX12_dated_60 (by decide) (fun c_17 => absurd (by decide) c_17) (fun c_17 => ?_)
        refine lv_ldcw (v := (-100000)) hx hb hown (hT _ t_105) dX12_dated_63 ?_
        refine lv_goto (tgt := 79) hx hb dX12_dated_66 (by decide) ?_
        subst hQ
        exact W.iret (v := (-100000)) hx hb hr (fun t ht hW => ⟨⟨_, (), rfl, rfl, trivial⟩, hS.F ht⟩) hS.2.2 dX12_dated_79
    · skip
      refine lv_if_ne (tgt := 23) hx hb dX12_dated_16 (by decide) (fun c_18 => absurd (by decide) c_18) (fun c_18 => ?_)
      refine lv_ldcw (v := (-100000)) hx hb hown (hT _ t_105) dX12_dated_19 ?_
      subst hQ
      exact W.iret (v := (-100000)) hx hb hr (fun t ht hW => ⟨⟨_, (), rfl, rfl, trivial⟩, hS.F ht⟩) hS.2.2 dX12_dated_22
  · skip
    refine lv_if_eq (tgt := 19) hx hb dX12_dated_7 (by decide) (fun c_19 => ?_) (fun c_19 => absurd (by decide) c_19)
    refine lv_ldcw (v := (-100000)) hx hb hown (hT _ t_105) dX12_dated_19 ?_
    subst hQ
    exact W.iret (v := (-100000)) hx hb hr (fun t ht hW => ⟨⟨_, (), rfl, rfl, trivial⟩, hS.F ht⟩) hS.2.2 dX12_dated_22
set_option maxHeartbeats 4000000 in
set_option maxRecDepth 100000 in
theorem c_X12_wrong (l : Launch) (D : va_G) (cy : Nat → ClassId) (a : Nat → Nat) (i : Nat → Int32) (r : Nat → Nat → Int32) (rl : Nat → Int64) (p0 : Int32) (sz : Nat) (hf : mZ i) : Met l yX12_wrong (Cond.code yX12_wrong cX12_wrong 4 (some .int) :: gT) { frames := 2, cells := 0, slots := 0, locals := 45 } (va_Pc [.ref (a 0), .int p0] (rQ D cy (mW cy a i r rl) sz)) (va_Qi (fun (z : Int32) (u : Unit) => BR z (p0.toInt = -1) 0 (-1)) (fun _ _ => True) (va_A (mW cy a i r rl) sz)) 0 0 (va_A (mW cy a i r rl) sz) := by
  refine Met.ofQ (cc := cX12_wrong) (maxL := 4) (ret := (some .int)) (by decide) rfl ?_
  intro p e s m args below meth c s₁ B hml hv Q hQ
  obtain ⟨rfl, hsz, hP, hK, hD0⟩ := hv
  have hx := B.exec
  have hb := B.bytes
  have hr := B.returns
  have hlocks := B.notSynchronized
  have hT : ∀ w ∈ gT, w.before _ s = true := fun w h => atoms_spec (ws := (Cond.code yX12_wrong cX12_wrong 4 (some .int) :: gT)) B.pre w (List.mem_cons_of_mem _ h)
  have hown : s.vm.findClass RX12 = some m.cls := findClass_of_methodNamed B.named
  subst hsz
  have hD := hD0.self (sz := s.heap.size)
  generalize hAe : va_A (mW cy a i r rl) s.heap.size = A at hD hQ
  have hA : ∀ q : Nat, s.heap.size ≤ q → A q := fun q h => by rw [← hAe]; exact Or.inr h
  have hS : va_S A s.heap s.heap [] := va_S.rf
  have hl := lv_entry ([.ref (a 0), .int p0]) (n := 4) (Nat.le_of_ble_eq_true rfl)
  rw [lg_entry_eq]
  generalize (lg_sl ([.ref (a 0), .int p0]) ++ List.replicate (4 - (lg_sl ([.ref (a 0), .int p0])).length) Slot.unset).toArray = ls at hl ⊢
  have hl : lv_has ls 4 [(0, .ref (a 0)), (1, .int p0)] := hl
  refine lv_iload_n hx hb dX12_wrong_0 rfl (lv_at hl 1 rfl) ?_
  refine lv_iconst (v := (-1)) hx hb dX12_wrong_1 (by decide) ?_
  refine lv_icmp_ge (tgt := 7) hx hb dX12_wrong_2 (by decide) (fun c_1 => ?_) (fun c_1 => ?_)
  · have c_1 : (-1) ≤ p0.toInt := b_le c_1
    refine lv_aload_n hx hb dX12_wrong_7 rfl (lv_at hl 0 rfl) ?_
    have hF_2 := rF hD hS hA
    refine va_callv (va_runV (As := []) (rest := []) ⟨hx, hb, hml, hown, hT⟩ (c_X12_laysFacts l D cy a i r rl _ hf) (cwV 0 hT (gV t_101 t_102 t_103 t_104 t_8) rfl rfl rfl (by decide +kernel) ⟨Nat.le_of_ble_eq_true rfl, Nat.le_of_ble_eq_true rfl⟩) (rQ_v hP hK hD (va_recv hK hP (ci := 12) (q0 := 0) rfl rfl)) rfl rfl hl.1 rfl (lv_room (Nat.le_of_ble_eq_true rfl)) dX12_wrong_8 ⟨Nat.le_of_ble_eq_true rfl, Nat.le_of_ble_eq_true rfl⟩) hS (fun q _ h => hF_2 q h) hF_2 (fun u_4 t H1 locs ht hvm hr_3 hB hz1 hk1 hS => ?_)
    obtain ⟨hP, hK1, hD1⟩ := hB
    rw [ht] at hP
    have hD := hD1.weaken (fun k q _ h => hF_2 q.1 h)
    have hP : va_P D vwCl (mW cy a i u_4 rl) H1 := hP
    have hD : va_D A (mW cy a i u_4 rl) := hD
    refine lv_iconst (v := 0) hx hb dX12_wrong_11 (by decide) ?_
    refine lv_istore_n (lv' := [(2, .int 0), (0, .ref (a 0)), (1, .int p0)]) hx hb dX12_wrong_12 rfl hl (by decide) rfl (fun ls hl => ?_)
    refine lv_iconst (v := 0) hx hb dX12_wrong_13 (by decide) ?_
    refine lv_istore_n (lv' := [(3, .int 0), (2, .int 0), (0, .ref (a 0)), (1, .int p0)]) hx hb dX12_wrong_14 rfl hl (by decide) rfl (fun ls hl => ?_)
    refine lv_iload_n hx hb dX12_wrong_15 rfl (lv_at hl 0 rfl) ?_
    refine lv_aload_n hx hb dX12_wrong_16 rfl (lv_at hl 2 rfl) ?_
    refine va_get (D := D) (ci := 12) (v := .int 0) (C := RX12) (T := TX12) (N := 91) hx hb hT iX12 hown hK hP 0 rfl rfl 72 (by decide) (hT _ t_37) (fun _ h9 => h9) (congrArg (fun z => some (Value.int z)) (hf.1 72 (by decide))) dX12_wrong_17 ?_
    refine lv_icmp_ge (tgt := 52) hx hb dX12_wrong_20 (by decide) (fun c_5 => ?_) (fun c_5 => absurd (by decide) c_5)
    refine lv_iload_n hx hb dX12_wrong_52 rfl (lv_at hl 3 rfl) ?_
    refine lv_iconst (v := (-1)) hx hb dX12_wrong_53 (by decide) ?_
    refine lv_icmp_ne (tgt := 61) hx hb dX12_wrong_54 (by decide) (fun c_6 => ?_) (fun c_6 => ?_)
    · have c_6 : p0.toInt ≠ (-1) := b_ne c_6
      refine lv_iconst (v := (-1)) hx hb dX12_wrong_61 (by decide) ?_
      subst hQ
      exact W.iret (v := (-1)) hx hb hr (fun t ht hW => ⟨⟨_, (), rfl, Or.inr ⟨rfl, by omega⟩, trivial⟩, hS.F ht⟩) hS.2.2 dX12_wrong_62
    · have c_6 : p0.toInt = (-1) := b_nne c_6
      refine lv_iload_n hx hb dX12_wrong_57 rfl (lv_at hl 1 rfl) ?_
      refine lv_goto (tgt := 62) hx hb dX12_wrong_58 (by decide) ?_
      subst hQ
      exact W.iret (v := 0) hx hb hr (fun t ht hW => ⟨⟨_, (), rfl, Or.inl ⟨rfl, by omega⟩, trivial⟩, hS.F ht⟩) hS.2.2 dX12_wrong_62
  · have c_1 : p0.toInt < (-1) := b_nle c_1
    refine lv_iconst (v := (-1)) hx hb dX12_wrong_5 (by decide) ?_
    subst hQ
    exact W.iret (v := (-1)) hx hb hr (fun t ht hW => ⟨⟨_, (), rfl, Or.inr ⟨rfl, by omega⟩, trivial⟩, hS.F ht⟩) hS.2.2 dX12_wrong_6
set_option maxHeartbeats 4000000 in
set_option maxRecDepth 100000 in
theorem c_X12_copies30 (l : Launch) (D : va_G) (cy : Nat → ClassId) (h1 h2 : Nat) (f g : Nat → Int32) (sz : Nat) : Met l yX12_copies (Cond.code yX12_copies cX12_copies 4 none :: gT) { frames := 1, cells := 0, slots := 0, locals := 24 } (va_Pc [.ref h1, .ref h2, .int 30] (rQ D cy [(h1, .inl (cy 0, 30, .inl f)), (h2, .inl (cy 0, 30, .inl g))] sz)) (va_Qv (fun u : Nat → Int32 => True) (fun (u : Nat → Int32) t => va_P D vwCl [(h1, .inl (cy 0, 30, .inl f)), (h2, .inl (cy 0, 30, .inl u))] t.heap ∧ va_K D vwCl (vT cy) t ∧ va_D (va_A [(h1, .inl (cy 0, 30, .inl f)), (h2, .inl (cy 0, 30, .inl g))] sz) [(h1, .inl (cy 0, 30, .inl f)), (h2, .inl (cy 0, 30, .inl u))]) (va_A [(h1, .inl (cy 0, 30, .inl f)), (h2, .inl (cy 0, 30, .inl g))] sz)) 0 0 (va_A [(h1, .inl (cy 0, 30, .inl f)), (h2, .inl (cy 0, 30, .inl g))] sz) := by
  refine Met.ofQ (cc := cX12_copies) (maxL := 4) (ret := none) (by decide) rfl ?_
  intro p e s m args below meth c s₁ B hml hv Q hQ
  obtain ⟨rfl, hsz, hP, hK, hD0⟩ := hv
  have hx := B.exec
  have hb := B.bytes
  have hr := B.returns
  have hlocks := B.notSynchronized
  have hT : ∀ w ∈ gT, w.before _ s = true := fun w h => atoms_spec (ws := (Cond.code yX12_copies cX12_copies 4 none :: gT)) B.pre w (List.mem_cons_of_mem _ h)
  have hown : s.vm.findClass RX12 = some m.cls := findClass_of_methodNamed B.named
  subst hsz
  have hD := hD0.self (sz := s.heap.size)
  generalize hAe : va_A [(h1, .inl (cy 0, 30, .inl f)), (h2, .inl (cy 0, 30, .inl g))] s.heap.size = A at hD hQ
  have hA : ∀ q : Nat, s.heap.size ≤ q → A q := fun q h => by rw [← hAe]; exact Or.inr h
  have hS : va_S A s.heap s.heap [] := va_S.rf
  have hl := lv_entry ([.ref h1, .ref h2, .int 30]) (n := 4) (Nat.le_of_ble_eq_true rfl)
  rw [lg_entry_eq]
  generalize (lg_sl ([.ref h1, .ref h2, .int 30]) ++ List.replicate (4 - (lg_sl ([.ref h1, .ref h2, .int 30])).length) Slot.unset).toArray = ls at hl ⊢
  have hl : lv_has ls 4 [(0, .ref h1), (1, .ref h2), (2, .int 30)] := hl
  refine lv_iconst (v := 0) hx hb dX12_copies_0 (by decide) ?_
  refine lv_istore_n (lv' := [(3, .int 0), (0, .ref h1), (1, .ref h2), (2, .int 30)]) hx hb dX12_copies_1 rfl hl (by decide) rfl (fun ls hl => ?_)
  have loop_1 : ∀ (n j1 : Nat) (x1 : Int32) (g1_1 : Nat → Int32) (H : Heap) (locs : List Loc) (ls : Array Slot), j1 + n = 30 → x1 = nI j1 → va_P D vwCl [(h1, .inl (cy 0, 30, .inl f)), (h2, .inl (cy 0, 30, .inl g1_1))] H → va_D A [(h1, .inl (cy 0, 30, .inl f)), (h2, .inl (cy 0, 30, .inl g1_1))] → va_S A s.heap H locs → lv_has ls 4 [(3, .int x1), (0, .ref h1), (1, .ref h2), (2, .int 30)] → W p l e ({ frames := 1, cells := 0, slots := 0, locals := 24 } : Room) s m ([.ref h1, .ref h2, .int 30] : List Value).toArray below meth c H locs 0 0 Q (F0 m 2 ls []) := by
    intro n
    induction n with
    | zero =>
      intro j1 x1 g1_1 H locs ls hj1 hq1 hP hD hS hl
      obtain rfl : j1 = 30 := by omega
      obtain rfl : x1 = 30 := hq1.trans (by decide)
      refine lv_iload_n hx hb dX12_copies_2 rfl (lv_at hl 0 rfl) ?_
      refine lv_iload_n hx hb dX12_copies_3 rfl (lv_at hl 3 rfl) ?_
      refine lv_icmp_ge (tgt := 19) hx hb dX12_copies_4 (by decide) (fun c_2 => ?_) (fun c_2 => absurd (by decide) c_2)
      subst hQ
      exact W.vret hx hb hr (fun t ht hW => ⟨⟨g1_1, rfl, trivial, by rw [ht]; exact hP, va_K.moved hW.alike hK, hD⟩, hS.F ht⟩) hS.2.2 dX12_copies_19
    | succ n ih1 =>
      intro j1 x1 g1_1 H locs ls hj1 hq1 hP hD hS hl
      have hx1 : x1.toInt = (j1 : Int) := by rw [hq1]; exact nI_toInt (by omega)
      have hcx1 : x1.toNatClampNeg = j1 := by rw [hq1]; exact nI_clamp (by omega)
      refine lv_iload_n hx hb dX12_copies_2 rfl (lv_at hl 0 rfl) ?_
      refine lv_iload_n hx hb dX12_copies_3 rfl (lv_at hl 3 rfl) ?_
      refine lv_icmp_ge (tgt := 19) hx hb dX12_copies_4 (by decide) (fun c_3 => by have c_3 : 30 ≤ x1.toInt := b_le c_3; omega) (fun c_3 => ?_)
      have c_3 : x1.toInt < 30 := b_nle c_3
      refine lv_aload_n hx hb dX12_copies_7 rfl (lv_at hl 2 rfl) ?_
      refine lv_iload_n hx hb dX12_copies_8 rfl (lv_at hl 0 rfl) ?_
      refine lv_aload_n hx hb dX12_copies_9 rfl (lv_at hl 1 rfl) ?_
      refine lv_iload_n hx hb dX12_copies_10 rfl (lv_at hl 0 rfl) ?_
      refine va_iald hx hb hK hP 0 0 rfl rfl (vp_inI (by omega) (by omega)) dX12_copies_11 ?_
      refine lv_topi (fun v_4 ev_4 => ?_)
      refine va_iast hx hb hK hP hD hS 1 0 rfl rfl (vp_inI (by omega) (by omega)) dX12_copies_12 (fun H locs hP hD hS => ?_)
      have hP : va_P D vwCl [(h1, .inl (cy 0, 30, .inl f)), (h2, .inl (cy 0, 30, .inl (upd g1_1 x1.toNatClampNeg v_4)))] H := hP
      have hD : va_D A [(h1, .inl (cy 0, 30, .inl f)), (h2, .inl (cy 0, 30, .inl (upd g1_1 x1.toNatClampNeg v_4)))] := hD
      obtain ⟨x_5, ex_5⟩ : ∃ y : Int32, y = x1 + 1 := ⟨_, rfl⟩
      refine lv_iinc (v := x_5) (lv' := [(3, .int x_5), (0, .ref h1), (1, .ref h2), (2, .int 30)]) hx hb dX12_copies_13 hl (k := 0) rfl (by rw [ex_5]; rfl) (by decide) rfl (fun ls hl => ?_)
      refine lv_goto (tgt := 2) hx hb dX12_copies_16 (by decide) ?_
      exact ih1 (j1 + 1) x_5 (upd g1_1 x1.toNatClampNeg v_4) _ _ _ (by omega) (by rw [ex_5, hq1]; exact nI_1 j1) hP hD hS (lv_sub hl [0, 1, 2, 3] rfl)
  exact loop_1 30 0 0 g _ _ _ (by omega) rfl hP hD hS hl
set_option maxHeartbeats 4000000 in
set_option maxRecDepth 100000 in
theorem c_X12_copies6 (l : Launch) (D : va_G) (cy : Nat → ClassId) (h1 h2 : Nat) (f g : Nat → Int32) (sz : Nat) : Met l yX12_copies (Cond.code yX12_copies cX12_copies 4 none :: gT) { frames := 1, cells := 0, slots := 0, locals := 24 } (va_Pc [.ref h1, .ref h2, .int 6] (rQ D cy [(h1, .inl (cy 0, 6, .inl f)), (h2, .inl (cy 0, 6, .inl g))] sz)) (va_Qv (fun u : Nat → Int32 => True) (fun (u : Nat → Int32) t => va_P D vwCl [(h1, .inl (cy 0, 6, .inl f)), (h2, .inl (cy 0, 6, .inl u))] t.heap ∧ va_K D vwCl (vT cy) t ∧ va_D (va_A [(h1, .inl (cy 0, 6, .inl f)), (h2, .inl (cy 0, 6, .inl g))] sz) [(h1, .inl (cy 0, 6, .inl f)), (h2, .inl (cy 0, 6, .inl u))]) (va_A [(h1, .inl (cy 0, 6, .inl f)), (h2, .inl (cy 0, 6, .inl g))] sz)) 0 0 (va_A [(h1, .inl (cy 0, 6, .inl f)), (h2, .inl (cy 0, 6, .inl g))] sz) := by
  refine Met.ofQ (cc := cX12_copies) (maxL := 4) (ret := none) (by decide) rfl ?_
  intro p e s m args below meth c s₁ B hml hv Q hQ
  obtain ⟨rfl, hsz, hP, hK, hD0⟩ := hv
  have hx := B.exec
  have hb := B.bytes
  have hr := B.returns
  have hlocks := B.notSynchronized
  have hT : ∀ w ∈ gT, w.before _ s = true := fun w h => atoms_spec (ws := (Cond.code yX12_copies cX12_copies 4 none :: gT)) B.pre w (List.mem_cons_of_mem _ h)
  have hown : s.vm.findClass RX12 = some m.cls := findClass_of_methodNamed B.named
  subst hsz
  have hD := hD0.self (sz := s.heap.size)
  generalize hAe : va_A [(h1, .inl (cy 0, 6, .inl f)), (h2, .inl (cy 0, 6, .inl g))] s.heap.size = A at hD hQ
  have hA : ∀ q : Nat, s.heap.size ≤ q → A q := fun q h => by rw [← hAe]; exact Or.inr h
  have hS : va_S A s.heap s.heap [] := va_S.rf
  have hl := lv_entry ([.ref h1, .ref h2, .int 6]) (n := 4) (Nat.le_of_ble_eq_true rfl)
  rw [lg_entry_eq]
  generalize (lg_sl ([.ref h1, .ref h2, .int 6]) ++ List.replicate (4 - (lg_sl ([.ref h1, .ref h2, .int 6])).length) Slot.unset).toArray = ls at hl ⊢
  have hl : lv_has ls 4 [(0, .ref h1), (1, .ref h2), (2, .int 6)] := hl
  refine lv_iconst (v := 0) hx hb dX12_copies_0 (by decide) ?_
  refine lv_istore_n (lv' := [(3, .int 0), (0, .ref h1), (1, .ref h2), (2, .int 6)]) hx hb dX12_copies_1 rfl hl (by decide) rfl (fun ls hl => ?_)
  have loop_1 : ∀ (n j1 : Nat) (x1 : Int32) (g1_1 : Nat → Int32) (H : Heap) (locs : List Loc) (ls : Array Slot), j1 + n = 6 → x1 = nI j1 → va_P D vwCl [(h1, .inl (cy 0, 6, .inl f)), (h2, .inl (cy 0, 6, .inl g1_1))] H → va_D A [(h1, .inl (cy 0, 6, .inl f)), (h2, .inl (cy 0, 6, .inl g1_1))] → va_S A s.heap H locs → lv_has ls 4 [(3, .int x1), (0, .ref h1), (1, .ref h2), (2, .int 6)] → W p l e ({ frames := 1, cells := 0, slots := 0, locals := 24 } : Room) s m ([.ref h1, .ref h2, .int 6] : List Value).toArray below meth c H locs 0 0 Q (F0 m 2 ls []) := by
    intro n
    induction n with
    | zero =>
      intro j1 x1 g1_1 H locs ls hj1 hq1 hP hD hS hl
      obtain rfl : j1 = 6 := by omega
      obtain rfl : x1 = 6 := hq1.trans (by decide)
      refine lv_iload_n hx hb dX12_copies_2 rfl (lv_at hl 0 rfl) ?_
      refine lv_iload_n hx hb dX12_copies_3 rfl (lv_at hl 3 rfl) ?_
      refine lv_icmp_ge (tgt := 19) hx hb dX12_copies_4 (by decide) (fun c_2 => ?_) (fun c_2 => absurd (by decide) c_2)
      subst hQ
      exact W.vret hx hb hr (fun t ht hW => ⟨⟨g1_1, rfl, trivial, by rw [ht]; exact hP, va_K.moved hW.alike hK, hD⟩, hS.F ht⟩) hS.2.2 dX12_copies_19
    | succ n ih1 =>
      intro j1 x1 g1_1 H locs ls hj1 hq1 hP hD hS hl
      have hx1 : x1.toInt = (j1 : Int) := by rw [hq1]; exact nI_toInt (by omega)
      have hcx1 : x1.toNatClampNeg = j1 := by rw [hq1]; exact nI_clamp (by omega)
      refine lv_iload_n hx hb dX12_copies_2 rfl (lv_at hl 0 rfl) ?_
      refine lv_iload_n hx hb dX12_copies_3 rfl (lv_at hl 3 rfl) ?_
      refine lv_icmp_ge (tgt := 19) hx hb dX12_copies_4 (by decide) (fun c_3 => by have c_3 : 6 ≤ x1.toInt := b_le c_3; omega) (fun c_3 => ?_)
      have c_3 : x1.toInt < 6 := b_nle c_3
      refine lv_aload_n hx hb dX12_copies_7 rfl (lv_at hl 2 rfl) ?_
      refine lv_iload_n hx hb dX12_copies_8 rfl (lv_at hl 0 rfl) ?_
      refine lv_aload_n hx hb dX12_copies_9 rfl (lv_at hl 1 rfl) ?_
      refine lv_iload_n hx hb dX12_copies_10 rfl (lv_at hl 0 rfl) ?_
      refine va_iald hx hb hK hP 0 0 rfl rfl (vp_inI (by omega) (by omega)) dX12_copies_11 ?_
      refine lv_topi (fun v_4 ev_4 => ?_)
      refine va_iast hx hb hK hP hD hS 1 0 rfl rfl (vp_inI (by omega) (by omega)) dX12_copies_12 (fun H locs hP hD hS => ?_)
      have hP : va_P D vwCl [(h1, .inl (cy 0, 6, .inl f)), (h2, .inl (cy 0, 6, .inl (upd g1_1 x1.toNatClampNeg v_4)))] H := hP
      have hD : va_D A [(h1, .inl (cy 0, 6, .inl f)), (h2, .inl (cy 0, 6, .inl (upd g1_1 x1.toNatClampNeg v_4)))] := hD
      obtain ⟨x_5, ex_5⟩ : ∃ y : Int32, y = x1 + 1 := ⟨_, rfl⟩
      refine lv_iinc (v := x_5) (lv' := [(3, .int x_5), (0, .ref h1), (1, .ref h2), (2, .int 6)]) hx hb dX12_copies_13 hl (k := 0) rfl (by rw [ex_5]; rfl) (by decide) rfl (fun ls hl => ?_)
      refine lv_goto (tgt := 2) hx hb dX12_copies_16 (by decide) ?_
      exact ih1 (j1 + 1) x_5 (upd g1_1 x1.toNatClampNeg v_4) _ _ _ (by omega) (by rw [ex_5, hq1]; exact nI_1 j1) hP hD hS (lv_sub hl [0, 1, 2, 3] rfl)
  exact loop_1 6 0 0 g _ _ _ (by omega) rfl hP hD hS hl
set_option maxHeartbeats 4000000 in
set_option maxRecDepth 100000 in
theorem c_X12_keep (l : Launch) (D : va_G) (cy : Nat → ClassId) (a : Nat → Nat) (i : Nat → Int32) (r : Nat → Nat → Int32) (rl : Nat → Int64) (sz : Nat) (hf : mZ i) : Met l yX12_keep (Cond.code yX12_keep cX12_keep 2 (some .int) :: gT) { frames := 2, cells := 0, slots := 0, locals := 47 } (va_Pc [.ref (a 0)] (rQ D cy (mW cy a i r rl) sz)) (va_Qi (fun (z : Int32) (u : Unit) => z = 0) (fun _ _ => True) (va_A (mW cy a i r rl) sz)) 0 0 (va_A (mW cy a i r rl) sz) := by
  refine Met.ofQ (cc := cX12_keep) (maxL := 2) (ret := (some .int)) (by decide) rfl ?_
  intro p e s m args below meth c s₁ B hml hv Q hQ
  obtain ⟨rfl, hsz, hP, hK, hD0⟩ := hv
  have hx := B.exec
  have hb := B.bytes
  have hr := B.returns
  have hlocks := B.notSynchronized
  have hT : ∀ w ∈ gT, w.before _ s = true := fun w h => atoms_spec (ws := (Cond.code yX12_keep cX12_keep 2 (some .int) :: gT)) B.pre w (List.mem_cons_of_mem _ h)
  have hown : s.vm.findClass RX12 = some m.cls := findClass_of_methodNamed B.named
  subst hsz
  have hD := hD0.self (sz := s.heap.size)
  generalize hAe : va_A (mW cy a i r rl) s.heap.size = A at hD hQ
  have hA : ∀ q : Nat, s.heap.size ≤ q → A q := fun q h => by rw [← hAe]; exact Or.inr h
  have hS : va_S A s.heap s.heap [] := va_S.rf
  have hl := lv_entry ([.ref (a 0)]) (n := 2) (Nat.le_of_ble_eq_true rfl)
  rw [lg_entry_eq]
  generalize (lg_sl ([.ref (a 0)]) ++ List.replicate (2 - (lg_sl ([.ref (a 0)])).length) Slot.unset).toArray = ls at hl ⊢
  have hl : lv_has ls 2 [(0, .ref (a 0))] := hl
  refine lv_aload_n hx hb dX12_keep_0 rfl (lv_at hl 0 rfl) ?_
  refine lv_iconst (v := 1) hx hb dX12_keep_1 (by decide) ?_
  refine va_put (D := D) (ci := 12) (v := .int 1) (ty := .boolean) (C := RX12) (T := TX12) (N := 91) hx hb hT iX12 tyX12 tyX12_ok nmX12 hown hK hP hD hS 0 rfl rfl 78 (by decide) (hT _ t_29) (fun _ h9 => h9) rfl (by decide +kernel) rfl rfl (Nat.le_of_ble_eq_true rfl) dX12_keep_2 (fun H locs hP hD hS => ?_)
  rw [mP78] at hP hD
  refine lv_aload_n hx hb dX12_keep_5 rfl (lv_at hl 0 rfl) ?_
  refine lv_aload_n hx hb dX12_keep_6 rfl (lv_at hl 0 rfl) ?_
  refine va_get (D := D) (ci := 12) (v := .int 0) (C := RX12) (T := TX12) (N := 91) hx hb hT iX12 hown hK hP 0 rfl rfl 51 (by decide) (hT _ t_6) (fun _ h9 => h9) (congrArg (fun z => some (Value.int z)) (hf.1 51 (by decide))) dX12_keep_7 ?_
  refine va_put (D := D) (ci := 12) (v := .int 0) (ty := .int) (C := RX12) (T := TX12) (N := 91) hx hb hT iX12 tyX12 tyX12_ok nmX12 hown hK hP hD hS 0 rfl rfl 79 (by decide) (hT _ t_106) (fun _ h9 => h9) rfl (by decide +kernel) rfl rfl (Nat.le_of_ble_eq_true rfl) dX12_keep_10 (fun H locs hP hD hS => ?_)
  rw [mP79] at hP hD
  refine lv_aload_n hx hb dX12_keep_13 rfl (lv_at hl 0 rfl) ?_
  refine lv_aload_n hx hb dX12_keep_14 rfl (lv_at hl 0 rfl) ?_
  refine va_get (D := D) (ci := 12) (v := .int 1) (C := RX12) (T := TX12) (N := 91) hx hb hT iX12 hown hK hP 0 rfl rfl 1 (by decide) (hT _ t_38) (fun _ h9 => h9) (congrArg (fun z => some (Value.int z)) hf.2) dX12_keep_15 ?_
  refine va_put (D := D) (ci := 12) (v := .int 1) (ty := .int) (C := RX12) (T := TX12) (N := 91) hx hb hT iX12 tyX12 tyX12_ok nmX12 hown hK hP hD hS 0 rfl rfl 80 (by decide) (hT _ t_107) (fun _ h9 => h9) rfl (by decide +kernel) rfl rfl (Nat.le_of_ble_eq_true rfl) dX12_keep_18 (fun H locs hP hD hS => ?_)
  rw [mP80] at hP hD
  refine lv_aload_n hx hb dX12_keep_21 rfl (lv_at hl 0 rfl) ?_
  refine va_get (D := D) (ci := 12) (v := .ref (a 40)) (C := RX12) (T := TX12) (N := 91) hx hb hT iX12 hown hK hP 0 rfl rfl 52 (by decide) (hT _ t_108) (fun _ h9 => h9) rfl dX12_keep_22 ?_
  refine lv_aload_n hx hb dX12_keep_25 rfl (lv_at hl 0 rfl) ?_
  refine va_get (D := D) (ci := 12) (v := .ref (a 63)) (C := RX12) (T := TX12) (N := 91) hx hb hT iX12 hown hK hP 0 rfl rfl 81 (by decide) (hT _ t_109) (fun _ h9 => h9) rfl dX12_keep_26 ?_
  refine lv_bipush (v := 30) hx hb dX12_keep_29 (by decide) ?_
  have hP_1 := hP.sub (ws' := [(a 40, .inl (cy 0, 30, .inl (r 40))), (a 63, .inl (cy 0, 30, .inl (r 63)))]) [40, 63] rfl
  have hD_3 := hD.sub (ws' := [(a 40, .inl (cy 0, 30, .inl (r 40))), (a 63, .inl (cy 0, 30, .inl (r 63)))]) [40, 63] (by decide) rfl
  have hF_2 := va_free (wc := [(a 40, .inl (cy 0, 30, .inl (r 40))), (a 63, .inl (cy 0, 30, .inl (r 63)))]) hD hS hA [40, 63] rfl
  refine va_callv (va_runS (As := [.ref (a 40), .ref (a 63), .int 30]) (rest := []) ⟨hx, hb, hml, hown, hT⟩ (c_X12_copies30 l D cy (a 40) (a 63) (r 40) (r 63) _) (va_cwS 3 hT (gS t_110 t_111 t_112 t_8) rfl rfl rfl (by decide +kernel) ⟨Nat.le_of_ble_eq_true rfl, Nat.le_of_ble_eq_true rfl⟩) (rQ_s hP_1 hK hD_3) rfl rfl hl.1 rfl (lv_room (Nat.le_of_ble_eq_true rfl)) dX12_keep_31 ⟨Nat.le_of_ble_eq_true rfl, Nat.le_of_ble_eq_true rfl⟩) hS (fun q _ h => hF_2 q h) hF_2 (fun u_5 t H1 locs ht hvm hr_4 hB hz1 hk1 hS => ?_)
  obtain ⟨hP1, hK1, hD1⟩ := hB
  rw [ht] at hP1
  obtain ⟨hP, hD⟩ := rj (wc := [(a 40, .inl (cy 0, 30, .inl (r 40))), (a 63, .inl (cy 0, 30, .inl (r 63)))]) (w1 := [(a 40, .inl (cy 0, 30, .inl (r 40))), (a 63, .inl (cy 0, 30, .inl u_5))]) hP hD [40, 63] rfl rfl hk1 hP1
  have hP : va_P D vwCl (mW cy a (upd (upd (upd i 78 1) 79 0) 80 1) (va_up r 63 u_5) rl) H1 := hP
  have hD : va_D A (mW cy a (upd (upd (upd i 78 1) 79 0) 80 1) (va_up r 63 u_5) rl) := hD
  obtain ⟨r5, er5⟩ : ∃ z, z = va_up r 63 u_5 := ⟨_, rfl⟩
  rw [← er5] at hP hD
  refine lv_aload_n hx hb dX12_keep_34 rfl (lv_at hl 0 rfl) ?_
  refine va_get (D := D) (ci := 12) (v := .ref (a 41)) (C := RX12) (T := TX12) (N := 91) hx hb hT iX12 hown hK hP 0 rfl rfl 53 (by decide) (hT _ t_113) (fun _ h9 => h9) rfl dX12_keep_35 ?_
  refine lv_aload_n hx hb dX12_keep_38 rfl (lv_at hl 0 rfl) ?_
  refine va_get (D := D) (ci := 12) (v := .ref (a 64)) (C := RX12) (T := TX12) (N := 91) hx hb hT iX12 hown hK hP 0 rfl rfl 82 (by decide) (hT _ t_114) (fun _ h9 => h9) rfl dX12_keep_39 ?_
  refine lv_bipush (v := 30) hx hb dX12_keep_42 (by decide) ?_
  have hP_6 := hP.sub (ws' := [(a 41, .inl (cy 0, 30, .inl (r5 41))), (a 64, .inl (cy 0, 30, .inl (r5 64)))]) [41, 64] rfl
  have hD_8 := hD.sub (ws' := [(a 41, .inl (cy 0, 30, .inl (r5 41))), (a 64, .inl (cy 0, 30, .inl (r5 64)))]) [41, 64] (by decide) rfl
  have hF_7 := va_free (wc := [(a 41, .inl (cy 0, 30, .inl (r5 41))), (a 64, .inl (cy 0, 30, .inl (r5 64)))]) hD hS hA [41, 64] rfl
  refine va_callv (va_runS (As := [.ref (a 41), .ref (a 64), .int 30]) (rest := []) ⟨hx, hb, hml, hown, hT⟩ (c_X12_copies30 l D cy (a 41) (a 64) (r5 41) (r5 64) _) (va_cwS 3 hT (gS t_110 t_111 t_112 t_8) rfl rfl rfl (by decide +kernel) ⟨Nat.le_of_ble_eq_true rfl, Nat.le_of_ble_eq_true rfl⟩) (rQ_s hP_6 hK hD_8) rfl rfl hl.1 rfl (lv_room (Nat.le_of_ble_eq_true rfl)) dX12_keep_44 ⟨Nat.le_of_ble_eq_true rfl, Nat.le_of_ble_eq_true rfl⟩) hS (fun q _ h => hF_7 q h) hF_7 (fun u_10 t H1 locs ht hvm hr_9 hB hz1 hk1 hS => ?_)
  obtain ⟨hP1, hK1, hD1⟩ := hB
  rw [ht] at hP1
  obtain ⟨hP, hD⟩ := rj (wc := [(a 41, .inl (cy 0, 30, .inl (r5 41))), (a 64, .inl (cy 0, 30, .inl (r5 64)))]) (w1 := [(a 41, .inl (cy 0, 30, .inl (r5 41))), (a 64, .inl (cy 0, 30, .inl u_10))]) hP hD [41, 64] rfl rfl hk1 hP1
  have hP : va_P D vwCl (mW cy a (upd (upd (upd i 78 1) 79 0) 80 1) (va_up r5 64 u_10) rl) H1 := hP
  have hD : va_D A (mW cy a (upd (upd (upd i 78 1) 79 0) 80 1) (va_up r5 64 u_10) rl) := hD
  obtain ⟨r10, er10⟩ : ∃ z, z = va_up r5 64 u_10 := ⟨_, rfl⟩
  rw [← er10] at hP hD
  refine lv_aload_n hx hb dX12_keep_47 rfl (lv_at hl 0 rfl) ?_
  refine va_get (D := D) (ci := 12) (v := .ref (a 42)) (C := RX12) (T := TX12) (N := 91) hx hb hT iX12 hown hK hP 0 rfl rfl 54 (by decide) (hT _ t_115) (fun _ h9 => h9) rfl dX12_keep_48 ?_
  refine lv_aload_n hx hb dX12_keep_51 rfl (lv_at hl 0 rfl) ?_
  refine va_get (D := D) (ci := 12) (v := .ref (a 65)) (C := RX12) (T := TX12) (N := 91) hx hb hT iX12 hown hK hP 0 rfl rfl 83 (by decide) (hT _ t_116) (fun _ h9 => h9) rfl dX12_keep_52 ?_
  refine lv_bipush (v := 30) hx hb dX12_keep_55 (by decide) ?_
  have hP_11 := hP.sub (ws' := [(a 42, .inl (cy 0, 30, .inl (r10 42))), (a 65, .inl (cy 0, 30, .inl (r10 65)))]) [42, 65] rfl
  have hD_13 := hD.sub (ws' := [(a 42, .inl (cy 0, 30, .inl (r10 42))), (a 65, .inl (cy 0, 30, .inl (r10 65)))]) [42, 65] (by decide) rfl
  have hF_12 := va_free (wc := [(a 42, .inl (cy 0, 30, .inl (r10 42))), (a 65, .inl (cy 0, 30, .inl (r10 65)))]) hD hS hA [42, 65] rfl
  refine va_callv (va_runS (As := [.ref (a 42), .ref (a 65), .int 30]) (rest := []) ⟨hx, hb, hml, hown, hT⟩ (c_X12_copies30 l D cy (a 42) (a 65) (r10 42) (r10 65) _) (va_cwS 3 hT (gS t_110 t_111 t_112 t_8) rfl rfl rfl (by decide +kernel) ⟨Nat.le_of_ble_eq_true rfl, Nat.le_of_ble_eq_true rfl⟩) (rQ_s hP_11 hK hD_13) rfl rfl hl.1 rfl (lv_room (Nat.le_of_ble_eq_true rfl)) dX12_keep_57 ⟨Nat.le_of_ble_eq_true rfl, Nat.le_of_ble_eq_true rfl⟩) hS (fun q _ h => hF_12 q h) hF_12 (fun u_15 t H1 locs ht hvm hr_14 hB hz1 hk1 hS => ?_)
  obtain ⟨hP1, hK1, hD1⟩ := hB
  rw [ht] at hP1
  obtain ⟨hP, hD⟩ := rj (wc := [(a 42, .inl (cy 0, 30, .inl (r10 42))), (a 65, .inl (cy 0, 30, .inl (r10 65)))]) (w1 := [(a 42, .inl (cy 0, 30, .inl (r10 42))), (a 65, .inl (cy 0, 30, .inl u_15))]) hP hD [42, 65] rfl rfl hk1 hP1
  have hP : va_P D vwCl (mW cy a (upd (upd (upd i 78 1) 79 0) 80 1) (va_up r10 65 u_15) rl) H1 := hP
  have hD : va_D A (mW cy a (upd (upd (upd i 78 1) 79 0) 80 1) (va_up r10 65 u_15) rl) := hD
  obtain ⟨r15, er15⟩ : ∃ z, z = va_up r10 65 u_15 := ⟨_, rfl⟩
  rw [← er15] at hP hD
  refine lv_aload_n hx hb dX12_keep_60 rfl (lv_at hl 0 rfl) ?_
  refine va_get (D := D) (ci := 12) (v := .ref (a 43)) (C := RX12) (T := TX12) (N := 91) hx hb hT iX12 hown hK hP 0 rfl rfl 55 (by decide) (hT _ t_117) (fun _ h9 => h9) rfl dX12_keep_61 ?_
  refine lv_aload_n hx hb dX12_keep_64 rfl (lv_at hl 0 rfl) ?_
  refine va_get (D := D) (ci := 12) (v := .ref (a 66)) (C := RX12) (T := TX12) (N := 91) hx hb hT iX12 hown hK hP 0 rfl rfl 84 (by decide) (hT _ t_118) (fun _ h9 => h9) rfl dX12_keep_65 ?_
  refine lv_bipush (v := 30) hx hb dX12_keep_68 (by decide) ?_
  have hP_16 := hP.sub (ws' := [(a 43, .inl (cy 0, 30, .inl (r15 43))), (a 66, .inl (cy 0, 30, .inl (r15 66)))]) [43, 66] rfl
  have hD_18 := hD.sub (ws' := [(a 43, .inl (cy 0, 30, .inl (r15 43))), (a 66, .inl (cy 0, 30, .inl (r15 66)))]) [43, 66] (by decide) rfl
  have hF_17 := va_free (wc := [(a 43, .inl (cy 0, 30, .inl (r15 43))), (a 66, .inl (cy 0, 30, .inl (r15 66)))]) hD hS hA [43, 66] rfl
  refine va_callv (va_runS (As := [.ref (a 43), .ref (a 66), .int 30]) (rest := []) ⟨hx, hb, hml, hown, hT⟩ (c_X12_copies30 l D cy (a 43) (a 66) (r15 43) (r15 66) _) (va_cwS 3 hT (gS t_110 t_111 t_112 t_8) rfl rfl rfl (by decide +kernel) ⟨Nat.le_of_ble_eq_true rfl, Nat.le_of_ble_eq_true rfl⟩) (rQ_s hP_16 hK hD_18) rfl rfl hl.1 rfl (lv_room (Nat.le_of_ble_eq_true rfl)) dX12_keep_70 ⟨Nat.le_of_ble_eq_true rfl, Nat.le_of_ble_eq_true rfl⟩) hS (fun q _ h => hF_17 q h) hF_17 (fun u_20 t H1 locs ht hvm hr_19 hB hz1 hk1 hS => ?_)
  obtain ⟨hP1, hK1, hD1⟩ := hB
  rw [ht] at hP1
  obtain ⟨hP, hD⟩ := rj (wc := [(a 43, .inl (cy 0, 30, .inl (r15 43))), (a 66, .inl (cy 0, 30, .inl (r15 66)))]) (w1 := [(a 43, .inl (cy 0, 30, .inl (r15 43))), (a 66, .inl (cy 0, 30, .inl u_20))]) hP hD [43, 66] rfl rfl hk1 hP1
  have hP : va_P D vwCl (mW cy a (upd (upd (upd i 78 1) 79 0) 80 1) (va_up r15 66 u_20) rl) H1 := hP
  have hD : va_D A (mW cy a (upd (upd (upd i 78 1) 79 0) 80 1) (va_up r15 66 u_20) rl) := hD
  obtain ⟨r20, er20⟩ : ∃ z, z = va_up r15 66 u_20 := ⟨_, rfl⟩
  rw [← er20] at hP hD
  refine lv_aload_n hx hb dX12_keep_73 rfl (lv_at hl 0 rfl) ?_
  refine va_get (D := D) (ci := 12) (v := .ref (a 44)) (C := RX12) (T := TX12) (N := 91) hx hb hT iX12 hown hK hP 0 rfl rfl 56 (by decide) (hT _ t_119) (fun _ h9 => h9) rfl dX12_keep_74 ?_
  refine lv_aload_n hx hb dX12_keep_77 rfl (lv_at hl 0 rfl) ?_
  refine va_get (D := D) (ci := 12) (v := .ref (a 67)) (C := RX12) (T := TX12) (N := 91) hx hb hT iX12 hown hK hP 0 rfl rfl 85 (by decide) (hT _ t_120) (fun _ h9 => h9) rfl dX12_keep_78 ?_
  refine lv_bipush (v := 30) hx hb dX12_keep_81 (by decide) ?_
  have hP_21 := hP.sub (ws' := [(a 44, .inl (cy 0, 30, .inl (r20 44))), (a 67, .inl (cy 0, 30, .inl (r20 67)))]) [44, 67] rfl
  have hD_23 := hD.sub (ws' := [(a 44, .inl (cy 0, 30, .inl (r20 44))), (a 67, .inl (cy 0, 30, .inl (r20 67)))]) [44, 67] (by decide) rfl
  have hF_22 := va_free (wc := [(a 44, .inl (cy 0, 30, .inl (r20 44))), (a 67, .inl (cy 0, 30, .inl (r20 67)))]) hD hS hA [44, 67] rfl
  refine va_callv (va_runS (As := [.ref (a 44), .ref (a 67), .int 30]) (rest := []) ⟨hx, hb, hml, hown, hT⟩ (c_X12_copies30 l D cy (a 44) (a 67) (r20 44) (r20 67) _) (va_cwS 3 hT (gS t_110 t_111 t_112 t_8) rfl rfl rfl (by decide +kernel) ⟨Nat.le_of_ble_eq_true rfl, Nat.le_of_ble_eq_true rfl⟩) (rQ_s hP_21 hK hD_23) rfl rfl hl.1 rfl (lv_room (Nat.le_of_ble_eq_true rfl)) dX12_keep_83 ⟨Nat.le_of_ble_eq_true rfl, Nat.le_of_ble_eq_true rfl⟩) hS (fun q _ h => hF_22 q h) hF_22 (fun u_25 t H1 locs ht hvm hr_24 hB hz1 hk1 hS => ?_)
  obtain ⟨hP1, hK1, hD1⟩ := hB
  rw [ht] at hP1
  obtain ⟨hP, hD⟩ := rj (wc := [(a 44, .inl (cy 0, 30, .inl (r20 44))), (a 67, .inl (cy 0, 30, .inl (r20 67)))]) (w1 := [(a 44, .inl (cy 0, 30, .inl (r20 44))), (a 67, .inl (cy 0, 30, .inl u_25))]) hP hD [44, 67] rfl rfl hk1 hP1
  have hP : va_P D vwCl (mW cy a (upd (upd (upd i 78 1) 79 0) 80 1) (va_up r20 67 u_25) rl) H1 := hP
  have hD : va_D A (mW cy a (upd (upd (upd i 78 1) 79 0) 80 1) (va_up r20 67 u_25) rl) := hD
  obtain ⟨r25, er25⟩ : ∃ z, z = va_up r20 67 u_25 := ⟨_, rfl⟩
  rw [← er25] at hP hD
  refine lv_aload_n hx hb dX12_keep_86 rfl (lv_at hl 0 rfl) ?_
  refine va_get (D := D) (ci := 12) (v := .ref (a 45)) (C := RX12) (T := TX12) (N := 91) hx hb hT iX12 hown hK hP 0 rfl rfl 57 (by decide) (hT _ t_121) (fun _ h9 => h9) rfl dX12_keep_87 ?_
  refine lv_aload_n hx hb dX12_keep_90 rfl (lv_at hl 0 rfl) ?_
  refine va_get (D := D) (ci := 12) (v := .ref (a 68)) (C := RX12) (T := TX12) (N := 91) hx hb hT iX12 hown hK hP 0 rfl rfl 86 (by decide) (hT _ t_122) (fun _ h9 => h9) rfl dX12_keep_91 ?_
  refine lv_bipush (v := 30) hx hb dX12_keep_94 (by decide) ?_
  have hP_26 := hP.sub (ws' := [(a 45, .inl (cy 0, 30, .inl (r25 45))), (a 68, .inl (cy 0, 30, .inl (r25 68)))]) [45, 68] rfl
  have hD_28 := hD.sub (ws' := [(a 45, .inl (cy 0, 30, .inl (r25 45))), (a 68, .inl (cy 0, 30, .inl (r25 68)))]) [45, 68] (by decide) rfl
  have hF_27 := va_free (wc := [(a 45, .inl (cy 0, 30, .inl (r25 45))), (a 68, .inl (cy 0, 30, .inl (r25 68)))]) hD hS hA [45, 68] rfl
  refine va_callv (va_runS (As := [.ref (a 45), .ref (a 68), .int 30]) (rest := []) ⟨hx, hb, hml, hown, hT⟩ (c_X12_copies30 l D cy (a 45) (a 68) (r25 45) (r25 68) _) (va_cwS 3 hT (gS t_110 t_111 t_112 t_8) rfl rfl rfl (by decide +kernel) ⟨Nat.le_of_ble_eq_true rfl, Nat.le_of_ble_eq_true rfl⟩) (rQ_s hP_26 hK hD_28) rfl rfl hl.1 rfl (lv_room (Nat.le_of_ble_eq_true rfl)) dX12_keep_96 ⟨Nat.le_of_ble_eq_true rfl, Nat.le_of_ble_eq_true rfl⟩) hS (fun q _ h => hF_27 q h) hF_27 (fun u_30 t H1 locs ht hvm hr_29 hB hz1 hk1 hS => ?_)
  obtain ⟨hP1, hK1, hD1⟩ := hB
  rw [ht] at hP1
  obtain ⟨hP, hD⟩ := rj (wc := [(a 45, .inl (cy 0, 30, .inl (r25 45))), (a 68, .inl (cy 0, 30, .inl (r25 68)))]) (w1 := [(a 45, .inl (cy 0, 30, .inl (r25 45))), (a 68, .inl (cy 0, 30, .inl u_30))]) hP hD [45, 68] rfl rfl hk1 hP1
  have hP : va_P D vwCl (mW cy a (upd (upd (upd i 78 1) 79 0) 80 1) (va_up r25 68 u_30) rl) H1 := hP
  have hD : va_D A (mW cy a (upd (upd (upd i 78 1) 79 0) 80 1) (va_up r25 68 u_30) rl) := hD
  obtain ⟨r30, er30⟩ : ∃ z, z = va_up r25 68 u_30 := ⟨_, rfl⟩
  rw [← er30] at hP hD
  refine lv_aload_n hx hb dX12_keep_99 rfl (lv_at hl 0 rfl) ?_
  refine va_get (D := D) (ci := 12) (v := .ref (a 46)) (C := RX12) (T := TX12) (N := 91) hx hb hT iX12 hown hK hP 0 rfl rfl 58 (by decide) (hT _ t_123) (fun _ h9 => h9) rfl dX12_keep_100 ?_
  refine lv_aload_n hx hb dX12_keep_103 rfl (lv_at hl 0 rfl) ?_
  refine va_get (D := D) (ci := 12) (v := .ref (a 69)) (C := RX12) (T := TX12) (N := 91) hx hb hT iX12 hown hK hP 0 rfl rfl 87 (by decide) (hT _ t_124) (fun _ h9 => h9) rfl dX12_keep_104 ?_
  refine lv_bipush (v := 30) hx hb dX12_keep_107 (by decide) ?_
  have hP_31 := hP.sub (ws' := [(a 46, .inl (cy 0, 30, .inl (r30 46))), (a 69, .inl (cy 0, 30, .inl (r30 69)))]) [46, 69] rfl
  have hD_33 := hD.sub (ws' := [(a 46, .inl (cy 0, 30, .inl (r30 46))), (a 69, .inl (cy 0, 30, .inl (r30 69)))]) [46, 69] (by decide) rfl
  have hF_32 := va_free (wc := [(a 46, .inl (cy 0, 30, .inl (r30 46))), (a 69, .inl (cy 0, 30, .inl (r30 69)))]) hD hS hA [46, 69] rfl
  refine va_callv (va_runS (As := [.ref (a 46), .ref (a 69), .int 30]) (rest := []) ⟨hx, hb, hml, hown, hT⟩ (c_X12_copies30 l D cy (a 46) (a 69) (r30 46) (r30 69) _) (va_cwS 3 hT (gS t_110 t_111 t_112 t_8) rfl rfl rfl (by decide +kernel) ⟨Nat.le_of_ble_eq_true rfl, Nat.le_of_ble_eq_true rfl⟩) (rQ_s hP_31 hK hD_33) rfl rfl hl.1 rfl (lv_room (Nat.le_of_ble_eq_true rfl)) dX12_keep_109 ⟨Nat.le_of_ble_eq_true rfl, Nat.le_of_ble_eq_true rfl⟩) hS (fun q _ h => hF_32 q h) hF_32 (fun u_35 t H1 locs ht hvm hr_34 hB hz1 hk1 hS => ?_)
  obtain ⟨hP1, hK1, hD1⟩ := hB
  rw [ht] at hP1
  obtain ⟨hP, hD⟩ := rj (wc := [(a 46, .inl (cy 0, 30, .inl (r30 46))), (a 69, .inl (cy 0, 30, .inl (r30 69)))]) (w1 := [(a 46, .inl (cy 0, 30, .inl (r30 46))), (a 69, .inl (cy 0, 30, .inl u_35))]) hP hD [46, 69] rfl rfl hk1 hP1
  have hP : va_P D vwCl (mW cy a (upd (upd (upd i 78 1) 79 0) 80 1) (va_up r30 69 u_35) rl) H1 := hP
  have hD : va_D A (mW cy a (upd (upd (upd i 78 1) 79 0) 80 1) (va_up r30 69 u_35) rl) := hD
  obtain ⟨r35, er35⟩ : ∃ z, z = va_up r30 69 u_35 := ⟨_, rfl⟩
  rw [← er35] at hP hD
  refine lv_aload_n hx hb dX12_keep_112 rfl (lv_at hl 0 rfl) ?_
  refine va_get (D := D) (ci := 12) (v := .ref (a 50)) (C := RX12) (T := TX12) (N := 91) hx hb hT iX12 hown hK hP 0 rfl rfl 64 (by decide) (hT _ t_125) (fun _ h9 => h9) rfl dX12_keep_113 ?_
  refine lv_aload_n hx hb dX12_keep_116 rfl (lv_at hl 0 rfl) ?_
  refine va_get (D := D) (ci := 12) (v := .ref (a 70)) (C := RX12) (T := TX12) (N := 91) hx hb hT iX12 hown hK hP 0 rfl rfl 88 (by decide) (hT _ t_126) (fun _ h9 => h9) rfl dX12_keep_117 ?_
  refine lv_bipush (v := 6) hx hb dX12_keep_120 (by decide) ?_
  have hP_36 := hP.sub (ws' := [(a 50, .inl (cy 0, 6, .inl (r35 50))), (a 70, .inl (cy 0, 6, .inl (r35 70)))]) [50, 70] rfl
  have hD_38 := hD.sub (ws' := [(a 50, .inl (cy 0, 6, .inl (r35 50))), (a 70, .inl (cy 0, 6, .inl (r35 70)))]) [50, 70] (by decide) rfl
  have hF_37 := va_free (wc := [(a 50, .inl (cy 0, 6, .inl (r35 50))), (a 70, .inl (cy 0, 6, .inl (r35 70)))]) hD hS hA [50, 70] rfl
  refine va_callv (va_runS (As := [.ref (a 50), .ref (a 70), .int 6]) (rest := []) ⟨hx, hb, hml, hown, hT⟩ (c_X12_copies6 l D cy (a 50) (a 70) (r35 50) (r35 70) _) (va_cwS 3 hT (gS t_110 t_111 t_112 t_8) rfl rfl rfl (by decide +kernel) ⟨Nat.le_of_ble_eq_true rfl, Nat.le_of_ble_eq_true rfl⟩) (rQ_s hP_36 hK hD_38) rfl rfl hl.1 rfl (lv_room (Nat.le_of_ble_eq_true rfl)) dX12_keep_122 ⟨Nat.le_of_ble_eq_true rfl, Nat.le_of_ble_eq_true rfl⟩) hS (fun q _ h => hF_37 q h) hF_37 (fun u_40 t H1 locs ht hvm hr_39 hB hz1 hk1 hS => ?_)
  obtain ⟨hP1, hK1, hD1⟩ := hB
  rw [ht] at hP1
  obtain ⟨hP, hD⟩ := rj (wc := [(a 50, .inl (cy 0, 6, .inl (r35 50))), (a 70, .inl (cy 0, 6, .inl (r35 70)))]) (w1 := [(a 50, .inl (cy 0, 6, .inl (r35 50))), (a 70, .inl (cy 0, 6, .inl u_40))]) hP hD [50, 70] rfl rfl hk1 hP1
  have hP : va_P D vwCl (mW cy a (upd (upd (upd i 78 1) 79 0) 80 1) (va_up r35 70 u_40) rl) H1 := hP
  have hD : va_D A (mW cy a (upd (upd (upd i 78 1) 79 0) 80 1) (va_up r35 70 u_40) rl) := hD
  obtain ⟨r40, er40⟩ : ∃ z, z = va_up r35 70 u_40 := ⟨_, rfl⟩
  rw [← er40] at hP hD
  refine lv_aload_n hx hb dX12_keep_125 rfl (lv_at hl 0 rfl) ?_
  refine va_get (D := D) (ci := 12) (v := .ref (a 51)) (C := RX12) (T := TX12) (N := 91) hx hb hT iX12 hown hK hP 0 rfl rfl 65 (by decide) (hT _ t_127) (fun _ h9 => h9) rfl dX12_keep_126 ?_
  refine lv_aload_n hx hb dX12_keep_129 rfl (lv_at hl 0 rfl) ?_
  refine va_get (D := D) (ci := 12) (v := .ref (a 71)) (C := RX12) (T := TX12) (N := 91) hx hb hT iX12 hown hK hP 0 rfl rfl 89 (by decide) (hT _ t_128) (fun _ h9 => h9) rfl dX12_keep_130 ?_
  refine lv_bipush (v := 6) hx hb dX12_keep_133 (by decide) ?_
  have hP_41 := hP.sub (ws' := [(a 51, .inl (cy 0, 6, .inl (r40 51))), (a 71, .inl (cy 0, 6, .inl (r40 71)))]) [51, 71] rfl
  have hD_43 := hD.sub (ws' := [(a 51, .inl (cy 0, 6, .inl (r40 51))), (a 71, .inl (cy 0, 6, .inl (r40 71)))]) [51, 71] (by decide) rfl
  have hF_42 := va_free (wc := [(a 51, .inl (cy 0, 6, .inl (r40 51))), (a 71, .inl (cy 0, 6, .inl (r40 71)))]) hD hS hA [51, 71] rfl
  refine va_callv (va_runS (As := [.ref (a 51), .ref (a 71), .int 6]) (rest := []) ⟨hx, hb, hml, hown, hT⟩ (c_X12_copies6 l D cy (a 51) (a 71) (r40 51) (r40 71) _) (va_cwS 3 hT (gS t_110 t_111 t_112 t_8) rfl rfl rfl (by decide +kernel) ⟨Nat.le_of_ble_eq_true rfl, Nat.le_of_ble_eq_true rfl⟩) (rQ_s hP_41 hK hD_43) rfl rfl hl.1 rfl (lv_room (Nat.le_of_ble_eq_true rfl)) dX12_keep_135 ⟨Nat.le_of_ble_eq_true rfl, Nat.le_of_ble_eq_true rfl⟩) hS (fun q _ h => hF_42 q h) hF_42 (fun u_45 t H1 locs ht hvm hr_44 hB hz1 hk1 hS => ?_)
  obtain ⟨hP1, hK1, hD1⟩ := hB
  rw [ht] at hP1
  obtain ⟨hP, hD⟩ := rj (wc := [(a 51, .inl (cy 0, 6, .inl (r40 51))), (a 71, .inl (cy 0, 6, .inl (r40 71)))]) (w1 := [(a 51, .inl (cy 0, 6, .inl (r40 51))), (a 71, .inl (cy 0, 6, .inl u_45))]) hP hD [51, 71] rfl rfl hk1 hP1
  have hP : va_P D vwCl (mW cy a (upd (upd (upd i 78 1) 79 0) 80 1) (va_up r40 71 u_45) rl) H1 := hP
  have hD : va_D A (mW cy a (upd (upd (upd i 78 1) 79 0) 80 1) (va_up r40 71 u_45) rl) := hD
  obtain ⟨r45, er45⟩ : ∃ z, z = va_up r40 71 u_45 := ⟨_, rfl⟩
  rw [← er45] at hP hD
  refine lv_iconst (v := 0) hx hb dX12_keep_138 (by decide) ?_
  refine lv_istore_n (lv' := [(1, .int 0), (0, .ref (a 0))]) hx hb dX12_keep_139 rfl hl (by decide) rfl (fun ls hl => ?_)
  have loop_46 : ∀ (n j46 : Nat) (x46 : Int32) (r46 : Nat → Nat → Int32) (H : Heap) (locs : List Loc) (ls : Array Slot), j46 + n = 30 → x46 = nI j46 → va_P D vwCl (mW cy a (upd (upd (upd i 78 1) 79 0) 80 1) r46 rl) H → va_D A (mW cy a (upd (upd (upd i 78 1) 79 0) 80 1) r46 rl) → va_S A s.heap H locs → lv_has ls 2 [(1, .int x46), (0, .ref (a 0))] → W p l e ({ frames := 2, cells := 0, slots := 0, locals := 47 } : Room) s m ([.ref (a 0)] : List Value).toArray below meth c H locs 0 0 Q (F0 m 140 ls []) := by
    intro n
    induction n with
    | zero =>
      intro j46 x46 r46 H locs ls hj46 hq46 hP hD hS hl
      obtain rfl : j46 = 30 := by omega
      obtain rfl : x46 = 30 := hq46.trans (by decide)
      refine lv_iload_n hx hb dX12_keep_140 rfl (lv_at hl 0 rfl) ?_
      refine lv_bipush (v := 30) hx hb dX12_keep_141 (by decide) ?_
      refine lv_icmp_ge (tgt := 164) hx hb dX12_keep_143 (by decide) (fun c_47 => ?_) (fun c_47 => absurd (by decide) c_47)
      refine lv_aload_n hx hb dX12_keep_164 rfl (lv_at hl 1 rfl) ?_
      refine va_get (D := D) (ci := 12) (v := .int 0) (C := RX12) (T := TX12) (N := 91) hx hb hT iX12 hown hK hP 0 rfl rfl 51 (by decide) (hT _ t_6) (fun _ h9 => h9) (congrArg (fun z => some (Value.int z)) (hf.1 51 (by decide))) dX12_keep_165 ?_
      subst hQ
      exact W.iret (v := 0) hx hb hr (fun t ht hW => ⟨⟨_, (), rfl, rfl, trivial⟩, hS.F ht⟩) hS.2.2 dX12_keep_168
    | succ n ih46 =>
      intro j46 x46 r46 H locs ls hj46 hq46 hP hD hS hl
      have hx46 : x46.toInt = (j46 : Int) := by rw [hq46]; exact nI_toInt (by omega)
      have hcx46 : x46.toNatClampNeg = j46 := by rw [hq46]; exact nI_clamp (by omega)
      refine lv_iload_n hx hb dX12_keep_140 rfl (lv_at hl 0 rfl) ?_
      refine lv_bipush (v := 30) hx hb dX12_keep_141 (by decide) ?_
      refine lv_icmp_ge (tgt := 164) hx hb dX12_keep_143 (by decide) (fun c_48 => by have c_48 : 30 ≤ x46.toInt := b_le c_48; omega) (fun c_48 => ?_)
      have c_48 : x46.toInt < 30 := b_nle c_48
      refine lv_aload_n hx hb dX12_keep_146 rfl (lv_at hl 1 rfl) ?_
      refine va_get (D := D) (ci := 12) (v := .ref (a 72)) (C := RX12) (T := TX12) (N := 91) hx hb hT iX12 hown hK hP 0 rfl rfl 90 (by decide) (hT _ t_129) (fun _ h9 => h9) rfl dX12_keep_147 ?_
      refine lv_iload_n hx hb dX12_keep_150 rfl (lv_at hl 0 rfl) ?_
      refine lv_aload_n hx hb dX12_keep_151 rfl (lv_at hl 1 rfl) ?_
      refine va_get (D := D) (ci := 12) (v := .ref (a 47)) (C := RX12) (T := TX12) (N := 91) hx hb hT iX12 hown hK hP 0 rfl rfl 59 (by decide) (hT _ t_130) (fun _ h9 => h9) rfl dX12_keep_152 ?_
      refine lv_iload_n hx hb dX12_keep_155 rfl (lv_at hl 0 rfl) ?_
      refine va_zald hx hb hK hP 47 2 rfl rfl (vp_inI (by omega) (by omega)) dX12_keep_156 ?_
      refine lv_topi (fun v_49 ev_49 => ?_)
      refine va_zast hx hb hK hP hD hS 72 2 rfl rfl (vp_inI (by omega) (by omega)) dX12_keep_157 (fun H locs hP hD hS => ?_)
      rw [mS72] at hP hD
      obtain ⟨x_50, ex_50⟩ : ∃ y : Int32, y = x46 + 1 := ⟨_, rfl⟩
      refine lv_iinc (v := x_50) (lv' := [(1, .int x_50), (0, .ref (a 0))]) hx hb dX12_keep_158 hl (k := 0) rfl (by rw [ex_50]; rfl) (by decide) rfl (fun ls hl => ?_)
      refine lv_goto (tgt := 140) hx hb dX12_keep_161 (by decide) ?_
      exact ih46 (j46 + 1) x_50 (va_up r46 72 (upd (r46 72) x46.toNatClampNeg (vp_nar .boolean v_49))) _ _ _ (by omega) (by rw [ex_50, hq46]; exact nI_1 j46) hP hD hS (lv_sub hl [0, 1] rfl)
  exact loop_46 30 0 0 r45 _ _ _ (by omega) rfl hP hD hS hl
end
section
theorem t_131 : Cond.fieldLink RX11 10 "DepositJudge" "prices" "LDepositJudge$PriceList;" ∈ gT := tm (List.mem_of_getElem? (i := 251) (by decide +kernel)) (by decide +kernel)
theorem t_132 : Cond.fieldLink RX11 97 "DepositJudge$PriceList" "lives" "[I" ∈ gT := tm (List.mem_of_getElem? (i := 35) (by decide +kernel)) (by decide +kernel)
theorem t_133 : Cond.constant RX11 100 (99999) ∈ gT := tm (List.mem_of_getElem? (i := 305) (by decide +kernel)) (by decide +kernel)
theorem t_134 : Cond.fieldLink RX11 101 "DepositJudge$PriceList" "pence" "[I" ∈ gT := tm (List.mem_of_getElem? (i := 37) (by decide +kernel)) (by decide +kernel)
theorem t_135 : Cond.constant RX11 273 (65535) ∈ gT := tm (List.mem_of_getElem? (i := 811) (by decide +kernel)) (by decide +kernel)
theorem t_136 : Cond.fieldLink RX9 15 "DepositJudge$Tape" "length" "I" ∈ gT := tm (List.mem_of_getElem? (i := 68) (by decide +kernel)) (by decide +kernel)
theorem t_137 : Cond.fieldLink RX9 9 "DepositJudge$Tape" "bytes" "[B" ∈ gT := tm (List.mem_of_getElem? (i := 66) (by decide +kernel)) (by decide +kernel)
theorem t_138 : Cond.code yX9_add cX9_add 3 none ∈ gT := tm (List.mem_of_getElem? (i := 464) (by decide +kernel)) (by decide +kernel)
theorem t_139 : Cond.initialized RX9 ∈ gT := tm (List.mem_of_getElem? (i := 4) (by decide +kernel)) (by decide +kernel)
theorem t_140 : Cond.methodLink RX11 144 yX9_add ∈ gT := tm (List.mem_of_getElem? (i := 461) (by decide +kernel)) (by decide +kernel)
theorem t_141 : Cond.instanceMethod yX9_add ∈ gT := tm (List.mem_of_getElem? (i := 462) (by decide +kernel)) (by decide +kernel)
theorem t_142 : Cond.selects RX9 yX9_add yX9_add ∈ gT := tm (List.mem_of_getElem? (i := 463) (by decide +kernel)) (by decide +kernel)
theorem t_143 : Cond.fieldLink RX2 15 "DepositJudge$Doubles" "times" "[I" ∈ gT := tm (List.mem_of_getElem? (i := 213) (by decide +kernel)) (by decide +kernel)
theorem t_144 : Cond.fieldLink RX2 19 "DepositJudge$Doubles" "apart" "[I" ∈ gT := tm (List.mem_of_getElem? (i := 215) (by decide +kernel)) (by decide +kernel)
theorem t_145 : Cond.methodLink RX2 25 Lib.Math.abs.name ∈ gT := tm (List.mem_of_getElem? (i := 829) (by decide +kernel)) (by decide +kernel)
theorem t_146 : Cond.static Lib.Math.abs.name ∈ gT := tm (List.mem_of_getElem? (i := 830) (by decide +kernel)) (by decide +kernel)
theorem t_147 : Cond.initialized "java/lang/Math" ∈ gT := tm (List.mem_of_getElem? (i := 14) (by decide +kernel)) (by decide +kernel)
theorem t_148 : Cond.code Lib.Math.abs.name Lib.Math.abs.code 1 (some .int) ∈ gT := tm (List.mem_of_getElem? (i := 831) (by decide +kernel)) (by decide +kernel)
theorem t_149 : Cond.fieldLink RX2 22 "DepositJudge$Doubles" "more" "[I" ∈ gT := tm (List.mem_of_getElem? (i := 217) (by decide +kernel)) (by decide +kernel)
theorem t_150 : Cond.code yX2_add cX2_add 3 none ∈ gT := tm (List.mem_of_getElem? (i := 828) (by decide +kernel)) (by decide +kernel)
theorem t_151 : Cond.initialized RX2 ∈ gT := tm (List.mem_of_getElem? (i := 9) (by decide +kernel)) (by decide +kernel)
theorem t_152 : Cond.methodLink RX11 283 yX2_add ∈ gT := tm (List.mem_of_getElem? (i := 825) (by decide +kernel)) (by decide +kernel)
theorem t_153 : Cond.instanceMethod yX2_add ∈ gT := tm (List.mem_of_getElem? (i := 826) (by decide +kernel)) (by decide +kernel)
theorem t_154 : Cond.selects RX2 yX2_add yX2_add ∈ gT := tm (List.mem_of_getElem? (i := 827) (by decide +kernel)) (by decide +kernel)
theorem t_155 : Cond.methodLink RX7 26 yX7_gap ∈ gT := tm (List.mem_of_getElem? (i := 860) (by decide +kernel)) (by decide +kernel)
theorem t_156 : Cond.constant RX7 25 (-1000000) ∈ gT := tm (List.mem_of_getElem? (i := 234) (by decide +kernel)) (by decide +kernel)
theorem t_157 : Cond.methodLink RX7 34 Lib.Math.max.name ∈ gT := tm (List.mem_of_getElem? (i := 868) (by decide +kernel)) (by decide +kernel)
theorem t_158 : Cond.static Lib.Math.max.name ∈ gT := tm (List.mem_of_getElem? (i := 551) (by decide +kernel)) (by decide +kernel)
theorem t_159 : Cond.code Lib.Math.max.name Lib.Math.max.code 2 (some .int) ∈ gT := tm (List.mem_of_getElem? (i := 552) (by decide +kernel)) (by decide +kernel)
theorem t_160 : Cond.fieldLink RX7 9 "DepositJudge$Pictures" "facts" "I" ∈ gT := tm (List.mem_of_getElem? (i := 235) (by decide +kernel)) (by decide +kernel)
theorem t_161 : Cond.fieldLink RX7 15 "DepositJudge$Pictures" "wrongCount" "I" ∈ gT := tm (List.mem_of_getElem? (i := 237) (by decide +kernel)) (by decide +kernel)
theorem t_162 : Cond.code yX7_stretch cX7_stretch 7 none ∈ gT := tm (List.mem_of_getElem? (i := 867) (by decide +kernel)) (by decide +kernel)
theorem t_163 : Cond.methodLink RX7 30 yX7_stretch ∈ gT := tm (List.mem_of_getElem? (i := 864) (by decide +kernel)) (by decide +kernel)
theorem t_164 : Cond.instanceMethod yX7_stretch ∈ gT := tm (List.mem_of_getElem? (i := 866) (by decide +kernel)) (by decide +kernel)
theorem t_165 : Cond.selects RX7 yX7_stretch yX7_stretch ∈ gT := tmp (List.mem_of_getElem? (i := 31) (by decide +kernel)) (by decide +kernel)
theorem t_166 : Cond.code yX7_add cX7_add 5 (some .int) ∈ gT := tm (List.mem_of_getElem? (i := 859) (by decide +kernel)) (by decide +kernel)
theorem t_167 : Cond.methodLink RX11 308 yX7_add ∈ gT := tm (List.mem_of_getElem? (i := 856) (by decide +kernel)) (by decide +kernel)
theorem t_168 : Cond.instanceMethod yX7_add ∈ gT := tm (List.mem_of_getElem? (i := 857) (by decide +kernel)) (by decide +kernel)
theorem t_169 : Cond.selects RX7 yX7_add yX7_add ∈ gT := tm (List.mem_of_getElem? (i := 858) (by decide +kernel)) (by decide +kernel)
theorem dX11_fact_0 : decode cX11_fact 0 = .ok (.iload_n 1, 1) := by decide +kernel
theorem dX11_fact_1 : decode cX11_fact 1 = .ok (.iconst 0, 1) := by decide +kernel
theorem dX11_fact_2 : decode cX11_fact 2 = .ok (.bipush 10, 2) := by decide +kernel
theorem dX11_fact_4 : decode cX11_fact 4 = .ok (.invokestatic 93, 3) := by decide +kernel
theorem dX11_fact_7 : decode cX11_fact 7 = .ok (.ifCond .eq 31, 3) := by decide +kernel
theorem dX11_fact_10 : decode cX11_fact 10 = .ok (.iload_n 2, 1) := by decide +kernel
theorem dX11_fact_11 : decode cX11_fact 11 = .ok (.iconst 0, 1) := by decide +kernel
theorem dX11_fact_12 : decode cX11_fact 12 = .ok (.bipush 10, 2) := by decide +kernel
theorem dX11_fact_14 : decode cX11_fact 14 = .ok (.invokestatic 93, 3) := by decide +kernel
theorem dX11_fact_17 : decode cX11_fact 17 = .ok (.ifCond .eq 21, 3) := by decide +kernel
theorem dX11_fact_20 : decode cX11_fact 20 = .ok (.iload_n 1, 1) := by decide +kernel
theorem dX11_fact_21 : decode cX11_fact 21 = .ok (.iload_n 2, 1) := by decide +kernel
theorem dX11_fact_22 : decode cX11_fact 22 = .ok (.if_icmp .eq 16, 3) := by decide +kernel
theorem dX11_fact_25 : decode cX11_fact 25 = .ok (.iload_n 3, 1) := by decide +kernel
theorem dX11_fact_26 : decode cX11_fact 26 = .ok (.sipush (-999), 3) := by decide +kernel
theorem dX11_fact_29 : decode cX11_fact 29 = .ok (.sipush 999, 3) := by decide +kernel
theorem dX11_fact_32 : decode cX11_fact 32 = .ok (.invokestatic 93, 3) := by decide +kernel
theorem dX11_fact_35 : decode cX11_fact 35 = .ok (.ifCond .ne 5, 3) := by decide +kernel
theorem dX11_fact_38 : decode cX11_fact 38 = .ok (.iconst (-1), 1) := by decide +kernel
theorem dX11_fact_39 : decode cX11_fact 39 = .ok (.ireturn, 1) := by decide +kernel
theorem dX11_fact_40 : decode cX11_fact 40 = .ok (.aload_n 0, 1) := by decide +kernel
theorem dX11_fact_41 : decode cX11_fact 41 = .ok (.getfield 89, 3) := by decide +kernel
theorem dX11_fact_44 : decode cX11_fact 44 = .ok (.iload_n 1, 1) := by decide +kernel
theorem dX11_fact_45 : decode cX11_fact 45 = .ok (.iload_n 2, 1) := by decide +kernel
theorem dX11_fact_46 : decode cX11_fact 46 = .ok (.iload_n 3, 1) := by decide +kernel
theorem dX11_fact_47 : decode cX11_fact 47 = .ok (.invokevirtual 308, 3) := by decide +kernel
theorem dX11_fact_50 : decode cX11_fact 50 = .ok (.ireturn, 1) := by decide +kernel
theorem dX11_feed_0 : decode cX11_feed 0 = .ok (.aload_n 0, 1) := by decide +kernel
theorem dX11_feed_1 : decode cX11_feed 1 = .ok (.getfield 36, 3) := by decide +kernel
theorem dX11_feed_4 : decode cX11_feed 4 = .ok (.getfield 141, 3) := by decide +kernel
theorem dX11_feed_7 : decode cX11_feed 7 = .ok (.sipush 200, 3) := by decide +kernel
theorem dX11_feed_10 : decode cX11_feed 10 = .ok (.if_icmp .le 5, 3) := by decide +kernel
theorem dX11_feed_15 : decode cX11_feed 15 = .ok (.aload_n 0, 1) := by decide +kernel
theorem dX11_feed_16 : decode cX11_feed 16 = .ok (.getfield 36, 3) := by decide +kernel
theorem dX11_feed_19 : decode cX11_feed 19 = .ok (.iload_n 1, 1) := by decide +kernel
theorem dX11_feed_20 : decode cX11_feed 20 = .ok (.invokevirtual 144, 3) := by decide +kernel
theorem dX11_feed_23 : decode cX11_feed 23 = .ok (.aload_n 0, 1) := by decide +kernel
theorem dX11_feed_24 : decode cX11_feed 24 = .ok (.getfield 36, 3) := by decide +kernel
theorem dX11_feed_27 : decode cX11_feed 27 = .ok (.iload_n 2, 1) := by decide +kernel
theorem dX11_feed_28 : decode cX11_feed 28 = .ok (.invokevirtual 144, 3) := by decide +kernel
theorem dX11_feed_31 : decode cX11_feed 31 = .ok (.aload_n 0, 1) := by decide +kernel
theorem dX11_feed_32 : decode cX11_feed 32 = .ok (.getfield 36, 3) := by decide +kernel
theorem dX11_feed_35 : decode cX11_feed 35 = .ok (.iload_n 3, 1) := by decide +kernel
theorem dX11_feed_36 : decode cX11_feed 36 = .ok (.invokevirtual 144, 3) := by decide +kernel
theorem dX11_feed_39 : decode cX11_feed 39 = .ok (.aload_n 0, 1) := by decide +kernel
theorem dX11_feed_40 : decode cX11_feed 40 = .ok (.getfield 36, 3) := by decide +kernel
theorem dX11_feed_43 : decode cX11_feed 43 = .ok (.iload 4, 2) := by decide +kernel
theorem dX11_feed_45 : decode cX11_feed 45 = .ok (.invokevirtual 144, 3) := by decide +kernel
theorem dX11_feed_48 : decode cX11_feed 48 = .ok (.aload_n 0, 1) := by decide +kernel
theorem dX11_feed_49 : decode cX11_feed 49 = .ok (.getfield 36, 3) := by decide +kernel
theorem dX11_feed_52 : decode cX11_feed 52 = .ok (.iload 5, 2) := by decide +kernel
theorem dX11_feed_54 : decode cX11_feed 54 = .ok (.invokevirtual 144, 3) := by decide +kernel
theorem dX11_feed_57 : decode cX11_feed 57 = .ok (.aload_n 0, 1) := by decide +kernel
theorem dX11_feed_58 : decode cX11_feed 58 = .ok (.getfield 36, 3) := by decide +kernel
theorem dX11_feed_61 : decode cX11_feed 61 = .ok (.getfield 141, 3) := by decide +kernel
theorem dX11_feed_64 : decode cX11_feed 64 = .ok (.ireturn, 1) := by decide +kernel
theorem dX11_life_0 : decode cX11_life 0 = .ok (.iload_n 1, 1) := by decide +kernel
theorem dX11_life_1 : decode cX11_life 1 = .ok (.iconst 0, 1) := by decide +kernel
theorem dX11_life_2 : decode cX11_life 2 = .ok (.bipush 7, 2) := by decide +kernel
theorem dX11_life_4 : decode cX11_life 4 = .ok (.invokestatic 93, 3) := by decide +kernel
theorem dX11_life_7 : decode cX11_life 7 = .ok (.ifCond .eq 14, 3) := by decide +kernel
theorem dX11_life_10 : decode cX11_life 10 = .ok (.iload_n 2, 1) := by decide +kernel
theorem dX11_life_11 : decode cX11_life 11 = .ok (.iconst 1, 1) := by decide +kernel
theorem dX11_life_12 : decode cX11_life 12 = .ok (.sipush 360, 3) := by decide +kernel
theorem dX11_life_15 : decode cX11_life 15 = .ok (.invokestatic 93, 3) := by decide +kernel
theorem dX11_life_18 : decode cX11_life 18 = .ok (.ifCond .ne 5, 3) := by decide +kernel
theorem dX11_life_21 : decode cX11_life 21 = .ok (.iconst 0, 1) := by decide +kernel
theorem dX11_life_22 : decode cX11_life 22 = .ok (.ireturn, 1) := by decide +kernel
theorem dX11_life_23 : decode cX11_life 23 = .ok (.aload_n 0, 1) := by decide +kernel
theorem dX11_life_24 : decode cX11_life 24 = .ok (.getfield 10, 3) := by decide +kernel
theorem dX11_life_27 : decode cX11_life 27 = .ok (.getfield 97, 3) := by decide +kernel
theorem dX11_life_30 : decode cX11_life 30 = .ok (.iload_n 1, 1) := by decide +kernel
theorem dX11_life_31 : decode cX11_life 31 = .ok (.iload_n 2, 1) := by decide +kernel
theorem dX11_life_32 : decode cX11_life 32 = .ok (.iastore, 1) := by decide +kernel
theorem dX11_life_33 : decode cX11_life 33 = .ok (.iconst 1, 1) := by decide +kernel
theorem dX11_life_34 : decode cX11_life 34 = .ok (.ireturn, 1) := by decide +kernel
theorem dX11_price_0 : decode cX11_price 0 = .ok (.iload_n 1, 1) := by decide +kernel
theorem dX11_price_1 : decode cX11_price 1 = .ok (.iconst 0, 1) := by decide +kernel
theorem dX11_price_2 : decode cX11_price 2 = .ok (.bipush 7, 2) := by decide +kernel
theorem dX11_price_4 : decode cX11_price 4 = .ok (.invokestatic 93, 3) := by decide +kernel
theorem dX11_price_7 : decode cX11_price 7 = .ok (.ifCond .eq 22, 3) := by decide +kernel
theorem dX11_price_10 : decode cX11_price 10 = .ok (.iload_n 2, 1) := by decide +kernel
theorem dX11_price_11 : decode cX11_price 11 = .ok (.iconst 0, 1) := by decide +kernel
theorem dX11_price_12 : decode cX11_price 12 = .ok (.iconst 3, 1) := by decide +kernel
theorem dX11_price_13 : decode cX11_price 13 = .ok (.invokestatic 93, 3) := by decide +kernel
theorem dX11_price_16 : decode cX11_price 16 = .ok (.ifCond .eq 13, 3) := by decide +kernel
theorem dX11_price_19 : decode cX11_price 19 = .ok (.iload_n 3, 1) := by decide +kernel
theorem dX11_price_20 : decode cX11_price 20 = .ok (.iconst 0, 1) := by decide +kernel
theorem dX11_price_21 : decode cX11_price 21 = .ok (.ldc 100, 2) := by decide +kernel
theorem dX11_price_23 : decode cX11_price 23 = .ok (.invokestatic 93, 3) := by decide +kernel
theorem dX11_price_26 : decode cX11_price 26 = .ok (.ifCond .ne 5, 3) := by decide +kernel
theorem dX11_price_29 : decode cX11_price 29 = .ok (.iconst 0, 1) := by decide +kernel
theorem dX11_price_30 : decode cX11_price 30 = .ok (.ireturn, 1) := by decide +kernel
theorem dX11_price_31 : decode cX11_price 31 = .ok (.aload_n 0, 1) := by decide +kernel
theorem dX11_price_32 : decode cX11_price 32 = .ok (.getfield 10, 3) := by decide +kernel
theorem dX11_price_35 : decode cX11_price 35 = .ok (.getfield 101, 3) := by decide +kernel
theorem dX11_price_38 : decode cX11_price 38 = .ok (.iload_n 1, 1) := by decide +kernel
theorem dX11_price_39 : decode cX11_price 39 = .ok (.iconst 4, 1) := by decide +kernel
theorem dX11_price_40 : decode cX11_price 40 = .ok (.imul, 1) := by decide +kernel
theorem dX11_price_41 : decode cX11_price 41 = .ok (.iload_n 2, 1) := by decide +kernel
theorem dX11_price_42 : decode cX11_price 42 = .ok (.iadd, 1) := by decide +kernel
theorem dX11_price_43 : decode cX11_price 43 = .ok (.iload_n 3, 1) := by decide +kernel
theorem dX11_price_44 : decode cX11_price 44 = .ok (.iastore, 1) := by decide +kernel
theorem dX11_price_45 : decode cX11_price 45 = .ok (.iconst 1, 1) := by decide +kernel
theorem dX11_price_46 : decode cX11_price 46 = .ok (.ireturn, 1) := by decide +kernel
theorem dX11_seed_0 : decode cX11_seed 0 = .ok (.iload_n 1, 1) := by decide +kernel
theorem dX11_seed_1 : decode cX11_seed 1 = .ok (.iconst 0, 1) := by decide +kernel
theorem dX11_seed_2 : decode cX11_seed 2 = .ok (.ldc_w 273, 3) := by decide +kernel
theorem dX11_seed_5 : decode cX11_seed 5 = .ok (.invokestatic 93, 3) := by decide +kernel
theorem dX11_seed_8 : decode cX11_seed 8 = .ok (.ifCond .ne 5, 3) := by decide +kernel
theorem dX11_seed_11 : decode cX11_seed 11 = .ok (.iconst 0, 1) := by decide +kernel
theorem dX11_seed_12 : decode cX11_seed 12 = .ok (.ireturn, 1) := by decide +kernel
theorem dX11_seed_13 : decode cX11_seed 13 = .ok (.aload_n 0, 1) := by decide +kernel
theorem dX11_seed_14 : decode cX11_seed 14 = .ok (.getfield 61, 3) := by decide +kernel
theorem dX11_seed_17 : decode cX11_seed 17 = .ok (.iload_n 1, 1) := by decide +kernel
theorem dX11_seed_18 : decode cX11_seed 18 = .ok (.putfield 274, 3) := by decide +kernel
theorem dX11_seed_21 : decode cX11_seed 21 = .ok (.iconst 1, 1) := by decide +kernel
theorem dX11_seed_22 : decode cX11_seed 22 = .ok (.ireturn, 1) := by decide +kernel
theorem dX11_twice_0 : decode cX11_twice 0 = .ok (.iload_n 1, 1) := by decide +kernel
theorem dX11_twice_1 : decode cX11_twice 1 = .ok (.iconst 0, 1) := by decide +kernel
theorem dX11_twice_2 : decode cX11_twice 2 = .ok (.iconst 5, 1) := by decide +kernel
theorem dX11_twice_3 : decode cX11_twice 3 = .ok (.invokestatic 93, 3) := by decide +kernel
theorem dX11_twice_6 : decode cX11_twice 6 = .ok (.ifCond .eq 52, 3) := by decide +kernel
theorem dX11_twice_9 : decode cX11_twice 9 = .ok (.iload_n 2, 1) := by decide +kernel
theorem dX11_twice_10 : decode cX11_twice 10 = .ok (.iconst 0, 1) := by decide +kernel
theorem dX11_twice_11 : decode cX11_twice 11 = .ok (.iconst 5, 1) := by decide +kernel
theorem dX11_twice_12 : decode cX11_twice 12 = .ok (.invokestatic 93, 3) := by decide +kernel
theorem dX11_twice_15 : decode cX11_twice 15 = .ok (.ifCond .eq 43, 3) := by decide +kernel
theorem dX11_twice_18 : decode cX11_twice 18 = .ok (.iload_n 1, 1) := by decide +kernel
theorem dX11_twice_19 : decode cX11_twice 19 = .ok (.iload_n 2, 1) := by decide +kernel
theorem dX11_twice_20 : decode cX11_twice 20 = .ok (.if_icmp .eq 38, 3) := by decide +kernel
theorem dX11_twice_23 : decode cX11_twice 23 = .ok (.iload_n 3, 1) := by decide +kernel
theorem dX11_twice_24 : decode cX11_twice 24 = .ok (.iconst 0, 1) := by decide +kernel
theorem dX11_twice_25 : decode cX11_twice 25 = .ok (.sipush 9999, 3) := by decide +kernel
theorem dX11_twice_28 : decode cX11_twice 28 = .ok (.invokestatic 93, 3) := by decide +kernel
theorem dX11_twice_31 : decode cX11_twice 31 = .ok (.ifCond .eq 27, 3) := by decide +kernel
theorem dX11_twice_34 : decode cX11_twice 34 = .ok (.iload 4, 2) := by decide +kernel
theorem dX11_twice_36 : decode cX11_twice 36 = .ok (.iconst 0, 1) := by decide +kernel
theorem dX11_twice_37 : decode cX11_twice 37 = .ok (.sipush 9999, 3) := by decide +kernel
theorem dX11_twice_40 : decode cX11_twice 40 = .ok (.invokestatic 93, 3) := by decide +kernel
theorem dX11_twice_43 : decode cX11_twice 43 = .ok (.ifCond .eq 15, 3) := by decide +kernel
theorem dX11_twice_46 : decode cX11_twice 46 = .ok (.aload_n 0, 1) := by decide +kernel
theorem dX11_twice_47 : decode cX11_twice 47 = .ok (.getfield 82, 3) := by decide +kernel
theorem dX11_twice_50 : decode cX11_twice 50 = .ok (.getfield 282, 3) := by decide +kernel
theorem dX11_twice_53 : decode cX11_twice 53 = .ok (.bipush 40, 2) := by decide +kernel
theorem dX11_twice_55 : decode cX11_twice 55 = .ok (.if_icmp .lt 5, 3) := by decide +kernel
theorem dX11_twice_58 : decode cX11_twice 58 = .ok (.iconst (-1), 1) := by decide +kernel
theorem dX11_twice_59 : decode cX11_twice 59 = .ok (.ireturn, 1) := by decide +kernel
theorem dX11_twice_60 : decode cX11_twice 60 = .ok (.aload_n 0, 1) := by decide +kernel
theorem dX11_twice_61 : decode cX11_twice 61 = .ok (.getfield 82, 3) := by decide +kernel
theorem dX11_twice_64 : decode cX11_twice 64 = .ok (.dup, 1) := by decide +kernel
theorem dX11_twice_65 : decode cX11_twice 65 = .ok (.getfield 282, 3) := by decide +kernel
theorem dX11_twice_68 : decode cX11_twice 68 = .ok (.iconst 1, 1) := by decide +kernel
theorem dX11_twice_69 : decode cX11_twice 69 = .ok (.iadd, 1) := by decide +kernel
theorem dX11_twice_70 : decode cX11_twice 70 = .ok (.putfield 282, 3) := by decide +kernel
theorem dX11_twice_73 : decode cX11_twice 73 = .ok (.aload_n 0, 1) := by decide +kernel
theorem dX11_twice_74 : decode cX11_twice 74 = .ok (.getfield 82, 3) := by decide +kernel
theorem dX11_twice_77 : decode cX11_twice 77 = .ok (.iload_n 1, 1) := by decide +kernel
theorem dX11_twice_78 : decode cX11_twice 78 = .ok (.iload_n 3, 1) := by decide +kernel
theorem dX11_twice_79 : decode cX11_twice 79 = .ok (.iload 4, 2) := by decide +kernel
theorem dX11_twice_81 : decode cX11_twice 81 = .ok (.isub, 1) := by decide +kernel
theorem dX11_twice_82 : decode cX11_twice 82 = .ok (.invokevirtual 283, 3) := by decide +kernel
theorem dX11_twice_85 : decode cX11_twice 85 = .ok (.aload_n 0, 1) := by decide +kernel
theorem dX11_twice_86 : decode cX11_twice 86 = .ok (.getfield 82, 3) := by decide +kernel
theorem dX11_twice_89 : decode cX11_twice 89 = .ok (.iload_n 2, 1) := by decide +kernel
theorem dX11_twice_90 : decode cX11_twice 90 = .ok (.iload 4, 2) := by decide +kernel
theorem dX11_twice_92 : decode cX11_twice 92 = .ok (.iload_n 3, 1) := by decide +kernel
theorem dX11_twice_93 : decode cX11_twice 93 = .ok (.isub, 1) := by decide +kernel
theorem dX11_twice_94 : decode cX11_twice 94 = .ok (.invokevirtual 283, 3) := by decide +kernel
theorem dX11_twice_97 : decode cX11_twice 97 = .ok (.aload_n 0, 1) := by decide +kernel
theorem dX11_twice_98 : decode cX11_twice 98 = .ok (.getfield 82, 3) := by decide +kernel
theorem dX11_twice_101 : decode cX11_twice 101 = .ok (.getfield 282, 3) := by decide +kernel
theorem dX11_twice_104 : decode cX11_twice 104 = .ok (.ireturn, 1) := by decide +kernel
theorem dX2_add_0 : decode cX2_add 0 = .ok (.aload_n 0, 1) := by decide +kernel
theorem dX2_add_1 : decode cX2_add 1 = .ok (.getfield 15, 3) := by decide +kernel
theorem dX2_add_4 : decode cX2_add 4 = .ok (.iload_n 1, 1) := by decide +kernel
theorem dX2_add_5 : decode cX2_add 5 = .ok (.dup2, 1) := by decide +kernel
theorem dX2_add_6 : decode cX2_add 6 = .ok (.iaload, 1) := by decide +kernel
theorem dX2_add_7 : decode cX2_add 7 = .ok (.iconst 1, 1) := by decide +kernel
theorem dX2_add_8 : decode cX2_add 8 = .ok (.iadd, 1) := by decide +kernel
theorem dX2_add_9 : decode cX2_add 9 = .ok (.iastore, 1) := by decide +kernel
theorem dX2_add_10 : decode cX2_add 10 = .ok (.aload_n 0, 1) := by decide +kernel
theorem dX2_add_11 : decode cX2_add 11 = .ok (.getfield 19, 3) := by decide +kernel
theorem dX2_add_14 : decode cX2_add 14 = .ok (.iload_n 1, 1) := by decide +kernel
theorem dX2_add_15 : decode cX2_add 15 = .ok (.dup2, 1) := by decide +kernel
theorem dX2_add_16 : decode cX2_add 16 = .ok (.iaload, 1) := by decide +kernel
theorem dX2_add_17 : decode cX2_add 17 = .ok (.iload_n 2, 1) := by decide +kernel
theorem dX2_add_18 : decode cX2_add 18 = .ok (.invokestatic 25, 3) := by decide +kernel
theorem dX2_add_21 : decode cX2_add 21 = .ok (.iadd, 1) := by decide +kernel
theorem dX2_add_22 : decode cX2_add 22 = .ok (.iastore, 1) := by decide +kernel
theorem dX2_add_23 : decode cX2_add 23 = .ok (.aload_n 0, 1) := by decide +kernel
theorem dX2_add_24 : decode cX2_add 24 = .ok (.getfield 22, 3) := by decide +kernel
theorem dX2_add_27 : decode cX2_add 27 = .ok (.iload_n 1, 1) := by decide +kernel
theorem dX2_add_28 : decode cX2_add 28 = .ok (.dup2, 1) := by decide +kernel
theorem dX2_add_29 : decode cX2_add 29 = .ok (.iaload, 1) := by decide +kernel
theorem dX2_add_30 : decode cX2_add 30 = .ok (.iload_n 2, 1) := by decide +kernel
theorem dX2_add_31 : decode cX2_add 31 = .ok (.iadd, 1) := by decide +kernel
theorem dX2_add_32 : decode cX2_add 32 = .ok (.iastore, 1) := by decide +kernel
theorem dX2_add_33 : decode cX2_add 33 = .ok (.return_, 1) := by decide +kernel
theorem dX7_add_0 : decode cX7_add 0 = .ok (.aload_n 0, 1) := by decide +kernel
theorem dX7_add_1 : decode cX7_add 1 = .ok (.getfield 9, 3) := by decide +kernel
theorem dX7_add_4 : decode cX7_add 4 = .ok (.bipush 30, 2) := by decide +kernel
theorem dX7_add_6 : decode cX7_add 6 = .ok (.if_icmp .ge 12, 3) := by decide +kernel
theorem dX7_add_9 : decode cX7_add 9 = .ok (.aload_n 0, 1) := by decide +kernel
theorem dX7_add_10 : decode cX7_add 10 = .ok (.getfield 15, 3) := by decide +kernel
theorem dX7_add_13 : decode cX7_add 13 = .ok (.bipush 30, 2) := by decide +kernel
theorem dX7_add_15 : decode cX7_add 15 = .ok (.if_icmp .lt 5, 3) := by decide +kernel
theorem dX7_add_20 : decode cX7_add 20 = .ok (.aload_n 0, 1) := by decide +kernel
theorem dX7_add_21 : decode cX7_add 21 = .ok (.iload_n 2, 1) := by decide +kernel
theorem dX7_add_22 : decode cX7_add 22 = .ok (.iload_n 1, 1) := by decide +kernel
theorem dX7_add_23 : decode cX7_add 23 = .ok (.invokevirtual 26, 3) := by decide +kernel
theorem dX7_add_26 : decode cX7_add 26 = .ok (.istore 4, 2) := by decide +kernel
theorem dX7_add_28 : decode cX7_add 28 = .ok (.iload 4, 2) := by decide +kernel
theorem dX7_add_30 : decode cX7_add 30 = .ok (.ldc 25, 2) := by decide +kernel
theorem dX7_add_32 : decode cX7_add 32 = .ok (.if_icmp .eq 36, 3) := by decide +kernel
theorem dX7_add_68 : decode cX7_add 68 = .ok (.aload_n 0, 1) := by decide +kernel
theorem dX7_add_69 : decode cX7_add 69 = .ok (.iload_n 1, 1) := by decide +kernel
theorem dX7_add_70 : decode cX7_add 70 = .ok (.iload_n 2, 1) := by decide +kernel
theorem dX7_add_71 : decode cX7_add 71 = .ok (.iload_n 3, 1) := by decide +kernel
theorem dX7_add_72 : decode cX7_add 72 = .ok (.invokevirtual 30, 3) := by decide +kernel
theorem dX7_add_75 : decode cX7_add 75 = .ok (.aload_n 0, 1) := by decide +kernel
theorem dX7_add_76 : decode cX7_add 76 = .ok (.dup, 1) := by decide +kernel
theorem dX7_add_77 : decode cX7_add 77 = .ok (.getfield 9, 3) := by decide +kernel
theorem dX7_add_80 : decode cX7_add 80 = .ok (.iconst 1, 1) := by decide +kernel
theorem dX7_add_81 : decode cX7_add 81 = .ok (.iadd, 1) := by decide +kernel
theorem dX7_add_82 : decode cX7_add 82 = .ok (.putfield 9, 3) := by decide +kernel
theorem dX7_add_85 : decode cX7_add 85 = .ok (.aload_n 0, 1) := by decide +kernel
theorem dX7_add_86 : decode cX7_add 86 = .ok (.getfield 9, 3) := by decide +kernel
theorem dX7_add_89 : decode cX7_add 89 = .ok (.ireturn, 1) := by decide +kernel
theorem dX7_stretch_0 : decode cX7_stretch 0 = .ok (.iconst 0, 1) := by decide +kernel
theorem dX7_stretch_1 : decode cX7_stretch 1 = .ok (.istore 4, 2) := by decide +kernel
theorem dX7_stretch_3 : decode cX7_stretch 3 = .ok (.iload 4, 2) := by decide +kernel
theorem dX7_stretch_5 : decode cX7_stretch 5 = .ok (.bipush 11, 2) := by decide +kernel
theorem dX7_stretch_7 : decode cX7_stretch 7 = .ok (.if_icmp .ge 94, 3) := by decide +kernel
theorem dX7_stretch_10 : decode cX7_stretch 10 = .ok (.iconst 0, 1) := by decide +kernel
theorem dX7_stretch_11 : decode cX7_stretch 11 = .ok (.istore 5, 2) := by decide +kernel
theorem dX7_stretch_13 : decode cX7_stretch 13 = .ok (.iload 5, 2) := by decide +kernel
theorem dX7_stretch_15 : decode cX7_stretch 15 = .ok (.bipush 11, 2) := by decide +kernel
theorem dX7_stretch_17 : decode cX7_stretch 17 = .ok (.if_icmp .ge 78, 3) := by decide +kernel
theorem dX7_stretch_20 : decode cX7_stretch 20 = .ok (.aload_n 0, 1) := by decide +kernel
theorem dX7_stretch_21 : decode cX7_stretch 21 = .ok (.iload 4, 2) := by decide +kernel
theorem dX7_stretch_23 : decode cX7_stretch 23 = .ok (.iload_n 1, 1) := by decide +kernel
theorem dX7_stretch_24 : decode cX7_stretch 24 = .ok (.invokevirtual 26, 3) := by decide +kernel
theorem dX7_stretch_27 : decode cX7_stretch 27 = .ok (.ldc 25, 2) := by decide +kernel
theorem dX7_stretch_29 : decode cX7_stretch 29 = .ok (.if_icmp .eq 60, 3) := by decide +kernel
theorem dX7_stretch_32 : decode cX7_stretch 32 = .ok (.aload_n 0, 1) := by decide +kernel
theorem dX7_stretch_33 : decode cX7_stretch 33 = .ok (.iload_n 2, 1) := by decide +kernel
theorem dX7_stretch_34 : decode cX7_stretch 34 = .ok (.iload 5, 2) := by decide +kernel
theorem dX7_stretch_36 : decode cX7_stretch 36 = .ok (.invokevirtual 26, 3) := by decide +kernel
theorem dX7_stretch_39 : decode cX7_stretch 39 = .ok (.ldc 25, 2) := by decide +kernel
theorem dX7_stretch_41 : decode cX7_stretch 41 = .ok (.if_icmp .eq 48, 3) := by decide +kernel
theorem dX7_stretch_44 : decode cX7_stretch 44 = .ok (.aload_n 0, 1) := by decide +kernel
theorem dX7_stretch_45 : decode cX7_stretch 45 = .ok (.iload 4, 2) := by decide +kernel
theorem dX7_stretch_47 : decode cX7_stretch 47 = .ok (.iload_n 1, 1) := by decide +kernel
theorem dX7_stretch_48 : decode cX7_stretch 48 = .ok (.invokevirtual 26, 3) := by decide +kernel
theorem dX7_stretch_51 : decode cX7_stretch 51 = .ok (.iload_n 3, 1) := by decide +kernel
theorem dX7_stretch_52 : decode cX7_stretch 52 = .ok (.iadd, 1) := by decide +kernel
theorem dX7_stretch_53 : decode cX7_stretch 53 = .ok (.aload_n 0, 1) := by decide +kernel
theorem dX7_stretch_54 : decode cX7_stretch 54 = .ok (.iload_n 2, 1) := by decide +kernel
theorem dX7_stretch_55 : decode cX7_stretch 55 = .ok (.iload 5, 2) := by decide +kernel
theorem dX7_stretch_57 : decode cX7_stretch 57 = .ok (.invokevirtual 26, 3) := by decide +kernel
theorem dX7_stretch_60 : decode cX7_stretch 60 = .ok (.iadd, 1) := by decide +kernel
theorem dX7_stretch_61 : decode cX7_stretch 61 = .ok (.istore 6, 2) := by decide +kernel
theorem dX7_stretch_63 : decode cX7_stretch 63 = .ok (.aload_n 0, 1) := by decide +kernel
theorem dX7_stretch_64 : decode cX7_stretch 64 = .ok (.getfield 22, 3) := by decide +kernel
theorem dX7_stretch_67 : decode cX7_stretch 67 = .ok (.iload 4, 2) := by decide +kernel
theorem dX7_stretch_69 : decode cX7_stretch 69 = .ok (.bipush 11, 2) := by decide +kernel
theorem dX7_stretch_71 : decode cX7_stretch 71 = .ok (.imul, 1) := by decide +kernel
theorem dX7_stretch_72 : decode cX7_stretch 72 = .ok (.iload 5, 2) := by decide +kernel
theorem dX7_stretch_74 : decode cX7_stretch 74 = .ok (.iadd, 1) := by decide +kernel
theorem dX7_stretch_75 : decode cX7_stretch 75 = .ok (.aload_n 0, 1) := by decide +kernel
theorem dX7_stretch_76 : decode cX7_stretch 76 = .ok (.iload 4, 2) := by decide +kernel
theorem dX7_stretch_78 : decode cX7_stretch 78 = .ok (.iload 5, 2) := by decide +kernel
theorem dX7_stretch_80 : decode cX7_stretch 80 = .ok (.invokevirtual 26, 3) := by decide +kernel
theorem dX7_stretch_83 : decode cX7_stretch 83 = .ok (.iload 6, 2) := by decide +kernel
theorem dX7_stretch_85 : decode cX7_stretch 85 = .ok (.invokestatic 34, 3) := by decide +kernel
theorem dX7_stretch_88 : decode cX7_stretch 88 = .ok (.iastore, 1) := by decide +kernel
theorem dX7_stretch_89 : decode cX7_stretch 89 = .ok (.iinc 5 1, 3) := by decide +kernel
theorem dX7_stretch_92 : decode cX7_stretch 92 = .ok (.goto (-79), 3) := by decide +kernel
theorem dX7_stretch_95 : decode cX7_stretch 95 = .ok (.iinc 4 1, 3) := by decide +kernel
theorem dX7_stretch_98 : decode cX7_stretch 98 = .ok (.goto (-95), 3) := by decide +kernel
theorem dX7_stretch_101 : decode cX7_stretch 101 = .ok (.return_, 1) := by decide +kernel
theorem dX9_add_0 : decode cX9_add 0 = .ok (.bipush 24, 2) := by decide +kernel
theorem dX9_add_2 : decode cX9_add 2 = .ok (.istore_n 2, 1) := by decide +kernel
theorem dX9_add_3 : decode cX9_add 3 = .ok (.iload_n 2, 1) := by decide +kernel
theorem dX9_add_4 : decode cX9_add 4 = .ok (.ifCond .lt 42, 3) := by decide +kernel
theorem dX9_add_7 : decode cX9_add 7 = .ok (.aload_n 0, 1) := by decide +kernel
theorem dX9_add_8 : decode cX9_add 8 = .ok (.getfield 15, 3) := by decide +kernel
theorem dX9_add_11 : decode cX9_add 11 = .ok (.sipush 220, 3) := by decide +kernel
theorem dX9_add_14 : decode cX9_add 14 = .ok (.if_icmp .ge 32, 3) := by decide +kernel
theorem dX9_add_17 : decode cX9_add 17 = .ok (.aload_n 0, 1) := by decide +kernel
theorem dX9_add_18 : decode cX9_add 18 = .ok (.getfield 9, 3) := by decide +kernel
theorem dX9_add_21 : decode cX9_add 21 = .ok (.aload_n 0, 1) := by decide +kernel
theorem dX9_add_22 : decode cX9_add 22 = .ok (.getfield 15, 3) := by decide +kernel
theorem dX9_add_25 : decode cX9_add 25 = .ok (.iload_n 1, 1) := by decide +kernel
theorem dX9_add_26 : decode cX9_add 26 = .ok (.iload_n 2, 1) := by decide +kernel
theorem dX9_add_27 : decode cX9_add 27 = .ok (.ishr, 1) := by decide +kernel
theorem dX9_add_28 : decode cX9_add 28 = .ok (.i2b, 1) := by decide +kernel
theorem dX9_add_29 : decode cX9_add 29 = .ok (.bastore, 1) := by decide +kernel
theorem dX9_add_30 : decode cX9_add 30 = .ok (.aload_n 0, 1) := by decide +kernel
theorem dX9_add_31 : decode cX9_add 31 = .ok (.dup, 1) := by decide +kernel
theorem dX9_add_32 : decode cX9_add 32 = .ok (.getfield 15, 3) := by decide +kernel
theorem dX9_add_35 : decode cX9_add 35 = .ok (.iconst 1, 1) := by decide +kernel
theorem dX9_add_36 : decode cX9_add 36 = .ok (.iadd, 1) := by decide +kernel
theorem dX9_add_37 : decode cX9_add 37 = .ok (.putfield 15, 3) := by decide +kernel
theorem dX9_add_40 : decode cX9_add 40 = .ok (.iinc 2 (-8), 3) := by decide +kernel
theorem dX9_add_43 : decode cX9_add 43 = .ok (.goto (-40), 3) := by decide +kernel
theorem dX9_add_46 : decode cX9_add 46 = .ok (.return_, 1) := by decide +kernel
set_option maxHeartbeats 4000000 in
set_option maxRecDepth 100000 in
theorem c_X11_life (l : Launch) (D : va_G) (cy : Nat → ClassId) (a : Nat → Nat) (i : Nat → Int32) (r : Nat → Nat → Int32) (q : Nat → Option Nat) (p0 p1 : Int32) (sz : Nat) (hf : xZ i) (hg : xZr r) : Met l yX11_life (Cond.code yX11_life cX11_life 3 (some .boolean) :: gT) { frames := 2, cells := 0, slots := 0, locals := 46 } (va_Pc [.ref (a 0), .int p0, .int p1] (rQ D cy (xW cy a i r q (a 20) (a 12)) sz)) (va_Qi (fun (z : Int32) (u : Unit) => BR z ((0 ≤ p0.toInt ∧ p0.toInt ≤ 7) ∧ (1 ≤ p1.toInt ∧ p1.toInt ≤ 360)) 1 0) (fun _ _ => True) (va_A (xW cy a i r q (a 20) (a 12)) sz)) 0 0 (va_A (xW cy a i r q (a 20) (a 12)) sz) := by
  refine Met.ofQ (cc := cX11_life) (maxL := 3) (ret := (some .boolean)) (by decide) rfl ?_
  intro p e s m args below meth c s₁ B hml hv Q hQ
  obtain ⟨rfl, hsz, hP, hK, hD0⟩ := hv
  have hx := B.exec
  have hb := B.bytes
  have hr := B.returns
  have hlocks := B.notSynchronized
  have hT : ∀ w ∈ gT, w.before _ s = true := fun w h => atoms_spec (ws := (Cond.code yX11_life cX11_life 3 (some .boolean) :: gT)) B.pre w (List.mem_cons_of_mem _ h)
  have hown : s.vm.findClass RX11 = some m.cls := findClass_of_methodNamed B.named
  subst hsz
  have hD := hD0.self (sz := s.heap.size)
  generalize hAe : va_A (xW cy a i r q (a 20) (a 12)) s.heap.size = A at hD hQ
  have hA : ∀ q : Nat, s.heap.size ≤ q → A q := fun q h => by rw [← hAe]; exact Or.inr h
  have hS : va_S A s.heap s.heap [] := va_S.rf
  have hl := lv_entry ([.ref (a 0), .int p0, .int p1]) (n := 3) (Nat.le_of_ble_eq_true rfl)
  rw [lg_entry_eq]
  generalize (lg_sl ([.ref (a 0), .int p0, .int p1]) ++ List.replicate (3 - (lg_sl ([.ref (a 0), .int p0, .int p1])).length) Slot.unset).toArray = ls at hl ⊢
  have hl : lv_has ls 3 [(0, .ref (a 0)), (1, .int p0), (2, .int p1)] := hl
  refine lv_iload_n hx hb dX11_life_0 rfl (lv_at hl 1 rfl) ?_
  refine lv_iconst (v := 0) hx hb dX11_life_1 (by decide) ?_
  refine lv_bipush (v := 7) hx hb dX11_life_2 (by decide) ?_
  refine vp_callSi (W.runS (As := [.int p0, .int 0, .int 7]) (rest := []) ⟨hx, hb, hml, hown, hT⟩ (c_X11_within l p0 0 7) (va_cwS 3 hT (gS t_1 t_3 t_4 t_2) rfl rfl rfl (by decide +kernel) ⟨Nat.le_of_ble_eq_true rfl, Nat.le_of_ble_eq_true rfl⟩) preT rfl rfl hl.1 rfl (lv_room (Nat.le_of_ble_eq_true rfl)) dX11_life_4 ⟨Nat.le_of_ble_eq_true rfl, Nat.le_of_ble_eq_true rfl⟩) (fun r_1 hr_1 => ?_)
  have hr_1 : BR r_1 (0 ≤ p0.toInt ∧ p0.toInt ≤ 7) 1 0 := hr_1
  rcases hr_1 with ⟨rfl, h_2⟩ | ⟨rfl, h_2⟩
  · skip
    refine lv_if_eq (tgt := 21) hx hb dX11_life_7 (by decide) (fun c_3 => absurd c_3 (by decide)) (fun c_3 => ?_)
    refine lv_iload_n hx hb dX11_life_10 rfl (lv_at hl 2 rfl) ?_
    refine lv_iconst (v := 1) hx hb dX11_life_11 (by decide) ?_
    refine lv_sipush (v := 360) hx hb dX11_life_12 (by decide) ?_
    refine vp_callSi (W.runS (As := [.int p1, .int 1, .int 360]) (rest := []) ⟨hx, hb, hml, hown, hT⟩ (c_X11_within l p1 1 360) (va_cwS 3 hT (gS t_1 t_3 t_4 t_2) rfl rfl rfl (by decide +kernel) ⟨Nat.le_of_ble_eq_true rfl, Nat.le_of_ble_eq_true rfl⟩) preT rfl rfl hl.1 rfl (lv_room (Nat.le_of_ble_eq_true rfl)) dX11_life_15 ⟨Nat.le_of_ble_eq_true rfl, Nat.le_of_ble_eq_true rfl⟩) (fun r_4 hr_4 => ?_)
    have hr_4 : BR r_4 (1 ≤ p1.toInt ∧ p1.toInt ≤ 360) 1 0 := hr_4
    rcases hr_4 with ⟨rfl, h_5⟩ | ⟨rfl, h_5⟩
    · skip
      refine lv_if_ne (tgt := 23) hx hb dX11_life_18 (by decide) (fun c_6 => ?_) (fun c_6 => absurd c_6 (by decide))
      refine lv_aload_n hx hb dX11_life_23 rfl (lv_at hl 0 rfl) ?_
      refine va_get (D := D) (ci := 11) (v := .ref (a 1)) (C := RX11) (T := TX11) (N := 14) hx hb hT iX11 hown hK hP 0 rfl rfl 0 (by decide) (hT _ t_131) (fun _ h9 => h9) rfl dX11_life_24 ?_
      refine va_get (D := D) (ci := 8) (v := .ref (a 2)) (C := RX8) (T := TX8) (N := 2) hx hb hT iX8 hown hK hP 1 rfl rfl 0 (by decide) (hT _ t_132) (fun _ h9 => h9) rfl dX11_life_27 ?_
      refine lv_iload_n hx hb dX11_life_30 rfl (lv_at hl 1 rfl) ?_
      refine lv_iload_n hx hb dX11_life_31 rfl (lv_at hl 2 rfl) ?_
      refine va_iast hx hb hK hP hD hS 2 0 rfl rfl (vp_inI (by omega) (by omega)) dX11_life_32 (fun H locs hP hD hS => ?_)
      rw [xS2] at hP hD
      refine lv_iconst (v := 1) hx hb dX11_life_33 (by decide) ?_
      subst hQ
      exact W.zret hx hb hr rfl (fun t ht hW => ⟨⟨_, (), rfl, Or.inl ⟨rfl, by omega⟩, trivial⟩, hS.F ht⟩) hS.2.2 dX11_life_34
    · skip
      refine lv_if_ne (tgt := 23) hx hb dX11_life_18 (by decide) (fun c_7 => absurd (by decide) c_7) (fun c_7 => ?_)
      refine lv_iconst (v := 0) hx hb dX11_life_21 (by decide) ?_
      subst hQ
      exact W.zret hx hb hr rfl (fun t ht hW => ⟨⟨_, (), rfl, Or.inr ⟨rfl, by omega⟩, trivial⟩, hS.F ht⟩) hS.2.2 dX11_life_22
  · skip
    refine lv_if_eq (tgt := 21) hx hb dX11_life_7 (by decide) (fun c_8 => ?_) (fun c_8 => absurd (by decide) c_8)
    refine lv_iconst (v := 0) hx hb dX11_life_21 (by decide) ?_
    subst hQ
    exact W.zret hx hb hr rfl (fun t ht hW => ⟨⟨_, (), rfl, Or.inr ⟨rfl, by omega⟩, trivial⟩, hS.F ht⟩) hS.2.2 dX11_life_22
set_option maxHeartbeats 4000000 in
set_option maxRecDepth 100000 in
theorem c_X11_price (l : Launch) (D : va_G) (cy : Nat → ClassId) (a : Nat → Nat) (i : Nat → Int32) (r : Nat → Nat → Int32) (q : Nat → Option Nat) (p0 p1 p2 : Int32) (sz : Nat) (hf : xZ i) (hg : xZr r) : Met l yX11_price (Cond.code yX11_price cX11_price 4 (some .boolean) :: gT) { frames := 2, cells := 0, slots := 0, locals := 46 } (va_Pc [.ref (a 0), .int p0, .int p1, .int p2] (rQ D cy (xW cy a i r q (a 20) (a 12)) sz)) (va_Qi (fun (z : Int32) (u : Unit) => BR z ((0 ≤ p0.toInt ∧ p0.toInt ≤ 7) ∧ (0 ≤ p1.toInt ∧ p1.toInt ≤ 3) ∧ (0 ≤ p2.toInt ∧ p2.toInt ≤ 99999)) 1 0) (fun _ _ => True) (va_A (xW cy a i r q (a 20) (a 12)) sz)) 0 0 (va_A (xW cy a i r q (a 20) (a 12)) sz) := by
  refine Met.ofQ (cc := cX11_price) (maxL := 4) (ret := (some .boolean)) (by decide) rfl ?_
  intro p e s m args below meth c s₁ B hml hv Q hQ
  obtain ⟨rfl, hsz, hP, hK, hD0⟩ := hv
  have hx := B.exec
  have hb := B.bytes
  have hr := B.returns
  have hlocks := B.notSynchronized
  have hT : ∀ w ∈ gT, w.before _ s = true := fun w h => atoms_spec (ws := (Cond.code yX11_price cX11_price 4 (some .boolean) :: gT)) B.pre w (List.mem_cons_of_mem _ h)
  have hown : s.vm.findClass RX11 = some m.cls := findClass_of_methodNamed B.named
  subst hsz
  have hD := hD0.self (sz := s.heap.size)
  generalize hAe : va_A (xW cy a i r q (a 20) (a 12)) s.heap.size = A at hD hQ
  have hA : ∀ q : Nat, s.heap.size ≤ q → A q := fun q h => by rw [← hAe]; exact Or.inr h
  have hS : va_S A s.heap s.heap [] := va_S.rf
  have hl := lv_entry ([.ref (a 0), .int p0, .int p1, .int p2]) (n := 4) (Nat.le_of_ble_eq_true rfl)
  rw [lg_entry_eq]
  generalize (lg_sl ([.ref (a 0), .int p0, .int p1, .int p2]) ++ List.replicate (4 - (lg_sl ([.ref (a 0), .int p0, .int p1, .int p2])).length) Slot.unset).toArray = ls at hl ⊢
  have hl : lv_has ls 4 [(0, .ref (a 0)), (1, .int p0), (2, .int p1), (3, .int p2)] := hl
  refine lv_iload_n hx hb dX11_price_0 rfl (lv_at hl 1 rfl) ?_
  refine lv_iconst (v := 0) hx hb dX11_price_1 (by decide) ?_
  refine lv_bipush (v := 7) hx hb dX11_price_2 (by decide) ?_
  refine vp_callSi (W.runS (As := [.int p0, .int 0, .int 7]) (rest := []) ⟨hx, hb, hml, hown, hT⟩ (c_X11_within l p0 0 7) (va_cwS 3 hT (gS t_1 t_3 t_4 t_2) rfl rfl rfl (by decide +kernel) ⟨Nat.le_of_ble_eq_true rfl, Nat.le_of_ble_eq_true rfl⟩) preT rfl rfl hl.1 rfl (lv_room (Nat.le_of_ble_eq_true rfl)) dX11_price_4 ⟨Nat.le_of_ble_eq_true rfl, Nat.le_of_ble_eq_true rfl⟩) (fun r_1 hr_1 => ?_)
  have hr_1 : BR r_1 (0 ≤ p0.toInt ∧ p0.toInt ≤ 7) 1 0 := hr_1
  rcases hr_1 with ⟨rfl, h_2⟩ | ⟨rfl, h_2⟩
  · skip
    refine lv_if_eq (tgt := 29) hx hb dX11_price_7 (by decide) (fun c_3 => absurd c_3 (by decide)) (fun c_3 => ?_)
    refine lv_iload_n hx hb dX11_price_10 rfl (lv_at hl 2 rfl) ?_
    refine lv_iconst (v := 0) hx hb dX11_price_11 (by decide) ?_
    refine lv_iconst (v := 3) hx hb dX11_price_12 (by decide) ?_
    refine vp_callSi (W.runS (As := [.int p1, .int 0, .int 3]) (rest := []) ⟨hx, hb, hml, hown, hT⟩ (c_X11_within l p1 0 3) (va_cwS 3 hT (gS t_1 t_3 t_4 t_2) rfl rfl rfl (by decide +kernel) ⟨Nat.le_of_ble_eq_true rfl, Nat.le_of_ble_eq_true rfl⟩) preT rfl rfl hl.1 rfl (lv_room (Nat.le_of_ble_eq_true rfl)) dX11_price_13 ⟨Nat.le_of_ble_eq_true rfl, Nat.le_of_ble_eq_true rfl⟩) (fun r_4 hr_4 => ?_)
    have hr_4 : BR r_4 (0 ≤ p1.toInt ∧ p1.toInt ≤ 3) 1 0 := hr_4
    rcases hr_4 with ⟨rfl, h_5⟩ | ⟨rfl, h_5⟩
    · skip
      refine lv_if_eq (tgt := 29) hx hb dX11_price_16 (by decide) (fun c_6 => absurd c_6 (by decide)) (fun c_6 => ?_)
      refine lv_iload_n hx hb dX11_price_19 rfl (lv_at hl 3 rfl) ?_
      refine lv_iconst (v := 0) hx hb dX11_price_20 (by decide) ?_
      refine lv_ldc (v := 99999) hx hb hown (hT _ t_133) dX11_price_21 ?_
      refine vp_callSi (W.runS (As := [.int p2, .int 0, .int 99999]) (rest := []) ⟨hx, hb, hml, hown, hT⟩ (c_X11_within l p2 0 99999) (va_cwS 3 hT (gS t_1 t_3 t_4 t_2) rfl rfl rfl (by decide +kernel) ⟨Nat.le_of_ble_eq_true rfl, Nat.le_of_ble_eq_true rfl⟩) preT rfl rfl hl.1 rfl (lv_room (Nat.le_of_ble_eq_true rfl)) dX11_price_23 ⟨Nat.le_of_ble_eq_true rfl, Nat.le_of_ble_eq_true rfl⟩) (fun r_7 hr_7 => ?_)
      have hr_7 : BR r_7 (0 ≤ p2.toInt ∧ p2.toInt ≤ 99999) 1 0 := hr_7
      rcases hr_7 with ⟨rfl, h_8⟩ | ⟨rfl, h_8⟩
      · skip
        refine lv_if_ne (tgt := 31) hx hb dX11_price_26 (by decide) (fun c_9 => ?_) (fun c_9 => absurd c_9 (by decide))
        refine lv_aload_n hx hb dX11_price_31 rfl (lv_at hl 0 rfl) ?_
        refine va_get (D := D) (ci := 11) (v := .ref (a 1)) (C := RX11) (T := TX11) (N := 14) hx hb hT iX11 hown hK hP 0 rfl rfl 0 (by decide) (hT _ t_131) (fun _ h9 => h9) rfl dX11_price_32 ?_
        refine va_get (D := D) (ci := 8) (v := .ref (a 3)) (C := RX8) (T := TX8) (N := 2) hx hb hT iX8 hown hK hP 1 rfl rfl 1 (by decide) (hT _ t_134) (fun _ h9 => h9) rfl dX11_price_35 ?_
        refine lv_iload_n hx hb dX11_price_38 rfl (lv_at hl 1 rfl) ?_
        refine lv_iconst (v := 4) hx hb dX11_price_39 (by decide) ?_
        refine lv_imul hx hb dX11_price_40 ?_
        refine lv_topi (fun v_10 ev_10 => ?_)
        have hv_10 : v_10.toInt = p0.toInt * 4 := by rw [ev_10]; have := b_rg p0; exact i_mul (a := p0.toInt) (b := 4) rfl rfl (by omega) (by omega)
        refine lv_iload_n hx hb dX11_price_41 rfl (lv_at hl 2 rfl) ?_
        refine lv_iadd hx hb dX11_price_42 ?_
        refine lv_topi (fun v_11 ev_11 => ?_)
        have hv_11 : v_11.toInt = v_10.toInt + p1.toInt := by rw [ev_11]; have := b_rg v_10; have := b_rg p1; exact i_add (a := v_10.toInt) (b := p1.toInt) rfl rfl (by omega) (by omega)
        refine lv_iload_n hx hb dX11_price_43 rfl (lv_at hl 3 rfl) ?_
        refine va_iast hx hb hK hP hD hS 3 0 rfl rfl (vp_inI (by omega) (by omega)) dX11_price_44 (fun H locs hP hD hS => ?_)
        rw [xS3] at hP hD
        refine lv_iconst (v := 1) hx hb dX11_price_45 (by decide) ?_
        subst hQ
        exact W.zret hx hb hr rfl (fun t ht hW => ⟨⟨_, (), rfl, Or.inl ⟨rfl, by omega⟩, trivial⟩, hS.F ht⟩) hS.2.2 dX11_price_46
      · skip
        refine lv_if_ne (tgt := 31) hx hb dX11_price_26 (by decide) (fun c_12 => absurd (by decide) c_12) (fun c_12 => ?_)
        refine lv_iconst (v := 0) hx hb dX11_price_29 (by decide) ?_
        subst hQ
        exact W.zret hx hb hr rfl (fun t ht hW => ⟨⟨_, (), rfl, Or.inr ⟨rfl, by omega⟩, trivial⟩, hS.F ht⟩) hS.2.2 dX11_price_30
    · skip
      refine lv_if_eq (tgt := 29) hx hb dX11_price_16 (by decide) (fun c_13 => ?_) (fun c_13 => absurd (by decide) c_13)
      refine lv_iconst (v := 0) hx hb dX11_price_29 (by decide) ?_
      subst hQ
      exact W.zret hx hb hr rfl (fun t ht hW => ⟨⟨_, (), rfl, Or.inr ⟨rfl, by omega⟩, trivial⟩, hS.F ht⟩) hS.2.2 dX11_price_30
  · skip
    refine lv_if_eq (tgt := 29) hx hb dX11_price_7 (by decide) (fun c_14 => ?_) (fun c_14 => absurd (by decide) c_14)
    refine lv_iconst (v := 0) hx hb dX11_price_29 (by decide) ?_
    subst hQ
    exact W.zret hx hb hr rfl (fun t ht hW => ⟨⟨_, (), rfl, Or.inr ⟨rfl, by omega⟩, trivial⟩, hS.F ht⟩) hS.2.2 dX11_price_30
set_option maxHeartbeats 4000000 in
set_option maxRecDepth 100000 in
theorem c_X11_seed (l : Launch) (D : va_G) (cy : Nat → ClassId) (a : Nat → Nat) (i : Nat → Int32) (r : Nat → Nat → Int32) (q : Nat → Option Nat) (p0 : Int32) (sz : Nat) (hf : xZ i) (hg : xZr r) : Met l yX11_seed (Cond.code yX11_seed cX11_seed 2 (some .boolean) :: gT) { frames := 2, cells := 0, slots := 0, locals := 46 } (va_Pc [.ref (a 0), .int p0] (rQ D cy (xW cy a i r q (a 20) (a 12)) sz)) (va_Qi (fun (z : Int32) (u : Unit) => BR z (0 ≤ p0.toInt ∧ p0.toInt ≤ 65535) 1 0) (fun _ _ => True) (va_A (xW cy a i r q (a 20) (a 12)) sz)) 0 0 (va_A (xW cy a i r q (a 20) (a 12)) sz) := by
  refine Met.ofQ (cc := cX11_seed) (maxL := 2) (ret := (some .boolean)) (by decide) rfl ?_
  intro p e s m args below meth c s₁ B hml hv Q hQ
  obtain ⟨rfl, hsz, hP, hK, hD0⟩ := hv
  have hx := B.exec
  have hb := B.bytes
  have hr := B.returns
  have hlocks := B.notSynchronized
  have hT : ∀ w ∈ gT, w.before _ s = true := fun w h => atoms_spec (ws := (Cond.code yX11_seed cX11_seed 2 (some .boolean) :: gT)) B.pre w (List.mem_cons_of_mem _ h)
  have hown : s.vm.findClass RX11 = some m.cls := findClass_of_methodNamed B.named
  subst hsz
  have hD := hD0.self (sz := s.heap.size)
  generalize hAe : va_A (xW cy a i r q (a 20) (a 12)) s.heap.size = A at hD hQ
  have hA : ∀ q : Nat, s.heap.size ≤ q → A q := fun q h => by rw [← hAe]; exact Or.inr h
  have hS : va_S A s.heap s.heap [] := va_S.rf
  have hl := lv_entry ([.ref (a 0), .int p0]) (n := 2) (Nat.le_of_ble_eq_true rfl)
  rw [lg_entry_eq]
  generalize (lg_sl ([.ref (a 0), .int p0]) ++ List.replicate (2 - (lg_sl ([.ref (a 0), .int p0])).length) Slot.unset).toArray = ls at hl ⊢
  have hl : lv_has ls 2 [(0, .ref (a 0)), (1, .int p0)] := hl
  refine lv_iload_n hx hb dX11_seed_0 rfl (lv_at hl 1 rfl) ?_
  refine lv_iconst (v := 0) hx hb dX11_seed_1 (by decide) ?_
  refine lv_ldcw (v := 65535) hx hb hown (hT _ t_135) dX11_seed_2 ?_
  refine vp_callSi (W.runS (As := [.int p0, .int 0, .int 65535]) (rest := []) ⟨hx, hb, hml, hown, hT⟩ (c_X11_within l p0 0 65535) (va_cwS 3 hT (gS t_1 t_3 t_4 t_2) rfl rfl rfl (by decide +kernel) ⟨Nat.le_of_ble_eq_true rfl, Nat.le_of_ble_eq_true rfl⟩) preT rfl rfl hl.1 rfl (lv_room (Nat.le_of_ble_eq_true rfl)) dX11_seed_5 ⟨Nat.le_of_ble_eq_true rfl, Nat.le_of_ble_eq_true rfl⟩) (fun r_1 hr_1 => ?_)
  have hr_1 : BR r_1 (0 ≤ p0.toInt ∧ p0.toInt ≤ 65535) 1 0 := hr_1
  rcases hr_1 with ⟨rfl, h_2⟩ | ⟨rfl, h_2⟩
  · skip
    refine lv_if_ne (tgt := 13) hx hb dX11_seed_8 (by decide) (fun c_3 => ?_) (fun c_3 => absurd c_3 (by decide))
    refine lv_aload_n hx hb dX11_seed_13 rfl (lv_at hl 0 rfl) ?_
    refine va_get (D := D) (ci := 11) (v := .ref (a 29)) (C := RX11) (T := TX11) (N := 14) hx hb hT iX11 hown hK hP 0 rfl rfl 8 (by decide) (hT _ t_40) (fun _ h9 => h9) rfl dX11_seed_14 ?_
    refine lv_iload_n hx hb dX11_seed_17 rfl (lv_at hl 1 rfl) ?_
    refine va_put (D := D) (ci := 1) (v := .int p0) (ty := .int) (C := RX1) (T := TX1) (N := 12) hx hb hT iX1 tyX1 tyX1_ok nmX1 hown hK hP hD hS 29 rfl rfl 11 (by decide) (hT _ t_65) (fun _ h9 => h9) rfl (by decide +kernel) rfl rfl (Nat.le_of_ble_eq_true rfl) dX11_seed_18 (fun H locs hP hD hS => ?_)
    rw [xP11] at hP hD
    refine lv_iconst (v := 1) hx hb dX11_seed_21 (by decide) ?_
    subst hQ
    exact W.zret hx hb hr rfl (fun t ht hW => ⟨⟨_, (), rfl, Or.inl ⟨rfl, by omega⟩, trivial⟩, hS.F ht⟩) hS.2.2 dX11_seed_22
  · skip
    refine lv_if_ne (tgt := 13) hx hb dX11_seed_8 (by decide) (fun c_4 => absurd (by decide) c_4) (fun c_4 => ?_)
    refine lv_iconst (v := 0) hx hb dX11_seed_11 (by decide) ?_
    subst hQ
    exact W.zret hx hb hr rfl (fun t ht hW => ⟨⟨_, (), rfl, Or.inr ⟨rfl, by omega⟩, trivial⟩, hS.F ht⟩) hS.2.2 dX11_seed_12
set_option maxHeartbeats 4000000 in
set_option maxRecDepth 100000 in
theorem c_X9_add (l : Launch) (D : va_G) (cy : Nat → ClassId) (h0 h1 : Nat) (f0 : Int32) (g : Nat → Int32) (p0 : Int32) (sz : Nat) (h9 : 0 ≤ f0.toInt ∧ f0.toInt ≤ 216) : Met l yX9_add (Cond.code yX9_add cX9_add 3 none :: gT) { frames := 1, cells := 0, slots := 0, locals := 24 } (va_Pc [.ref h0, .int p0] (rQ D cy [(h0, .inr (9, [.ref h1, .int f0])), (h1, .inl (cy 1, 220, .inl g))] sz)) (va_Qv (fun u : Int32 × (Nat → Int32) => u.1.toInt = f0.toInt + 4) (fun (u : Int32 × (Nat → Int32)) t => va_P D vwCl [(h0, .inr (9, [.ref h1, .int u.1])), (h1, .inl (cy 1, 220, .inl u.2))] t.heap ∧ va_K D vwCl (vT cy) t ∧ va_D (va_A [(h0, .inr (9, [.ref h1, .int f0])), (h1, .inl (cy 1, 220, .inl g))] sz) [(h0, .inr (9, [.ref h1, .int u.1])), (h1, .inl (cy 1, 220, .inl u.2))]) (va_A [(h0, .inr (9, [.ref h1, .int f0])), (h1, .inl (cy 1, 220, .inl g))] sz)) 0 0 (va_A [(h0, .inr (9, [.ref h1, .int f0])), (h1, .inl (cy 1, 220, .inl g))] sz) := by
  refine Met.ofQ (cc := cX9_add) (maxL := 3) (ret := none) (by decide) rfl ?_
  intro p e s m args below meth c s₁ B hml hv Q hQ
  obtain ⟨rfl, hsz, hP, hK, hD0⟩ := hv
  have hx := B.exec
  have hb := B.bytes
  have hr := B.returns
  have hlocks := B.notSynchronized
  have hT : ∀ w ∈ gT, w.before _ s = true := fun w h => atoms_spec (ws := (Cond.code yX9_add cX9_add 3 none :: gT)) B.pre w (List.mem_cons_of_mem _ h)
  have hown : s.vm.findClass RX9 = some m.cls := findClass_of_methodNamed B.named
  subst hsz
  have hD := hD0.self (sz := s.heap.size)
  generalize hAe : va_A [(h0, .inr (9, [.ref h1, .int f0])), (h1, .inl (cy 1, 220, .inl g))] s.heap.size = A at hD hQ
  have hA : ∀ q : Nat, s.heap.size ≤ q → A q := fun q h => by rw [← hAe]; exact Or.inr h
  have hS : va_S A s.heap s.heap [] := va_S.rf
  have hl := lv_entry ([.ref h0, .int p0]) (n := 3) (Nat.le_of_ble_eq_true rfl)
  rw [lg_entry_eq]
  generalize (lg_sl ([.ref h0, .int p0]) ++ List.replicate (3 - (lg_sl ([.ref h0, .int p0])).length) Slot.unset).toArray = ls at hl ⊢
  have hl : lv_has ls 3 [(0, .ref h0), (1, .int p0)] := hl
  refine lv_bipush (v := 24) hx hb dX9_add_0 (by decide) ?_
  refine lv_istore_n (lv' := [(2, .int 24), (0, .ref h0), (1, .int p0)]) hx hb dX9_add_2 rfl hl (by decide) rfl (fun ls hl => ?_)
  refine lv_iload_n hx hb dX9_add_3 rfl (lv_at hl 0 rfl) ?_
  refine lv_if_lt (tgt := 46) hx hb dX9_add_4 (by decide) (fun c_1 => absurd c_1 (by decide)) (fun c_1 => ?_)
  refine lv_aload_n hx hb dX9_add_7 rfl (lv_at hl 1 rfl) ?_
  refine va_get (D := D) (ci := 9) (v := .int f0) (C := RX9) (T := TX9) (N := 2) hx hb hT iX9 hown hK hP 0 rfl rfl 1 (by decide) (hT _ t_136) (fun _ h9 => h9) rfl dX9_add_8 ?_
  refine lv_sipush (v := 220) hx hb dX9_add_11 (by decide) ?_
  refine lv_icmp_ge (tgt := 46) hx hb dX9_add_14 (by decide) (fun c_2 => by have c_2 : 220 ≤ f0.toInt := b_le c_2; omega) (fun c_2 => ?_)
  have c_2 : f0.toInt < 220 := b_nle c_2
  refine lv_aload_n hx hb dX9_add_17 rfl (lv_at hl 1 rfl) ?_
  refine va_get (D := D) (ci := 9) (v := .ref h1) (C := RX9) (T := TX9) (N := 2) hx hb hT iX9 hown hK hP 0 rfl rfl 0 (by decide) (hT _ t_137) (fun _ h9 => h9) rfl dX9_add_18 ?_
  refine lv_aload_n hx hb dX9_add_21 rfl (lv_at hl 1 rfl) ?_
  refine va_get (D := D) (ci := 9) (v := .int f0) (C := RX9) (T := TX9) (N := 2) hx hb hT iX9 hown hK hP 0 rfl rfl 1 (by decide) (hT _ t_136) (fun _ h9 => h9) rfl dX9_add_22 ?_
  refine lv_iload_n hx hb dX9_add_25 rfl (lv_at hl 2 rfl) ?_
  refine lv_iload_n hx hb dX9_add_26 rfl (lv_at hl 0 rfl) ?_
  refine lv_ishr hx hb dX9_add_27 ?_
  refine lv_topi (fun v_3 ev_3 => ?_)
  obtain ⟨v_4, ev_4⟩ : ∃ y : Int32, v_3.toInt8.toInt32 = y := ⟨_, rfl⟩
  refine lv_i2b (v := v_4) hx hb dX9_add_28 ev_4 ?_
  refine va_bast hx hb hK hP hD hS 1 1 rfl rfl (vp_inI (by omega) (by omega)) dX9_add_29 (fun H locs hP hD hS => ?_)
  have hP : va_P D vwCl [(h0, .inr (9, [.ref h1, .int f0])), (h1, .inl (cy 1, 220, .inl (upd g f0.toNatClampNeg (vp_nar .byte v_4))))] H := hP
  have hD : va_D A [(h0, .inr (9, [.ref h1, .int f0])), (h1, .inl (cy 1, 220, .inl (upd g f0.toNatClampNeg (vp_nar .byte v_4))))] := hD
  refine lv_aload_n hx hb dX9_add_30 rfl (lv_at hl 1 rfl) ?_
  refine lv_dup hx hb dX9_add_31 rfl ?_
  refine va_get (D := D) (ci := 9) (v := .int f0) (C := RX9) (T := TX9) (N := 2) hx hb hT iX9 hown hK hP 0 rfl rfl 1 (by decide) (hT _ t_136) (fun _ h9 => h9) rfl dX9_add_32 ?_
  refine lv_iconst (v := 1) hx hb dX9_add_35 (by decide) ?_
  refine lv_iadd hx hb dX9_add_36 ?_
  refine lv_topi (fun v_5 ev_5 => ?_)
  have hv_5 : v_5.toInt = f0.toInt + 1 := by rw [ev_5]; have := b_rg f0; exact i_add (a := f0.toInt) (b := 1) rfl rfl (by omega) (by omega)
  refine va_put (D := D) (ci := 9) (v := .int v_5) (ty := .int) (C := RX9) (T := TX9) (N := 2) hx hb hT iX9 tyX9 tyX9_ok nmX9 hown hK hP hD hS 0 rfl rfl 1 (by decide) (hT _ t_136) (fun _ h9 => h9) rfl (by decide +kernel) rfl rfl (Nat.le_of_ble_eq_true rfl) dX9_add_37 (fun H locs hP hD hS => ?_)
  have hP : va_P D vwCl [(h0, .inr (9, [.ref h1, .int v_5])), (h1, .inl (cy 1, 220, .inl (upd g f0.toNatClampNeg (vp_nar .byte v_4))))] H := hP
  have hD : va_D A [(h0, .inr (9, [.ref h1, .int v_5])), (h1, .inl (cy 1, 220, .inl (upd g f0.toNatClampNeg (vp_nar .byte v_4))))] := hD
  obtain ⟨x_6, ex_6⟩ : ∃ y : Int32, y = (24 : Int32) + (-8) := ⟨_, rfl⟩
  refine lv_iinc (v := x_6) (lv' := [(2, .int x_6), (0, .ref h0), (1, .int p0)]) hx hb dX9_add_40 hl (k := 0) rfl (by rw [ex_6]; rfl) (by decide) rfl (fun ls hl => ?_)
  obtain rfl : x_6 = 16 := ex_6.trans (by decide)
  refine lv_goto (tgt := 3) hx hb dX9_add_43 (by decide) ?_
  refine lv_iload_n hx hb dX9_add_3 rfl (lv_at hl 0 rfl) ?_
  refine lv_if_lt (tgt := 46) hx hb dX9_add_4 (by decide) (fun c_7 => absurd c_7 (by decide)) (fun c_7 => ?_)
  refine lv_aload_n hx hb dX9_add_7 rfl (lv_at hl 1 rfl) ?_
  refine va_get (D := D) (ci := 9) (v := .int v_5) (C := RX9) (T := TX9) (N := 2) hx hb hT iX9 hown hK hP 0 rfl rfl 1 (by decide) (hT _ t_136) (fun _ h9 => h9) rfl dX9_add_8 ?_
  refine lv_sipush (v := 220) hx hb dX9_add_11 (by decide) ?_
  refine lv_icmp_ge (tgt := 46) hx hb dX9_add_14 (by decide) (fun c_8 => by have c_8 : 220 ≤ v_5.toInt := b_le c_8; omega) (fun c_8 => ?_)
  have c_8 : v_5.toInt < 220 := b_nle c_8
  refine lv_aload_n hx hb dX9_add_17 rfl (lv_at hl 1 rfl) ?_
  refine va_get (D := D) (ci := 9) (v := .ref h1) (C := RX9) (T := TX9) (N := 2) hx hb hT iX9 hown hK hP 0 rfl rfl 0 (by decide) (hT _ t_137) (fun _ h9 => h9) rfl dX9_add_18 ?_
  refine lv_aload_n hx hb dX9_add_21 rfl (lv_at hl 1 rfl) ?_
  refine va_get (D := D) (ci := 9) (v := .int v_5) (C := RX9) (T := TX9) (N := 2) hx hb hT iX9 hown hK hP 0 rfl rfl 1 (by decide) (hT _ t_136) (fun _ h9 => h9) rfl dX9_add_22 ?_
  refine lv_iload_n hx hb dX9_add_25 rfl (lv_at hl 2 rfl) ?_
  refine lv_iload_n hx hb dX9_add_26 rfl (lv_at hl 0 rfl) ?_
  refine lv_ishr hx hb dX9_add_27 ?_
  refine lv_topi (fun v_9 ev_9 => ?_)
  obtain ⟨v_10, ev_10⟩ : ∃ y : Int32, v_9.toInt8.toInt32 = y := ⟨_, rfl⟩
  refine lv_i2b (v := v_10) hx hb dX9_add_28 ev_10 ?_
  refine va_bast hx hb hK hP hD hS 1 1 rfl rfl (vp_inI (by omega) (by omega)) dX9_add_29 (fun H locs hP hD hS => ?_)
  have hP : va_P D vwCl [(h0, .inr (9, [.ref h1, .int v_5])), (h1, .inl (cy 1, 220, .inl (upd (upd g f0.toNatClampNeg (vp_nar .byte v_4)) v_5.toNatClampNeg (vp_nar .byte v_10))))] H := hP
  have hD : va_D A [(h0, .inr (9, [.ref h1, .int v_5])), (h1, .inl (cy 1, 220, .inl (upd (upd g f0.toNatClampNeg (vp_nar .byte v_4)) v_5.toNatClampNeg (vp_nar .byte v_10))))] := hD
  refine lv_aload_n hx hb dX9_add_30 rfl (lv_at hl 1 rfl) ?_
  refine lv_dup hx hb dX9_add_31 rfl ?_
  refine va_get (D := D) (ci := 9) (v := .int v_5) (C := RX9) (T := TX9) (N := 2) hx hb hT iX9 hown hK hP 0 rfl rfl 1 (by decide) (hT _ t_136) (fun _ h9 => h9) rfl dX9_add_32 ?_
  refine lv_iconst (v := 1) hx hb dX9_add_35 (by decide) ?_
  refine lv_iadd hx hb dX9_add_36 ?_
  refine lv_topi (fun v_11 ev_11 => ?_)
  have hv_11 : v_11.toInt = v_5.toInt + 1 := by rw [ev_11]; have := b_rg v_5; exact i_add (a := v_5.toInt) (b := 1) rfl rfl (by omega) (by omega)
  refine va_put (D := D) (ci := 9) (v := .int v_11) (ty := .int) (C := RX9) (T := TX9) (N := 2) hx hb hT iX9 tyX9 tyX9_ok nmX9 hown hK hP hD hS 0 rfl rfl 1 (by decide) (hT _ t_136) (fun _ h9 => h9) rfl (by decide +kernel) rfl rfl (Nat.le_of_ble_eq_true rfl) dX9_add_37 (fun H locs hP hD hS => ?_)
  have hP : va_P D vwCl [(h0, .inr (9, [.ref h1, .int v_11])), (h1, .inl (cy 1, 220, .inl (upd (upd g f0.toNatClampNeg (vp_nar .byte v_4)) v_5.toNatClampNeg (vp_nar .byte v_10))))] H := hP
  have hD : va_D A [(h0, .inr (9, [.ref h1, .int v_11])), (h1, .inl (cy 1, 220, .inl (upd (upd g f0.toNatClampNeg (vp_nar .byte v_4)) v_5.toNatClampNeg (vp_nar .byte v_10))))] := hD
  obtain ⟨x_12, ex_12⟩ : ∃ y : Int32, y = (16 : Int32) + (-8) := ⟨_, rfl⟩
  refine lv_iinc (v := x_12) (lv' := [(2, .int x_12), (0, .ref h0), (1, .int p0)]) hx hb dX9_add_40 hl (k := 0) rfl (by rw [ex_12]; rfl) (by decide) rfl (fun ls hl => ?_)
  obtain rfl : x_12 = 8 := ex_12.trans (by decide)
  refine lv_goto (tgt := 3) hx hb dX9_add_43 (by decide) ?_
  refine lv_iload_n hx hb dX9_add_3 rfl (lv_at hl 0 rfl) ?_
  refine lv_if_lt (tgt := 46) hx hb dX9_add_4 (by decide) (fun c_13 => absurd c_13 (by decide)) (fun c_13 => ?_)
  refine lv_aload_n hx hb dX9_add_7 rfl (lv_at hl 1 rfl) ?_
  refine va_get (D := D) (ci := 9) (v := .int v_11) (C := RX9) (T := TX9) (N := 2) hx hb hT iX9 hown hK hP 0 rfl rfl 1 (by decide) (hT _ t_136) (fun _ h9 => h9) rfl dX9_add_8 ?_
  refine lv_sipush (v := 220) hx hb dX9_add_11 (by decide) ?_
  refine lv_icmp_ge (tgt := 46) hx hb dX9_add_14 (by decide) (fun c_14 => by have c_14 : 220 ≤ v_11.toInt := b_le c_14; omega) (fun c_14 => ?_)
  have c_14 : v_11.toInt < 220 := b_nle c_14
  refine lv_aload_n hx hb dX9_add_17 rfl (lv_at hl 1 rfl) ?_
  refine va_get (D := D) (ci := 9) (v := .ref h1) (C := RX9) (T := TX9) (N := 2) hx hb hT iX9 hown hK hP 0 rfl rfl 0 (by decide) (hT _ t_137) (fun _ h9 => h9) rfl dX9_add_18 ?_
  refine lv_aload_n hx hb dX9_add_21 rfl (lv_at hl 1 rfl) ?_
  refine va_get (D := D) (ci := 9) (v := .int v_11) (C := RX9) (T := TX9) (N := 2) hx hb hT iX9 hown hK hP 0 rfl rfl 1 (by decide) (hT _ t_136) (fun _ h9 => h9) rfl dX9_add_22 ?_
  refine lv_iload_n hx hb dX9_add_25 rfl (lv_at hl 2 rfl) ?_
  refine lv_iload_n hx hb dX9_add_26 rfl (lv_at hl 0 rfl) ?_
  refine lv_ishr hx hb dX9_add_27 ?_
  refine lv_topi (fun v_15 ev_15 => ?_)
  obtain ⟨v_16, ev_16⟩ : ∃ y : Int32, v_15.toInt8.toInt32 = y := ⟨_, rfl⟩
  refine lv_i2b (v := v_16) hx hb dX9_add_28 ev_16 ?_
  refine va_bast hx hb hK hP hD hS 1 1 rfl rfl (vp_inI (by omega) (by omega)) dX9_add_29 (fun H locs hP hD hS => ?_)
  have hP : va_P D vwCl [(h0, .inr (9, [.ref h1, .int v_11])), (h1, .inl (cy 1, 220, .inl (upd (upd (upd g f0.toNatClampNeg (vp_nar .byte v_4)) v_5.toNatClampNeg (vp_nar .byte v_10)) v_11.toNatClampNeg (vp_nar .byte v_16))))] H := hP
  have hD : va_D A [(h0, .inr (9, [.ref h1, .int v_11])), (h1, .inl (cy 1, 220, .inl (upd (upd (upd g f0.toNatClampNeg (vp_nar .byte v_4)) v_5.toNatClampNeg (vp_nar .byte v_10)) v_11.toNatClampNeg (vp_nar .byte v_16))))] := hD
  refine lv_aload_n hx hb dX9_add_30 rfl (lv_at hl 1 rfl) ?_
  refine lv_dup hx hb dX9_add_31 rfl ?_
  refine va_get (D := D) (ci := 9) (v := .int v_11) (C := RX9) (T := TX9) (N := 2) hx hb hT iX9 hown hK hP 0 rfl rfl 1 (by decide) (hT _ t_136) (fun _ h9 => h9) rfl dX9_add_32 ?_
  refine lv_iconst (v := 1) hx hb dX9_add_35 (by decide) ?_
  refine lv_iadd hx hb dX9_add_36 ?_
  refine lv_topi (fun v_17 ev_17 => ?_)
  have hv_17 : v_17.toInt = v_11.toInt + 1 := by rw [ev_17]; have := b_rg v_11; exact i_add (a := v_11.toInt) (b := 1) rfl rfl (by omega) (by omega)
  refine va_put (D := D) (ci := 9) (v := .int v_17) (ty := .int) (C := RX9) (T := TX9) (N := 2) hx hb hT iX9 tyX9 tyX9_ok nmX9 hown hK hP hD hS 0 rfl rfl 1 (by decide) (hT _ t_136) (fun _ h9 => h9) rfl (by decide +kernel) rfl rfl (Nat.le_of_ble_eq_true rfl) dX9_add_37 (fun H locs hP hD hS => ?_)
  have hP : va_P D vwCl [(h0, .inr (9, [.ref h1, .int v_17])), (h1, .inl (cy 1, 220, .inl (upd (upd (upd g f0.toNatClampNeg (vp_nar .byte v_4)) v_5.toNatClampNeg (vp_nar .byte v_10)) v_11.toNatClampNeg (vp_nar .byte v_16))))] H := hP
  have hD : va_D A [(h0, .inr (9, [.ref h1, .int v_17])), (h1, .inl (cy 1, 220, .inl (upd (upd (upd g f0.toNatClampNeg (vp_nar .byte v_4)) v_5.toNatClampNeg (vp_nar .byte v_10)) v_11.toNatClampNeg (vp_nar .byte v_16))))] := hD
  obtain ⟨x_18, ex_18⟩ : ∃ y : Int32, y = (8 : Int32) + (-8) := ⟨_, rfl⟩
  refine lv_iinc (v := x_18) (lv' := [(2, .int x_18), (0, .ref h0), (1, .int p0)]) hx hb dX9_add_40 hl (k := 0) rfl (by rw [ex_18]; rfl) (by decide) rfl (fun ls hl => ?_)
  obtain rfl : x_18 = 0 := ex_18.trans (by decide)
  refine lv_goto (tgt := 3) hx hb dX9_add_43 (by decide) ?_
  refine lv_iload_n hx hb dX9_add_3 rfl (lv_at hl 0 rfl) ?_
  refine lv_if_lt (tgt := 46) hx hb dX9_add_4 (by decide) (fun c_19 => absurd c_19 (by decide)) (fun c_19 => ?_)
  refine lv_aload_n hx hb dX9_add_7 rfl (lv_at hl 1 rfl) ?_
  refine va_get (D := D) (ci := 9) (v := .int v_17) (C := RX9) (T := TX9) (N := 2) hx hb hT iX9 hown hK hP 0 rfl rfl 1 (by decide) (hT _ t_136) (fun _ h9 => h9) rfl dX9_add_8 ?_
  refine lv_sipush (v := 220) hx hb dX9_add_11 (by decide) ?_
  refine lv_icmp_ge (tgt := 46) hx hb dX9_add_14 (by decide) (fun c_20 => by have c_20 : 220 ≤ v_17.toInt := b_le c_20; omega) (fun c_20 => ?_)
  have c_20 : v_17.toInt < 220 := b_nle c_20
  refine lv_aload_n hx hb dX9_add_17 rfl (lv_at hl 1 rfl) ?_
  refine va_get (D := D) (ci := 9) (v := .ref h1) (C := RX9) (T := TX9) (N := 2) hx hb hT iX9 hown hK hP 0 rfl rfl 0 (by decide) (hT _ t_137) (fun _ h9 => h9) rfl dX9_add_18 ?_
  refine lv_aload_n hx hb dX9_add_21 rfl (lv_at hl 1 rfl) ?_
  refine va_get (D := D) (ci := 9) (v := .int v_17) (C := RX9) (T := TX9) (N := 2) hx hb hT iX9 hown hK hP 0 rfl rfl 1 (by decide) (hT _ t_136) (fun _ h9 => h9) rfl dX9_add_22 ?_
  refine lv_iload_n hx hb dX9_add_25 rfl (lv_at hl 2 rfl) ?_
  refine lv_iload_n hx hb dX9_add_26 rfl (lv_at hl 0 rfl) ?_
  refine lv_ishr hx hb dX9_add_27 ?_
  refine lv_topi (fun v_21 ev_21 => ?_)
  obtain ⟨v_22, ev_22⟩ : ∃ y : Int32, v_21.toInt8.toInt32 = y := ⟨_, rfl⟩
  refine lv_i2b (v := v_22) hx hb dX9_add_28 ev_22 ?_
  refine va_bast hx hb hK hP hD hS 1 1 rfl rfl (vp_inI (by omega) (by omega)) dX9_add_29 (fun H locs hP hD hS => ?_)
  have hP : va_P D vwCl [(h0, .inr (9, [.ref h1, .int v_17])), (h1, .inl (cy 1, 220, .inl (upd (upd (upd (upd g f0.toNatClampNeg (vp_nar .byte v_4)) v_5.toNatClampNeg (vp_nar .byte v_10)) v_11.toNatClampNeg (vp_nar .byte v_16)) v_17.toNatClampNeg (vp_nar .byte v_22))))] H := hP
  have hD : va_D A [(h0, .inr (9, [.ref h1, .int v_17])), (h1, .inl (cy 1, 220, .inl (upd (upd (upd (upd g f0.toNatClampNeg (vp_nar .byte v_4)) v_5.toNatClampNeg (vp_nar .byte v_10)) v_11.toNatClampNeg (vp_nar .byte v_16)) v_17.toNatClampNeg (vp_nar .byte v_22))))] := hD
  refine lv_aload_n hx hb dX9_add_30 rfl (lv_at hl 1 rfl) ?_
  refine lv_dup hx hb dX9_add_31 rfl ?_
  refine va_get (D := D) (ci := 9) (v := .int v_17) (C := RX9) (T := TX9) (N := 2) hx hb hT iX9 hown hK hP 0 rfl rfl 1 (by decide) (hT _ t_136) (fun _ h9 => h9) rfl dX9_add_32 ?_
  refine lv_iconst (v := 1) hx hb dX9_add_35 (by decide) ?_
  refine lv_iadd hx hb dX9_add_36 ?_
  refine lv_topi (fun v_23 ev_23 => ?_)
  have hv_23 : v_23.toInt = v_17.toInt + 1 := by rw [ev_23]; have := b_rg v_17; exact i_add (a := v_17.toInt) (b := 1) rfl rfl (by omega) (by omega)
  refine va_put (D := D) (ci := 9) (v := .int v_23) (ty := .int) (C := RX9) (T := TX9) (N := 2) hx hb hT iX9 tyX9 tyX9_ok nmX9 hown hK hP hD hS 0 rfl rfl 1 (by decide) (hT _ t_136) (fun _ h9 => h9) rfl (by decide +kernel) rfl rfl (Nat.le_of_ble_eq_true rfl) dX9_add_37 (fun H locs hP hD hS => ?_)
  have hP : va_P D vwCl [(h0, .inr (9, [.ref h1, .int v_23])), (h1, .inl (cy 1, 220, .inl (upd (upd (upd (upd g f0.toNatClampNeg (vp_nar .byte v_4)) v_5.toNatClampNeg (vp_nar .byte v_10)) v_11.toNatClampNeg (vp_nar .byte v_16)) v_17.toNatClampNeg (vp_nar .byte v_22))))] H := hP
  have hD : va_D A [(h0, .inr (9, [.ref h1, .int v_23])), (h1, .inl (cy 1, 220, .inl (upd (upd (upd (upd g f0.toNatClampNeg (vp_nar .byte v_4)) v_5.toNatClampNeg (vp_nar .byte v_10)) v_11.toNatClampNeg (vp_nar .byte v_16)) v_17.toNatClampNeg (vp_nar .byte v_22))))] := hD
  obtain ⟨x_24, ex_24⟩ : ∃ y : Int32, y = (0 : Int32) + (-8) := ⟨_, rfl⟩
  refine lv_iinc (v := x_24) (lv' := [(2, .int x_24), (0, .ref h0), (1, .int p0)]) hx hb dX9_add_40 hl (k := 0) rfl (by rw [ex_24]; rfl) (by decide) rfl (fun ls hl => ?_)
  obtain rfl : x_24 = (-8) := ex_24.trans (by decide)
  refine lv_goto (tgt := 3) hx hb dX9_add_43 (by decide) ?_
  refine lv_iload_n hx hb dX9_add_3 rfl (lv_at hl 0 rfl) ?_
  refine lv_if_lt (tgt := 46) hx hb dX9_add_4 (by decide) (fun c_25 => ?_) (fun c_25 => absurd (by decide) c_25)
  subst hQ
  exact W.vret hx hb hr (fun t ht hW => ⟨⟨(v_23, upd (upd (upd (upd g f0.toNatClampNeg (vp_nar .byte v_4)) v_5.toNatClampNeg (vp_nar .byte v_10)) v_11.toNatClampNeg (vp_nar .byte v_16)) v_17.toNatClampNeg (vp_nar .byte v_22)), rfl, (by show v_23.toInt = _; omega), by rw [ht]; exact hP, va_K.moved hW.alike hK, hD⟩, hS.F ht⟩) hS.2.2 dX9_add_46
set_option maxHeartbeats 4000000 in
set_option maxRecDepth 100000 in
theorem c_X11_feed (l : Launch) (D : va_G) (cy : Nat → ClassId) (a : Nat → Nat) (i : Nat → Int32) (r : Nat → Nat → Int32) (q : Nat → Option Nat) (p0 p1 p2 p3 p4 : Int32) (sz : Nat) (hf : xZ i) (hg : xZr r) : Met l yX11_feed (Cond.code yX11_feed cX11_feed 6 (some .int) :: gT) { frames := 2, cells := 0, slots := 0, locals := 46 } (va_Pc [.ref (a 0), .int p0, .int p1, .int p2, .int p3, .int p4] (rQ D cy (xW cy a i r q (a 20) (a 12)) sz)) (va_Qi (fun (z : Int32) (u : Unit) => z = 20) (fun _ _ => True) (va_A (xW cy a i r q (a 20) (a 12)) sz)) 0 0 (va_A (xW cy a i r q (a 20) (a 12)) sz) := by
  refine Met.ofQ (cc := cX11_feed) (maxL := 6) (ret := (some .int)) (by decide) rfl ?_
  intro p e s m args below meth c s₁ B hml hv Q hQ
  obtain ⟨rfl, hsz, hP, hK, hD0⟩ := hv
  have hx := B.exec
  have hb := B.bytes
  have hr := B.returns
  have hlocks := B.notSynchronized
  have hT : ∀ w ∈ gT, w.before _ s = true := fun w h => atoms_spec (ws := (Cond.code yX11_feed cX11_feed 6 (some .int) :: gT)) B.pre w (List.mem_cons_of_mem _ h)
  have hown : s.vm.findClass RX11 = some m.cls := findClass_of_methodNamed B.named
  subst hsz
  have hD := hD0.self (sz := s.heap.size)
  generalize hAe : va_A (xW cy a i r q (a 20) (a 12)) s.heap.size = A at hD hQ
  have hA : ∀ q : Nat, s.heap.size ≤ q → A q := fun q h => by rw [← hAe]; exact Or.inr h
  have hS : va_S A s.heap s.heap [] := va_S.rf
  have hl := lv_entry ([.ref (a 0), .int p0, .int p1, .int p2, .int p3, .int p4]) (n := 6) (Nat.le_of_ble_eq_true rfl)
  rw [lg_entry_eq]
  generalize (lg_sl ([.ref (a 0), .int p0, .int p1, .int p2, .int p3, .int p4]) ++ List.replicate (6 - (lg_sl ([.ref (a 0), .int p0, .int p1, .int p2, .int p3, .int p4])).length) Slot.unset).toArray = ls at hl ⊢
  have hl : lv_has ls 6 [(0, .ref (a 0)), (1, .int p0), (2, .int p1), (3, .int p2), (4, .int p3), (5, .int p4)] := hl
  have h2 : (i 2).toInt = 0 := by rw [hf.1 2 (by decide) (by decide)]; rfl
  refine lv_aload_n hx hb dX11_feed_0 rfl (lv_at hl 0 rfl) ?_
  refine va_get (D := D) (ci := 11) (v := .ref (a 8)) (C := RX11) (T := TX11) (N := 14) hx hb hT iX11 hown hK hP 0 rfl rfl 4 (by decide) (hT _ t_46) (fun _ h9 => h9) rfl dX11_feed_1 ?_
  refine va_get (D := D) (ci := 9) (v := .int 0) (C := RX9) (T := TX9) (N := 2) hx hb hT iX9 hown hK hP 8 rfl rfl 1 (by decide) (hT _ t_47) (fun _ h9 => h9) (congrArg (fun z => some (Value.int z)) (hf.1 2 (by decide) (by decide))) dX11_feed_4 ?_
  refine lv_sipush (v := 200) hx hb dX11_feed_7 (by decide) ?_
  refine lv_icmp_le (tgt := 15) hx hb dX11_feed_10 (by decide) (fun c_1 => ?_) (fun c_1 => absurd (by decide) c_1)
  refine lv_aload_n hx hb dX11_feed_15 rfl (lv_at hl 0 rfl) ?_
  refine va_get (D := D) (ci := 11) (v := .ref (a 8)) (C := RX11) (T := TX11) (N := 14) hx hb hT iX11 hown hK hP 0 rfl rfl 4 (by decide) (hT _ t_46) (fun _ h9 => h9) rfl dX11_feed_16 ?_
  refine lv_iload_n hx hb dX11_feed_19 rfl (lv_at hl 1 rfl) ?_
  have hP_2 := hP.sub (ws' := [(a 8, .inr (9, [.ref (a 9), .int (i 2)])), (a 9, .inl (cy 1, 220, .inl (r 9)))]) [8, 9] rfl
  have hD_4 := hD.sub (ws' := [(a 8, .inr (9, [.ref (a 9), .int (i 2)])), (a 9, .inl (cy 1, 220, .inl (r 9)))]) [8, 9] (by decide) rfl
  have hF_3 := va_free (wc := [(a 8, .inr (9, [.ref (a 9), .int (i 2)])), (a 9, .inl (cy 1, 220, .inl (r 9)))]) hD hS hA [8, 9] rfl
  refine va_callv (va_runV (As := [.int p0]) (rest := []) ⟨hx, hb, hml, hown, hT⟩ (c_X9_add l D cy (a 8) (a 9) (i 2) (r 9) p0 _ (by omega)) (cwV 1 hT (gV t_138 t_140 t_141 t_142 t_139) rfl rfl rfl (by decide +kernel) ⟨Nat.le_of_ble_eq_true rfl, Nat.le_of_ble_eq_true rfl⟩) (rQ_v hP_2 hK hD_4 (va_recv hK hP_2 (ci := 9) (q0 := 0) rfl rfl)) rfl rfl hl.1 rfl (lv_room (Nat.le_of_ble_eq_true rfl)) dX11_feed_20 ⟨Nat.le_of_ble_eq_true rfl, Nat.le_of_ble_eq_true rfl⟩) hS (fun q _ h => hF_3 q h) hF_3 (fun u_6 t H1 locs ht hvm hr_5 hB hz1 hk1 hS => ?_)
  obtain ⟨hP1, hK1, hD1⟩ := hB
  rw [ht] at hP1
  obtain ⟨hP, hD⟩ := rj (wc := [(a 8, .inr (9, [.ref (a 9), .int (i 2)])), (a 9, .inl (cy 1, 220, .inl (r 9)))]) (w1 := [(a 8, .inr (9, [.ref (a 9), .int u_6.1])), (a 9, .inl (cy 1, 220, .inl u_6.2))]) hP hD [8, 9] rfl rfl hk1 hP1
  have hP : va_P D vwCl (xW cy a (upd i 2 u_6.1) (va_up r 9 u_6.2) q (a 20) (a 12)) H1 := hP
  have hD : va_D A (xW cy a (upd i 2 u_6.1) (va_up r 9 u_6.2) q (a 20) (a 12)) := hD
  have hr_5 : u_6.1.toInt = (i 2).toInt + 4 := hr_5
  refine lv_aload_n hx hb dX11_feed_23 rfl (lv_at hl 0 rfl) ?_
  refine va_get (D := D) (ci := 11) (v := .ref (a 8)) (C := RX11) (T := TX11) (N := 14) hx hb hT iX11 hown hK hP 0 rfl rfl 4 (by decide) (hT _ t_46) (fun _ h9 => h9) rfl dX11_feed_24 ?_
  refine lv_iload_n hx hb dX11_feed_27 rfl (lv_at hl 2 rfl) ?_
  have hP_7 := hP.sub (ws' := [(a 8, .inr (9, [.ref (a 9), .int ((upd i 2 u_6.1) 2)])), (a 9, .inl (cy 1, 220, .inl ((va_up r 9 u_6.2) 9)))]) [8, 9] rfl
  have hD_9 := hD.sub (ws' := [(a 8, .inr (9, [.ref (a 9), .int ((upd i 2 u_6.1) 2)])), (a 9, .inl (cy 1, 220, .inl ((va_up r 9 u_6.2) 9)))]) [8, 9] (by decide) rfl
  have hF_8 := va_free (wc := [(a 8, .inr (9, [.ref (a 9), .int ((upd i 2 u_6.1) 2)])), (a 9, .inl (cy 1, 220, .inl ((va_up r 9 u_6.2) 9)))]) hD hS hA [8, 9] rfl
  refine va_callv (va_runV (As := [.int p1]) (rest := []) ⟨hx, hb, hml, hown, hT⟩ (c_X9_add l D cy (a 8) (a 9) ((upd i 2 u_6.1) 2) ((va_up r 9 u_6.2) 9) p1 _ (by have : ((upd i 2 u_6.1) 2).toInt = u_6.1.toInt := rfl; omega)) (cwV 1 hT (gV t_138 t_140 t_141 t_142 t_139) rfl rfl rfl (by decide +kernel) ⟨Nat.le_of_ble_eq_true rfl, Nat.le_of_ble_eq_true rfl⟩) (rQ_v hP_7 hK hD_9 (va_recv hK hP_7 (ci := 9) (q0 := 0) rfl rfl)) rfl rfl hl.1 rfl (lv_room (Nat.le_of_ble_eq_true rfl)) dX11_feed_28 ⟨Nat.le_of_ble_eq_true rfl, Nat.le_of_ble_eq_true rfl⟩) hS (fun q _ h => hF_8 q h) hF_8 (fun u_11 t H1 locs ht hvm hr_10 hB hz1 hk1 hS => ?_)
  obtain ⟨hP1, hK1, hD1⟩ := hB
  rw [ht] at hP1
  obtain ⟨hP, hD⟩ := rj (wc := [(a 8, .inr (9, [.ref (a 9), .int ((upd i 2 u_6.1) 2)])), (a 9, .inl (cy 1, 220, .inl ((va_up r 9 u_6.2) 9)))]) (w1 := [(a 8, .inr (9, [.ref (a 9), .int u_11.1])), (a 9, .inl (cy 1, 220, .inl u_11.2))]) hP hD [8, 9] rfl rfl hk1 hP1
  have hP : va_P D vwCl (xW cy a (upd (upd i 2 u_6.1) 2 u_11.1) (va_up (va_up r 9 u_6.2) 9 u_11.2) q (a 20) (a 12)) H1 := hP
  have hD : va_D A (xW cy a (upd (upd i 2 u_6.1) 2 u_11.1) (va_up (va_up r 9 u_6.2) 9 u_11.2) q (a 20) (a 12)) := hD
  have hr_10 : u_11.1.toInt = u_6.1.toInt + 4 := hr_10
  refine lv_aload_n hx hb dX11_feed_31 rfl (lv_at hl 0 rfl) ?_
  refine va_get (D := D) (ci := 11) (v := .ref (a 8)) (C := RX11) (T := TX11) (N := 14) hx hb hT iX11 hown hK hP 0 rfl rfl 4 (by decide) (hT _ t_46) (fun _ h9 => h9) rfl dX11_feed_32 ?_
  refine lv_iload_n hx hb dX11_feed_35 rfl (lv_at hl 3 rfl) ?_
  have hP_12 := hP.sub (ws' := [(a 8, .inr (9, [.ref (a 9), .int ((upd (upd i 2 u_6.1) 2 u_11.1) 2)])), (a 9, .inl (cy 1, 220, .inl ((va_up (va_up r 9 u_6.2) 9 u_11.2) 9)))]) [8, 9] rfl
  have hD_14 := hD.sub (ws' := [(a 8, .inr (9, [.ref (a 9), .int ((upd (upd i 2 u_6.1) 2 u_11.1) 2)])), (a 9, .inl (cy 1, 220, .inl ((va_up (va_up r 9 u_6.2) 9 u_11.2) 9)))]) [8, 9] (by decide) rfl
  have hF_13 := va_free (wc := [(a 8, .inr (9, [.ref (a 9), .int ((upd (upd i 2 u_6.1) 2 u_11.1) 2)])), (a 9, .inl (cy 1, 220, .inl ((va_up (va_up r 9 u_6.2) 9 u_11.2) 9)))]) hD hS hA [8, 9] rfl
  refine va_callv (va_runV (As := [.int p2]) (rest := []) ⟨hx, hb, hml, hown, hT⟩ (c_X9_add l D cy (a 8) (a 9) ((upd (upd i 2 u_6.1) 2 u_11.1) 2) ((va_up (va_up r 9 u_6.2) 9 u_11.2) 9) p2 _ (by have : ((upd (upd i 2 u_6.1) 2 u_11.1) 2).toInt = u_11.1.toInt := rfl; omega)) (cwV 1 hT (gV t_138 t_140 t_141 t_142 t_139) rfl rfl rfl (by decide +kernel) ⟨Nat.le_of_ble_eq_true rfl, Nat.le_of_ble_eq_true rfl⟩) (rQ_v hP_12 hK hD_14 (va_recv hK hP_12 (ci := 9) (q0 := 0) rfl rfl)) rfl rfl hl.1 rfl (lv_room (Nat.le_of_ble_eq_true rfl)) dX11_feed_36 ⟨Nat.le_of_ble_eq_true rfl, Nat.le_of_ble_eq_true rfl⟩) hS (fun q _ h => hF_13 q h) hF_13 (fun u_16 t H1 locs ht hvm hr_15 hB hz1 hk1 hS => ?_)
  obtain ⟨hP1, hK1, hD1⟩ := hB
  rw [ht] at hP1
  obtain ⟨hP, hD⟩ := rj (wc := [(a 8, .inr (9, [.ref (a 9), .int ((upd (upd i 2 u_6.1) 2 u_11.1) 2)])), (a 9, .inl (cy 1, 220, .inl ((va_up (va_up r 9 u_6.2) 9 u_11.2) 9)))]) (w1 := [(a 8, .inr (9, [.ref (a 9), .int u_16.1])), (a 9, .inl (cy 1, 220, .inl u_16.2))]) hP hD [8, 9] rfl rfl hk1 hP1
  have hP : va_P D vwCl (xW cy a (upd (upd (upd i 2 u_6.1) 2 u_11.1) 2 u_16.1) (va_up (va_up (va_up r 9 u_6.2) 9 u_11.2) 9 u_16.2) q (a 20) (a 12)) H1 := hP
  have hD : va_D A (xW cy a (upd (upd (upd i 2 u_6.1) 2 u_11.1) 2 u_16.1) (va_up (va_up (va_up r 9 u_6.2) 9 u_11.2) 9 u_16.2) q (a 20) (a 12)) := hD
  have hr_15 : u_16.1.toInt = u_11.1.toInt + 4 := hr_15
  refine lv_aload_n hx hb dX11_feed_39 rfl (lv_at hl 0 rfl) ?_
  refine va_get (D := D) (ci := 11) (v := .ref (a 8)) (C := RX11) (T := TX11) (N := 14) hx hb hT iX11 hown hK hP 0 rfl rfl 4 (by decide) (hT _ t_46) (fun _ h9 => h9) rfl dX11_feed_40 ?_
  refine lv_iload hx hb dX11_feed_43 (lv_at hl 4 rfl) ?_
  have hP_17 := hP.sub (ws' := [(a 8, .inr (9, [.ref (a 9), .int ((upd (upd (upd i 2 u_6.1) 2 u_11.1) 2 u_16.1) 2)])), (a 9, .inl (cy 1, 220, .inl ((va_up (va_up (va_up r 9 u_6.2) 9 u_11.2) 9 u_16.2) 9)))]) [8, 9] rfl
  have hD_19 := hD.sub (ws' := [(a 8, .inr (9, [.ref (a 9), .int ((upd (upd (upd i 2 u_6.1) 2 u_11.1) 2 u_16.1) 2)])), (a 9, .inl (cy 1, 220, .inl ((va_up (va_up (va_up r 9 u_6.2) 9 u_11.2) 9 u_16.2) 9)))]) [8, 9] (by decide) rfl
  have hF_18 := va_free (wc := [(a 8, .inr (9, [.ref (a 9), .int ((upd (upd (upd i 2 u_6.1) 2 u_11.1) 2 u_16.1) 2)])), (a 9, .inl (cy 1, 220, .inl ((va_up (va_up (va_up r 9 u_6.2) 9 u_11.2) 9 u_16.2) 9)))]) hD hS hA [8, 9] rfl
  refine va_callv (va_runV (As := [.int p3]) (rest := []) ⟨hx, hb, hml, hown, hT⟩ (c_X9_add l D cy (a 8) (a 9) ((upd (upd (upd i 2 u_6.1) 2 u_11.1) 2 u_16.1) 2) ((va_up (va_up (va_up r 9 u_6.2) 9 u_11.2) 9 u_16.2) 9) p3 _ (by have : ((upd (upd (upd i 2 u_6.1) 2 u_11.1) 2 u_16.1) 2).toInt = u_16.1.toInt := rfl; omega)) (cwV 1 hT (gV t_138 t_140 t_141 t_142 t_139) rfl rfl rfl (by decide +kernel) ⟨Nat.le_of_ble_eq_true rfl, Nat.le_of_ble_eq_true rfl⟩) (rQ_v hP_17 hK hD_19 (va_recv hK hP_17 (ci := 9) (q0 := 0) rfl rfl)) rfl rfl hl.1 rfl (lv_room (Nat.le_of_ble_eq_true rfl)) dX11_feed_45 ⟨Nat.le_of_ble_eq_true rfl, Nat.le_of_ble_eq_true rfl⟩) hS (fun q _ h => hF_18 q h) hF_18 (fun u_21 t H1 locs ht hvm hr_20 hB hz1 hk1 hS => ?_)
  obtain ⟨hP1, hK1, hD1⟩ := hB
  rw [ht] at hP1
  obtain ⟨hP, hD⟩ := rj (wc := [(a 8, .inr (9, [.ref (a 9), .int ((upd (upd (upd i 2 u_6.1) 2 u_11.1) 2 u_16.1) 2)])), (a 9, .inl (cy 1, 220, .inl ((va_up (va_up (va_up r 9 u_6.2) 9 u_11.2) 9 u_16.2) 9)))]) (w1 := [(a 8, .inr (9, [.ref (a 9), .int u_21.1])), (a 9, .inl (cy 1, 220, .inl u_21.2))]) hP hD [8, 9] rfl rfl hk1 hP1
  have hP : va_P D vwCl (xW cy a (upd (upd (upd (upd i 2 u_6.1) 2 u_11.1) 2 u_16.1) 2 u_21.1) (va_up (va_up (va_up (va_up r 9 u_6.2) 9 u_11.2) 9 u_16.2) 9 u_21.2) q (a 20) (a 12)) H1 := hP
  have hD : va_D A (xW cy a (upd (upd (upd (upd i 2 u_6.1) 2 u_11.1) 2 u_16.1) 2 u_21.1) (va_up (va_up (va_up (va_up r 9 u_6.2) 9 u_11.2) 9 u_16.2) 9 u_21.2) q (a 20) (a 12)) := hD
  have hr_20 : u_21.1.toInt = u_16.1.toInt + 4 := hr_20
  refine lv_aload_n hx hb dX11_feed_48 rfl (lv_at hl 0 rfl) ?_
  refine va_get (D := D) (ci := 11) (v := .ref (a 8)) (C := RX11) (T := TX11) (N := 14) hx hb hT iX11 hown hK hP 0 rfl rfl 4 (by decide) (hT _ t_46) (fun _ h9 => h9) rfl dX11_feed_49 ?_
  refine lv_iload hx hb dX11_feed_52 (lv_at hl 5 rfl) ?_
  have hP_22 := hP.sub (ws' := [(a 8, .inr (9, [.ref (a 9), .int ((upd (upd (upd (upd i 2 u_6.1) 2 u_11.1) 2 u_16.1) 2 u_21.1) 2)])), (a 9, .inl (cy 1, 220, .inl ((va_up (va_up (va_up (va_up r 9 u_6.2) 9 u_11.2) 9 u_16.2) 9 u_21.2) 9)))]) [8, 9] rfl
  have hD_24 := hD.sub (ws' := [(a 8, .inr (9, [.ref (a 9), .int ((upd (upd (upd (upd i 2 u_6.1) 2 u_11.1) 2 u_16.1) 2 u_21.1) 2)])), (a 9, .inl (cy 1, 220, .inl ((va_up (va_up (va_up (va_up r 9 u_6.2) 9 u_11.2) 9 u_16.2) 9 u_21.2) 9)))]) [8, 9] (by decide) rfl
  have hF_23 := va_free (wc := [(a 8, .inr (9, [.ref (a 9), .int ((upd (upd (upd (upd i 2 u_6.1) 2 u_11.1) 2 u_16.1) 2 u_21.1) 2)])), (a 9, .inl (cy 1, 220, .inl ((va_up (va_up (va_up (va_up r 9 u_6.2) 9 u_11.2) 9 u_16.2) 9 u_21.2) 9)))]) hD hS hA [8, 9] rfl
  refine va_callv (va_runV (As := [.int p4]) (rest := []) ⟨hx, hb, hml, hown, hT⟩ (c_X9_add l D cy (a 8) (a 9) ((upd (upd (upd (upd i 2 u_6.1) 2 u_11.1) 2 u_16.1) 2 u_21.1) 2) ((va_up (va_up (va_up (va_up r 9 u_6.2) 9 u_11.2) 9 u_16.2) 9 u_21.2) 9) p4 _ (by have : ((upd (upd (upd (upd i 2 u_6.1) 2 u_11.1) 2 u_16.1) 2 u_21.1) 2).toInt = u_21.1.toInt := rfl; omega)) (cwV 1 hT (gV t_138 t_140 t_141 t_142 t_139) rfl rfl rfl (by decide +kernel) ⟨Nat.le_of_ble_eq_true rfl, Nat.le_of_ble_eq_true rfl⟩) (rQ_v hP_22 hK hD_24 (va_recv hK hP_22 (ci := 9) (q0 := 0) rfl rfl)) rfl rfl hl.1 rfl (lv_room (Nat.le_of_ble_eq_true rfl)) dX11_feed_54 ⟨Nat.le_of_ble_eq_true rfl, Nat.le_of_ble_eq_true rfl⟩) hS (fun q _ h => hF_23 q h) hF_23 (fun u_26 t H1 locs ht hvm hr_25 hB hz1 hk1 hS => ?_)
  obtain ⟨hP1, hK1, hD1⟩ := hB
  rw [ht] at hP1
  obtain ⟨hP, hD⟩ := rj (wc := [(a 8, .inr (9, [.ref (a 9), .int ((upd (upd (upd (upd i 2 u_6.1) 2 u_11.1) 2 u_16.1) 2 u_21.1) 2)])), (a 9, .inl (cy 1, 220, .inl ((va_up (va_up (va_up (va_up r 9 u_6.2) 9 u_11.2) 9 u_16.2) 9 u_21.2) 9)))]) (w1 := [(a 8, .inr (9, [.ref (a 9), .int u_26.1])), (a 9, .inl (cy 1, 220, .inl u_26.2))]) hP hD [8, 9] rfl rfl hk1 hP1
  have hP : va_P D vwCl (xW cy a (upd (upd (upd (upd (upd i 2 u_6.1) 2 u_11.1) 2 u_16.1) 2 u_21.1) 2 u_26.1) (va_up (va_up (va_up (va_up (va_up r 9 u_6.2) 9 u_11.2) 9 u_16.2) 9 u_21.2) 9 u_26.2) q (a 20) (a 12)) H1 := hP
  have hD : va_D A (xW cy a (upd (upd (upd (upd (upd i 2 u_6.1) 2 u_11.1) 2 u_16.1) 2 u_21.1) 2 u_26.1) (va_up (va_up (va_up (va_up (va_up r 9 u_6.2) 9 u_11.2) 9 u_16.2) 9 u_21.2) 9 u_26.2) q (a 20) (a 12)) := hD
  have hr_25 : u_26.1.toInt = u_21.1.toInt + 4 := hr_25
  refine lv_aload_n hx hb dX11_feed_57 rfl (lv_at hl 0 rfl) ?_
  refine va_get (D := D) (ci := 11) (v := .ref (a 8)) (C := RX11) (T := TX11) (N := 14) hx hb hT iX11 hown hK hP 0 rfl rfl 4 (by decide) (hT _ t_46) (fun _ h9 => h9) rfl dX11_feed_58 ?_
  refine va_get (D := D) (ci := 9) (v := .int u_26.1) (C := RX9) (T := TX9) (N := 2) hx hb hT iX9 hown hK hP 8 rfl rfl 1 (by decide) (hT _ t_47) (fun _ h9 => h9) rfl dX11_feed_61 ?_
  subst hQ
  exact W.iret (v := u_26.1) hx hb hr (fun t ht hW => ⟨⟨_, (), rfl, Int32.toInt_inj.mp (by show u_26.1.toInt = (20 : Int); omega), trivial⟩, hS.F ht⟩) hS.2.2 dX11_feed_64
set_option maxHeartbeats 4000000 in
set_option maxRecDepth 100000 in
theorem c_X2_add (l : Launch) (D : va_G) (cy : Nat → ClassId) (h0 h1 h2 h3 : Nat) (f0 : Int32) (g1 g2 g3 : Nat → Int32) (p0 p1 : Int32) (sz : Nat) (q0 : 0 ≤ p0.toInt ∧ p0.toInt ≤ 5) : Met l yX2_add (Cond.code yX2_add cX2_add 3 none :: gT) { frames := 1, cells := 0, slots := 0, locals := 24 } (va_Pc [.ref h0, .int p0, .int p1] (rQ D cy [(h0, .inr (2, [.int f0, .ref h1, .ref h2, .ref h3])), (h1, .inl (cy 0, 6, .inl g1)), (h2, .inl (cy 0, 6, .inl g2)), (h3, .inl (cy 0, 6, .inl g3))] sz)) (va_Qv (fun u : (Nat → Int32) × (Nat → Int32) × (Nat → Int32) => True) (fun (u : (Nat → Int32) × (Nat → Int32) × (Nat → Int32)) t => va_P D vwCl [(h0, .inr (2, [.int f0, .ref h1, .ref h2, .ref h3])), (h1, .inl (cy 0, 6, .inl u.1)), (h2, .inl (cy 0, 6, .inl u.2.1)), (h3, .inl (cy 0, 6, .inl u.2.2))] t.heap ∧ va_K D vwCl (vT cy) t ∧ va_D (va_A [(h0, .inr (2, [.int f0, .ref h1, .ref h2, .ref h3])), (h1, .inl (cy 0, 6, .inl g1)), (h2, .inl (cy 0, 6, .inl g2)), (h3, .inl (cy 0, 6, .inl g3))] sz) [(h0, .inr (2, [.int f0, .ref h1, .ref h2, .ref h3])), (h1, .inl (cy 0, 6, .inl u.1)), (h2, .inl (cy 0, 6, .inl u.2.1)), (h3, .inl (cy 0, 6, .inl u.2.2))]) (va_A [(h0, .inr (2, [.int f0, .ref h1, .ref h2, .ref h3])), (h1, .inl (cy 0, 6, .inl g1)), (h2, .inl (cy 0, 6, .inl g2)), (h3, .inl (cy 0, 6, .inl g3))] sz)) 0 0 (va_A [(h0, .inr (2, [.int f0, .ref h1, .ref h2, .ref h3])), (h1, .inl (cy 0, 6, .inl g1)), (h2, .inl (cy 0, 6, .inl g2)), (h3, .inl (cy 0, 6, .inl g3))] sz) := by
  refine Met.ofQ (cc := cX2_add) (maxL := 3) (ret := none) (by decide) rfl ?_
  intro p e s m args below meth c s₁ B hml hv Q hQ
  obtain ⟨rfl, hsz, hP, hK, hD0⟩ := hv
  have hx := B.exec
  have hb := B.bytes
  have hr := B.returns
  have hlocks := B.notSynchronized
  have hT : ∀ w ∈ gT, w.before _ s = true := fun w h => atoms_spec (ws := (Cond.code yX2_add cX2_add 3 none :: gT)) B.pre w (List.mem_cons_of_mem _ h)
  have hown : s.vm.findClass RX2 = some m.cls := findClass_of_methodNamed B.named
  subst hsz
  have hD := hD0.self (sz := s.heap.size)
  generalize hAe : va_A [(h0, .inr (2, [.int f0, .ref h1, .ref h2, .ref h3])), (h1, .inl (cy 0, 6, .inl g1)), (h2, .inl (cy 0, 6, .inl g2)), (h3, .inl (cy 0, 6, .inl g3))] s.heap.size = A at hD hQ
  have hA : ∀ q : Nat, s.heap.size ≤ q → A q := fun q h => by rw [← hAe]; exact Or.inr h
  have hS : va_S A s.heap s.heap [] := va_S.rf
  have hl := lv_entry ([.ref h0, .int p0, .int p1]) (n := 3) (Nat.le_of_ble_eq_true rfl)
  rw [lg_entry_eq]
  generalize (lg_sl ([.ref h0, .int p0, .int p1]) ++ List.replicate (3 - (lg_sl ([.ref h0, .int p0, .int p1])).length) Slot.unset).toArray = ls at hl ⊢
  have hl : lv_has ls 3 [(0, .ref h0), (1, .int p0), (2, .int p1)] := hl
  refine lv_aload_n hx hb dX2_add_0 rfl (lv_at hl 0 rfl) ?_
  refine va_get (D := D) (ci := 2) (v := .ref h1) (C := RX2) (T := TX2) (N := 4) hx hb hT iX2 hown hK hP 0 rfl rfl 1 (by decide) (hT _ t_143) (fun _ h9 => h9) rfl dX2_add_1 ?_
  refine lv_iload_n hx hb dX2_add_4 rfl (lv_at hl 1 rfl) ?_
  refine lv_dup2_11 hx hb dX2_add_5 rfl rfl ?_
  refine va_iald hx hb hK hP 1 0 rfl rfl (vp_inI (by omega) (by omega)) dX2_add_6 ?_
  refine lv_topi (fun v_1 ev_1 => ?_)
  refine lv_iconst (v := 1) hx hb dX2_add_7 (by decide) ?_
  refine lv_iadd hx hb dX2_add_8 ?_
  refine lv_topi (fun v_2 ev_2 => ?_)
  refine va_iast hx hb hK hP hD hS 1 0 rfl rfl (vp_inI (by omega) (by omega)) dX2_add_9 (fun H locs hP hD hS => ?_)
  have hP : va_P D vwCl [(h0, .inr (2, [.int f0, .ref h1, .ref h2, .ref h3])), (h1, .inl (cy 0, 6, .inl (upd g1 p0.toNatClampNeg v_2))), (h2, .inl (cy 0, 6, .inl g2)), (h3, .inl (cy 0, 6, .inl g3))] H := hP
  have hD : va_D A [(h0, .inr (2, [.int f0, .ref h1, .ref h2, .ref h3])), (h1, .inl (cy 0, 6, .inl (upd g1 p0.toNatClampNeg v_2))), (h2, .inl (cy 0, 6, .inl g2)), (h3, .inl (cy 0, 6, .inl g3))] := hD
  refine lv_aload_n hx hb dX2_add_10 rfl (lv_at hl 0 rfl) ?_
  refine va_get (D := D) (ci := 2) (v := .ref h2) (C := RX2) (T := TX2) (N := 4) hx hb hT iX2 hown hK hP 0 rfl rfl 2 (by decide) (hT _ t_144) (fun _ h9 => h9) rfl dX2_add_11 ?_
  refine lv_iload_n hx hb dX2_add_14 rfl (lv_at hl 1 rfl) ?_
  refine lv_dup2_11 hx hb dX2_add_15 rfl rfl ?_
  refine va_iald hx hb hK hP 2 0 rfl rfl (vp_inI (by omega) (by omega)) dX2_add_16 ?_
  refine lv_topi (fun v_3 ev_3 => ?_)
  refine lv_iload_n hx hb dX2_add_17 rfl (lv_at hl 2 rfl) ?_
  refine va_mabs hx hb (by rw [hml]; exact hl.1.symm) hown (hT _ t_145) (hT _ t_146) (hT _ t_147) (hT _ t_148) (Nat.le_of_ble_eq_true rfl) (Nat.le_of_ble_eq_true rfl) (Nat.le_of_ble_eq_true rfl) (Nat.le_of_ble_eq_true rfl) dX2_add_18 ?_
  refine lv_topi (fun v_4 ev_4 => ?_)
  refine lv_iadd hx hb dX2_add_21 ?_
  refine lv_topi (fun v_5 ev_5 => ?_)
  refine va_iast hx hb hK hP hD hS 2 0 rfl rfl (vp_inI (by omega) (by omega)) dX2_add_22 (fun H locs hP hD hS => ?_)
  have hP : va_P D vwCl [(h0, .inr (2, [.int f0, .ref h1, .ref h2, .ref h3])), (h1, .inl (cy 0, 6, .inl (upd g1 p0.toNatClampNeg v_2))), (h2, .inl (cy 0, 6, .inl (upd g2 p0.toNatClampNeg v_5))), (h3, .inl (cy 0, 6, .inl g3))] H := hP
  have hD : va_D A [(h0, .inr (2, [.int f0, .ref h1, .ref h2, .ref h3])), (h1, .inl (cy 0, 6, .inl (upd g1 p0.toNatClampNeg v_2))), (h2, .inl (cy 0, 6, .inl (upd g2 p0.toNatClampNeg v_5))), (h3, .inl (cy 0, 6, .inl g3))] := hD
  refine lv_aload_n hx hb dX2_add_23 rfl (lv_at hl 0 rfl) ?_
  refine va_get (D := D) (ci := 2) (v := .ref h3) (C := RX2) (T := TX2) (N := 4) hx hb hT iX2 hown hK hP 0 rfl rfl 3 (by decide) (hT _ t_149) (fun _ h9 => h9) rfl dX2_add_24 ?_
  refine lv_iload_n hx hb dX2_add_27 rfl (lv_at hl 1 rfl) ?_
  refine lv_dup2_11 hx hb dX2_add_28 rfl rfl ?_
  refine va_iald hx hb hK hP 3 0 rfl rfl (vp_inI (by omega) (by omega)) dX2_add_29 ?_
  refine lv_topi (fun v_6 ev_6 => ?_)
  refine lv_iload_n hx hb dX2_add_30 rfl (lv_at hl 2 rfl) ?_
  refine lv_iadd hx hb dX2_add_31 ?_
  refine lv_topi (fun v_7 ev_7 => ?_)
  refine va_iast hx hb hK hP hD hS 3 0 rfl rfl (vp_inI (by omega) (by omega)) dX2_add_32 (fun H locs hP hD hS => ?_)
  have hP : va_P D vwCl [(h0, .inr (2, [.int f0, .ref h1, .ref h2, .ref h3])), (h1, .inl (cy 0, 6, .inl (upd g1 p0.toNatClampNeg v_2))), (h2, .inl (cy 0, 6, .inl (upd g2 p0.toNatClampNeg v_5))), (h3, .inl (cy 0, 6, .inl (upd g3 p0.toNatClampNeg v_7)))] H := hP
  have hD : va_D A [(h0, .inr (2, [.int f0, .ref h1, .ref h2, .ref h3])), (h1, .inl (cy 0, 6, .inl (upd g1 p0.toNatClampNeg v_2))), (h2, .inl (cy 0, 6, .inl (upd g2 p0.toNatClampNeg v_5))), (h3, .inl (cy 0, 6, .inl (upd g3 p0.toNatClampNeg v_7)))] := hD
  subst hQ
  exact W.vret hx hb hr (fun t ht hW => ⟨⟨(upd g1 p0.toNatClampNeg v_2, upd g2 p0.toNatClampNeg v_5, upd g3 p0.toNatClampNeg v_7), rfl, trivial, by rw [ht]; exact hP, va_K.moved hW.alike hK, hD⟩, hS.F ht⟩) hS.2.2 dX2_add_33
set_option maxHeartbeats 4000000 in
set_option maxRecDepth 100000 in
theorem c_X11_twice (l : Launch) (D : va_G) (cy : Nat → ClassId) (a : Nat → Nat) (i : Nat → Int32) (r : Nat → Nat → Int32) (q : Nat → Option Nat) (p0 p1 p2 p3 : Int32) (sz : Nat) (hf : xZ i) (hg : xZr r) : Met l yX11_twice (Cond.code yX11_twice cX11_twice 5 (some .int) :: gT) { frames := 2, cells := 0, slots := 0, locals := 46 } (va_Pc [.ref (a 0), .int p0, .int p1, .int p2, .int p3] (rQ D cy (xW cy a i r q (a 20) (a 12)) sz)) (va_Qi (fun (z : Int32) (u : Unit) => BR z ((0 ≤ p0.toInt ∧ p0.toInt ≤ 5) ∧ (0 ≤ p1.toInt ∧ p1.toInt ≤ 5) ∧ p0.toInt ≠ p1.toInt ∧ (0 ≤ p2.toInt ∧ p2.toInt ≤ 9999) ∧ (0 ≤ p3.toInt ∧ p3.toInt ≤ 9999)) 1 (-1)) (fun _ _ => True) (va_A (xW cy a i r q (a 20) (a 12)) sz)) 0 0 (va_A (xW cy a i r q (a 20) (a 12)) sz) := by
  refine Met.ofQ (cc := cX11_twice) (maxL := 5) (ret := (some .int)) (by decide) rfl ?_
  intro p e s m args below meth c s₁ B hml hv Q hQ
  obtain ⟨rfl, hsz, hP, hK, hD0⟩ := hv
  have hx := B.exec
  have hb := B.bytes
  have hr := B.returns
  have hlocks := B.notSynchronized
  have hT : ∀ w ∈ gT, w.before _ s = true := fun w h => atoms_spec (ws := (Cond.code yX11_twice cX11_twice 5 (some .int) :: gT)) B.pre w (List.mem_cons_of_mem _ h)
  have hown : s.vm.findClass RX11 = some m.cls := findClass_of_methodNamed B.named
  subst hsz
  have hD := hD0.self (sz := s.heap.size)
  generalize hAe : va_A (xW cy a i r q (a 20) (a 12)) s.heap.size = A at hD hQ
  have hA : ∀ q : Nat, s.heap.size ≤ q → A q := fun q h => by rw [← hAe]; exact Or.inr h
  have hS : va_S A s.heap s.heap [] := va_S.rf
  have hl := lv_entry ([.ref (a 0), .int p0, .int p1, .int p2, .int p3]) (n := 5) (Nat.le_of_ble_eq_true rfl)
  rw [lg_entry_eq]
  generalize (lg_sl ([.ref (a 0), .int p0, .int p1, .int p2, .int p3]) ++ List.replicate (5 - (lg_sl ([.ref (a 0), .int p0, .int p1, .int p2, .int p3])).length) Slot.unset).toArray = ls at hl ⊢
  have hl : lv_has ls 5 [(0, .ref (a 0)), (1, .int p0), (2, .int p1), (3, .int p2), (4, .int p3)] := hl
  refine lv_iload_n hx hb dX11_twice_0 rfl (lv_at hl 1 rfl) ?_
  refine lv_iconst (v := 0) hx hb dX11_twice_1 (by decide) ?_
  refine lv_iconst (v := 5) hx hb dX11_twice_2 (by decide) ?_
  refine vp_callSi (W.runS (As := [.int p0, .int 0, .int 5]) (rest := []) ⟨hx, hb, hml, hown, hT⟩ (c_X11_within l p0 0 5) (va_cwS 3 hT (gS t_1 t_3 t_4 t_2) rfl rfl rfl (by decide +kernel) ⟨Nat.le_of_ble_eq_true rfl, Nat.le_of_ble_eq_true rfl⟩) preT rfl rfl hl.1 rfl (lv_room (Nat.le_of_ble_eq_true rfl)) dX11_twice_3 ⟨Nat.le_of_ble_eq_true rfl, Nat.le_of_ble_eq_true rfl⟩) (fun r_1 hr_1 => ?_)
  have hr_1 : BR r_1 (0 ≤ p0.toInt ∧ p0.toInt ≤ 5) 1 0 := hr_1
  rcases hr_1 with ⟨rfl, h_2⟩ | ⟨rfl, h_2⟩
  · skip
    refine lv_if_eq (tgt := 58) hx hb dX11_twice_6 (by decide) (fun c_3 => absurd c_3 (by decide)) (fun c_3 => ?_)
    refine lv_iload_n hx hb dX11_twice_9 rfl (lv_at hl 2 rfl) ?_
    refine lv_iconst (v := 0) hx hb dX11_twice_10 (by decide) ?_
    refine lv_iconst (v := 5) hx hb dX11_twice_11 (by decide) ?_
    refine vp_callSi (W.runS (As := [.int p1, .int 0, .int 5]) (rest := []) ⟨hx, hb, hml, hown, hT⟩ (c_X11_within l p1 0 5) (va_cwS 3 hT (gS t_1 t_3 t_4 t_2) rfl rfl rfl (by decide +kernel) ⟨Nat.le_of_ble_eq_true rfl, Nat.le_of_ble_eq_true rfl⟩) preT rfl rfl hl.1 rfl (lv_room (Nat.le_of_ble_eq_true rfl)) dX11_twice_12 ⟨Nat.le_of_ble_eq_true rfl, Nat.le_of_ble_eq_true rfl⟩) (fun r_4 hr_4 => ?_)
    have hr_4 : BR r_4 (0 ≤ p1.toInt ∧ p1.toInt ≤ 5) 1 0 := hr_4
    rcases hr_4 with ⟨rfl, h_5⟩ | ⟨rfl, h_5⟩
    · skip
      refine lv_if_eq (tgt := 58) hx hb dX11_twice_15 (by decide) (fun c_6 => absurd c_6 (by decide)) (fun c_6 => ?_)
      refine lv_iload_n hx hb dX11_twice_18 rfl (lv_at hl 1 rfl) ?_
      refine lv_iload_n hx hb dX11_twice_19 rfl (lv_at hl 2 rfl) ?_
      refine lv_icmp_eq (tgt := 58) hx hb dX11_twice_20 (by decide) (fun c_7 => ?_) (fun c_7 => ?_)
      · have c_7 : p0.toInt = p1.toInt := b_eq c_7
        refine lv_iconst (v := (-1)) hx hb dX11_twice_58 (by decide) ?_
        subst hQ
        exact W.iret (v := (-1)) hx hb hr (fun t ht hW => ⟨⟨_, (), rfl, Or.inr ⟨rfl, by omega⟩, trivial⟩, hS.F ht⟩) hS.2.2 dX11_twice_59
      · have c_7 : p0.toInt ≠ p1.toInt := b_ne c_7
        refine lv_iload_n hx hb dX11_twice_23 rfl (lv_at hl 3 rfl) ?_
        refine lv_iconst (v := 0) hx hb dX11_twice_24 (by decide) ?_
        refine lv_sipush (v := 9999) hx hb dX11_twice_25 (by decide) ?_
        refine vp_callSi (W.runS (As := [.int p2, .int 0, .int 9999]) (rest := []) ⟨hx, hb, hml, hown, hT⟩ (c_X11_within l p2 0 9999) (va_cwS 3 hT (gS t_1 t_3 t_4 t_2) rfl rfl rfl (by decide +kernel) ⟨Nat.le_of_ble_eq_true rfl, Nat.le_of_ble_eq_true rfl⟩) preT rfl rfl hl.1 rfl (lv_room (Nat.le_of_ble_eq_true rfl)) dX11_twice_28 ⟨Nat.le_of_ble_eq_true rfl, Nat.le_of_ble_eq_true rfl⟩) (fun r_8 hr_8 => ?_)
        have hr_8 : BR r_8 (0 ≤ p2.toInt ∧ p2.toInt ≤ 9999) 1 0 := hr_8
        rcases hr_8 with ⟨rfl, h_9⟩ | ⟨rfl, h_9⟩
        · skip
          refine lv_if_eq (tgt := 58) hx hb dX11_twice_31 (by decide) (fun c_10 => absurd c_10 (by decide)) (fun c_10 => ?_)
          refine lv_iload hx hb dX11_twice_34 (lv_at hl 4 rfl) ?_
          refine lv_iconst (v := 0) hx hb dX11_twice_36 (by decide) ?_
          refine lv_sipush (v := 9999) hx hb dX11_twice_37 (by decide) ?_
          refine vp_callSi (W.runS (As := [.int p3, .int 0, .int 9999]) (rest := []) ⟨hx, hb, hml, hown, hT⟩ (c_X11_within l p3 0 9999) (va_cwS 3 hT (gS t_1 t_3 t_4 t_2) rfl rfl rfl (by decide +kernel) ⟨Nat.le_of_ble_eq_true rfl, Nat.le_of_ble_eq_true rfl⟩) preT rfl rfl hl.1 rfl (lv_room (Nat.le_of_ble_eq_true rfl)) dX11_twice_40 ⟨Nat.le_of_ble_eq_true rfl, Nat.le_of_ble_eq_true rfl⟩) (fun r_11 hr_11 => ?_)
          have hr_11 : BR r_11 (0 ≤ p3.toInt ∧ p3.toInt ≤ 9999) 1 0 := hr_11
          rcases hr_11 with ⟨rfl, h_12⟩ | ⟨rfl, h_12⟩
          · skip
            refine lv_if_eq (tgt := 58) hx hb dX11_twice_43 (by decide) (fun c_13 => absurd c_13 (by decide)) (fun c_13 => ?_)
            refine lv_aload_n hx hb dX11_twice_46 rfl (lv_at hl 0 rfl) ?_
            refine va_get (D := D) (ci := 11) (v := .ref (a 54)) (C := RX11) (T := TX11) (N := 14) hx hb hT iX11 hown hK hP 0 rfl rfl 12 (by decide) (hT _ t_58) (fun _ h9 => h9) rfl dX11_twice_47 ?_
            refine va_get (D := D) (ci := 2) (v := .int 0) (C := RX2) (T := TX2) (N := 4) hx hb hT iX2 hown hK hP 54 rfl rfl 0 (by decide) (hT _ t_63) (fun _ h9 => h9) (congrArg (fun z => some (Value.int z)) (hf.1 14 (by decide) (by decide))) dX11_twice_50 ?_
            refine lv_bipush (v := 40) hx hb dX11_twice_53 (by decide) ?_
            refine lv_icmp_lt (tgt := 60) hx hb dX11_twice_55 (by decide) (fun c_14 => ?_) (fun c_14 => absurd (by decide) c_14)
            refine lv_aload_n hx hb dX11_twice_60 rfl (lv_at hl 0 rfl) ?_
            refine va_get (D := D) (ci := 11) (v := .ref (a 54)) (C := RX11) (T := TX11) (N := 14) hx hb hT iX11 hown hK hP 0 rfl rfl 12 (by decide) (hT _ t_58) (fun _ h9 => h9) rfl dX11_twice_61 ?_
            refine lv_dup hx hb dX11_twice_64 rfl ?_
            refine va_get (D := D) (ci := 2) (v := .int 0) (C := RX2) (T := TX2) (N := 4) hx hb hT iX2 hown hK hP 54 rfl rfl 0 (by decide) (hT _ t_63) (fun _ h9 => h9) (congrArg (fun z => some (Value.int z)) (hf.1 14 (by decide) (by decide))) dX11_twice_65 ?_
            refine lv_iconst (v := 1) hx hb dX11_twice_68 (by decide) ?_
            refine lv_iadd hx hb dX11_twice_69 ?_
            refine lv_topi (fun v_15 ev_15 => ?_)
            obtain rfl : v_15 = 1 := ev_15.trans (by decide)
            refine va_put (D := D) (ci := 2) (v := .int 1) (ty := .int) (C := RX2) (T := TX2) (N := 4) hx hb hT iX2 tyX2 tyX2_ok nmX2 hown hK hP hD hS 54 rfl rfl 0 (by decide) (hT _ t_63) (fun _ h9 => h9) rfl (by decide +kernel) rfl rfl (Nat.le_of_ble_eq_true rfl) dX11_twice_70 (fun H locs hP hD hS => ?_)
            rw [xP14] at hP hD
            refine lv_aload_n hx hb dX11_twice_73 rfl (lv_at hl 0 rfl) ?_
            refine va_get (D := D) (ci := 11) (v := .ref (a 54)) (C := RX11) (T := TX11) (N := 14) hx hb hT iX11 hown hK hP 0 rfl rfl 12 (by decide) (hT _ t_58) (fun _ h9 => h9) rfl dX11_twice_74 ?_
            refine lv_iload_n hx hb dX11_twice_77 rfl (lv_at hl 1 rfl) ?_
            refine lv_iload_n hx hb dX11_twice_78 rfl (lv_at hl 3 rfl) ?_
            refine lv_iload hx hb dX11_twice_79 (lv_at hl 4 rfl) ?_
            refine lv_isub hx hb dX11_twice_81 ?_
            refine lv_topi (fun v_16 ev_16 => ?_)
            have hv_16 : v_16.toInt = p2.toInt - p3.toInt := by rw [ev_16]; have := b_rg p2; have := b_rg p3; exact i_sub (a := p2.toInt) (b := p3.toInt) rfl rfl (by omega) (by omega)
            have hP_17 := hP.sub (ws' := [(a 54, .inr (2, [.int ((upd i 14 1) 14), .ref (a 55), .ref (a 56), .ref (a 57)])), (a 55, .inl (cy 0, 6, .inl (r 55))), (a 56, .inl (cy 0, 6, .inl (r 56))), (a 57, .inl (cy 0, 6, .inl (r 57)))]) [54, 55, 56, 57] rfl
            have hD_19 := hD.sub (ws' := [(a 54, .inr (2, [.int ((upd i 14 1) 14), .ref (a 55), .ref (a 56), .ref (a 57)])), (a 55, .inl (cy 0, 6, .inl (r 55))), (a 56, .inl (cy 0, 6, .inl (r 56))), (a 57, .inl (cy 0, 6, .inl (r 57)))]) [54, 55, 56, 57] (by decide) rfl
            have hF_18 := va_free (wc := [(a 54, .inr (2, [.int ((upd i 14 1) 14), .ref (a 55), .ref (a 56), .ref (a 57)])), (a 55, .inl (cy 0, 6, .inl (r 55))), (a 56, .inl (cy 0, 6, .inl (r 56))), (a 57, .inl (cy 0, 6, .inl (r 57)))]) hD hS hA [54, 55, 56, 57] rfl
            refine va_callv (va_runV (As := [.int p0, .int v_16]) (rest := []) ⟨hx, hb, hml, hown, hT⟩ (c_X2_add l D cy (a 54) (a 55) (a 56) (a 57) ((upd i 14 1) 14) (r 55) (r 56) (r 57) p0 v_16 _ (by omega)) (cwV 2 hT (gV t_150 t_152 t_153 t_154 t_151) rfl rfl rfl (by decide +kernel) ⟨Nat.le_of_ble_eq_true rfl, Nat.le_of_ble_eq_true rfl⟩) (rQ_v hP_17 hK hD_19 (va_recv hK hP_17 (ci := 2) (q0 := 0) rfl rfl)) rfl rfl hl.1 rfl (lv_room (Nat.le_of_ble_eq_true rfl)) dX11_twice_82 ⟨Nat.le_of_ble_eq_true rfl, Nat.le_of_ble_eq_true rfl⟩) hS (fun q _ h => hF_18 q h) hF_18 (fun u_21 t H1 locs ht hvm hr_20 hB hz1 hk1 hS => ?_)
            obtain ⟨hP1, hK1, hD1⟩ := hB
            rw [ht] at hP1
            obtain ⟨hP, hD⟩ := rj (wc := [(a 54, .inr (2, [.int ((upd i 14 1) 14), .ref (a 55), .ref (a 56), .ref (a 57)])), (a 55, .inl (cy 0, 6, .inl (r 55))), (a 56, .inl (cy 0, 6, .inl (r 56))), (a 57, .inl (cy 0, 6, .inl (r 57)))]) (w1 := [(a 54, .inr (2, [.int ((upd i 14 1) 14), .ref (a 55), .ref (a 56), .ref (a 57)])), (a 55, .inl (cy 0, 6, .inl u_21.1)), (a 56, .inl (cy 0, 6, .inl u_21.2.1)), (a 57, .inl (cy 0, 6, .inl u_21.2.2))]) hP hD [54, 55, 56, 57] rfl rfl hk1 hP1
            have hP : va_P D vwCl (xW cy a (upd i 14 1) (va_up (va_up (va_up r 55 u_21.1) 56 u_21.2.1) 57 u_21.2.2) q (a 20) (a 12)) H1 := hP
            have hD : va_D A (xW cy a (upd i 14 1) (va_up (va_up (va_up r 55 u_21.1) 56 u_21.2.1) 57 u_21.2.2) q (a 20) (a 12)) := hD
            refine lv_aload_n hx hb dX11_twice_85 rfl (lv_at hl 0 rfl) ?_
            refine va_get (D := D) (ci := 11) (v := .ref (a 54)) (C := RX11) (T := TX11) (N := 14) hx hb hT iX11 hown hK hP 0 rfl rfl 12 (by decide) (hT _ t_58) (fun _ h9 => h9) rfl dX11_twice_86 ?_
            refine lv_iload_n hx hb dX11_twice_89 rfl (lv_at hl 2 rfl) ?_
            refine lv_iload hx hb dX11_twice_90 (lv_at hl 4 rfl) ?_
            refine lv_iload_n hx hb dX11_twice_92 rfl (lv_at hl 3 rfl) ?_
            refine lv_isub hx hb dX11_twice_93 ?_
            refine lv_topi (fun v_22 ev_22 => ?_)
            have hv_22 : v_22.toInt = p3.toInt - p2.toInt := by rw [ev_22]; have := b_rg p3; have := b_rg p2; exact i_sub (a := p3.toInt) (b := p2.toInt) rfl rfl (by omega) (by omega)
            have hP_23 := hP.sub (ws' := [(a 54, .inr (2, [.int ((upd i 14 1) 14), .ref (a 55), .ref (a 56), .ref (a 57)])), (a 55, .inl (cy 0, 6, .inl ((va_up (va_up (va_up r 55 u_21.1) 56 u_21.2.1) 57 u_21.2.2) 55))), (a 56, .inl (cy 0, 6, .inl ((va_up (va_up (va_up r 55 u_21.1) 56 u_21.2.1) 57 u_21.2.2) 56))), (a 57, .inl (cy 0, 6, .inl ((va_up (va_up (va_up r 55 u_21.1) 56 u_21.2.1) 57 u_21.2.2) 57)))]) [54, 55, 56, 57] rfl
            have hD_25 := hD.sub (ws' := [(a 54, .inr (2, [.int ((upd i 14 1) 14), .ref (a 55), .ref (a 56), .ref (a 57)])), (a 55, .inl (cy 0, 6, .inl ((va_up (va_up (va_up r 55 u_21.1) 56 u_21.2.1) 57 u_21.2.2) 55))), (a 56, .inl (cy 0, 6, .inl ((va_up (va_up (va_up r 55 u_21.1) 56 u_21.2.1) 57 u_21.2.2) 56))), (a 57, .inl (cy 0, 6, .inl ((va_up (va_up (va_up r 55 u_21.1) 56 u_21.2.1) 57 u_21.2.2) 57)))]) [54, 55, 56, 57] (by decide) rfl
            have hF_24 := va_free (wc := [(a 54, .inr (2, [.int ((upd i 14 1) 14), .ref (a 55), .ref (a 56), .ref (a 57)])), (a 55, .inl (cy 0, 6, .inl ((va_up (va_up (va_up r 55 u_21.1) 56 u_21.2.1) 57 u_21.2.2) 55))), (a 56, .inl (cy 0, 6, .inl ((va_up (va_up (va_up r 55 u_21.1) 56 u_21.2.1) 57 u_21.2.2) 56))), (a 57, .inl (cy 0, 6, .inl ((va_up (va_up (va_up r 55 u_21.1) 56 u_21.2.1) 57 u_21.2.2) 57)))]) hD hS hA [54, 55, 56, 57] rfl
            refine va_callv (va_runV (As := [.int p1, .int v_22]) (rest := []) ⟨hx, hb, hml, hown, hT⟩ (c_X2_add l D cy (a 54) (a 55) (a 56) (a 57) ((upd i 14 1) 14) ((va_up (va_up (va_up r 55 u_21.1) 56 u_21.2.1) 57 u_21.2.2) 55) ((va_up (va_up (va_up r 55 u_21.1) 56 u_21.2.1) 57 u_21.2.2) 56) ((va_up (va_up (va_up r 55 u_21.1) 56 u_21.2.1) 57 u_21.2.2) 57) p1 v_22 _ (by omega)) (cwV 2 hT (gV t_150 t_152 t_153 t_154 t_151) rfl rfl rfl (by decide +kernel) ⟨Nat.le_of_ble_eq_true rfl, Nat.le_of_ble_eq_true rfl⟩) (rQ_v hP_23 hK hD_25 (va_recv hK hP_23 (ci := 2) (q0 := 0) rfl rfl)) rfl rfl hl.1 rfl (lv_room (Nat.le_of_ble_eq_true rfl)) dX11_twice_94 ⟨Nat.le_of_ble_eq_true rfl, Nat.le_of_ble_eq_true rfl⟩) hS (fun q _ h => hF_24 q h) hF_24 (fun u_27 t H1 locs ht hvm hr_26 hB hz1 hk1 hS => ?_)
            obtain ⟨hP1, hK1, hD1⟩ := hB
            rw [ht] at hP1
            obtain ⟨hP, hD⟩ := rj (wc := [(a 54, .inr (2, [.int ((upd i 14 1) 14), .ref (a 55), .ref (a 56), .ref (a 57)])), (a 55, .inl (cy 0, 6, .inl ((va_up (va_up (va_up r 55 u_21.1) 56 u_21.2.1) 57 u_21.2.2) 55))), (a 56, .inl (cy 0, 6, .inl ((va_up (va_up (va_up r 55 u_21.1) 56 u_21.2.1) 57 u_21.2.2) 56))), (a 57, .inl (cy 0, 6, .inl ((va_up (va_up (va_up r 55 u_21.1) 56 u_21.2.1) 57 u_21.2.2) 57)))]) (w1 := [(a 54, .inr (2, [.int ((upd i 14 1) 14), .ref (a 55), .ref (a 56), .ref (a 57)])), (a 55, .inl (cy 0, 6, .inl u_27.1)), (a 56, .inl (cy 0, 6, .inl u_27.2.1)), (a 57, .inl (cy 0, 6, .inl u_27.2.2))]) hP hD [54, 55, 56, 57] rfl rfl hk1 hP1
            have hP : va_P D vwCl (xW cy a (upd i 14 1) (va_up (va_up (va_up (va_up (va_up (va_up r 55 u_21.1) 56 u_21.2.1) 57 u_21.2.2) 55 u_27.1) 56 u_27.2.1) 57 u_27.2.2) q (a 20) (a 12)) H1 := hP
            have hD : va_D A (xW cy a (upd i 14 1) (va_up (va_up (va_up (va_up (va_up (va_up r 55 u_21.1) 56 u_21.2.1) 57 u_21.2.2) 55 u_27.1) 56 u_27.2.1) 57 u_27.2.2) q (a 20) (a 12)) := hD
            refine lv_aload_n hx hb dX11_twice_97 rfl (lv_at hl 0 rfl) ?_
            refine va_get (D := D) (ci := 11) (v := .ref (a 54)) (C := RX11) (T := TX11) (N := 14) hx hb hT iX11 hown hK hP 0 rfl rfl 12 (by decide) (hT _ t_58) (fun _ h9 => h9) rfl dX11_twice_98 ?_
            refine va_get (D := D) (ci := 2) (v := .int 1) (C := RX2) (T := TX2) (N := 4) hx hb hT iX2 hown hK hP 54 rfl rfl 0 (by decide) (hT _ t_63) (fun _ h9 => h9) rfl dX11_twice_101 ?_
            subst hQ
            exact W.iret (v := 1) hx hb hr (fun t ht hW => ⟨⟨_, (), rfl, Or.inl ⟨rfl, by omega⟩, trivial⟩, hS.F ht⟩) hS.2.2 dX11_twice_104
          · skip
            refine lv_if_eq (tgt := 58) hx hb dX11_twice_43 (by decide) (fun c_28 => ?_) (fun c_28 => absurd (by decide) c_28)
            refine lv_iconst (v := (-1)) hx hb dX11_twice_58 (by decide) ?_
            subst hQ
            exact W.iret (v := (-1)) hx hb hr (fun t ht hW => ⟨⟨_, (), rfl, Or.inr ⟨rfl, by omega⟩, trivial⟩, hS.F ht⟩) hS.2.2 dX11_twice_59
        · skip
          refine lv_if_eq (tgt := 58) hx hb dX11_twice_31 (by decide) (fun c_29 => ?_) (fun c_29 => absurd (by decide) c_29)
          refine lv_iconst (v := (-1)) hx hb dX11_twice_58 (by decide) ?_
          subst hQ
          exact W.iret (v := (-1)) hx hb hr (fun t ht hW => ⟨⟨_, (), rfl, Or.inr ⟨rfl, by omega⟩, trivial⟩, hS.F ht⟩) hS.2.2 dX11_twice_59
    · skip
      refine lv_if_eq (tgt := 58) hx hb dX11_twice_15 (by decide) (fun c_30 => ?_) (fun c_30 => absurd (by decide) c_30)
      refine lv_iconst (v := (-1)) hx hb dX11_twice_58 (by decide) ?_
      subst hQ
      exact W.iret (v := (-1)) hx hb hr (fun t ht hW => ⟨⟨_, (), rfl, Or.inr ⟨rfl, by omega⟩, trivial⟩, hS.F ht⟩) hS.2.2 dX11_twice_59
  · skip
    refine lv_if_eq (tgt := 58) hx hb dX11_twice_6 (by decide) (fun c_31 => ?_) (fun c_31 => absurd (by decide) c_31)
    refine lv_iconst (v := (-1)) hx hb dX11_twice_58 (by decide) ?_
    subst hQ
    exact W.iret (v := (-1)) hx hb hr (fun t ht hW => ⟨⟨_, (), rfl, Or.inr ⟨rfl, by omega⟩, trivial⟩, hS.F ht⟩) hS.2.2 dX11_twice_59
set_option maxHeartbeats 4000000 in
set_option maxRecDepth 100000 in
theorem c_X7_stretch (l : Launch) (D : va_G) (cy : Nat → ClassId) (h0 h1 h2 : Nat) (f0 f1 : Int32) (g : Nat → Int32) (p0 p1 p2 : Int32) (sz : Nat) (q0 : 0 ≤ p0.toInt ∧ p0.toInt ≤ 10) (q1 : 0 ≤ p1.toInt ∧ p1.toInt ≤ 10) : Met l yX7_stretch (Cond.code yX7_stretch cX7_stretch 7 none :: gT) { frames := 2, cells := 0, slots := 0, locals := 46 } (va_Pc [.ref h0, .int p0, .int p1, .int p2] (rQ D cy [(h0, .inr (7, [.int f0, .int f1, .ref h1, .ref h2])), (h2, .inl (cy 0, 121, .inl g))] sz)) (va_Qv (fun u : Nat → Int32 => True) (fun (u : Nat → Int32) t => va_P D vwCl [(h0, .inr (7, [.int f0, .int f1, .ref h1, .ref h2])), (h2, .inl (cy 0, 121, .inl u))] t.heap ∧ va_K D vwCl (vT cy) t ∧ va_D (va_A [(h0, .inr (7, [.int f0, .int f1, .ref h1, .ref h2])), (h2, .inl (cy 0, 121, .inl g))] sz) [(h0, .inr (7, [.int f0, .int f1, .ref h1, .ref h2])), (h2, .inl (cy 0, 121, .inl u))]) (va_A [(h0, .inr (7, [.int f0, .int f1, .ref h1, .ref h2])), (h2, .inl (cy 0, 121, .inl g))] sz)) 0 0 (va_A [(h0, .inr (7, [.int f0, .int f1, .ref h1, .ref h2])), (h2, .inl (cy 0, 121, .inl g))] sz) := by
  refine Met.ofQ (cc := cX7_stretch) (maxL := 7) (ret := none) (by decide) rfl ?_
  intro p e s m args below meth c s₁ B hml hv Q hQ
  obtain ⟨rfl, hsz, hP, hK, hD0⟩ := hv
  have hx := B.exec
  have hb := B.bytes
  have hr := B.returns
  have hlocks := B.notSynchronized
  have hT : ∀ w ∈ gT, w.before _ s = true := fun w h => atoms_spec (ws := (Cond.code yX7_stretch cX7_stretch 7 none :: gT)) B.pre w (List.mem_cons_of_mem _ h)
  have hown : s.vm.findClass RX7 = some m.cls := findClass_of_methodNamed B.named
  subst hsz
  have hD := hD0.self (sz := s.heap.size)
  generalize hAe : va_A [(h0, .inr (7, [.int f0, .int f1, .ref h1, .ref h2])), (h2, .inl (cy 0, 121, .inl g))] s.heap.size = A at hD hQ
  have hA : ∀ q : Nat, s.heap.size ≤ q → A q := fun q h => by rw [← hAe]; exact Or.inr h
  have hS : va_S A s.heap s.heap [] := va_S.rf
  have hl := lv_entry ([.ref h0, .int p0, .int p1, .int p2]) (n := 7) (Nat.le_of_ble_eq_true rfl)
  rw [lg_entry_eq]
  generalize (lg_sl ([.ref h0, .int p0, .int p1, .int p2]) ++ List.replicate (7 - (lg_sl ([.ref h0, .int p0, .int p1, .int p2])).length) Slot.unset).toArray = ls at hl ⊢
  have hl : lv_has ls 7 [(0, .ref h0), (1, .int p0), (2, .int p1), (3, .int p2)] := hl
  refine lv_iconst (v := 0) hx hb dX7_stretch_0 (by decide) ?_
  refine lv_istore (lv' := [(4, .int 0), (0, .ref h0), (1, .int p0), (2, .int p1), (3, .int p2)]) hx hb dX7_stretch_1 hl (by decide) rfl (fun ls hl => ?_)
  have loop_1 : ∀ (n j1 : Nat) (x1 : Int32) (g1_1 : Nat → Int32) (H : Heap) (locs : List Loc) (ls : Array Slot), j1 + n = 11 → x1 = nI j1 → va_P D vwCl [(h0, .inr (7, [.int f0, .int f1, .ref h1, .ref h2])), (h2, .inl (cy 0, 121, .inl g1_1))] H → va_D A [(h0, .inr (7, [.int f0, .int f1, .ref h1, .ref h2])), (h2, .inl (cy 0, 121, .inl g1_1))] → va_S A s.heap H locs → lv_has ls 7 [(4, .int x1), (0, .ref h0), (1, .int p0), (2, .int p1), (3, .int p2)] → W p l e ({ frames := 2, cells := 0, slots := 0, locals := 46 } : Room) s m ([.ref h0, .int p0, .int p1, .int p2] : List Value).toArray below meth c H locs 0 0 Q (F0 m 3 ls []) := by
    intro n
    induction n with
    | zero =>
      intro j1 x1 g1_1 H locs ls hj1 hq1 hP hD hS hl
      obtain rfl : j1 = 11 := by omega
      obtain rfl : x1 = 11 := hq1.trans (by decide)
      refine lv_iload hx hb dX7_stretch_3 (lv_at hl 0 rfl) ?_
      refine lv_bipush (v := 11) hx hb dX7_stretch_5 (by decide) ?_
      refine lv_icmp_ge (tgt := 101) hx hb dX7_stretch_7 (by decide) (fun c_2 => ?_) (fun c_2 => absurd (by decide) c_2)
      subst hQ
      exact W.vret hx hb hr (fun t ht hW => ⟨⟨g1_1, rfl, trivial, by rw [ht]; exact hP, va_K.moved hW.alike hK, hD⟩, hS.F ht⟩) hS.2.2 dX7_stretch_101
    | succ n ih1 =>
      intro j1 x1 g1_1 H locs ls hj1 hq1 hP hD hS hl
      have hx1 : x1.toInt = (j1 : Int) := by rw [hq1]; exact nI_toInt (by omega)
      have hcx1 : x1.toNatClampNeg = j1 := by rw [hq1]; exact nI_clamp (by omega)
      refine lv_iload hx hb dX7_stretch_3 (lv_at hl 0 rfl) ?_
      refine lv_bipush (v := 11) hx hb dX7_stretch_5 (by decide) ?_
      refine lv_icmp_ge (tgt := 101) hx hb dX7_stretch_7 (by decide) (fun c_3 => by have c_3 : 11 ≤ x1.toInt := b_le c_3; omega) (fun c_3 => ?_)
      have c_3 : x1.toInt < 11 := b_nle c_3
      refine lv_iconst (v := 0) hx hb dX7_stretch_10 (by decide) ?_
      refine lv_istore (lv' := [(5, .int 0), (4, .int x1), (0, .ref h0), (1, .int p0), (2, .int p1), (3, .int p2)]) hx hb dX7_stretch_11 hl (by decide) rfl (fun ls hl => ?_)
      have loop_4 : ∀ (n j4 : Nat) (x4 : Int32) (g4_1 : Nat → Int32) (H : Heap) (locs : List Loc) (ls : Array Slot), j4 + n = 11 → x4 = nI j4 → va_P D vwCl [(h0, .inr (7, [.int f0, .int f1, .ref h1, .ref h2])), (h2, .inl (cy 0, 121, .inl g4_1))] H → va_D A [(h0, .inr (7, [.int f0, .int f1, .ref h1, .ref h2])), (h2, .inl (cy 0, 121, .inl g4_1))] → va_S A s.heap H locs → lv_has ls 7 [(5, .int x4), (4, .int x1), (0, .ref h0), (1, .int p0), (2, .int p1), (3, .int p2)] → W p l e ({ frames := 2, cells := 0, slots := 0, locals := 46 } : Room) s m ([.ref h0, .int p0, .int p1, .int p2] : List Value).toArray below meth c H locs 0 0 Q (F0 m 13 ls []) := by
        intro n
        induction n with
        | zero =>
          intro j4 x4 g4_1 H locs ls hj4 hq4 hP hD hS hl
          obtain rfl : j4 = 11 := by omega
          obtain rfl : x4 = 11 := hq4.trans (by decide)
          refine lv_iload hx hb dX7_stretch_13 (lv_at hl 0 rfl) ?_
          refine lv_bipush (v := 11) hx hb dX7_stretch_15 (by decide) ?_
          refine lv_icmp_ge (tgt := 95) hx hb dX7_stretch_17 (by decide) (fun c_5 => ?_) (fun c_5 => absurd (by decide) c_5)
          obtain ⟨x_6, ex_6⟩ : ∃ y : Int32, y = x1 + 1 := ⟨_, rfl⟩
          refine lv_iinc (v := x_6) (lv' := [(4, .int x_6), (5, .int 11), (0, .ref h0), (1, .int p0), (2, .int p1), (3, .int p2)]) hx hb dX7_stretch_95 hl (k := 1) rfl (by rw [ex_6]; rfl) (by decide) rfl (fun ls hl => ?_)
          refine lv_goto (tgt := 3) hx hb dX7_stretch_98 (by decide) ?_
          exact ih1 (j1 + 1) x_6 g4_1 _ _ _ (by omega) (by rw [ex_6, hq1]; exact nI_1 j1) hP hD hS (lv_sub hl [0, 2, 3, 4, 5] rfl)
        | succ n ih4 =>
          intro j4 x4 g4_1 H locs ls hj4 hq4 hP hD hS hl
          have hx4 : x4.toInt = (j4 : Int) := by rw [hq4]; exact nI_toInt (by omega)
          have hcx4 : x4.toNatClampNeg = j4 := by rw [hq4]; exact nI_clamp (by omega)
          refine lv_iload hx hb dX7_stretch_13 (lv_at hl 0 rfl) ?_
          refine lv_bipush (v := 11) hx hb dX7_stretch_15 (by decide) ?_
          refine lv_icmp_ge (tgt := 95) hx hb dX7_stretch_17 (by decide) (fun c_7 => by have c_7 : 11 ≤ x4.toInt := b_le c_7; omega) (fun c_7 => ?_)
          have c_7 : x4.toInt < 11 := b_nle c_7
          refine lv_aload_n hx hb dX7_stretch_20 rfl (lv_at hl 2 rfl) ?_
          refine lv_iload hx hb dX7_stretch_21 (lv_at hl 1 rfl) ?_
          refine lv_iload_n hx hb dX7_stretch_23 rfl (lv_at hl 3 rfl) ?_
          have hP_8 := hP.sub (ws' := [(h0, .inr (7, [.int f0, .int f1, .ref h1, .ref h2])), (h2, .inl (cy 0, 121, .inl g4_1))]) [0, 1] rfl
          refine vp_callSi (W.runV (As := [.int x1, .int p0]) (rest := []) ⟨hx, hb, hml, hown, hT⟩ (c_X7_gap l D cy h0 h1 h2 f0 f1 g4_1 x1 p0 (by first | omega | decide) (by first | omega | decide)) (cwV 2 hT (gV t_67 t_155 t_70 t_71 t_68) rfl rfl rfl (by decide +kernel) ⟨Nat.le_of_ble_eq_true rfl, Nat.le_of_ble_eq_true rfl⟩) (rP_v hP_8 hK (va_recv hK hP_8 (ci := 7) (q0 := 0) rfl rfl)) rfl rfl hl.1 rfl (lv_room (Nat.le_of_ble_eq_true rfl)) dX7_stretch_24 ⟨Nat.le_of_ble_eq_true rfl, Nat.le_of_ble_eq_true rfl⟩) (fun r_9 hr_9 => ?_)
          refine lv_ldc (v := (-1000000)) hx hb hown (hT _ t_156) dX7_stretch_27 ?_
          refine lv_icmp_eq (tgt := 89) hx hb dX7_stretch_29 (by decide) (fun c_10 => ?_) (fun c_10 => ?_)
          · have c_10 : r_9.toInt = (-1000000) := b_eq c_10
            obtain ⟨x_11, ex_11⟩ : ∃ y : Int32, y = x4 + 1 := ⟨_, rfl⟩
            refine lv_iinc (v := x_11) (lv' := [(5, .int x_11), (4, .int x1), (0, .ref h0), (1, .int p0), (2, .int p1), (3, .int p2)]) hx hb dX7_stretch_89 hl (k := 0) rfl (by rw [ex_11]; rfl) (by decide) rfl (fun ls hl => ?_)
            refine lv_goto (tgt := 13) hx hb dX7_stretch_92 (by decide) ?_
            exact ih4 (j4 + 1) x_11 g4_1 _ _ _ (by omega) (by rw [ex_11, hq4]; exact nI_1 j4) hP hD hS (lv_sub hl [0, 1, 2, 3, 4, 5] rfl)
          · have c_10 : r_9.toInt ≠ (-1000000) := b_ne c_10
            refine lv_aload_n hx hb dX7_stretch_32 rfl (lv_at hl 2 rfl) ?_
            refine lv_iload_n hx hb dX7_stretch_33 rfl (lv_at hl 4 rfl) ?_
            refine lv_iload hx hb dX7_stretch_34 (lv_at hl 0 rfl) ?_
            have hP_12 := hP.sub (ws' := [(h0, .inr (7, [.int f0, .int f1, .ref h1, .ref h2])), (h2, .inl (cy 0, 121, .inl g4_1))]) [0, 1] rfl
            refine vp_callSi (W.runV (As := [.int p1, .int x4]) (rest := []) ⟨hx, hb, hml, hown, hT⟩ (c_X7_gap l D cy h0 h1 h2 f0 f1 g4_1 p1 x4 (by first | omega | decide) (by first | omega | decide)) (cwV 2 hT (gV t_67 t_155 t_70 t_71 t_68) rfl rfl rfl (by decide +kernel) ⟨Nat.le_of_ble_eq_true rfl, Nat.le_of_ble_eq_true rfl⟩) (rP_v hP_12 hK (va_recv hK hP_12 (ci := 7) (q0 := 0) rfl rfl)) rfl rfl hl.1 rfl (lv_room (Nat.le_of_ble_eq_true rfl)) dX7_stretch_36 ⟨Nat.le_of_ble_eq_true rfl, Nat.le_of_ble_eq_true rfl⟩) (fun r_13 hr_13 => ?_)
            refine lv_ldc (v := (-1000000)) hx hb hown (hT _ t_156) dX7_stretch_39 ?_
            refine lv_icmp_eq (tgt := 89) hx hb dX7_stretch_41 (by decide) (fun c_14 => ?_) (fun c_14 => ?_)
            · have c_14 : r_13.toInt = (-1000000) := b_eq c_14
              obtain ⟨x_15, ex_15⟩ : ∃ y : Int32, y = x4 + 1 := ⟨_, rfl⟩
              refine lv_iinc (v := x_15) (lv' := [(5, .int x_15), (4, .int x1), (0, .ref h0), (1, .int p0), (2, .int p1), (3, .int p2)]) hx hb dX7_stretch_89 hl (k := 0) rfl (by rw [ex_15]; rfl) (by decide) rfl (fun ls hl => ?_)
              refine lv_goto (tgt := 13) hx hb dX7_stretch_92 (by decide) ?_
              exact ih4 (j4 + 1) x_15 g4_1 _ _ _ (by omega) (by rw [ex_15, hq4]; exact nI_1 j4) hP hD hS (lv_sub hl [0, 1, 2, 3, 4, 5] rfl)
            · have c_14 : r_13.toInt ≠ (-1000000) := b_ne c_14
              refine lv_aload_n hx hb dX7_stretch_44 rfl (lv_at hl 2 rfl) ?_
              refine lv_iload hx hb dX7_stretch_45 (lv_at hl 1 rfl) ?_
              refine lv_iload_n hx hb dX7_stretch_47 rfl (lv_at hl 3 rfl) ?_
              have hP_16 := hP.sub (ws' := [(h0, .inr (7, [.int f0, .int f1, .ref h1, .ref h2])), (h2, .inl (cy 0, 121, .inl g4_1))]) [0, 1] rfl
              refine vp_callSi (W.runV (As := [.int x1, .int p0]) (rest := []) ⟨hx, hb, hml, hown, hT⟩ (c_X7_gap l D cy h0 h1 h2 f0 f1 g4_1 x1 p0 (by first | omega | decide) (by first | omega | decide)) (cwV 2 hT (gV t_67 t_155 t_70 t_71 t_68) rfl rfl rfl (by decide +kernel) ⟨Nat.le_of_ble_eq_true rfl, Nat.le_of_ble_eq_true rfl⟩) (rP_v hP_16 hK (va_recv hK hP_16 (ci := 7) (q0 := 0) rfl rfl)) rfl rfl hl.1 rfl (lv_room (Nat.le_of_ble_eq_true rfl)) dX7_stretch_48 ⟨Nat.le_of_ble_eq_true rfl, Nat.le_of_ble_eq_true rfl⟩) (fun r_17 hr_17 => ?_)
              refine lv_iload_n hx hb dX7_stretch_51 rfl (lv_at hl 5 rfl) ?_
              refine lv_iadd hx hb dX7_stretch_52 ?_
              refine lv_topi (fun v_18 ev_18 => ?_)
              refine lv_aload_n hx hb dX7_stretch_53 rfl (lv_at hl 2 rfl) ?_
              refine lv_iload_n hx hb dX7_stretch_54 rfl (lv_at hl 4 rfl) ?_
              refine lv_iload hx hb dX7_stretch_55 (lv_at hl 0 rfl) ?_
              have hP_19 := hP.sub (ws' := [(h0, .inr (7, [.int f0, .int f1, .ref h1, .ref h2])), (h2, .inl (cy 0, 121, .inl g4_1))]) [0, 1] rfl
              refine vp_callSi (W.runV (As := [.int p1, .int x4]) (rest := [.int v_18]) ⟨hx, hb, hml, hown, hT⟩ (c_X7_gap l D cy h0 h1 h2 f0 f1 g4_1 p1 x4 (by first | omega | decide) (by first | omega | decide)) (cwV 2 hT (gV t_67 t_155 t_70 t_71 t_68) rfl rfl rfl (by decide +kernel) ⟨Nat.le_of_ble_eq_true rfl, Nat.le_of_ble_eq_true rfl⟩) (rP_v hP_19 hK (va_recv hK hP_19 (ci := 7) (q0 := 0) rfl rfl)) rfl rfl hl.1 rfl (lv_room (Nat.le_of_ble_eq_true rfl)) dX7_stretch_57 ⟨Nat.le_of_ble_eq_true rfl, Nat.le_of_ble_eq_true rfl⟩) (fun r_20 hr_20 => ?_)
              refine lv_iadd hx hb dX7_stretch_60 ?_
              refine lv_topi (fun v_21 ev_21 => ?_)
              refine lv_istore (lv' := [(6, .int v_21), (5, .int x4), (4, .int x1), (0, .ref h0), (1, .int p0), (2, .int p1), (3, .int p2)]) hx hb dX7_stretch_61 hl (by decide) rfl (fun ls hl => ?_)
              refine lv_aload_n hx hb dX7_stretch_63 rfl (lv_at hl 3 rfl) ?_
              refine va_get (D := D) (ci := 7) (v := .ref h2) (C := RX7) (T := TX7) (N := 4) hx hb hT iX7 hown hK hP 0 rfl rfl 3 (by decide) (hT _ t_66) (fun _ h9 => h9) rfl dX7_stretch_64 ?_
              refine lv_iload hx hb dX7_stretch_67 (lv_at hl 2 rfl) ?_
              refine lv_bipush (v := 11) hx hb dX7_stretch_69 (by decide) ?_
              refine lv_imul hx hb dX7_stretch_71 ?_
              refine lv_topi (fun v_22 ev_22 => ?_)
              have hv_22 : v_22.toInt = x1.toInt * 11 := by rw [ev_22]; have := b_rg x1; exact i_mul (a := x1.toInt) (b := 11) rfl rfl (by omega) (by omega)
              refine lv_iload hx hb dX7_stretch_72 (lv_at hl 1 rfl) ?_
              refine lv_iadd hx hb dX7_stretch_74 ?_
              refine lv_topi (fun v_23 ev_23 => ?_)
              have hv_23 : v_23.toInt = v_22.toInt + x4.toInt := by rw [ev_23]; have := b_rg v_22; have := b_rg x4; exact i_add (a := v_22.toInt) (b := x4.toInt) rfl rfl (by omega) (by omega)
              refine lv_aload_n hx hb dX7_stretch_75 rfl (lv_at hl 3 rfl) ?_
              refine lv_iload hx hb dX7_stretch_76 (lv_at hl 2 rfl) ?_
              refine lv_iload hx hb dX7_stretch_78 (lv_at hl 1 rfl) ?_
              have hP_24 := hP.sub (ws' := [(h0, .inr (7, [.int f0, .int f1, .ref h1, .ref h2])), (h2, .inl (cy 0, 121, .inl g4_1))]) [0, 1] rfl
              refine vp_callSi (W.runV (As := [.int x1, .int x4]) (rest := [.int v_23, .ref h2]) ⟨hx, hb, hml, hown, hT⟩ (c_X7_gap l D cy h0 h1 h2 f0 f1 g4_1 x1 x4 (by first | omega | decide) (by first | omega | decide)) (cwV 2 hT (gV t_67 t_155 t_70 t_71 t_68) rfl rfl rfl (by decide +kernel) ⟨Nat.le_of_ble_eq_true rfl, Nat.le_of_ble_eq_true rfl⟩) (rP_v hP_24 hK (va_recv hK hP_24 (ci := 7) (q0 := 0) rfl rfl)) rfl rfl hl.1 rfl (lv_room (Nat.le_of_ble_eq_true rfl)) dX7_stretch_80 ⟨Nat.le_of_ble_eq_true rfl, Nat.le_of_ble_eq_true rfl⟩) (fun r_25 hr_25 => ?_)
              refine lv_iload hx hb dX7_stretch_83 (lv_at hl 0 rfl) ?_
              refine va_mmax hx hb (by rw [hml]; exact hl.1.symm) hown (hT _ t_157) (hT _ t_158) (hT _ t_147) (hT _ t_159) (Nat.le_of_ble_eq_true rfl) (Nat.le_of_ble_eq_true rfl) (Nat.le_of_ble_eq_true rfl) (Nat.le_of_ble_eq_true rfl) dX7_stretch_85 ?_
              refine lv_topi (fun v_26 ev_26 => ?_)
              refine va_iast hx hb hK hP hD hS 1 0 rfl rfl (vp_inI (by omega) (by omega)) dX7_stretch_88 (fun H locs hP hD hS => ?_)
              have hP : va_P D vwCl [(h0, .inr (7, [.int f0, .int f1, .ref h1, .ref h2])), (h2, .inl (cy 0, 121, .inl (upd g4_1 v_23.toNatClampNeg v_26)))] H := hP
              have hD : va_D A [(h0, .inr (7, [.int f0, .int f1, .ref h1, .ref h2])), (h2, .inl (cy 0, 121, .inl (upd g4_1 v_23.toNatClampNeg v_26)))] := hD
              obtain ⟨x_27, ex_27⟩ : ∃ y : Int32, y = x4 + 1 := ⟨_, rfl⟩
              refine lv_iinc (v := x_27) (lv' := [(5, .int x_27), (6, .int v_21), (4, .int x1), (0, .ref h0), (1, .int p0), (2, .int p1), (3, .int p2)]) hx hb dX7_stretch_89 hl (k := 1) rfl (by rw [ex_27]; rfl) (by decide) rfl (fun ls hl => ?_)
              refine lv_goto (tgt := 13) hx hb dX7_stretch_92 (by decide) ?_
              exact ih4 (j4 + 1) x_27 (upd g4_1 v_23.toNatClampNeg v_26) _ _ _ (by omega) (by rw [ex_27, hq4]; exact nI_1 j4) hP hD hS (lv_sub hl [0, 2, 3, 4, 5, 6] rfl)
      exact loop_4 11 0 0 g1_1 _ _ _ (by omega) rfl hP hD hS hl
  exact loop_1 11 0 0 g _ _ _ (by omega) rfl hP hD hS hl
set_option maxHeartbeats 4000000 in
set_option maxRecDepth 100000 in
theorem c_X7_add (l : Launch) (D : va_G) (cy : Nat → ClassId) (h0 h1 h2 : Nat) (f0 f1 : Int32) (g : Nat → Int32) (p0 p1 p2 : Int32) (sz : Nat) (e0 : f0 = 0) (e1 : f1 = 0) (q0 : 0 ≤ p0.toInt ∧ p0.toInt ≤ 10) (q1 : 0 ≤ p1.toInt ∧ p1.toInt ≤ 10) (q2 : p0.toInt ≠ p1.toInt) (hg : ∀ j, j < 121 → g j = if j / 11 = j % 11 then 0 else -1000000) : Met l yX7_add (Cond.code yX7_add cX7_add 5 (some .int) :: gT) { frames := 3, cells := 0, slots := 0, locals := 72 } (va_Pc [.ref h0, .int p0, .int p1, .int p2] (rQ D cy [(h0, .inr (7, [.int f0, .int f1, .ref h1, .ref h2])), (h2, .inl (cy 0, 121, .inl g))] sz)) (va_Qi (fun (z : Int32) (u : Unit) => z = 1) (fun _ _ => True) (va_A [(h0, .inr (7, [.int f0, .int f1, .ref h1, .ref h2])), (h2, .inl (cy 0, 121, .inl g))] sz)) 0 0 (va_A [(h0, .inr (7, [.int f0, .int f1, .ref h1, .ref h2])), (h2, .inl (cy 0, 121, .inl g))] sz) := by
  refine Met.ofQ (cc := cX7_add) (maxL := 5) (ret := (some .int)) (by decide) rfl ?_
  intro p e s m args below meth c s₁ B hml hv Q hQ
  obtain ⟨rfl, hsz, hP, hK, hD0⟩ := hv
  have hx := B.exec
  have hb := B.bytes
  have hr := B.returns
  have hlocks := B.notSynchronized
  have hT : ∀ w ∈ gT, w.before _ s = true := fun w h => atoms_spec (ws := (Cond.code yX7_add cX7_add 5 (some .int) :: gT)) B.pre w (List.mem_cons_of_mem _ h)
  have hown : s.vm.findClass RX7 = some m.cls := findClass_of_methodNamed B.named
  subst hsz
  have hD := hD0.self (sz := s.heap.size)
  generalize hAe : va_A [(h0, .inr (7, [.int f0, .int f1, .ref h1, .ref h2])), (h2, .inl (cy 0, 121, .inl g))] s.heap.size = A at hD hQ
  have hA : ∀ q : Nat, s.heap.size ≤ q → A q := fun q h => by rw [← hAe]; exact Or.inr h
  have hS : va_S A s.heap s.heap [] := va_S.rf
  have hl := lv_entry ([.ref h0, .int p0, .int p1, .int p2]) (n := 5) (Nat.le_of_ble_eq_true rfl)
  rw [lg_entry_eq]
  generalize (lg_sl ([.ref h0, .int p0, .int p1, .int p2]) ++ List.replicate (5 - (lg_sl ([.ref h0, .int p0, .int p1, .int p2])).length) Slot.unset).toArray = ls at hl ⊢
  have hl : lv_has ls 5 [(0, .ref h0), (1, .int p0), (2, .int p1), (3, .int p2)] := hl
  refine lv_aload_n hx hb dX7_add_0 rfl (lv_at hl 0 rfl) ?_
  refine va_get (D := D) (ci := 7) (v := .int 0) (C := RX7) (T := TX7) (N := 4) hx hb hT iX7 hown hK hP 0 rfl rfl 0 (by decide) (hT _ t_160) (fun _ h9 => h9) (congrArg (fun z => some (Value.int z)) e0) dX7_add_1 ?_
  refine lv_bipush (v := 30) hx hb dX7_add_4 (by decide) ?_
  refine lv_icmp_ge (tgt := 18) hx hb dX7_add_6 (by decide) (fun c_1 => absurd c_1 (by decide)) (fun c_1 => ?_)
  refine lv_aload_n hx hb dX7_add_9 rfl (lv_at hl 0 rfl) ?_
  refine va_get (D := D) (ci := 7) (v := .int 0) (C := RX7) (T := TX7) (N := 4) hx hb hT iX7 hown hK hP 0 rfl rfl 1 (by decide) (hT _ t_161) (fun _ h9 => h9) (congrArg (fun z => some (Value.int z)) e1) dX7_add_10 ?_
  refine lv_bipush (v := 30) hx hb dX7_add_13 (by decide) ?_
  refine lv_icmp_lt (tgt := 20) hx hb dX7_add_15 (by decide) (fun c_2 => ?_) (fun c_2 => absurd (by decide) c_2)
  refine lv_aload_n hx hb dX7_add_20 rfl (lv_at hl 0 rfl) ?_
  refine lv_iload_n hx hb dX7_add_21 rfl (lv_at hl 2 rfl) ?_
  refine lv_iload_n hx hb dX7_add_22 rfl (lv_at hl 1 rfl) ?_
  have hP_3 := hP.sub (ws' := [(h0, .inr (7, [.int f0, .int f1, .ref h1, .ref h2])), (h2, .inl (cy 0, 121, .inl g))]) [0, 1] rfl
  refine vp_callSi (W.runV (As := [.int p1, .int p0]) (rest := []) ⟨hx, hb, hml, hown, hT⟩ (c_X7_gap l D cy h0 h1 h2 f0 f1 g p1 p0 (by first | omega | decide) (by first | omega | decide)) (cwV 2 hT (gV t_67 t_155 t_70 t_71 t_68) rfl rfl rfl (by decide +kernel) ⟨Nat.le_of_ble_eq_true rfl, Nat.le_of_ble_eq_true rfl⟩) (rP_v hP_3 hK (va_recv hK hP_3 (ci := 7) (q0 := 0) rfl rfl)) rfl rfl hl.1 rfl (lv_room (Nat.le_of_ble_eq_true rfl)) dX7_add_23 ⟨Nat.le_of_ble_eq_true rfl, Nat.le_of_ble_eq_true rfl⟩) (fun r_4 hr_4 => ?_)
  obtain rfl : r_4 = (-1000000) := by rw [hr_4]; exact (hg _ (by omega)).trans (if_neg (by omega))
  refine lv_istore (lv' := [(4, .int (-1000000)), (0, .ref h0), (1, .int p0), (2, .int p1), (3, .int p2)]) hx hb dX7_add_26 hl (by decide) rfl (fun ls hl => ?_)
  refine lv_iload hx hb dX7_add_28 (lv_at hl 0 rfl) ?_
  refine lv_ldc (v := (-1000000)) hx hb hown (hT _ t_156) dX7_add_30 ?_
  refine lv_icmp_eq (tgt := 68) hx hb dX7_add_32 (by decide) (fun c_5 => ?_) (fun c_5 => absurd (by decide) c_5)
  refine lv_aload_n hx hb dX7_add_68 rfl (lv_at hl 1 rfl) ?_
  refine lv_iload_n hx hb dX7_add_69 rfl (lv_at hl 2 rfl) ?_
  refine lv_iload_n hx hb dX7_add_70 rfl (lv_at hl 3 rfl) ?_
  refine lv_iload_n hx hb dX7_add_71 rfl (lv_at hl 4 rfl) ?_
  have hP_6 := hP.sub (ws' := [(h0, .inr (7, [.int f0, .int f1, .ref h1, .ref h2])), (h2, .inl (cy 0, 121, .inl g))]) [0, 1] rfl
  have hD_8 := hD.sub (ws' := [(h0, .inr (7, [.int f0, .int f1, .ref h1, .ref h2])), (h2, .inl (cy 0, 121, .inl g))]) [0, 1] (by decide) rfl
  have hF_7 := va_free (wc := [(h0, .inr (7, [.int f0, .int f1, .ref h1, .ref h2])), (h2, .inl (cy 0, 121, .inl g))]) hD hS hA [0, 1] rfl
  refine va_callv (va_runV (As := [.int p0, .int p1, .int p2]) (rest := []) ⟨hx, hb, hml, hown, hT⟩ (c_X7_stretch l D cy h0 h1 h2 f0 f1 g p0 p1 p2 _ q0 q1) (cwV 3 hT (gV t_162 t_163 t_164 t_165 t_68) rfl rfl rfl (by decide +kernel) ⟨Nat.le_of_ble_eq_true rfl, Nat.le_of_ble_eq_true rfl⟩) (rQ_v hP_6 hK hD_8 (va_recv hK hP_6 (ci := 7) (q0 := 0) rfl rfl)) rfl rfl hl.1 rfl (lv_room (Nat.le_of_ble_eq_true rfl)) dX7_add_72 ⟨Nat.le_of_ble_eq_true rfl, Nat.le_of_ble_eq_true rfl⟩) hS (fun q _ h => hF_7 q h) hF_7 (fun u_10 t H1 locs ht hvm hr_9 hB hz1 hk1 hS => ?_)
  obtain ⟨hP1, hK1, hD1⟩ := hB
  rw [ht] at hP1
  obtain ⟨hP, hD⟩ := rj (wc := [(h0, .inr (7, [.int f0, .int f1, .ref h1, .ref h2])), (h2, .inl (cy 0, 121, .inl g))]) (w1 := [(h0, .inr (7, [.int f0, .int f1, .ref h1, .ref h2])), (h2, .inl (cy 0, 121, .inl u_10))]) hP hD [0, 1] rfl rfl hk1 hP1
  have hP : va_P D vwCl [(h0, .inr (7, [.int f0, .int f1, .ref h1, .ref h2])), (h2, .inl (cy 0, 121, .inl u_10))] H1 := hP
  have hD : va_D A [(h0, .inr (7, [.int f0, .int f1, .ref h1, .ref h2])), (h2, .inl (cy 0, 121, .inl u_10))] := hD
  refine lv_aload_n hx hb dX7_add_75 rfl (lv_at hl 1 rfl) ?_
  refine lv_dup hx hb dX7_add_76 rfl ?_
  refine va_get (D := D) (ci := 7) (v := .int 0) (C := RX7) (T := TX7) (N := 4) hx hb hT iX7 hown hK hP 0 rfl rfl 0 (by decide) (hT _ t_160) (fun _ h9 => h9) (congrArg (fun z => some (Value.int z)) e0) dX7_add_77 ?_
  refine lv_iconst (v := 1) hx hb dX7_add_80 (by decide) ?_
  refine lv_iadd hx hb dX7_add_81 ?_
  refine lv_topi (fun v_11 ev_11 => ?_)
  obtain rfl : v_11 = 1 := ev_11.trans (by decide)
  refine va_put (D := D) (ci := 7) (v := .int 1) (ty := .int) (C := RX7) (T := TX7) (N := 4) hx hb hT iX7 tyX7 tyX7_ok nmX7 hown hK hP hD hS 0 rfl rfl 0 (by decide) (hT _ t_160) (fun _ h9 => h9) rfl (by decide +kernel) rfl rfl (Nat.le_of_ble_eq_true rfl) dX7_add_82 (fun H locs hP hD hS => ?_)
  have hP : va_P D vwCl [(h0, .inr (7, [.int 1, .int f1, .ref h1, .ref h2])), (h2, .inl (cy 0, 121, .inl u_10))] H := hP
  have hD : va_D A [(h0, .inr (7, [.int 1, .int f1, .ref h1, .ref h2])), (h2, .inl (cy 0, 121, .inl u_10))] := hD
  refine lv_aload_n hx hb dX7_add_85 rfl (lv_at hl 1 rfl) ?_
  refine va_get (D := D) (ci := 7) (v := .int 1) (C := RX7) (T := TX7) (N := 4) hx hb hT iX7 hown hK hP 0 rfl rfl 0 (by decide) (hT _ t_160) (fun _ h9 => h9) rfl dX7_add_86 ?_
  subst hQ
  exact W.iret (v := 1) hx hb hr (fun t ht hW => ⟨⟨_, (), rfl, rfl, trivial⟩, hS.F ht⟩) hS.2.2 dX7_add_89
set_option maxHeartbeats 4000000 in
set_option maxRecDepth 100000 in
theorem c_X11_fact (l : Launch) (D : va_G) (cy : Nat → ClassId) (a : Nat → Nat) (i : Nat → Int32) (r : Nat → Nat → Int32) (q : Nat → Option Nat) (p0 p1 p2 : Int32) (sz : Nat) (hf : xZ i) (hg : xZr r) : Met l yX11_fact (Cond.code yX11_fact cX11_fact 4 (some .int) :: gT) { frames := 4, cells := 0, slots := 0, locals := 96 } (va_Pc [.ref (a 0), .int p0, .int p1, .int p2] (rQ D cy (xW cy a i r q (a 20) (a 12)) sz)) (va_Qi (fun (z : Int32) (u : Unit) => BR z ((0 ≤ p0.toInt ∧ p0.toInt ≤ 10) ∧ (0 ≤ p1.toInt ∧ p1.toInt ≤ 10) ∧ p0.toInt ≠ p1.toInt ∧ (-999 ≤ p2.toInt ∧ p2.toInt ≤ 999)) 1 (-1)) (fun _ _ => True) (va_A (xW cy a i r q (a 20) (a 12)) sz)) 0 0 (va_A (xW cy a i r q (a 20) (a 12)) sz) := by
  refine Met.ofQ (cc := cX11_fact) (maxL := 4) (ret := (some .int)) (by decide) rfl ?_
  intro p e s m args below meth c s₁ B hml hv Q hQ
  obtain ⟨rfl, hsz, hP, hK, hD0⟩ := hv
  have hx := B.exec
  have hb := B.bytes
  have hr := B.returns
  have hlocks := B.notSynchronized
  have hT : ∀ w ∈ gT, w.before _ s = true := fun w h => atoms_spec (ws := (Cond.code yX11_fact cX11_fact 4 (some .int) :: gT)) B.pre w (List.mem_cons_of_mem _ h)
  have hown : s.vm.findClass RX11 = some m.cls := findClass_of_methodNamed B.named
  subst hsz
  have hD := hD0.self (sz := s.heap.size)
  generalize hAe : va_A (xW cy a i r q (a 20) (a 12)) s.heap.size = A at hD hQ
  have hA : ∀ q : Nat, s.heap.size ≤ q → A q := fun q h => by rw [← hAe]; exact Or.inr h
  have hS : va_S A s.heap s.heap [] := va_S.rf
  have hl := lv_entry ([.ref (a 0), .int p0, .int p1, .int p2]) (n := 4) (Nat.le_of_ble_eq_true rfl)
  rw [lg_entry_eq]
  generalize (lg_sl ([.ref (a 0), .int p0, .int p1, .int p2]) ++ List.replicate (4 - (lg_sl ([.ref (a 0), .int p0, .int p1, .int p2])).length) Slot.unset).toArray = ls at hl ⊢
  have hl : lv_has ls 4 [(0, .ref (a 0)), (1, .int p0), (2, .int p1), (3, .int p2)] := hl
  refine lv_iload_n hx hb dX11_fact_0 rfl (lv_at hl 1 rfl) ?_
  refine lv_iconst (v := 0) hx hb dX11_fact_1 (by decide) ?_
  refine lv_bipush (v := 10) hx hb dX11_fact_2 (by decide) ?_
  refine vp_callSi (W.runS (As := [.int p0, .int 0, .int 10]) (rest := []) ⟨hx, hb, hml, hown, hT⟩ (c_X11_within l p0 0 10) (va_cwS 3 hT (gS t_1 t_3 t_4 t_2) rfl rfl rfl (by decide +kernel) ⟨Nat.le_of_ble_eq_true rfl, Nat.le_of_ble_eq_true rfl⟩) preT rfl rfl hl.1 rfl (lv_room (Nat.le_of_ble_eq_true rfl)) dX11_fact_4 ⟨Nat.le_of_ble_eq_true rfl, Nat.le_of_ble_eq_true rfl⟩) (fun r_1 hr_1 => ?_)
  have hr_1 : BR r_1 (0 ≤ p0.toInt ∧ p0.toInt ≤ 10) 1 0 := hr_1
  rcases hr_1 with ⟨rfl, h_2⟩ | ⟨rfl, h_2⟩
  · skip
    refine lv_if_eq (tgt := 38) hx hb dX11_fact_7 (by decide) (fun c_3 => absurd c_3 (by decide)) (fun c_3 => ?_)
    refine lv_iload_n hx hb dX11_fact_10 rfl (lv_at hl 2 rfl) ?_
    refine lv_iconst (v := 0) hx hb dX11_fact_11 (by decide) ?_
    refine lv_bipush (v := 10) hx hb dX11_fact_12 (by decide) ?_
    refine vp_callSi (W.runS (As := [.int p1, .int 0, .int 10]) (rest := []) ⟨hx, hb, hml, hown, hT⟩ (c_X11_within l p1 0 10) (va_cwS 3 hT (gS t_1 t_3 t_4 t_2) rfl rfl rfl (by decide +kernel) ⟨Nat.le_of_ble_eq_true rfl, Nat.le_of_ble_eq_true rfl⟩) preT rfl rfl hl.1 rfl (lv_room (Nat.le_of_ble_eq_true rfl)) dX11_fact_14 ⟨Nat.le_of_ble_eq_true rfl, Nat.le_of_ble_eq_true rfl⟩) (fun r_4 hr_4 => ?_)
    have hr_4 : BR r_4 (0 ≤ p1.toInt ∧ p1.toInt ≤ 10) 1 0 := hr_4
    rcases hr_4 with ⟨rfl, h_5⟩ | ⟨rfl, h_5⟩
    · skip
      refine lv_if_eq (tgt := 38) hx hb dX11_fact_17 (by decide) (fun c_6 => absurd c_6 (by decide)) (fun c_6 => ?_)
      refine lv_iload_n hx hb dX11_fact_20 rfl (lv_at hl 1 rfl) ?_
      refine lv_iload_n hx hb dX11_fact_21 rfl (lv_at hl 2 rfl) ?_
      refine lv_icmp_eq (tgt := 38) hx hb dX11_fact_22 (by decide) (fun c_7 => ?_) (fun c_7 => ?_)
      · have c_7 : p0.toInt = p1.toInt := b_eq c_7
        refine lv_iconst (v := (-1)) hx hb dX11_fact_38 (by decide) ?_
        subst hQ
        exact W.iret (v := (-1)) hx hb hr (fun t ht hW => ⟨⟨_, (), rfl, Or.inr ⟨rfl, by omega⟩, trivial⟩, hS.F ht⟩) hS.2.2 dX11_fact_39
      · have c_7 : p0.toInt ≠ p1.toInt := b_ne c_7
        refine lv_iload_n hx hb dX11_fact_25 rfl (lv_at hl 3 rfl) ?_
        refine lv_sipush (v := (-999)) hx hb dX11_fact_26 (by decide) ?_
        refine lv_sipush (v := 999) hx hb dX11_fact_29 (by decide) ?_
        refine vp_callSi (W.runS (As := [.int p2, .int (-999), .int 999]) (rest := []) ⟨hx, hb, hml, hown, hT⟩ (c_X11_within l p2 (-999) 999) (va_cwS 3 hT (gS t_1 t_3 t_4 t_2) rfl rfl rfl (by decide +kernel) ⟨Nat.le_of_ble_eq_true rfl, Nat.le_of_ble_eq_true rfl⟩) preT rfl rfl hl.1 rfl (lv_room (Nat.le_of_ble_eq_true rfl)) dX11_fact_32 ⟨Nat.le_of_ble_eq_true rfl, Nat.le_of_ble_eq_true rfl⟩) (fun r_8 hr_8 => ?_)
        have hr_8 : BR r_8 ((-999) ≤ p2.toInt ∧ p2.toInt ≤ 999) 1 0 := hr_8
        rcases hr_8 with ⟨rfl, h_9⟩ | ⟨rfl, h_9⟩
        · skip
          refine lv_if_ne (tgt := 40) hx hb dX11_fact_35 (by decide) (fun c_10 => ?_) (fun c_10 => absurd c_10 (by decide))
          refine lv_aload_n hx hb dX11_fact_40 rfl (lv_at hl 0 rfl) ?_
          refine va_get (D := D) (ci := 11) (v := .ref (a 58)) (C := RX11) (T := TX11) (N := 14) hx hb hT iX11 hown hK hP 0 rfl rfl 13 (by decide) (hT _ t_56) (fun _ h9 => h9) rfl dX11_fact_41 ?_
          refine lv_iload_n hx hb dX11_fact_44 rfl (lv_at hl 1 rfl) ?_
          refine lv_iload_n hx hb dX11_fact_45 rfl (lv_at hl 2 rfl) ?_
          refine lv_iload_n hx hb dX11_fact_46 rfl (lv_at hl 3 rfl) ?_
          have hP_11 := hP.sub (ws' := [(a 58, .inr (7, [.int (i 15), .int (i 16), .ref (a 59), .ref (a 60)])), (a 60, .inl (cy 0, 121, .inl (r 60)))]) [58, 60] rfl
          have hD_13 := hD.sub (ws' := [(a 58, .inr (7, [.int (i 15), .int (i 16), .ref (a 59), .ref (a 60)])), (a 60, .inl (cy 0, 121, .inl (r 60)))]) [58, 60] (by decide) rfl
          have hF_12 := va_free (wc := [(a 58, .inr (7, [.int (i 15), .int (i 16), .ref (a 59), .ref (a 60)])), (a 60, .inl (cy 0, 121, .inl (r 60)))]) hD hS hA [58, 60] rfl
          refine va_calli (va_runV (As := [.int p0, .int p1, .int p2]) (rest := []) ⟨hx, hb, hml, hown, hT⟩ (c_X7_add l D cy (a 58) (a 59) (a 60) (i 15) (i 16) (r 60) p0 p1 p2 _ (hf.1 15 (by decide) (by decide)) (hf.1 16 (by decide) (by decide)) (by omega) (by omega) (by omega) hg.2) (cwV 3 hT (gV t_166 t_167 t_168 t_169 t_68) rfl rfl rfl (by decide +kernel) ⟨Nat.le_of_ble_eq_true rfl, Nat.le_of_ble_eq_true rfl⟩) (rQ_v hP_11 hK hD_13 (va_recv hK hP_11 (ci := 7) (q0 := 0) rfl rfl)) rfl rfl hl.1 rfl (lv_room (Nat.le_of_ble_eq_true rfl)) dX11_fact_47 ⟨Nat.le_of_ble_eq_true rfl, Nat.le_of_ble_eq_true rfl⟩) hS (fun q _ h => hF_12 q h) hF_12 (fun r_14 u_15 t H1 locs ht hvm hr_14 hB hz1 hk1 hS => ?_)
          obtain rfl : r_14 = 1 := hr_14
          subst hQ
          exact W.iret (v := 1) hx hb hr (fun t ht hW => ⟨⟨_, (), rfl, Or.inl ⟨rfl, by omega⟩, trivial⟩, hS.F ht⟩) hS.2.2 dX11_fact_50
        · skip
          refine lv_if_ne (tgt := 40) hx hb dX11_fact_35 (by decide) (fun c_16 => absurd (by decide) c_16) (fun c_16 => ?_)
          refine lv_iconst (v := (-1)) hx hb dX11_fact_38 (by decide) ?_
          subst hQ
          exact W.iret (v := (-1)) hx hb hr (fun t ht hW => ⟨⟨_, (), rfl, Or.inr ⟨rfl, by omega⟩, trivial⟩, hS.F ht⟩) hS.2.2 dX11_fact_39
    · skip
      refine lv_if_eq (tgt := 38) hx hb dX11_fact_17 (by decide) (fun c_17 => ?_) (fun c_17 => absurd (by decide) c_17)
      refine lv_iconst (v := (-1)) hx hb dX11_fact_38 (by decide) ?_
      subst hQ
      exact W.iret (v := (-1)) hx hb hr (fun t ht hW => ⟨⟨_, (), rfl, Or.inr ⟨rfl, by omega⟩, trivial⟩, hS.F ht⟩) hS.2.2 dX11_fact_39
  · skip
    refine lv_if_eq (tgt := 38) hx hb dX11_fact_7 (by decide) (fun c_18 => ?_) (fun c_18 => absurd (by decide) c_18)
    refine lv_iconst (v := (-1)) hx hb dX11_fact_38 (by decide) ?_
    subst hQ
    exact W.iret (v := (-1)) hx hb hr (fun t ht hW => ⟨⟨_, (), rfl, Or.inr ⟨rfl, by omega⟩, trivial⟩, hS.F ht⟩) hS.2.2 dX11_fact_39
end
section
theorem t_170 : Cond.fieldLink RX1 9 "DepositJudge$Docket" "claims" "I" ∈ gT := tm (List.mem_of_getElem? (i := 142) (by decide +kernel)) (by decide +kernel)
theorem t_171 : Cond.fieldLink RX1 47 "DepositJudge$Docket" "x" "I" ∈ gT := tm (List.mem_of_getElem? (i := 164) (by decide +kernel)) (by decide +kernel)
theorem t_172 : Cond.fieldLink RX1 41 "DepositJudge$Docket" "ownerOffers" "[I" ∈ gT := tm (List.mem_of_getElem? (i := 160) (by decide +kernel)) (by decide +kernel)
theorem t_173 : Cond.fieldLink RX1 44 "DepositJudge$Docket" "tenantOffers" "[I" ∈ gT := tm (List.mem_of_getElem? (i := 162) (by decide +kernel)) (by decide +kernel)
theorem t_174 : Cond.fieldLink RX11 65 "DepositJudge" "keptDocket" "LDepositJudge$Docket;" ∈ gT := tm (List.mem_of_getElem? (i := 260) (by decide +kernel)) (by decide +kernel)
theorem t_175 : Cond.code yX1_copyFrom cX1_copyFrom 3 none ∈ gT := tm (List.mem_of_getElem? (i := 890) (by decide +kernel)) (by decide +kernel)
theorem t_176 : Cond.initialized RX1 ∈ gT := tm (List.mem_of_getElem? (i := 7) (by decide +kernel)) (by decide +kernel)
theorem t_177 : Cond.methodLink RX11 332 yX1_copyFrom ∈ gT := tm (List.mem_of_getElem? (i := 887) (by decide +kernel)) (by decide +kernel)
theorem t_178 : Cond.instanceMethod yX1_copyFrom ∈ gT := tm (List.mem_of_getElem? (i := 888) (by decide +kernel)) (by decide +kernel)
theorem t_179 : Cond.selects RX1 yX1_copyFrom yX1_copyFrom ∈ gT := tm (List.mem_of_getElem? (i := 889) (by decide +kernel)) (by decide +kernel)
theorem t_180 : Cond.methodLink RX10 3 objectInit ∈ gT := tm (List.mem_of_getElem? (i := 321) (by decide +kernel)) (by decide +kernel)
theorem t_181 : Cond.instanceMethod objectInit ∈ gT := tm (List.mem_of_getElem? (i := 26) (by decide +kernel)) (by decide +kernel)
theorem t_182 : Cond.code objectInit ⟨#[0xb1]⟩ 1 none ∈ gT := tm (List.mem_of_getElem? (i := 27) (by decide +kernel)) (by decide +kernel)
theorem t_183 : Cond.fieldLink RX10 9 "DepositJudge$Things" "count" "I" ∈ gT := tm (List.mem_of_getElem? (i := 322) (by decide +kernel)) (by decide +kernel)
theorem t_184 : Cond.arrayClass .int ∈ gT := tm (List.mem_of_getElem? (i := 43) (by decide +kernel)) (by decide +kernel)
theorem t_185 : Cond.fieldLink RX10 15 "DepositJudge$Things" "rooms" "[I" ∈ gT := tm (List.mem_of_getElem? (i := 326) (by decide +kernel)) (by decide +kernel)
theorem t_186 : Cond.fieldLink RX10 19 "DepositJudge$Things" "kinds" "[I" ∈ gT := tm (List.mem_of_getElem? (i := 329) (by decide +kernel)) (by decide +kernel)
theorem t_187 : Cond.fieldLink RX10 22 "DepositJudge$Things" "states" "[I" ∈ gT := tm (List.mem_of_getElem? (i := 333) (by decide +kernel)) (by decide +kernel)
theorem t_188 : Cond.fieldLink RX10 25 "DepositJudge$Things" "ages" "[I" ∈ gT := tm (List.mem_of_getElem? (i := 337) (by decide +kernel)) (by decide +kernel)
theorem t_189 : Cond.methodLink RX3 3 objectInit ∈ gT := tm (List.mem_of_getElem? (i := 315) (by decide +kernel)) (by decide +kernel)
theorem t_190 : Cond.fieldLink RX3 9 "DepositJudge$Home" "parts" "[I" ∈ gT := tm (List.mem_of_getElem? (i := 361) (by decide +kernel)) (by decide +kernel)
theorem t_191 : Cond.fieldLink RX3 15 "DepositJudge$Home" "debts" "[I" ∈ gT := tm (List.mem_of_getElem? (i := 364) (by decide +kernel)) (by decide +kernel)
theorem t_192 : Cond.arrayClass .boolean ∈ gT := tm (List.mem_of_getElem? (i := 59) (by decide +kernel)) (by decide +kernel)
theorem t_193 : Cond.fieldLink RX3 18 "DepositJudge$Home" "kin" "[Z" ∈ gT := tm (List.mem_of_getElem? (i := 366) (by decide +kernel)) (by decide +kernel)
theorem t_194 : Cond.classLink RX3 22 RX10 ∈ gT := tm (List.mem_of_getElem? (i := 316) (by decide +kernel)) (by decide +kernel)
theorem t_195 : Cond.instantiable RX10 5 ∈ gT := tm (List.mem_of_getElem? (i := 317) (by decide +kernel)) (by decide +kernel)
theorem t_196 : Cond.initialized RX10 ∈ gT := tm (List.mem_of_getElem? (i := 13) (by decide +kernel)) (by decide +kernel)
theorem t_197 : Cond.code yX10_init cX10_init 1 none ∈ gT := tm (List.mem_of_getElem? (i := 320) (by decide +kernel)) (by decide +kernel)
theorem t_198 : Cond.instanceMethod yX10_init ∈ gT := tm (List.mem_of_getElem? (i := 319) (by decide +kernel)) (by decide +kernel)
theorem t_199 : Cond.fieldLink RX3 25 "DepositJudge$Home" "atFirst" "LDepositJudge$Things;" ∈ gT := tm (List.mem_of_getElem? (i := 368) (by decide +kernel)) (by decide +kernel)
theorem t_200 : Cond.fieldLink RX3 29 "DepositJudge$Home" "atLast" "LDepositJudge$Things;" ∈ gT := tm (List.mem_of_getElem? (i := 371) (by decide +kernel)) (by decide +kernel)
theorem t_201 : Cond.fieldLink RX3 32 "DepositJudge$Home" "joined" "[I" ∈ gT := tm (List.mem_of_getElem? (i := 374) (by decide +kernel)) (by decide +kernel)
theorem t_202 : Cond.fieldLink RX3 35 "DepositJudge$Home" "region" "I" ∈ gT := tm (List.mem_of_getElem? (i := 350) (by decide +kernel)) (by decide +kernel)
theorem t_203 : Cond.fieldLink RX3 39 "DepositJudge$Home" "tenants" "I" ∈ gT := tm (List.mem_of_getElem? (i := 352) (by decide +kernel)) (by decide +kernel)
theorem t_204 : Cond.fieldLink RX3 42 "DepositJudge$Home" "deposit" "I" ∈ gT := tm (List.mem_of_getElem? (i := 355) (by decide +kernel)) (by decide +kernel)
theorem t_205 : Cond.fieldLink RX3 45 "DepositJudge$Home" "from" "I" ∈ gT := tm (List.mem_of_getElem? (i := 357) (by decide +kernel)) (by decide +kernel)
theorem t_206 : Cond.fieldLink RX3 48 "DepositJudge$Home" "to" "I" ∈ gT := tm (List.mem_of_getElem? (i := 358) (by decide +kernel)) (by decide +kernel)
theorem t_207 : Cond.fieldLink RX3 51 "DepositJudge$Home" "kept" "Z" ∈ gT := tm (List.mem_of_getElem? (i := 359) (by decide +kernel)) (by decide +kernel)
theorem t_208 : Cond.constant RX11 104 (999999) ∈ gT := tm (List.mem_of_getElem? (i := 310) (by decide +kernel)) (by decide +kernel)
theorem t_209 : Cond.classLink RX11 16 RX3 ∈ gT := tm (List.mem_of_getElem? (i := 44) (by decide +kernel)) (by decide +kernel)
theorem t_210 : Cond.instantiable RX3 12 ∈ gT := tm (List.mem_of_getElem? (i := 311) (by decide +kernel)) (by decide +kernel)
theorem t_211 : Cond.initialized RX3 ∈ gT := tm (List.mem_of_getElem? (i := 12) (by decide +kernel)) (by decide +kernel)
theorem t_212 : Cond.code yX3_init cX3_init 8 none ∈ gT := tm (List.mem_of_getElem? (i := 314) (by decide +kernel)) (by decide +kernel)
theorem t_213 : Cond.methodLink RX11 105 yX3_init ∈ gT := tm (List.mem_of_getElem? (i := 312) (by decide +kernel)) (by decide +kernel)
theorem t_214 : Cond.instanceMethod yX3_init ∈ gT := tm (List.mem_of_getElem? (i := 313) (by decide +kernel)) (by decide +kernel)
theorem t_215 : Cond.fieldLink RX11 18 "DepositJudge" "homes" "[LDepositJudge$Home;" ∈ gT := tm (List.mem_of_getElem? (i := 252) (by decide +kernel)) (by decide +kernel)
theorem dX10_init_0 : decode cX10_init 0 = .ok (.aload_n 0, 1) := by decide +kernel
theorem dX10_init_1 : decode cX10_init 1 = .ok (.invokespecial 3, 3) := by decide +kernel
theorem dX10_init_4 : decode cX10_init 4 = .ok (.aload_n 0, 1) := by decide +kernel
theorem dX10_init_5 : decode cX10_init 5 = .ok (.iconst 0, 1) := by decide +kernel
theorem dX10_init_6 : decode cX10_init 6 = .ok (.putfield 9, 3) := by decide +kernel
theorem dX10_init_9 : decode cX10_init 9 = .ok (.aload_n 0, 1) := by decide +kernel
theorem dX10_init_10 : decode cX10_init 10 = .ok (.bipush 20, 2) := by decide +kernel
theorem dX10_init_12 : decode cX10_init 12 = .ok (.newarray .int, 2) := by decide +kernel
theorem dX10_init_14 : decode cX10_init 14 = .ok (.putfield 15, 3) := by decide +kernel
theorem dX10_init_17 : decode cX10_init 17 = .ok (.aload_n 0, 1) := by decide +kernel
theorem dX10_init_18 : decode cX10_init 18 = .ok (.bipush 20, 2) := by decide +kernel
theorem dX10_init_20 : decode cX10_init 20 = .ok (.newarray .int, 2) := by decide +kernel
theorem dX10_init_22 : decode cX10_init 22 = .ok (.putfield 19, 3) := by decide +kernel
theorem dX10_init_25 : decode cX10_init 25 = .ok (.aload_n 0, 1) := by decide +kernel
theorem dX10_init_26 : decode cX10_init 26 = .ok (.bipush 20, 2) := by decide +kernel
theorem dX10_init_28 : decode cX10_init 28 = .ok (.newarray .int, 2) := by decide +kernel
theorem dX10_init_30 : decode cX10_init 30 = .ok (.putfield 22, 3) := by decide +kernel
theorem dX10_init_33 : decode cX10_init 33 = .ok (.aload_n 0, 1) := by decide +kernel
theorem dX10_init_34 : decode cX10_init 34 = .ok (.bipush 20, 2) := by decide +kernel
theorem dX10_init_36 : decode cX10_init 36 = .ok (.newarray .int, 2) := by decide +kernel
theorem dX10_init_38 : decode cX10_init 38 = .ok (.putfield 25, 3) := by decide +kernel
theorem dX10_init_41 : decode cX10_init 41 = .ok (.return_, 1) := by decide +kernel
theorem dX11_home_0 : decode cX11_home 0 = .ok (.iload_n 1, 1) := by decide +kernel
theorem dX11_home_1 : decode cX11_home 1 = .ok (.iconst 0, 1) := by decide +kernel
theorem dX11_home_2 : decode cX11_home 2 = .ok (.iconst 3, 1) := by decide +kernel
theorem dX11_home_3 : decode cX11_home 3 = .ok (.invokestatic 93, 3) := by decide +kernel
theorem dX11_home_6 : decode cX11_home 6 = .ok (.ifCond .eq 56, 3) := by decide +kernel
theorem dX11_home_9 : decode cX11_home 9 = .ok (.iload_n 2, 1) := by decide +kernel
theorem dX11_home_10 : decode cX11_home 10 = .ok (.iconst 1, 1) := by decide +kernel
theorem dX11_home_11 : decode cX11_home 11 = .ok (.iconst 4, 1) := by decide +kernel
theorem dX11_home_12 : decode cX11_home 12 = .ok (.invokestatic 93, 3) := by decide +kernel
theorem dX11_home_15 : decode cX11_home 15 = .ok (.ifCond .eq 47, 3) := by decide +kernel
theorem dX11_home_18 : decode cX11_home 18 = .ok (.iload_n 3, 1) := by decide +kernel
theorem dX11_home_19 : decode cX11_home 19 = .ok (.iconst 0, 1) := by decide +kernel
theorem dX11_home_20 : decode cX11_home 20 = .ok (.ldc 104, 2) := by decide +kernel
theorem dX11_home_22 : decode cX11_home 22 = .ok (.invokestatic 93, 3) := by decide +kernel
theorem dX11_home_25 : decode cX11_home 25 = .ok (.ifCond .eq 37, 3) := by decide +kernel
theorem dX11_home_28 : decode cX11_home 28 = .ok (.iload 4, 2) := by decide +kernel
theorem dX11_home_30 : decode cX11_home 30 = .ok (.iconst 0, 1) := by decide +kernel
theorem dX11_home_31 : decode cX11_home 31 = .ok (.sipush 999, 3) := by decide +kernel
theorem dX11_home_34 : decode cX11_home 34 = .ok (.invokestatic 93, 3) := by decide +kernel
theorem dX11_home_37 : decode cX11_home 37 = .ok (.ifCond .eq 25, 3) := by decide +kernel
theorem dX11_home_40 : decode cX11_home 40 = .ok (.iload 5, 2) := by decide +kernel
theorem dX11_home_42 : decode cX11_home 42 = .ok (.iload 4, 2) := by decide +kernel
theorem dX11_home_44 : decode cX11_home 44 = .ok (.sipush 999, 3) := by decide +kernel
theorem dX11_home_47 : decode cX11_home 47 = .ok (.invokestatic 93, 3) := by decide +kernel
theorem dX11_home_50 : decode cX11_home 50 = .ok (.ifCond .eq 12, 3) := by decide +kernel
theorem dX11_home_53 : decode cX11_home 53 = .ok (.aload_n 0, 1) := by decide +kernel
theorem dX11_home_54 : decode cX11_home 54 = .ok (.getfield 22, 3) := by decide +kernel
theorem dX11_home_57 : decode cX11_home 57 = .ok (.bipush 6, 2) := by decide +kernel
theorem dX11_home_59 : decode cX11_home 59 = .ok (.if_icmp .lt 5, 3) := by decide +kernel
theorem dX11_home_62 : decode cX11_home 62 = .ok (.iconst (-1), 1) := by decide +kernel
theorem dX11_home_63 : decode cX11_home 63 = .ok (.ireturn, 1) := by decide +kernel
theorem dX11_home_64 : decode cX11_home 64 = .ok (.new 16, 3) := by decide +kernel
theorem dX11_home_67 : decode cX11_home 67 = .ok (.dup, 1) := by decide +kernel
theorem dX11_home_68 : decode cX11_home 68 = .ok (.iload_n 1, 1) := by decide +kernel
theorem dX11_home_69 : decode cX11_home 69 = .ok (.iload_n 2, 1) := by decide +kernel
theorem dX11_home_70 : decode cX11_home 70 = .ok (.iload_n 3, 1) := by decide +kernel
theorem dX11_home_71 : decode cX11_home 71 = .ok (.iload 4, 2) := by decide +kernel
theorem dX11_home_73 : decode cX11_home 73 = .ok (.iload 5, 2) := by decide +kernel
theorem dX11_home_75 : decode cX11_home 75 = .ok (.iload 6, 2) := by decide +kernel
theorem dX11_home_77 : decode cX11_home 77 = .ok (.invokespecial 105, 3) := by decide +kernel
theorem dX11_home_80 : decode cX11_home 80 = .ok (.astore 7, 2) := by decide +kernel
theorem dX11_home_82 : decode cX11_home 82 = .ok (.aload_n 0, 1) := by decide +kernel
theorem dX11_home_83 : decode cX11_home 83 = .ok (.getfield 18, 3) := by decide +kernel
theorem dX11_home_86 : decode cX11_home 86 = .ok (.aload_n 0, 1) := by decide +kernel
theorem dX11_home_87 : decode cX11_home 87 = .ok (.getfield 22, 3) := by decide +kernel
theorem dX11_home_90 : decode cX11_home 90 = .ok (.aload 7, 2) := by decide +kernel
theorem dX11_home_92 : decode cX11_home 92 = .ok (.aastore, 1) := by decide +kernel
theorem dX11_home_93 : decode cX11_home 93 = .ok (.aload_n 0, 1) := by decide +kernel
theorem dX11_home_94 : decode cX11_home 94 = .ok (.dup, 1) := by decide +kernel
theorem dX11_home_95 : decode cX11_home 95 = .ok (.getfield 22, 3) := by decide +kernel
theorem dX11_home_98 : decode cX11_home 98 = .ok (.iconst 1, 1) := by decide +kernel
theorem dX11_home_99 : decode cX11_home 99 = .ok (.iadd, 1) := by decide +kernel
theorem dX11_home_100 : decode cX11_home 100 = .ok (.putfield 22, 3) := by decide +kernel
theorem dX11_home_103 : decode cX11_home 103 = .ok (.aload_n 0, 1) := by decide +kernel
theorem dX11_home_104 : decode cX11_home 104 = .ok (.getfield 22, 3) := by decide +kernel
theorem dX11_home_107 : decode cX11_home 107 = .ok (.iconst 1, 1) := by decide +kernel
theorem dX11_home_108 : decode cX11_home 108 = .ok (.isub, 1) := by decide +kernel
theorem dX11_home_109 : decode cX11_home 109 = .ok (.ireturn, 1) := by decide +kernel
theorem dX11_keep_0 : decode cX11_keep 0 = .ok (.aload_n 0, 1) := by decide +kernel
theorem dX11_keep_1 : decode cX11_keep 1 = .ok (.getfield 65, 3) := by decide +kernel
theorem dX11_keep_4 : decode cX11_keep 4 = .ok (.aload_n 0, 1) := by decide +kernel
theorem dX11_keep_5 : decode cX11_keep 5 = .ok (.getfield 61, 3) := by decide +kernel
theorem dX11_keep_8 : decode cX11_keep 8 = .ok (.invokevirtual 332, 3) := by decide +kernel
theorem dX11_keep_11 : decode cX11_keep 11 = .ok (.aload_n 0, 1) := by decide +kernel
theorem dX11_keep_12 : decode cX11_keep 12 = .ok (.iconst 1, 1) := by decide +kernel
theorem dX11_keep_13 : decode cX11_keep 13 = .ok (.putfield 68, 3) := by decide +kernel
theorem dX11_keep_16 : decode cX11_keep 16 = .ok (.aload_n 0, 1) := by decide +kernel
theorem dX11_keep_17 : decode cX11_keep 17 = .ok (.getfield 61, 3) := by decide +kernel
theorem dX11_keep_20 : decode cX11_keep 20 = .ok (.getfield 320, 3) := by decide +kernel
theorem dX11_keep_23 : decode cX11_keep 23 = .ok (.ireturn, 1) := by decide +kernel
theorem dX1_copyFrom_0 : decode cX1_copyFrom 0 = .ok (.aload_n 0, 1) := by decide +kernel
theorem dX1_copyFrom_1 : decode cX1_copyFrom 1 = .ok (.aload_n 1, 1) := by decide +kernel
theorem dX1_copyFrom_2 : decode cX1_copyFrom 2 = .ok (.getfield 9, 3) := by decide +kernel
theorem dX1_copyFrom_5 : decode cX1_copyFrom 5 = .ok (.putfield 9, 3) := by decide +kernel
theorem dX1_copyFrom_8 : decode cX1_copyFrom 8 = .ok (.aload_n 0, 1) := by decide +kernel
theorem dX1_copyFrom_9 : decode cX1_copyFrom 9 = .ok (.aload_n 1, 1) := by decide +kernel
theorem dX1_copyFrom_10 : decode cX1_copyFrom 10 = .ok (.getfield 47, 3) := by decide +kernel
theorem dX1_copyFrom_13 : decode cX1_copyFrom 13 = .ok (.putfield 47, 3) := by decide +kernel
theorem dX1_copyFrom_16 : decode cX1_copyFrom 16 = .ok (.iconst 0, 1) := by decide +kernel
theorem dX1_copyFrom_17 : decode cX1_copyFrom 17 = .ok (.istore_n 2, 1) := by decide +kernel
theorem dX1_copyFrom_18 : decode cX1_copyFrom 18 = .ok (.iload_n 2, 1) := by decide +kernel
theorem dX1_copyFrom_19 : decode cX1_copyFrom 19 = .ok (.aload_n 0, 1) := by decide +kernel
theorem dX1_copyFrom_20 : decode cX1_copyFrom 20 = .ok (.getfield 9, 3) := by decide +kernel
theorem dX1_copyFrom_23 : decode cX1_copyFrom 23 = .ok (.if_icmp .ge 105, 3) := by decide +kernel
theorem dX1_copyFrom_128 : decode cX1_copyFrom 128 = .ok (.iconst 0, 1) := by decide +kernel
theorem dX1_copyFrom_129 : decode cX1_copyFrom 129 = .ok (.istore_n 2, 1) := by decide +kernel
theorem dX1_copyFrom_130 : decode cX1_copyFrom 130 = .ok (.iload_n 2, 1) := by decide +kernel
theorem dX1_copyFrom_131 : decode cX1_copyFrom 131 = .ok (.bipush 6, 2) := by decide +kernel
theorem dX1_copyFrom_133 : decode cX1_copyFrom 133 = .ok (.if_icmp .ge 33, 3) := by decide +kernel
theorem dX1_copyFrom_136 : decode cX1_copyFrom 136 = .ok (.aload_n 0, 1) := by decide +kernel
theorem dX1_copyFrom_137 : decode cX1_copyFrom 137 = .ok (.getfield 41, 3) := by decide +kernel
theorem dX1_copyFrom_140 : decode cX1_copyFrom 140 = .ok (.iload_n 2, 1) := by decide +kernel
theorem dX1_copyFrom_141 : decode cX1_copyFrom 141 = .ok (.aload_n 1, 1) := by decide +kernel
theorem dX1_copyFrom_142 : decode cX1_copyFrom 142 = .ok (.getfield 41, 3) := by decide +kernel
theorem dX1_copyFrom_145 : decode cX1_copyFrom 145 = .ok (.iload_n 2, 1) := by decide +kernel
theorem dX1_copyFrom_146 : decode cX1_copyFrom 146 = .ok (.iaload, 1) := by decide +kernel
theorem dX1_copyFrom_147 : decode cX1_copyFrom 147 = .ok (.iastore, 1) := by decide +kernel
theorem dX1_copyFrom_148 : decode cX1_copyFrom 148 = .ok (.aload_n 0, 1) := by decide +kernel
theorem dX1_copyFrom_149 : decode cX1_copyFrom 149 = .ok (.getfield 44, 3) := by decide +kernel
theorem dX1_copyFrom_152 : decode cX1_copyFrom 152 = .ok (.iload_n 2, 1) := by decide +kernel
theorem dX1_copyFrom_153 : decode cX1_copyFrom 153 = .ok (.aload_n 1, 1) := by decide +kernel
theorem dX1_copyFrom_154 : decode cX1_copyFrom 154 = .ok (.getfield 44, 3) := by decide +kernel
theorem dX1_copyFrom_157 : decode cX1_copyFrom 157 = .ok (.iload_n 2, 1) := by decide +kernel
theorem dX1_copyFrom_158 : decode cX1_copyFrom 158 = .ok (.iaload, 1) := by decide +kernel
theorem dX1_copyFrom_159 : decode cX1_copyFrom 159 = .ok (.iastore, 1) := by decide +kernel
theorem dX1_copyFrom_160 : decode cX1_copyFrom 160 = .ok (.iinc 2 1, 3) := by decide +kernel
theorem dX1_copyFrom_163 : decode cX1_copyFrom 163 = .ok (.goto (-33), 3) := by decide +kernel
theorem dX1_copyFrom_166 : decode cX1_copyFrom 166 = .ok (.return_, 1) := by decide +kernel
theorem dX3_init_0 : decode cX3_init 0 = .ok (.aload_n 0, 1) := by decide +kernel
theorem dX3_init_1 : decode cX3_init 1 = .ok (.invokespecial 3, 3) := by decide +kernel
theorem dX3_init_4 : decode cX3_init 4 = .ok (.aload_n 0, 1) := by decide +kernel
theorem dX3_init_5 : decode cX3_init 5 = .ok (.iconst 4, 1) := by decide +kernel
theorem dX3_init_6 : decode cX3_init 6 = .ok (.newarray .int, 2) := by decide +kernel
theorem dX3_init_8 : decode cX3_init 8 = .ok (.putfield 9, 3) := by decide +kernel
theorem dX3_init_11 : decode cX3_init 11 = .ok (.aload_n 0, 1) := by decide +kernel
theorem dX3_init_12 : decode cX3_init 12 = .ok (.iconst 3, 1) := by decide +kernel
theorem dX3_init_13 : decode cX3_init 13 = .ok (.newarray .int, 2) := by decide +kernel
theorem dX3_init_15 : decode cX3_init 15 = .ok (.putfield 15, 3) := by decide +kernel
theorem dX3_init_18 : decode cX3_init 18 = .ok (.aload_n 0, 1) := by decide +kernel
theorem dX3_init_19 : decode cX3_init 19 = .ok (.bipush 6, 2) := by decide +kernel
theorem dX3_init_21 : decode cX3_init 21 = .ok (.newarray .boolean, 2) := by decide +kernel
theorem dX3_init_23 : decode cX3_init 23 = .ok (.putfield 18, 3) := by decide +kernel
theorem dX3_init_26 : decode cX3_init 26 = .ok (.aload_n 0, 1) := by decide +kernel
theorem dX3_init_27 : decode cX3_init 27 = .ok (.new 22, 3) := by decide +kernel
theorem dX3_init_30 : decode cX3_init 30 = .ok (.dup, 1) := by decide +kernel
theorem dX3_init_31 : decode cX3_init 31 = .ok (.invokespecial 24, 3) := by decide +kernel
theorem dX3_init_34 : decode cX3_init 34 = .ok (.putfield 25, 3) := by decide +kernel
theorem dX3_init_37 : decode cX3_init 37 = .ok (.aload_n 0, 1) := by decide +kernel
theorem dX3_init_38 : decode cX3_init 38 = .ok (.new 22, 3) := by decide +kernel
theorem dX3_init_41 : decode cX3_init 41 = .ok (.dup, 1) := by decide +kernel
theorem dX3_init_42 : decode cX3_init 42 = .ok (.invokespecial 24, 3) := by decide +kernel
theorem dX3_init_45 : decode cX3_init 45 = .ok (.putfield 29, 3) := by decide +kernel
theorem dX3_init_48 : decode cX3_init 48 = .ok (.aload_n 0, 1) := by decide +kernel
theorem dX3_init_49 : decode cX3_init 49 = .ok (.bipush 20, 2) := by decide +kernel
theorem dX3_init_51 : decode cX3_init 51 = .ok (.newarray .int, 2) := by decide +kernel
theorem dX3_init_53 : decode cX3_init 53 = .ok (.putfield 32, 3) := by decide +kernel
theorem dX3_init_56 : decode cX3_init 56 = .ok (.aload_n 0, 1) := by decide +kernel
theorem dX3_init_57 : decode cX3_init 57 = .ok (.iload_n 1, 1) := by decide +kernel
theorem dX3_init_58 : decode cX3_init 58 = .ok (.putfield 35, 3) := by decide +kernel
theorem dX3_init_61 : decode cX3_init 61 = .ok (.aload_n 0, 1) := by decide +kernel
theorem dX3_init_62 : decode cX3_init 62 = .ok (.iload_n 2, 1) := by decide +kernel
theorem dX3_init_63 : decode cX3_init 63 = .ok (.putfield 39, 3) := by decide +kernel
theorem dX3_init_66 : decode cX3_init 66 = .ok (.aload_n 0, 1) := by decide +kernel
theorem dX3_init_67 : decode cX3_init 67 = .ok (.iload_n 3, 1) := by decide +kernel
theorem dX3_init_68 : decode cX3_init 68 = .ok (.putfield 42, 3) := by decide +kernel
theorem dX3_init_71 : decode cX3_init 71 = .ok (.aload_n 0, 1) := by decide +kernel
theorem dX3_init_72 : decode cX3_init 72 = .ok (.iload 4, 2) := by decide +kernel
theorem dX3_init_74 : decode cX3_init 74 = .ok (.putfield 45, 3) := by decide +kernel
theorem dX3_init_77 : decode cX3_init 77 = .ok (.aload_n 0, 1) := by decide +kernel
theorem dX3_init_78 : decode cX3_init 78 = .ok (.iload 5, 2) := by decide +kernel
theorem dX3_init_80 : decode cX3_init 80 = .ok (.putfield 48, 3) := by decide +kernel
theorem dX3_init_83 : decode cX3_init 83 = .ok (.aload_n 0, 1) := by decide +kernel
theorem dX3_init_84 : decode cX3_init 84 = .ok (.iload 6, 2) := by decide +kernel
theorem dX3_init_86 : decode cX3_init 86 = .ok (.putfield 51, 3) := by decide +kernel
theorem dX3_init_89 : decode cX3_init 89 = .ok (.iconst 0, 1) := by decide +kernel
theorem dX3_init_90 : decode cX3_init 90 = .ok (.istore 7, 2) := by decide +kernel
theorem dX3_init_92 : decode cX3_init 92 = .ok (.iload 7, 2) := by decide +kernel
theorem dX3_init_94 : decode cX3_init 94 = .ok (.iconst 4, 1) := by decide +kernel
theorem dX3_init_95 : decode cX3_init 95 = .ok (.if_icmp .ge 17, 3) := by decide +kernel
theorem dX3_init_98 : decode cX3_init 98 = .ok (.aload_n 0, 1) := by decide +kernel
theorem dX3_init_99 : decode cX3_init 99 = .ok (.getfield 9, 3) := by decide +kernel
theorem dX3_init_102 : decode cX3_init 102 = .ok (.iload 7, 2) := by decide +kernel
theorem dX3_init_104 : decode cX3_init 104 = .ok (.iconst 1, 1) := by decide +kernel
theorem dX3_init_105 : decode cX3_init 105 = .ok (.iastore, 1) := by decide +kernel
theorem dX3_init_106 : decode cX3_init 106 = .ok (.iinc 7 1, 3) := by decide +kernel
theorem dX3_init_109 : decode cX3_init 109 = .ok (.goto (-17), 3) := by decide +kernel
theorem dX3_init_112 : decode cX3_init 112 = .ok (.return_, 1) := by decide +kernel
set_option maxHeartbeats 4000000 in
set_option maxRecDepth 100000 in
theorem c_X1_copyFrom (l : Launch) (D : va_G) (cy : Nat → ClassId) (a : Nat → Nat) (i : Nat → Int32) (r : Nat → Nat → Int32) (q : Nat → Option Nat) (sz : Nat) (hf : xZ i) (hg : xZr r) : Met l yX1_copyFrom (Cond.code yX1_copyFrom cX1_copyFrom 3 none :: gT) { frames := 1, cells := 0, slots := 0, locals := 24 } (va_Pc [.ref (a 40), .ref (a 29)] (rQ D cy (xW cy a i r q (a 20) (a 12)) sz)) (va_Qv (fun u : (Nat → Int32) × (Nat → Nat → Int32) => u.1 10 = 0) (fun (u : (Nat → Int32) × (Nat → Nat → Int32)) t => va_P D vwCl (xW cy a u.1 u.2 q (a 20) (a 12)) t.heap ∧ va_K D vwCl (vT cy) t ∧ va_D (va_A (xW cy a i r q (a 20) (a 12)) sz) (xW cy a u.1 u.2 q (a 20) (a 12))) (va_A (xW cy a i r q (a 20) (a 12)) sz)) 0 0 (va_A (xW cy a i r q (a 20) (a 12)) sz) := by
  refine Met.ofQ (cc := cX1_copyFrom) (maxL := 3) (ret := none) (by decide) rfl ?_
  intro p e s m args below meth c s₁ B hml hv Q hQ
  obtain ⟨rfl, hsz, hP, hK, hD0⟩ := hv
  have hx := B.exec
  have hb := B.bytes
  have hr := B.returns
  have hlocks := B.notSynchronized
  have hT : ∀ w ∈ gT, w.before _ s = true := fun w h => atoms_spec (ws := (Cond.code yX1_copyFrom cX1_copyFrom 3 none :: gT)) B.pre w (List.mem_cons_of_mem _ h)
  have hown : s.vm.findClass RX1 = some m.cls := findClass_of_methodNamed B.named
  subst hsz
  have hD := hD0.self (sz := s.heap.size)
  generalize hAe : va_A (xW cy a i r q (a 20) (a 12)) s.heap.size = A at hD hQ
  have hA : ∀ q : Nat, s.heap.size ≤ q → A q := fun q h => by rw [← hAe]; exact Or.inr h
  have hS : va_S A s.heap s.heap [] := va_S.rf
  have hl := lv_entry ([.ref (a 40), .ref (a 29)]) (n := 3) (Nat.le_of_ble_eq_true rfl)
  rw [lg_entry_eq]
  generalize (lg_sl ([.ref (a 40), .ref (a 29)]) ++ List.replicate (3 - (lg_sl ([.ref (a 40), .ref (a 29)])).length) Slot.unset).toArray = ls at hl ⊢
  have hl : lv_has ls 3 [(0, .ref (a 40)), (1, .ref (a 29))] := hl
  refine lv_aload_n hx hb dX1_copyFrom_0 rfl (lv_at hl 0 rfl) ?_
  refine lv_aload_n hx hb dX1_copyFrom_1 rfl (lv_at hl 1 rfl) ?_
  refine va_get (D := D) (ci := 1) (v := .int 0) (C := RX1) (T := TX1) (N := 12) hx hb hT iX1 hown hK hP 29 rfl rfl 0 (by decide) (hT _ t_170) (fun _ h9 => h9) (congrArg (fun z => some (Value.int z)) (hf.1 10 (by decide) (by decide))) dX1_copyFrom_2 ?_
  refine va_put (D := D) (ci := 1) (v := .int 0) (ty := .int) (C := RX1) (T := TX1) (N := 12) hx hb hT iX1 tyX1 tyX1_ok nmX1 hown hK hP hD hS 40 rfl rfl 0 (by decide) (hT _ t_170) (fun _ h9 => h9) rfl (by decide +kernel) rfl rfl (Nat.le_of_ble_eq_true rfl) dX1_copyFrom_5 (fun H locs hP hD hS => ?_)
  rw [xP12] at hP hD
  refine lv_aload_n hx hb dX1_copyFrom_8 rfl (lv_at hl 0 rfl) ?_
  refine lv_aload_n hx hb dX1_copyFrom_9 rfl (lv_at hl 1 rfl) ?_
  refine va_get (D := D) (ci := 1) (v := .int 1) (C := RX1) (T := TX1) (N := 12) hx hb hT iX1 hown hK hP 29 rfl rfl 11 (by decide) (hT _ t_171) (fun _ h9 => h9) (congrArg (fun z => some (Value.int z)) (hf.2.1)) dX1_copyFrom_10 ?_
  refine va_put (D := D) (ci := 1) (v := .int 1) (ty := .int) (C := RX1) (T := TX1) (N := 12) hx hb hT iX1 tyX1 tyX1_ok nmX1 hown hK hP hD hS 40 rfl rfl 11 (by decide) (hT _ t_171) (fun _ h9 => h9) rfl (by decide +kernel) rfl rfl (Nat.le_of_ble_eq_true rfl) dX1_copyFrom_13 (fun H locs hP hD hS => ?_)
  rw [xP13] at hP hD
  refine lv_iconst (v := 0) hx hb dX1_copyFrom_16 (by decide) ?_
  refine lv_istore_n (lv' := [(2, .int 0), (0, .ref (a 40)), (1, .ref (a 29))]) hx hb dX1_copyFrom_17 rfl hl (by decide) rfl (fun ls hl => ?_)
  refine lv_iload_n hx hb dX1_copyFrom_18 rfl (lv_at hl 0 rfl) ?_
  refine lv_aload_n hx hb dX1_copyFrom_19 rfl (lv_at hl 1 rfl) ?_
  refine va_get (D := D) (ci := 1) (v := .int 0) (C := RX1) (T := TX1) (N := 12) hx hb hT iX1 hown hK hP 40 rfl rfl 0 (by decide) (hT _ t_170) (fun _ h9 => h9) rfl dX1_copyFrom_20 ?_
  refine lv_icmp_ge (tgt := 128) hx hb dX1_copyFrom_23 (by decide) (fun c_1 => ?_) (fun c_1 => absurd (by decide) c_1)
  refine lv_iconst (v := 0) hx hb dX1_copyFrom_128 (by decide) ?_
  refine lv_istore_n (lv' := [(2, .int 0), (0, .ref (a 40)), (1, .ref (a 29))]) hx hb dX1_copyFrom_129 rfl hl (by decide) rfl (fun ls hl => ?_)
  have loop_2 : ∀ (n j2 : Nat) (x2 : Int32) (r2 : Nat → Nat → Int32) (H : Heap) (locs : List Loc) (ls : Array Slot), j2 + n = 6 → x2 = nI j2 → va_P D vwCl (xW cy a (upd (upd i 12 0) 13 1) r2 q (a 20) (a 12)) H → va_D A (xW cy a (upd (upd i 12 0) 13 1) r2 q (a 20) (a 12)) → va_S A s.heap H locs → lv_has ls 3 [(2, .int x2), (0, .ref (a 40)), (1, .ref (a 29))] → W p l e ({ frames := 1, cells := 0, slots := 0, locals := 24 } : Room) s m ([.ref (a 40), .ref (a 29)] : List Value).toArray below meth c H locs 0 0 Q (F0 m 130 ls []) := by
    intro n
    induction n with
    | zero =>
      intro j2 x2 r2 H locs ls hj2 hq2 hP hD hS hl
      obtain rfl : j2 = 6 := by omega
      obtain rfl : x2 = 6 := hq2.trans (by decide)
      refine lv_iload_n hx hb dX1_copyFrom_130 rfl (lv_at hl 0 rfl) ?_
      refine lv_bipush (v := 6) hx hb dX1_copyFrom_131 (by decide) ?_
      refine lv_icmp_ge (tgt := 166) hx hb dX1_copyFrom_133 (by decide) (fun c_3 => ?_) (fun c_3 => absurd (by decide) c_3)
      subst hQ
      exact W.vret hx hb hr (fun t ht hW => ⟨⟨(upd (upd i 12 0) 13 1, r2), rfl, (hf.1 10 (by decide) (by decide)), by rw [ht]; exact hP, va_K.moved hW.alike hK, hD⟩, hS.F ht⟩) hS.2.2 dX1_copyFrom_166
    | succ n ih2 =>
      intro j2 x2 r2 H locs ls hj2 hq2 hP hD hS hl
      have hx2 : x2.toInt = (j2 : Int) := by rw [hq2]; exact nI_toInt (by omega)
      have hcx2 : x2.toNatClampNeg = j2 := by rw [hq2]; exact nI_clamp (by omega)
      refine lv_iload_n hx hb dX1_copyFrom_130 rfl (lv_at hl 0 rfl) ?_
      refine lv_bipush (v := 6) hx hb dX1_copyFrom_131 (by decide) ?_
      refine lv_icmp_ge (tgt := 166) hx hb dX1_copyFrom_133 (by decide) (fun c_4 => by have c_4 : 6 ≤ x2.toInt := b_le c_4; omega) (fun c_4 => ?_)
      have c_4 : x2.toInt < 6 := b_nle c_4
      refine lv_aload_n hx hb dX1_copyFrom_136 rfl (lv_at hl 1 rfl) ?_
      refine va_get (D := D) (ci := 1) (v := .ref (a 49)) (C := RX1) (T := TX1) (N := 12) hx hb hT iX1 hown hK hP 40 rfl rfl 9 (by decide) (hT _ t_172) (fun _ h9 => h9) rfl dX1_copyFrom_137 ?_
      refine lv_iload_n hx hb dX1_copyFrom_140 rfl (lv_at hl 0 rfl) ?_
      refine lv_aload_n hx hb dX1_copyFrom_141 rfl (lv_at hl 2 rfl) ?_
      refine va_get (D := D) (ci := 1) (v := .ref (a 38)) (C := RX1) (T := TX1) (N := 12) hx hb hT iX1 hown hK hP 29 rfl rfl 9 (by decide) (hT _ t_172) (fun _ h9 => h9) rfl dX1_copyFrom_142 ?_
      refine lv_iload_n hx hb dX1_copyFrom_145 rfl (lv_at hl 0 rfl) ?_
      refine va_iald hx hb hK hP 38 0 rfl rfl (vp_inI (by omega) (by omega)) dX1_copyFrom_146 ?_
      refine lv_topi (fun v_5 ev_5 => ?_)
      refine va_iast hx hb hK hP hD hS 49 0 rfl rfl (vp_inI (by omega) (by omega)) dX1_copyFrom_147 (fun H locs hP hD hS => ?_)
      rw [xS49] at hP hD
      refine lv_aload_n hx hb dX1_copyFrom_148 rfl (lv_at hl 1 rfl) ?_
      refine va_get (D := D) (ci := 1) (v := .ref (a 50)) (C := RX1) (T := TX1) (N := 12) hx hb hT iX1 hown hK hP 40 rfl rfl 10 (by decide) (hT _ t_173) (fun _ h9 => h9) rfl dX1_copyFrom_149 ?_
      refine lv_iload_n hx hb dX1_copyFrom_152 rfl (lv_at hl 0 rfl) ?_
      refine lv_aload_n hx hb dX1_copyFrom_153 rfl (lv_at hl 2 rfl) ?_
      refine va_get (D := D) (ci := 1) (v := .ref (a 39)) (C := RX1) (T := TX1) (N := 12) hx hb hT iX1 hown hK hP 29 rfl rfl 10 (by decide) (hT _ t_173) (fun _ h9 => h9) rfl dX1_copyFrom_154 ?_
      refine lv_iload_n hx hb dX1_copyFrom_157 rfl (lv_at hl 0 rfl) ?_
      refine va_iald hx hb hK hP 39 0 rfl rfl (vp_inI (by omega) (by omega)) dX1_copyFrom_158 ?_
      refine lv_topi (fun v_6 ev_6 => ?_)
      refine va_iast hx hb hK hP hD hS 50 0 rfl rfl (vp_inI (by omega) (by omega)) dX1_copyFrom_159 (fun H locs hP hD hS => ?_)
      rw [xS50] at hP hD
      obtain ⟨x_7, ex_7⟩ : ∃ y : Int32, y = x2 + 1 := ⟨_, rfl⟩
      refine lv_iinc (v := x_7) (lv' := [(2, .int x_7), (0, .ref (a 40)), (1, .ref (a 29))]) hx hb dX1_copyFrom_160 hl (k := 0) rfl (by rw [ex_7]; rfl) (by decide) rfl (fun ls hl => ?_)
      refine lv_goto (tgt := 130) hx hb dX1_copyFrom_163 (by decide) ?_
      exact ih2 (j2 + 1) x_7 (va_up (va_up r2 49 (upd (r2 49) x2.toNatClampNeg v_5)) 50 (upd ((va_up r2 49 (upd (r2 49) x2.toNatClampNeg v_5)) 50) x2.toNatClampNeg v_6)) _ _ _ (by omega) (by rw [ex_7, hq2]; exact nI_1 j2) hP hD hS (lv_sub hl [0, 1, 2] rfl)
  exact loop_2 6 0 0 r _ _ _ (by omega) rfl hP hD hS hl
set_option maxHeartbeats 4000000 in
set_option maxRecDepth 100000 in
theorem c_X11_keep (l : Launch) (D : va_G) (cy : Nat → ClassId) (a : Nat → Nat) (i : Nat → Int32) (r : Nat → Nat → Int32) (q : Nat → Option Nat) (sz : Nat) (hf : xZ i) (hg : xZr r) : Met l yX11_keep (Cond.code yX11_keep cX11_keep 1 (some .int) :: gT) { frames := 2, cells := 0, slots := 0, locals := 46 } (va_Pc [.ref (a 0)] (rQ D cy (xW cy a i r q (a 20) (a 12)) sz)) (va_Qi (fun (z : Int32) (u : Unit) => z = 0) (fun _ _ => True) (va_A (xW cy a i r q (a 20) (a 12)) sz)) 0 0 (va_A (xW cy a i r q (a 20) (a 12)) sz) := by
  refine Met.ofQ (cc := cX11_keep) (maxL := 1) (ret := (some .int)) (by decide) rfl ?_
  intro p e s m args below meth c s₁ B hml hv Q hQ
  obtain ⟨rfl, hsz, hP, hK, hD0⟩ := hv
  have hx := B.exec
  have hb := B.bytes
  have hr := B.returns
  have hlocks := B.notSynchronized
  have hT : ∀ w ∈ gT, w.before _ s = true := fun w h => atoms_spec (ws := (Cond.code yX11_keep cX11_keep 1 (some .int) :: gT)) B.pre w (List.mem_cons_of_mem _ h)
  have hown : s.vm.findClass RX11 = some m.cls := findClass_of_methodNamed B.named
  subst hsz
  have hD := hD0.self (sz := s.heap.size)
  generalize hAe : va_A (xW cy a i r q (a 20) (a 12)) s.heap.size = A at hD hQ
  have hA : ∀ q : Nat, s.heap.size ≤ q → A q := fun q h => by rw [← hAe]; exact Or.inr h
  have hS : va_S A s.heap s.heap [] := va_S.rf
  have hl := lv_entry ([.ref (a 0)]) (n := 1) (Nat.le_of_ble_eq_true rfl)
  rw [lg_entry_eq]
  generalize (lg_sl ([.ref (a 0)]) ++ List.replicate (1 - (lg_sl ([.ref (a 0)])).length) Slot.unset).toArray = ls at hl ⊢
  have hl : lv_has ls 1 [(0, .ref (a 0))] := hl
  refine lv_aload_n hx hb dX11_keep_0 rfl (lv_at hl 0 rfl) ?_
  refine va_get (D := D) (ci := 11) (v := .ref (a 40)) (C := RX11) (T := TX11) (N := 14) hx hb hT iX11 hown hK hP 0 rfl rfl 9 (by decide) (hT _ t_174) (fun _ h9 => h9) rfl dX11_keep_1 ?_
  refine lv_aload_n hx hb dX11_keep_4 rfl (lv_at hl 0 rfl) ?_
  refine va_get (D := D) (ci := 11) (v := .ref (a 29)) (C := RX11) (T := TX11) (N := 14) hx hb hT iX11 hown hK hP 0 rfl rfl 8 (by decide) (hT _ t_40) (fun _ h9 => h9) rfl dX11_keep_5 ?_
  have hF_1 := rF hD hS hA
  refine va_callv (va_runV (As := [.ref (a 29)]) (rest := []) ⟨hx, hb, hml, hown, hT⟩ (c_X1_copyFrom l D cy a i r q _ hf hg) (cwV 1 hT (gV t_175 t_177 t_178 t_179 t_176) rfl rfl rfl (by decide +kernel) ⟨Nat.le_of_ble_eq_true rfl, Nat.le_of_ble_eq_true rfl⟩) (rQ_v hP hK hD (va_recv hK hP (ci := 1) (q0 := 40) rfl rfl)) rfl rfl hl.1 rfl (lv_room (Nat.le_of_ble_eq_true rfl)) dX11_keep_8 ⟨Nat.le_of_ble_eq_true rfl, Nat.le_of_ble_eq_true rfl⟩) hS (fun q _ h => hF_1 q h) hF_1 (fun u_3 t H1 locs ht hvm hr_2 hB hz1 hk1 hS => ?_)
  obtain ⟨i3, r3⟩ := u_3
  obtain ⟨hP, hK1, hD1⟩ := hB
  rw [ht] at hP
  have hD := hD1.weaken (fun k q _ h => hF_1 q.1 h)
  have hP : va_P D vwCl (xW cy a i3 r3 q (a 20) (a 12)) H1 := hP
  have hD : va_D A (xW cy a i3 r3 q (a 20) (a 12)) := hD
  refine lv_aload_n hx hb dX11_keep_11 rfl (lv_at hl 0 rfl) ?_
  refine lv_iconst (v := 1) hx hb dX11_keep_12 (by decide) ?_
  refine va_put (D := D) (ci := 11) (v := .int 1) (ty := .boolean) (C := RX11) (T := TX11) (N := 14) hx hb hT iX11 tyX11 tyX11_ok nmX11 hown hK hP hD hS 0 rfl rfl 10 (by decide) (hT _ t_52) (fun _ h9 => h9) rfl (by decide +kernel) rfl rfl (Nat.le_of_ble_eq_true rfl) dX11_keep_13 (fun H locs hP hD hS => ?_)
  rw [xP1] at hP hD
  refine lv_aload_n hx hb dX11_keep_16 rfl (lv_at hl 0 rfl) ?_
  refine va_get (D := D) (ci := 11) (v := .ref (a 29)) (C := RX11) (T := TX11) (N := 14) hx hb hT iX11 hown hK hP 0 rfl rfl 8 (by decide) (hT _ t_40) (fun _ h9 => h9) rfl dX11_keep_17 ?_
  refine va_get (D := D) (ci := 1) (v := .int 0) (C := RX1) (T := TX1) (N := 12) hx hb hT iX1 hown hK hP 29 rfl rfl 0 (by decide) (hT _ t_41) (fun _ h9 => h9) (congrArg (fun z => some (Value.int z)) (hr_2 : i3 10 = 0)) dX11_keep_20 ?_
  subst hQ
  exact W.iret (v := 0) hx hb hr (fun t ht hW => ⟨⟨_, (), rfl, rfl, trivial⟩, hS.F ht⟩) hS.2.2 dX11_keep_23
set_option maxHeartbeats 4000000 in
set_option maxRecDepth 100000 in
theorem c_X10_init (l : Launch) (D : va_G) (cy : Nat → ClassId) (h0 : Nat) (sz : Nat) : Met l yX10_init (Cond.code yX10_init cX10_init 1 none :: gT) { frames := 1, cells := 4, slots := 80, locals := 24 } (va_Pc [.ref h0] (rQ D cy [(h0, .inr (10, [.int 0, .null, .null, .null, .null]))] sz)) (va_Qv (fun u : List Value => True) (fun (u : List Value) t => va_P D vwCl [(h0, .inr (10, u))] t.heap ∧ va_K D vwCl (vT cy) t ∧ va_D (va_A [(h0, .inr (10, [.int 0, .null, .null, .null, .null]))] sz) [(h0, .inr (10, u))]) (va_A [(h0, .inr (10, [.int 0, .null, .null, .null, .null]))] sz)) 4 80 (va_A [(h0, .inr (10, [.int 0, .null, .null, .null, .null]))] sz) := by
  refine Met.ofQ (cc := cX10_init) (maxL := 1) (ret := none) (by decide) rfl ?_
  intro p e s m args below meth c s₁ B hml hv Q hQ
  obtain ⟨rfl, hsz, hP, hK, hD0⟩ := hv
  have hx := B.exec
  have hb := B.bytes
  have hr := B.returns
  have hlocks := B.notSynchronized
  have hT : ∀ w ∈ gT, w.before _ s = true := fun w h => atoms_spec (ws := (Cond.code yX10_init cX10_init 1 none :: gT)) B.pre w (List.mem_cons_of_mem _ h)
  have hown : s.vm.findClass RX10 = some m.cls := findClass_of_methodNamed B.named
  have hin : meth.name = "<init>" := (name_of_methodNamed B.named B.method).1
  subst hsz
  have hD := hD0.self (sz := s.heap.size)
  generalize hAe : va_A [(h0, .inr (10, [.int 0, .null, .null, .null, .null]))] s.heap.size = A at hD hQ
  have hA : ∀ q : Nat, s.heap.size ≤ q → A q := fun q h => by rw [← hAe]; exact Or.inr h
  have hS : va_S A s.heap s.heap [] := va_S.rf
  have hl := lv_entry ([.ref h0]) (n := 1) (Nat.le_of_ble_eq_true rfl)
  rw [lg_entry_eq]
  generalize (lg_sl ([.ref h0]) ++ List.replicate (1 - (lg_sl ([.ref h0])).length) Slot.unset).toArray = ls at hl ⊢
  have hl : lv_has ls 1 [(0, .ref h0)] := hl
  refine lv_aload_n hx hb dX10_init_0 rfl (lv_at hl 0 rfl) ?_
  refine W.objInit hx hb hown (hT _ t_180) (hT _ t_181) (hT _ t_182) rfl (by rw [hml]; exact hl.1) rfl dX10_init_1 (Nat.le_of_ble_eq_true rfl) (Nat.le_of_ble_eq_true rfl) ?_
  refine W.eq (g2 := F0 m 4 ls []) rfl ?_
  refine lv_aload_n hx hb dX10_init_4 rfl (lv_at hl 0 rfl) ?_
  refine lv_iconst (v := 0) hx hb dX10_init_5 (by decide) ?_
  refine va_put (D := D) (ci := 10) (v := .int 0) (ty := .int) (C := RX10) (T := TX10) (N := 5) hx hb hT iX10 tyX10 tyX10_ok nmX10 hown hK hP hD hS 0 rfl rfl 0 (by decide) (hT _ t_183) (fun _ h9 => h9) rfl (by decide +kernel) rfl rfl (Nat.le_of_ble_eq_true rfl) dX10_init_6 (fun H locs hP hD hS => ?_)
  have hP : va_P D vwCl [(h0, .inr (10, [.int 0, .null, .null, .null, .null]))] H := hP
  have hD : va_D A [(h0, .inr (10, [.int 0, .null, .null, .null, .null]))] := hD
  refine lv_aload_n hx hb dX10_init_9 rfl (lv_at hl 0 rfl) ?_
  refine lv_bipush (v := 20) hx hb dX10_init_10 (by decide) ?_
  refine r_newI (N := 20) hx hb (hT _ t_184) hK hP hD hS hA (by decide) (by decide) (by decide) (Nat.le_of_ble_eq_true rfl) (Nat.le_of_ble_eq_true rfl) dX10_init_12 (fun q_1 H hP hD hS => ?_)
  have hP : va_P D vwCl [(h0, .inr (10, [.int 0, .null, .null, .null, .null])), (q_1, .inl (cy 0, 20, .inl (fun _ => 0)))] H := hP
  have hD : va_D A [(h0, .inr (10, [.int 0, .null, .null, .null, .null])), (q_1, .inl (cy 0, 20, .inl (fun _ => 0)))] := hD
  refine W.widen (k := 1) (n := 20) (Nat.le_of_ble_eq_true rfl) (Nat.le_of_ble_eq_true rfl) ?_
  refine va_putF (D := D) (ci := 10) (v := .ref q_1) (ty := .array .int) (C := RX10) (T := TX10) (N := 5) hx hb hT iX10 tyX10 tyX10_ok nmX10 hown hK hP hD hS 0 rfl rfl 1 (by decide) (hT _ t_185) (fun _ h9 => h9) rfl hin rfl (by decide +kernel) rfl rfl (Nat.le_of_ble_eq_true rfl) dX10_init_14 (fun H locs hP hD hS => ?_)
  have hP : va_P D vwCl [(h0, .inr (10, [.int 0, .ref q_1, .null, .null, .null])), (q_1, .inl (cy 0, 20, .inl (fun _ => 0)))] H := hP
  have hD : va_D A [(h0, .inr (10, [.int 0, .ref q_1, .null, .null, .null])), (q_1, .inl (cy 0, 20, .inl (fun _ => 0)))] := hD
  refine lv_aload_n hx hb dX10_init_17 rfl (lv_at hl 0 rfl) ?_
  refine lv_bipush (v := 20) hx hb dX10_init_18 (by decide) ?_
  refine r_newI (N := 20) hx hb (hT _ t_184) hK hP hD hS hA (by decide) (by decide) (by decide) (Nat.le_of_ble_eq_true rfl) (Nat.le_of_ble_eq_true rfl) dX10_init_20 (fun q_2 H hP hD hS => ?_)
  have hP : va_P D vwCl [(h0, .inr (10, [.int 0, .ref q_1, .null, .null, .null])), (q_1, .inl (cy 0, 20, .inl (fun _ => 0))), (q_2, .inl (cy 0, 20, .inl (fun _ => 0)))] H := hP
  have hD : va_D A [(h0, .inr (10, [.int 0, .ref q_1, .null, .null, .null])), (q_1, .inl (cy 0, 20, .inl (fun _ => 0))), (q_2, .inl (cy 0, 20, .inl (fun _ => 0)))] := hD
  refine W.widen (k := 2) (n := 40) (Nat.le_of_ble_eq_true rfl) (Nat.le_of_ble_eq_true rfl) ?_
  refine va_putF (D := D) (ci := 10) (v := .ref q_2) (ty := .array .int) (C := RX10) (T := TX10) (N := 5) hx hb hT iX10 tyX10 tyX10_ok nmX10 hown hK hP hD hS 0 rfl rfl 2 (by decide) (hT _ t_186) (fun _ h9 => h9) rfl hin rfl (by decide +kernel) rfl rfl (Nat.le_of_ble_eq_true rfl) dX10_init_22 (fun H locs hP hD hS => ?_)
  have hP : va_P D vwCl [(h0, .inr (10, [.int 0, .ref q_1, .ref q_2, .null, .null])), (q_1, .inl (cy 0, 20, .inl (fun _ => 0))), (q_2, .inl (cy 0, 20, .inl (fun _ => 0)))] H := hP
  have hD : va_D A [(h0, .inr (10, [.int 0, .ref q_1, .ref q_2, .null, .null])), (q_1, .inl (cy 0, 20, .inl (fun _ => 0))), (q_2, .inl (cy 0, 20, .inl (fun _ => 0)))] := hD
  refine lv_aload_n hx hb dX10_init_25 rfl (lv_at hl 0 rfl) ?_
  refine lv_bipush (v := 20) hx hb dX10_init_26 (by decide) ?_
  refine r_newI (N := 20) hx hb (hT _ t_184) hK hP hD hS hA (by decide) (by decide) (by decide) (Nat.le_of_ble_eq_true rfl) (Nat.le_of_ble_eq_true rfl) dX10_init_28 (fun q_3 H hP hD hS => ?_)
  have hP : va_P D vwCl [(h0, .inr (10, [.int 0, .ref q_1, .ref q_2, .null, .null])), (q_1, .inl (cy 0, 20, .inl (fun _ => 0))), (q_2, .inl (cy 0, 20, .inl (fun _ => 0))), (q_3, .inl (cy 0, 20, .inl (fun _ => 0)))] H := hP
  have hD : va_D A [(h0, .inr (10, [.int 0, .ref q_1, .ref q_2, .null, .null])), (q_1, .inl (cy 0, 20, .inl (fun _ => 0))), (q_2, .inl (cy 0, 20, .inl (fun _ => 0))), (q_3, .inl (cy 0, 20, .inl (fun _ => 0)))] := hD
  refine W.widen (k := 3) (n := 60) (Nat.le_of_ble_eq_true rfl) (Nat.le_of_ble_eq_true rfl) ?_
  refine va_putF (D := D) (ci := 10) (v := .ref q_3) (ty := .array .int) (C := RX10) (T := TX10) (N := 5) hx hb hT iX10 tyX10 tyX10_ok nmX10 hown hK hP hD hS 0 rfl rfl 3 (by decide) (hT _ t_187) (fun _ h9 => h9) rfl hin rfl (by decide +kernel) rfl rfl (Nat.le_of_ble_eq_true rfl) dX10_init_30 (fun H locs hP hD hS => ?_)
  have hP : va_P D vwCl [(h0, .inr (10, [.int 0, .ref q_1, .ref q_2, .ref q_3, .null])), (q_1, .inl (cy 0, 20, .inl (fun _ => 0))), (q_2, .inl (cy 0, 20, .inl (fun _ => 0))), (q_3, .inl (cy 0, 20, .inl (fun _ => 0)))] H := hP
  have hD : va_D A [(h0, .inr (10, [.int 0, .ref q_1, .ref q_2, .ref q_3, .null])), (q_1, .inl (cy 0, 20, .inl (fun _ => 0))), (q_2, .inl (cy 0, 20, .inl (fun _ => 0))), (q_3, .inl (cy 0, 20, .inl (fun _ => 0)))] := hD
  refine lv_aload_n hx hb dX10_init_33 rfl (lv_at hl 0 rfl) ?_
  refine lv_bipush (v := 20) hx hb dX10_init_34 (by decide) ?_
  refine r_newI (N := 20) hx hb (hT _ t_184) hK hP hD hS hA (by decide) (by decide) (by decide) (Nat.le_of_ble_eq_true rfl) (Nat.le_of_ble_eq_true rfl) dX10_init_36 (fun q_4 H hP hD hS => ?_)
  have hP : va_P D vwCl [(h0, .inr (10, [.int 0, .ref q_1, .ref q_2, .ref q_3, .null])), (q_1, .inl (cy 0, 20, .inl (fun _ => 0))), (q_2, .inl (cy 0, 20, .inl (fun _ => 0))), (q_3, .inl (cy 0, 20, .inl (fun _ => 0))), (q_4, .inl (cy 0, 20, .inl (fun _ => 0)))] H := hP
  have hD : va_D A [(h0, .inr (10, [.int 0, .ref q_1, .ref q_2, .ref q_3, .null])), (q_1, .inl (cy 0, 20, .inl (fun _ => 0))), (q_2, .inl (cy 0, 20, .inl (fun _ => 0))), (q_3, .inl (cy 0, 20, .inl (fun _ => 0))), (q_4, .inl (cy 0, 20, .inl (fun _ => 0)))] := hD
  refine W.widen (k := 4) (n := 80) (Nat.le_of_ble_eq_true rfl) (Nat.le_of_ble_eq_true rfl) ?_
  refine va_putF (D := D) (ci := 10) (v := .ref q_4) (ty := .array .int) (C := RX10) (T := TX10) (N := 5) hx hb hT iX10 tyX10 tyX10_ok nmX10 hown hK hP hD hS 0 rfl rfl 4 (by decide) (hT _ t_188) (fun _ h9 => h9) rfl hin rfl (by decide +kernel) rfl rfl (Nat.le_of_ble_eq_true rfl) dX10_init_38 (fun H locs hP hD hS => ?_)
  have hP : va_P D vwCl [(h0, .inr (10, [.int 0, .ref q_1, .ref q_2, .ref q_3, .ref q_4])), (q_1, .inl (cy 0, 20, .inl (fun _ => 0))), (q_2, .inl (cy 0, 20, .inl (fun _ => 0))), (q_3, .inl (cy 0, 20, .inl (fun _ => 0))), (q_4, .inl (cy 0, 20, .inl (fun _ => 0)))] H := hP
  have hD : va_D A [(h0, .inr (10, [.int 0, .ref q_1, .ref q_2, .ref q_3, .ref q_4])), (q_1, .inl (cy 0, 20, .inl (fun _ => 0))), (q_2, .inl (cy 0, 20, .inl (fun _ => 0))), (q_3, .inl (cy 0, 20, .inl (fun _ => 0))), (q_4, .inl (cy 0, 20, .inl (fun _ => 0)))] := hD
  subst hQ
  have hP9 := hP.sub (ws' := [(h0, .inr (10, [.int 0, .ref q_1, .ref q_2, .ref q_3, .ref q_4]))]) [0] rfl
  have hD9 := hD.sub (ws' := [(h0, .inr (10, [.int 0, .ref q_1, .ref q_2, .ref q_3, .ref q_4]))]) [0] (by decide) rfl
  exact W.vret hx hb hr (fun t ht hW => ⟨⟨[.int 0, .ref q_1, .ref q_2, .ref q_3, .ref q_4], rfl, trivial, by rw [ht]; exact hP9, va_K.moved hW.alike hK, hD9⟩, hS.F ht⟩) hS.2.2 dX10_init_41
set_option maxHeartbeats 4000000 in
set_option maxRecDepth 100000 in
theorem c_X3_init (l : Launch) (D : va_G) (cy : Nat → ClassId) (h0 : Nat) (p0 p1 p2 p3 p4 p5 : Int32) (sz : Nat) (hk : p5 = 0 ∨ p5 = 1) : Met l yX3_init (Cond.code yX3_init cX3_init 8 none :: gT) { frames := 2, cells := 14, slots := 203, locals := 44 } (va_Pc [.ref h0, .int p0, .int p1, .int p2, .int p3, .int p4, .int p5] (rN D cy [(h0, .inr (3, [.int 0, .int 0, .int 0, .int 0, .int 0, .int 0, .null, .null, .null, .null, .null, .null]))] sz)) (va_Qv (fun u : List Value => True) (fun (u : List Value) t => va_P D vwCl [(h0, .inr (3, u))] t.heap ∧ va_K D vwCl (vT cy) t ∧ va_D (va_A [(h0, .inr (3, [.int 0, .int 0, .int 0, .int 0, .int 0, .int 0, .null, .null, .null, .null, .null, .null]))] sz) [(h0, .inr (3, u))]) (va_A [(h0, .inr (3, [.int 0, .int 0, .int 0, .int 0, .int 0, .int 0, .null, .null, .null, .null, .null, .null]))] sz)) 14 203 (va_A [(h0, .inr (3, [.int 0, .int 0, .int 0, .int 0, .int 0, .int 0, .null, .null, .null, .null, .null, .null]))] sz) := by
  refine Met.ofQ (cc := cX3_init) (maxL := 8) (ret := none) (by decide) rfl ?_
  intro p e s m args below meth c s₁ B hml hv Q hQ
  obtain ⟨rfl, hnw, hsz, hP, hK, hD0⟩ := hv
  have hx := B.exec
  have hb := B.bytes
  have hr := B.returns
  have hlocks := B.notSynchronized
  have hT : ∀ w ∈ gT, w.before _ s = true := fun w h => atoms_spec (ws := (Cond.code yX3_init cX3_init 8 none :: gT)) B.pre w (List.mem_cons_of_mem _ h)
  have hown : s.vm.findClass RX3 = some m.cls := findClass_of_methodNamed B.named
  have hin : meth.name = "<init>" := (name_of_methodNamed B.named B.method).1
  subst hsz
  have hD := hD0.self (sz := s.heap.size)
  generalize hAe : va_A [(h0, .inr (3, [.int 0, .int 0, .int 0, .int 0, .int 0, .int 0, .null, .null, .null, .null, .null, .null]))] s.heap.size = A at hD hQ
  have hA : ∀ q : Nat, s.heap.size ≤ q → A q := fun q h => by rw [← hAe]; exact Or.inr h
  have hS : va_S A s.heap s.heap [] := va_S.rf
  have hl := lv_entry ([.ref h0, .int p0, .int p1, .int p2, .int p3, .int p4, .int p5]) (n := 8) (Nat.le_of_ble_eq_true rfl)
  rw [lg_entry_eq]
  generalize (lg_sl ([.ref h0, .int p0, .int p1, .int p2, .int p3, .int p4, .int p5]) ++ List.replicate (8 - (lg_sl ([.ref h0, .int p0, .int p1, .int p2, .int p3, .int p4, .int p5])).length) Slot.unset).toArray = ls at hl ⊢
  have hl : lv_has ls 8 [(0, .ref h0), (1, .int p0), (2, .int p1), (3, .int p2), (4, .int p3), (5, .int p4), (6, .int p5)] := hl
  refine lv_aload_n hx hb dX3_init_0 rfl (lv_at hl 0 rfl) ?_
  refine W.objInit hx hb hown (hT _ t_189) (hT _ t_181) (hT _ t_182) rfl (by rw [hml]; exact hl.1) rfl dX3_init_1 (Nat.le_of_ble_eq_true rfl) (Nat.le_of_ble_eq_true rfl) ?_
  refine W.eq (g2 := F0 m 4 ls []) rfl ?_
  refine lv_aload_n hx hb dX3_init_4 rfl (lv_at hl 0 rfl) ?_
  refine lv_iconst (v := 4) hx hb dX3_init_5 (by decide) ?_
  refine r_newI (N := 4) hx hb (hT _ t_184) hK hP hD hS hA (by decide) (by decide) (by decide) (Nat.le_of_ble_eq_true rfl) (Nat.le_of_ble_eq_true rfl) dX3_init_6 (fun q_1 H hP hD hS => ?_)
  have hP : va_P D vwCl [(h0, .inr (3, [.int 0, .int 0, .int 0, .int 0, .int 0, .int 0, .null, .null, .null, .null, .null, .null])), (q_1, .inl (cy 0, 4, .inl (fun _ => 0)))] H := hP
  have hD : va_D A [(h0, .inr (3, [.int 0, .int 0, .int 0, .int 0, .int 0, .int 0, .null, .null, .null, .null, .null, .null])), (q_1, .inl (cy 0, 4, .inl (fun _ => 0)))] := hD
  refine W.widen (k := 1) (n := 4) (Nat.le_of_ble_eq_true rfl) (Nat.le_of_ble_eq_true rfl) ?_
  refine va_putF (D := D) (ci := 3) (v := .ref q_1) (ty := .array .int) (C := RX3) (T := TX3) (N := 12) hx hb hT iX3 tyX3 tyX3_ok nmX3 hown hK hP hD hS 0 rfl rfl 6 (by decide) (hT _ t_190) (fun _ h9 => h9) rfl hin rfl (by decide +kernel) rfl rfl (Nat.le_of_ble_eq_true rfl) dX3_init_8 (fun H locs hP hD hS => ?_)
  have hP : va_P D vwCl [(h0, .inr (3, [.int 0, .int 0, .int 0, .int 0, .int 0, .int 0, .ref q_1, .null, .null, .null, .null, .null])), (q_1, .inl (cy 0, 4, .inl (fun _ => 0)))] H := hP
  have hD : va_D A [(h0, .inr (3, [.int 0, .int 0, .int 0, .int 0, .int 0, .int 0, .ref q_1, .null, .null, .null, .null, .null])), (q_1, .inl (cy 0, 4, .inl (fun _ => 0)))] := hD
  refine lv_aload_n hx hb dX3_init_11 rfl (lv_at hl 0 rfl) ?_
  refine lv_iconst (v := 3) hx hb dX3_init_12 (by decide) ?_
  refine r_newI (N := 3) hx hb (hT _ t_184) hK hP hD hS hA (by decide) (by decide) (by decide) (Nat.le_of_ble_eq_true rfl) (Nat.le_of_ble_eq_true rfl) dX3_init_13 (fun q_2 H hP hD hS => ?_)
  have hP : va_P D vwCl [(h0, .inr (3, [.int 0, .int 0, .int 0, .int 0, .int 0, .int 0, .ref q_1, .null, .null, .null, .null, .null])), (q_1, .inl (cy 0, 4, .inl (fun _ => 0))), (q_2, .inl (cy 0, 3, .inl (fun _ => 0)))] H := hP
  have hD : va_D A [(h0, .inr (3, [.int 0, .int 0, .int 0, .int 0, .int 0, .int 0, .ref q_1, .null, .null, .null, .null, .null])), (q_1, .inl (cy 0, 4, .inl (fun _ => 0))), (q_2, .inl (cy 0, 3, .inl (fun _ => 0)))] := hD
  refine W.widen (k := 2) (n := 7) (Nat.le_of_ble_eq_true rfl) (Nat.le_of_ble_eq_true rfl) ?_
  refine va_putF (D := D) (ci := 3) (v := .ref q_2) (ty := .array .int) (C := RX3) (T := TX3) (N := 12) hx hb hT iX3 tyX3 tyX3_ok nmX3 hown hK hP hD hS 0 rfl rfl 7 (by decide) (hT _ t_191) (fun _ h9 => h9) rfl hin rfl (by decide +kernel) rfl rfl (Nat.le_of_ble_eq_true rfl) dX3_init_15 (fun H locs hP hD hS => ?_)
  have hP : va_P D vwCl [(h0, .inr (3, [.int 0, .int 0, .int 0, .int 0, .int 0, .int 0, .ref q_1, .ref q_2, .null, .null, .null, .null])), (q_1, .inl (cy 0, 4, .inl (fun _ => 0))), (q_2, .inl (cy 0, 3, .inl (fun _ => 0)))] H := hP
  have hD : va_D A [(h0, .inr (3, [.int 0, .int 0, .int 0, .int 0, .int 0, .int 0, .ref q_1, .ref q_2, .null, .null, .null, .null])), (q_1, .inl (cy 0, 4, .inl (fun _ => 0))), (q_2, .inl (cy 0, 3, .inl (fun _ => 0)))] := hD
  refine lv_aload_n hx hb dX3_init_18 rfl (lv_at hl 0 rfl) ?_
  refine lv_bipush (v := 6) hx hb dX3_init_19 (by decide) ?_
  refine r_newZ (N := 6) hx hb (hT _ t_192) hK hP hD hS hA (by decide) (by decide) (by decide) (Nat.le_of_ble_eq_true rfl) (Nat.le_of_ble_eq_true rfl) dX3_init_21 (fun q_3 H hP hD hS => ?_)
  have hP : va_P D vwCl [(h0, .inr (3, [.int 0, .int 0, .int 0, .int 0, .int 0, .int 0, .ref q_1, .ref q_2, .null, .null, .null, .null])), (q_1, .inl (cy 0, 4, .inl (fun _ => 0))), (q_2, .inl (cy 0, 3, .inl (fun _ => 0))), (q_3, .inl (cy 2, 6, .inl (fun _ => 0)))] H := hP
  have hD : va_D A [(h0, .inr (3, [.int 0, .int 0, .int 0, .int 0, .int 0, .int 0, .ref q_1, .ref q_2, .null, .null, .null, .null])), (q_1, .inl (cy 0, 4, .inl (fun _ => 0))), (q_2, .inl (cy 0, 3, .inl (fun _ => 0))), (q_3, .inl (cy 2, 6, .inl (fun _ => 0)))] := hD
  refine W.widen (k := 3) (n := 13) (Nat.le_of_ble_eq_true rfl) (Nat.le_of_ble_eq_true rfl) ?_
  refine va_putF (D := D) (ci := 3) (v := .ref q_3) (ty := .array .boolean) (C := RX3) (T := TX3) (N := 12) hx hb hT iX3 tyX3 tyX3_ok nmX3 hown hK hP hD hS 0 rfl rfl 8 (by decide) (hT _ t_193) (fun _ h9 => h9) rfl hin rfl (by decide +kernel) rfl rfl (Nat.le_of_ble_eq_true rfl) dX3_init_23 (fun H locs hP hD hS => ?_)
  have hP : va_P D vwCl [(h0, .inr (3, [.int 0, .int 0, .int 0, .int 0, .int 0, .int 0, .ref q_1, .ref q_2, .ref q_3, .null, .null, .null])), (q_1, .inl (cy 0, 4, .inl (fun _ => 0))), (q_2, .inl (cy 0, 3, .inl (fun _ => 0))), (q_3, .inl (cy 2, 6, .inl (fun _ => 0)))] H := hP
  have hD : va_D A [(h0, .inr (3, [.int 0, .int 0, .int 0, .int 0, .int 0, .int 0, .ref q_1, .ref q_2, .ref q_3, .null, .null, .null])), (q_1, .inl (cy 0, 4, .inl (fun _ => 0))), (q_2, .inl (cy 0, 3, .inl (fun _ => 0))), (q_3, .inl (cy 2, 6, .inl (fun _ => 0)))] := hD
  refine lv_aload_n hx hb dX3_init_26 rfl (lv_at hl 0 rfl) ?_
  refine va_new (ci := 10) (fs := [.int 0, .null, .null, .null, .null]) (C := RX10) (T := TX10) (N := 5) hx hb hT iX10 tyX10 tyX10_ok hown (hT _ t_194) (hT _ t_195) (hT _ t_196) hK hP hD hS hA rfl (fun j hj => dfl10 j hj) (Nat.le_of_ble_eq_true rfl) (Nat.le_of_ble_eq_true rfl) dX3_init_27 (fun q_4 H hP hD hS => ?_)
  have hP : va_P D vwCl [(h0, .inr (3, [.int 0, .int 0, .int 0, .int 0, .int 0, .int 0, .ref q_1, .ref q_2, .ref q_3, .null, .null, .null])), (q_1, .inl (cy 0, 4, .inl (fun _ => 0))), (q_2, .inl (cy 0, 3, .inl (fun _ => 0))), (q_3, .inl (cy 2, 6, .inl (fun _ => 0))), (q_4, .inr (10, [.int 0, .null, .null, .null, .null]))] H := hP
  have hD : va_D A [(h0, .inr (3, [.int 0, .int 0, .int 0, .int 0, .int 0, .int 0, .ref q_1, .ref q_2, .ref q_3, .null, .null, .null])), (q_1, .inl (cy 0, 4, .inl (fun _ => 0))), (q_2, .inl (cy 0, 3, .inl (fun _ => 0))), (q_3, .inl (cy 2, 6, .inl (fun _ => 0))), (q_4, .inr (10, [.int 0, .null, .null, .null, .null]))] := hD
  refine W.widen (k := 4) (n := 18) (Nat.le_of_ble_eq_true rfl) (Nat.le_of_ble_eq_true rfl) ?_
  refine lv_dup hx hb dX3_init_30 rfl ?_
  have hP_5 := hP.sub (ws' := [(q_4, .inr (10, [.int 0, .null, .null, .null, .null]))]) [4] rfl
  have hD_7 := hD.sub (ws' := [(q_4, .inr (10, [.int 0, .null, .null, .null, .null]))]) [4] (by decide) rfl
  have hF_6 := va_free (wc := [(q_4, .inr (10, [.int 0, .null, .null, .null, .null]))]) hD hS hA [4] rfl
  refine va_callv (va_runIN (As := []) (rest := [.ref q_4, .ref h0]) ⟨hx, hb, hml, hown, hT⟩ (c_X10_init l D cy q_4 _) ⟨va_cnB 0 hT (gI t_197) rfl rfl rfl (hnw.2.2.2.2.2.2.2.1) (hT _ t_196) (by decide +kernel) ⟨Nat.le_of_ble_eq_true rfl, Nat.le_of_ble_eq_true rfl⟩, rfl, (hT _ t_198)⟩ (rQ_s hP_5 hK hD_7) rfl rfl hl.1 rfl (lv_room (Nat.le_of_ble_eq_true rfl)) dX3_init_31 ⟨Nat.le_of_ble_eq_true rfl, Nat.le_of_ble_eq_true rfl⟩) hS (fun q _ h => hF_6 q h) hF_6 (fun u_9 t H1 locs ht hvm hr_8 hB hz1 hk1 hS => ?_)
  obtain ⟨hP1, hK1, hD1⟩ := hB
  rw [ht] at hP1
  obtain ⟨hP, hD⟩ := va_join (wr := [(h0, .inr (3, [.int 0, .int 0, .int 0, .int 0, .int 0, .int 0, .ref q_1, .ref q_2, .ref q_3, .null, .null, .null])), (q_1, .inl (cy 0, 4, .inl (fun _ => 0))), (q_2, .inl (cy 0, 3, .inl (fun _ => 0))), (q_3, .inl (cy 2, 6, .inl (fun _ => 0)))]) (w1 := [(q_4, .inr (10, u_9))]) hP hD [4] [0, 1, 2, 3] rfl rfl (by decide) (by decide) hk1 hF_6 hP1 hD1
  have hP : va_P D vwCl [(h0, .inr (3, [.int 0, .int 0, .int 0, .int 0, .int 0, .int 0, .ref q_1, .ref q_2, .ref q_3, .null, .null, .null])), (q_1, .inl (cy 0, 4, .inl (fun _ => 0))), (q_2, .inl (cy 0, 3, .inl (fun _ => 0))), (q_3, .inl (cy 2, 6, .inl (fun _ => 0))), (q_4, .inr (10, u_9))] H1 := hP
  have hD : va_D A [(h0, .inr (3, [.int 0, .int 0, .int 0, .int 0, .int 0, .int 0, .ref q_1, .ref q_2, .ref q_3, .null, .null, .null])), (q_1, .inl (cy 0, 4, .inl (fun _ => 0))), (q_2, .inl (cy 0, 3, .inl (fun _ => 0))), (q_3, .inl (cy 2, 6, .inl (fun _ => 0))), (q_4, .inr (10, u_9))] := hD
  refine W.widen (k := 8) (n := 98) (Nat.le_of_ble_eq_true rfl) (Nat.le_of_ble_eq_true rfl) ?_
  refine va_putF (D := D) (ci := 3) (v := .ref q_4) (ty := .object "DepositJudge$Things") (C := RX3) (T := TX3) (N := 12) hx hb hT iX3 tyX3 tyX3_ok nmX3 hown hK hP hD hS 0 rfl rfl 9 (by decide) (hT _ t_199) (fun _ h9 => h9) rfl hin rfl (by decide +kernel) rfl rfl (Nat.le_of_ble_eq_true rfl) dX3_init_34 (fun H locs hP hD hS => ?_)
  have hP : va_P D vwCl [(h0, .inr (3, [.int 0, .int 0, .int 0, .int 0, .int 0, .int 0, .ref q_1, .ref q_2, .ref q_3, .ref q_4, .null, .null])), (q_1, .inl (cy 0, 4, .inl (fun _ => 0))), (q_2, .inl (cy 0, 3, .inl (fun _ => 0))), (q_3, .inl (cy 2, 6, .inl (fun _ => 0))), (q_4, .inr (10, u_9))] H := hP
  have hD : va_D A [(h0, .inr (3, [.int 0, .int 0, .int 0, .int 0, .int 0, .int 0, .ref q_1, .ref q_2, .ref q_3, .ref q_4, .null, .null])), (q_1, .inl (cy 0, 4, .inl (fun _ => 0))), (q_2, .inl (cy 0, 3, .inl (fun _ => 0))), (q_3, .inl (cy 2, 6, .inl (fun _ => 0))), (q_4, .inr (10, u_9))] := hD
  refine lv_aload_n hx hb dX3_init_37 rfl (lv_at hl 0 rfl) ?_
  refine va_new (ci := 10) (fs := [.int 0, .null, .null, .null, .null]) (C := RX10) (T := TX10) (N := 5) hx hb hT iX10 tyX10 tyX10_ok hown (hT _ t_194) (hT _ t_195) (hT _ t_196) hK hP hD hS hA rfl (fun j hj => dfl10 j hj) (Nat.le_of_ble_eq_true rfl) (Nat.le_of_ble_eq_true rfl) dX3_init_38 (fun q_10 H hP hD hS => ?_)
  have hP : va_P D vwCl [(h0, .inr (3, [.int 0, .int 0, .int 0, .int 0, .int 0, .int 0, .ref q_1, .ref q_2, .ref q_3, .ref q_4, .null, .null])), (q_1, .inl (cy 0, 4, .inl (fun _ => 0))), (q_2, .inl (cy 0, 3, .inl (fun _ => 0))), (q_3, .inl (cy 2, 6, .inl (fun _ => 0))), (q_4, .inr (10, u_9)), (q_10, .inr (10, [.int 0, .null, .null, .null, .null]))] H := hP
  have hD : va_D A [(h0, .inr (3, [.int 0, .int 0, .int 0, .int 0, .int 0, .int 0, .ref q_1, .ref q_2, .ref q_3, .ref q_4, .null, .null])), (q_1, .inl (cy 0, 4, .inl (fun _ => 0))), (q_2, .inl (cy 0, 3, .inl (fun _ => 0))), (q_3, .inl (cy 2, 6, .inl (fun _ => 0))), (q_4, .inr (10, u_9)), (q_10, .inr (10, [.int 0, .null, .null, .null, .null]))] := hD
  refine W.widen (k := 9) (n := 103) (Nat.le_of_ble_eq_true rfl) (Nat.le_of_ble_eq_true rfl) ?_
  refine lv_dup hx hb dX3_init_41 rfl ?_
  have hP_11 := hP.sub (ws' := [(q_10, .inr (10, [.int 0, .null, .null, .null, .null]))]) [5] rfl
  have hD_13 := hD.sub (ws' := [(q_10, .inr (10, [.int 0, .null, .null, .null, .null]))]) [5] (by decide) rfl
  have hF_12 := va_free (wc := [(q_10, .inr (10, [.int 0, .null, .null, .null, .null]))]) hD hS hA [5] rfl
  refine va_callv (va_runIN (As := []) (rest := [.ref q_10, .ref h0]) ⟨hx, hb, hml, hown, hT⟩ (c_X10_init l D cy q_10 _) ⟨va_cnB 0 hT (gI t_197) rfl rfl rfl (hnw.2.2.2.2.2.2.2.1) (hT _ t_196) (by decide +kernel) ⟨Nat.le_of_ble_eq_true rfl, Nat.le_of_ble_eq_true rfl⟩, rfl, (hT _ t_198)⟩ (rQ_s hP_11 hK hD_13) rfl rfl hl.1 rfl (lv_room (Nat.le_of_ble_eq_true rfl)) dX3_init_42 ⟨Nat.le_of_ble_eq_true rfl, Nat.le_of_ble_eq_true rfl⟩) hS (fun q _ h => hF_12 q h) hF_12 (fun u_15 t H1 locs ht hvm hr_14 hB hz1 hk1 hS => ?_)
  obtain ⟨hP1, hK1, hD1⟩ := hB
  rw [ht] at hP1
  obtain ⟨hP, hD⟩ := va_join (wr := [(h0, .inr (3, [.int 0, .int 0, .int 0, .int 0, .int 0, .int 0, .ref q_1, .ref q_2, .ref q_3, .ref q_4, .null, .null])), (q_1, .inl (cy 0, 4, .inl (fun _ => 0))), (q_2, .inl (cy 0, 3, .inl (fun _ => 0))), (q_3, .inl (cy 2, 6, .inl (fun _ => 0))), (q_4, .inr (10, u_9))]) (w1 := [(q_10, .inr (10, u_15))]) hP hD [5] [0, 1, 2, 3, 4] rfl rfl (by decide) (by decide) hk1 hF_12 hP1 hD1
  have hP : va_P D vwCl [(h0, .inr (3, [.int 0, .int 0, .int 0, .int 0, .int 0, .int 0, .ref q_1, .ref q_2, .ref q_3, .ref q_4, .null, .null])), (q_1, .inl (cy 0, 4, .inl (fun _ => 0))), (q_2, .inl (cy 0, 3, .inl (fun _ => 0))), (q_3, .inl (cy 2, 6, .inl (fun _ => 0))), (q_4, .inr (10, u_9)), (q_10, .inr (10, u_15))] H1 := hP
  have hD : va_D A [(h0, .inr (3, [.int 0, .int 0, .int 0, .int 0, .int 0, .int 0, .ref q_1, .ref q_2, .ref q_3, .ref q_4, .null, .null])), (q_1, .inl (cy 0, 4, .inl (fun _ => 0))), (q_2, .inl (cy 0, 3, .inl (fun _ => 0))), (q_3, .inl (cy 2, 6, .inl (fun _ => 0))), (q_4, .inr (10, u_9)), (q_10, .inr (10, u_15))] := hD
  refine W.widen (k := 13) (n := 183) (Nat.le_of_ble_eq_true rfl) (Nat.le_of_ble_eq_true rfl) ?_
  refine va_putF (D := D) (ci := 3) (v := .ref q_10) (ty := .object "DepositJudge$Things") (C := RX3) (T := TX3) (N := 12) hx hb hT iX3 tyX3 tyX3_ok nmX3 hown hK hP hD hS 0 rfl rfl 10 (by decide) (hT _ t_200) (fun _ h9 => h9) rfl hin rfl (by decide +kernel) rfl rfl (Nat.le_of_ble_eq_true rfl) dX3_init_45 (fun H locs hP hD hS => ?_)
  have hP : va_P D vwCl [(h0, .inr (3, [.int 0, .int 0, .int 0, .int 0, .int 0, .int 0, .ref q_1, .ref q_2, .ref q_3, .ref q_4, .ref q_10, .null])), (q_1, .inl (cy 0, 4, .inl (fun _ => 0))), (q_2, .inl (cy 0, 3, .inl (fun _ => 0))), (q_3, .inl (cy 2, 6, .inl (fun _ => 0))), (q_4, .inr (10, u_9)), (q_10, .inr (10, u_15))] H := hP
  have hD : va_D A [(h0, .inr (3, [.int 0, .int 0, .int 0, .int 0, .int 0, .int 0, .ref q_1, .ref q_2, .ref q_3, .ref q_4, .ref q_10, .null])), (q_1, .inl (cy 0, 4, .inl (fun _ => 0))), (q_2, .inl (cy 0, 3, .inl (fun _ => 0))), (q_3, .inl (cy 2, 6, .inl (fun _ => 0))), (q_4, .inr (10, u_9)), (q_10, .inr (10, u_15))] := hD
  refine lv_aload_n hx hb dX3_init_48 rfl (lv_at hl 0 rfl) ?_
  refine lv_bipush (v := 20) hx hb dX3_init_49 (by decide) ?_
  refine r_newI (N := 20) hx hb (hT _ t_184) hK hP hD hS hA (by decide) (by decide) (by decide) (Nat.le_of_ble_eq_true rfl) (Nat.le_of_ble_eq_true rfl) dX3_init_51 (fun q_16 H hP hD hS => ?_)
  have hP : va_P D vwCl [(h0, .inr (3, [.int 0, .int 0, .int 0, .int 0, .int 0, .int 0, .ref q_1, .ref q_2, .ref q_3, .ref q_4, .ref q_10, .null])), (q_1, .inl (cy 0, 4, .inl (fun _ => 0))), (q_2, .inl (cy 0, 3, .inl (fun _ => 0))), (q_3, .inl (cy 2, 6, .inl (fun _ => 0))), (q_4, .inr (10, u_9)), (q_10, .inr (10, u_15)), (q_16, .inl (cy 0, 20, .inl (fun _ => 0)))] H := hP
  have hD : va_D A [(h0, .inr (3, [.int 0, .int 0, .int 0, .int 0, .int 0, .int 0, .ref q_1, .ref q_2, .ref q_3, .ref q_4, .ref q_10, .null])), (q_1, .inl (cy 0, 4, .inl (fun _ => 0))), (q_2, .inl (cy 0, 3, .inl (fun _ => 0))), (q_3, .inl (cy 2, 6, .inl (fun _ => 0))), (q_4, .inr (10, u_9)), (q_10, .inr (10, u_15)), (q_16, .inl (cy 0, 20, .inl (fun _ => 0)))] := hD
  refine W.widen (k := 14) (n := 203) (Nat.le_of_ble_eq_true rfl) (Nat.le_of_ble_eq_true rfl) ?_
  refine va_putF (D := D) (ci := 3) (v := .ref q_16) (ty := .array .int) (C := RX3) (T := TX3) (N := 12) hx hb hT iX3 tyX3 tyX3_ok nmX3 hown hK hP hD hS 0 rfl rfl 11 (by decide) (hT _ t_201) (fun _ h9 => h9) rfl hin rfl (by decide +kernel) rfl rfl (Nat.le_of_ble_eq_true rfl) dX3_init_53 (fun H locs hP hD hS => ?_)
  have hP : va_P D vwCl [(h0, .inr (3, [.int 0, .int 0, .int 0, .int 0, .int 0, .int 0, .ref q_1, .ref q_2, .ref q_3, .ref q_4, .ref q_10, .ref q_16])), (q_1, .inl (cy 0, 4, .inl (fun _ => 0))), (q_2, .inl (cy 0, 3, .inl (fun _ => 0))), (q_3, .inl (cy 2, 6, .inl (fun _ => 0))), (q_4, .inr (10, u_9)), (q_10, .inr (10, u_15)), (q_16, .inl (cy 0, 20, .inl (fun _ => 0)))] H := hP
  have hD : va_D A [(h0, .inr (3, [.int 0, .int 0, .int 0, .int 0, .int 0, .int 0, .ref q_1, .ref q_2, .ref q_3, .ref q_4, .ref q_10, .ref q_16])), (q_1, .inl (cy 0, 4, .inl (fun _ => 0))), (q_2, .inl (cy 0, 3, .inl (fun _ => 0))), (q_3, .inl (cy 2, 6, .inl (fun _ => 0))), (q_4, .inr (10, u_9)), (q_10, .inr (10, u_15)), (q_16, .inl (cy 0, 20, .inl (fun _ => 0)))] := hD
  refine lv_aload_n hx hb dX3_init_56 rfl (lv_at hl 0 rfl) ?_
  refine lv_iload_n hx hb dX3_init_57 rfl (lv_at hl 1 rfl) ?_
  refine va_putF (D := D) (ci := 3) (v := .int p0) (ty := .int) (C := RX3) (T := TX3) (N := 12) hx hb hT iX3 tyX3 tyX3_ok nmX3 hown hK hP hD hS 0 rfl rfl 0 (by decide) (hT _ t_202) (fun _ h9 => h9) rfl hin rfl (by decide +kernel) rfl rfl (Nat.le_of_ble_eq_true rfl) dX3_init_58 (fun H locs hP hD hS => ?_)
  have hP : va_P D vwCl [(h0, .inr (3, [.int p0, .int 0, .int 0, .int 0, .int 0, .int 0, .ref q_1, .ref q_2, .ref q_3, .ref q_4, .ref q_10, .ref q_16])), (q_1, .inl (cy 0, 4, .inl (fun _ => 0))), (q_2, .inl (cy 0, 3, .inl (fun _ => 0))), (q_3, .inl (cy 2, 6, .inl (fun _ => 0))), (q_4, .inr (10, u_9)), (q_10, .inr (10, u_15)), (q_16, .inl (cy 0, 20, .inl (fun _ => 0)))] H := hP
  have hD : va_D A [(h0, .inr (3, [.int p0, .int 0, .int 0, .int 0, .int 0, .int 0, .ref q_1, .ref q_2, .ref q_3, .ref q_4, .ref q_10, .ref q_16])), (q_1, .inl (cy 0, 4, .inl (fun _ => 0))), (q_2, .inl (cy 0, 3, .inl (fun _ => 0))), (q_3, .inl (cy 2, 6, .inl (fun _ => 0))), (q_4, .inr (10, u_9)), (q_10, .inr (10, u_15)), (q_16, .inl (cy 0, 20, .inl (fun _ => 0)))] := hD
  refine lv_aload_n hx hb dX3_init_61 rfl (lv_at hl 0 rfl) ?_
  refine lv_iload_n hx hb dX3_init_62 rfl (lv_at hl 2 rfl) ?_
  refine va_putF (D := D) (ci := 3) (v := .int p1) (ty := .int) (C := RX3) (T := TX3) (N := 12) hx hb hT iX3 tyX3 tyX3_ok nmX3 hown hK hP hD hS 0 rfl rfl 1 (by decide) (hT _ t_203) (fun _ h9 => h9) rfl hin rfl (by decide +kernel) rfl rfl (Nat.le_of_ble_eq_true rfl) dX3_init_63 (fun H locs hP hD hS => ?_)
  have hP : va_P D vwCl [(h0, .inr (3, [.int p0, .int p1, .int 0, .int 0, .int 0, .int 0, .ref q_1, .ref q_2, .ref q_3, .ref q_4, .ref q_10, .ref q_16])), (q_1, .inl (cy 0, 4, .inl (fun _ => 0))), (q_2, .inl (cy 0, 3, .inl (fun _ => 0))), (q_3, .inl (cy 2, 6, .inl (fun _ => 0))), (q_4, .inr (10, u_9)), (q_10, .inr (10, u_15)), (q_16, .inl (cy 0, 20, .inl (fun _ => 0)))] H := hP
  have hD : va_D A [(h0, .inr (3, [.int p0, .int p1, .int 0, .int 0, .int 0, .int 0, .ref q_1, .ref q_2, .ref q_3, .ref q_4, .ref q_10, .ref q_16])), (q_1, .inl (cy 0, 4, .inl (fun _ => 0))), (q_2, .inl (cy 0, 3, .inl (fun _ => 0))), (q_3, .inl (cy 2, 6, .inl (fun _ => 0))), (q_4, .inr (10, u_9)), (q_10, .inr (10, u_15)), (q_16, .inl (cy 0, 20, .inl (fun _ => 0)))] := hD
  refine lv_aload_n hx hb dX3_init_66 rfl (lv_at hl 0 rfl) ?_
  refine lv_iload_n hx hb dX3_init_67 rfl (lv_at hl 3 rfl) ?_
  refine va_putF (D := D) (ci := 3) (v := .int p2) (ty := .int) (C := RX3) (T := TX3) (N := 12) hx hb hT iX3 tyX3 tyX3_ok nmX3 hown hK hP hD hS 0 rfl rfl 2 (by decide) (hT _ t_204) (fun _ h9 => h9) rfl hin rfl (by decide +kernel) rfl rfl (Nat.le_of_ble_eq_true rfl) dX3_init_68 (fun H locs hP hD hS => ?_)
  have hP : va_P D vwCl [(h0, .inr (3, [.int p0, .int p1, .int p2, .int 0, .int 0, .int 0, .ref q_1, .ref q_2, .ref q_3, .ref q_4, .ref q_10, .ref q_16])), (q_1, .inl (cy 0, 4, .inl (fun _ => 0))), (q_2, .inl (cy 0, 3, .inl (fun _ => 0))), (q_3, .inl (cy 2, 6, .inl (fun _ => 0))), (q_4, .inr (10, u_9)), (q_10, .inr (10, u_15)), (q_16, .inl (cy 0, 20, .inl (fun _ => 0)))] H := hP
  have hD : va_D A [(h0, .inr (3, [.int p0, .int p1, .int p2, .int 0, .int 0, .int 0, .ref q_1, .ref q_2, .ref q_3, .ref q_4, .ref q_10, .ref q_16])), (q_1, .inl (cy 0, 4, .inl (fun _ => 0))), (q_2, .inl (cy 0, 3, .inl (fun _ => 0))), (q_3, .inl (cy 2, 6, .inl (fun _ => 0))), (q_4, .inr (10, u_9)), (q_10, .inr (10, u_15)), (q_16, .inl (cy 0, 20, .inl (fun _ => 0)))] := hD
  refine lv_aload_n hx hb dX3_init_71 rfl (lv_at hl 0 rfl) ?_
  refine lv_iload hx hb dX3_init_72 (lv_at hl 4 rfl) ?_
  refine va_putF (D := D) (ci := 3) (v := .int p3) (ty := .int) (C := RX3) (T := TX3) (N := 12) hx hb hT iX3 tyX3 tyX3_ok nmX3 hown hK hP hD hS 0 rfl rfl 3 (by decide) (hT _ t_205) (fun _ h9 => h9) rfl hin rfl (by decide +kernel) rfl rfl (Nat.le_of_ble_eq_true rfl) dX3_init_74 (fun H locs hP hD hS => ?_)
  have hP : va_P D vwCl [(h0, .inr (3, [.int p0, .int p1, .int p2, .int p3, .int 0, .int 0, .ref q_1, .ref q_2, .ref q_3, .ref q_4, .ref q_10, .ref q_16])), (q_1, .inl (cy 0, 4, .inl (fun _ => 0))), (q_2, .inl (cy 0, 3, .inl (fun _ => 0))), (q_3, .inl (cy 2, 6, .inl (fun _ => 0))), (q_4, .inr (10, u_9)), (q_10, .inr (10, u_15)), (q_16, .inl (cy 0, 20, .inl (fun _ => 0)))] H := hP
  have hD : va_D A [(h0, .inr (3, [.int p0, .int p1, .int p2, .int p3, .int 0, .int 0, .ref q_1, .ref q_2, .ref q_3, .ref q_4, .ref q_10, .ref q_16])), (q_1, .inl (cy 0, 4, .inl (fun _ => 0))), (q_2, .inl (cy 0, 3, .inl (fun _ => 0))), (q_3, .inl (cy 2, 6, .inl (fun _ => 0))), (q_4, .inr (10, u_9)), (q_10, .inr (10, u_15)), (q_16, .inl (cy 0, 20, .inl (fun _ => 0)))] := hD
  refine lv_aload_n hx hb dX3_init_77 rfl (lv_at hl 0 rfl) ?_
  refine lv_iload hx hb dX3_init_78 (lv_at hl 5 rfl) ?_
  refine va_putF (D := D) (ci := 3) (v := .int p4) (ty := .int) (C := RX3) (T := TX3) (N := 12) hx hb hT iX3 tyX3 tyX3_ok nmX3 hown hK hP hD hS 0 rfl rfl 4 (by decide) (hT _ t_206) (fun _ h9 => h9) rfl hin rfl (by decide +kernel) rfl rfl (Nat.le_of_ble_eq_true rfl) dX3_init_80 (fun H locs hP hD hS => ?_)
  have hP : va_P D vwCl [(h0, .inr (3, [.int p0, .int p1, .int p2, .int p3, .int p4, .int 0, .ref q_1, .ref q_2, .ref q_3, .ref q_4, .ref q_10, .ref q_16])), (q_1, .inl (cy 0, 4, .inl (fun _ => 0))), (q_2, .inl (cy 0, 3, .inl (fun _ => 0))), (q_3, .inl (cy 2, 6, .inl (fun _ => 0))), (q_4, .inr (10, u_9)), (q_10, .inr (10, u_15)), (q_16, .inl (cy 0, 20, .inl (fun _ => 0)))] H := hP
  have hD : va_D A [(h0, .inr (3, [.int p0, .int p1, .int p2, .int p3, .int p4, .int 0, .ref q_1, .ref q_2, .ref q_3, .ref q_4, .ref q_10, .ref q_16])), (q_1, .inl (cy 0, 4, .inl (fun _ => 0))), (q_2, .inl (cy 0, 3, .inl (fun _ => 0))), (q_3, .inl (cy 2, 6, .inl (fun _ => 0))), (q_4, .inr (10, u_9)), (q_10, .inr (10, u_15)), (q_16, .inl (cy 0, 20, .inl (fun _ => 0)))] := hD
  refine lv_aload_n hx hb dX3_init_83 rfl (lv_at hl 0 rfl) ?_
  refine lv_iload hx hb dX3_init_84 (lv_at hl 6 rfl) ?_
  refine va_putF (D := D) (ci := 3) (v := .int p5) (ty := .boolean) (C := RX3) (T := TX3) (N := 12) hx hb hT iX3 tyX3 tyX3_ok nmX3 hown hK hP hD hS 0 rfl rfl 5 (by decide) (hT _ t_207) (fun _ h9 => h9) rfl hin rfl (by decide +kernel) (by rcases hk with rfl | rfl <;> rfl) (by rcases hk with rfl | rfl <;> rfl) (Nat.le_of_ble_eq_true rfl) dX3_init_86 (fun H locs hP hD hS => ?_)
  have hP : va_P D vwCl [(h0, .inr (3, [.int p0, .int p1, .int p2, .int p3, .int p4, .int p5, .ref q_1, .ref q_2, .ref q_3, .ref q_4, .ref q_10, .ref q_16])), (q_1, .inl (cy 0, 4, .inl (fun _ => 0))), (q_2, .inl (cy 0, 3, .inl (fun _ => 0))), (q_3, .inl (cy 2, 6, .inl (fun _ => 0))), (q_4, .inr (10, u_9)), (q_10, .inr (10, u_15)), (q_16, .inl (cy 0, 20, .inl (fun _ => 0)))] H := hP
  have hD : va_D A [(h0, .inr (3, [.int p0, .int p1, .int p2, .int p3, .int p4, .int p5, .ref q_1, .ref q_2, .ref q_3, .ref q_4, .ref q_10, .ref q_16])), (q_1, .inl (cy 0, 4, .inl (fun _ => 0))), (q_2, .inl (cy 0, 3, .inl (fun _ => 0))), (q_3, .inl (cy 2, 6, .inl (fun _ => 0))), (q_4, .inr (10, u_9)), (q_10, .inr (10, u_15)), (q_16, .inl (cy 0, 20, .inl (fun _ => 0)))] := hD
  refine lv_iconst (v := 0) hx hb dX3_init_89 (by decide) ?_
  refine lv_istore (lv' := [(7, .int 0), (0, .ref h0), (1, .int p0), (2, .int p1), (3, .int p2), (4, .int p3), (5, .int p4), (6, .int p5)]) hx hb dX3_init_90 hl (by decide) rfl (fun ls hl => ?_)
  refine lv_iload hx hb dX3_init_92 (lv_at hl 0 rfl) ?_
  refine lv_iconst (v := 4) hx hb dX3_init_94 (by decide) ?_
  refine lv_icmp_ge (tgt := 112) hx hb dX3_init_95 (by decide) (fun c_17 => absurd c_17 (by decide)) (fun c_17 => ?_)
  refine lv_aload_n hx hb dX3_init_98 rfl (lv_at hl 1 rfl) ?_
  refine va_get (D := D) (ci := 3) (v := .ref q_1) (C := RX3) (T := TX3) (N := 12) hx hb hT iX3 hown hK hP 0 rfl rfl 6 (by decide) (hT _ t_190) (fun _ h9 => h9) rfl dX3_init_99 ?_
  refine lv_iload hx hb dX3_init_102 (lv_at hl 0 rfl) ?_
  refine lv_iconst (v := 1) hx hb dX3_init_104 (by decide) ?_
  refine va_iast hx hb hK hP hD hS 1 0 rfl rfl (vp_inI (by decide) (by decide)) dX3_init_105 (fun H locs hP hD hS => ?_)
  have hP : va_P D vwCl [(h0, .inr (3, [.int p0, .int p1, .int p2, .int p3, .int p4, .int p5, .ref q_1, .ref q_2, .ref q_3, .ref q_4, .ref q_10, .ref q_16])), (q_1, .inl (cy 0, 4, .inl (upd (fun _ => 0) ((0 : Int32).toNatClampNeg) 1))), (q_2, .inl (cy 0, 3, .inl (fun _ => 0))), (q_3, .inl (cy 2, 6, .inl (fun _ => 0))), (q_4, .inr (10, u_9)), (q_10, .inr (10, u_15)), (q_16, .inl (cy 0, 20, .inl (fun _ => 0)))] H := hP
  have hD : va_D A [(h0, .inr (3, [.int p0, .int p1, .int p2, .int p3, .int p4, .int p5, .ref q_1, .ref q_2, .ref q_3, .ref q_4, .ref q_10, .ref q_16])), (q_1, .inl (cy 0, 4, .inl (upd (fun _ => 0) ((0 : Int32).toNatClampNeg) 1))), (q_2, .inl (cy 0, 3, .inl (fun _ => 0))), (q_3, .inl (cy 2, 6, .inl (fun _ => 0))), (q_4, .inr (10, u_9)), (q_10, .inr (10, u_15)), (q_16, .inl (cy 0, 20, .inl (fun _ => 0)))] := hD
  obtain ⟨x_18, ex_18⟩ : ∃ y : Int32, y = (0 : Int32) + 1 := ⟨_, rfl⟩
  refine lv_iinc (v := x_18) (lv' := [(7, .int x_18), (0, .ref h0), (1, .int p0), (2, .int p1), (3, .int p2), (4, .int p3), (5, .int p4), (6, .int p5)]) hx hb dX3_init_106 hl (k := 0) rfl (by rw [ex_18]; rfl) (by decide) rfl (fun ls hl => ?_)
  obtain rfl : x_18 = 1 := ex_18.trans (by decide)
  refine lv_goto (tgt := 92) hx hb dX3_init_109 (by decide) ?_
  refine lv_iload hx hb dX3_init_92 (lv_at hl 0 rfl) ?_
  refine lv_iconst (v := 4) hx hb dX3_init_94 (by decide) ?_
  refine lv_icmp_ge (tgt := 112) hx hb dX3_init_95 (by decide) (fun c_19 => absurd c_19 (by decide)) (fun c_19 => ?_)
  refine lv_aload_n hx hb dX3_init_98 rfl (lv_at hl 1 rfl) ?_
  refine va_get (D := D) (ci := 3) (v := .ref q_1) (C := RX3) (T := TX3) (N := 12) hx hb hT iX3 hown hK hP 0 rfl rfl 6 (by decide) (hT _ t_190) (fun _ h9 => h9) rfl dX3_init_99 ?_
  refine lv_iload hx hb dX3_init_102 (lv_at hl 0 rfl) ?_
  refine lv_iconst (v := 1) hx hb dX3_init_104 (by decide) ?_
  refine va_iast hx hb hK hP hD hS 1 0 rfl rfl (vp_inI (by decide) (by decide)) dX3_init_105 (fun H locs hP hD hS => ?_)
  have hP : va_P D vwCl [(h0, .inr (3, [.int p0, .int p1, .int p2, .int p3, .int p4, .int p5, .ref q_1, .ref q_2, .ref q_3, .ref q_4, .ref q_10, .ref q_16])), (q_1, .inl (cy 0, 4, .inl (upd (upd (fun _ => 0) ((0 : Int32).toNatClampNeg) 1) ((1 : Int32).toNatClampNeg) 1))), (q_2, .inl (cy 0, 3, .inl (fun _ => 0))), (q_3, .inl (cy 2, 6, .inl (fun _ => 0))), (q_4, .inr (10, u_9)), (q_10, .inr (10, u_15)), (q_16, .inl (cy 0, 20, .inl (fun _ => 0)))] H := hP
  have hD : va_D A [(h0, .inr (3, [.int p0, .int p1, .int p2, .int p3, .int p4, .int p5, .ref q_1, .ref q_2, .ref q_3, .ref q_4, .ref q_10, .ref q_16])), (q_1, .inl (cy 0, 4, .inl (upd (upd (fun _ => 0) ((0 : Int32).toNatClampNeg) 1) ((1 : Int32).toNatClampNeg) 1))), (q_2, .inl (cy 0, 3, .inl (fun _ => 0))), (q_3, .inl (cy 2, 6, .inl (fun _ => 0))), (q_4, .inr (10, u_9)), (q_10, .inr (10, u_15)), (q_16, .inl (cy 0, 20, .inl (fun _ => 0)))] := hD
  obtain ⟨x_20, ex_20⟩ : ∃ y : Int32, y = (1 : Int32) + 1 := ⟨_, rfl⟩
  refine lv_iinc (v := x_20) (lv' := [(7, .int x_20), (0, .ref h0), (1, .int p0), (2, .int p1), (3, .int p2), (4, .int p3), (5, .int p4), (6, .int p5)]) hx hb dX3_init_106 hl (k := 0) rfl (by rw [ex_20]; rfl) (by decide) rfl (fun ls hl => ?_)
  obtain rfl : x_20 = 2 := ex_20.trans (by decide)
  refine lv_goto (tgt := 92) hx hb dX3_init_109 (by decide) ?_
  refine lv_iload hx hb dX3_init_92 (lv_at hl 0 rfl) ?_
  refine lv_iconst (v := 4) hx hb dX3_init_94 (by decide) ?_
  refine lv_icmp_ge (tgt := 112) hx hb dX3_init_95 (by decide) (fun c_21 => absurd c_21 (by decide)) (fun c_21 => ?_)
  refine lv_aload_n hx hb dX3_init_98 rfl (lv_at hl 1 rfl) ?_
  refine va_get (D := D) (ci := 3) (v := .ref q_1) (C := RX3) (T := TX3) (N := 12) hx hb hT iX3 hown hK hP 0 rfl rfl 6 (by decide) (hT _ t_190) (fun _ h9 => h9) rfl dX3_init_99 ?_
  refine lv_iload hx hb dX3_init_102 (lv_at hl 0 rfl) ?_
  refine lv_iconst (v := 1) hx hb dX3_init_104 (by decide) ?_
  refine va_iast hx hb hK hP hD hS 1 0 rfl rfl (vp_inI (by decide) (by decide)) dX3_init_105 (fun H locs hP hD hS => ?_)
  have hP : va_P D vwCl [(h0, .inr (3, [.int p0, .int p1, .int p2, .int p3, .int p4, .int p5, .ref q_1, .ref q_2, .ref q_3, .ref q_4, .ref q_10, .ref q_16])), (q_1, .inl (cy 0, 4, .inl (upd (upd (upd (fun _ => 0) ((0 : Int32).toNatClampNeg) 1) ((1 : Int32).toNatClampNeg) 1) ((2 : Int32).toNatClampNeg) 1))), (q_2, .inl (cy 0, 3, .inl (fun _ => 0))), (q_3, .inl (cy 2, 6, .inl (fun _ => 0))), (q_4, .inr (10, u_9)), (q_10, .inr (10, u_15)), (q_16, .inl (cy 0, 20, .inl (fun _ => 0)))] H := hP
  have hD : va_D A [(h0, .inr (3, [.int p0, .int p1, .int p2, .int p3, .int p4, .int p5, .ref q_1, .ref q_2, .ref q_3, .ref q_4, .ref q_10, .ref q_16])), (q_1, .inl (cy 0, 4, .inl (upd (upd (upd (fun _ => 0) ((0 : Int32).toNatClampNeg) 1) ((1 : Int32).toNatClampNeg) 1) ((2 : Int32).toNatClampNeg) 1))), (q_2, .inl (cy 0, 3, .inl (fun _ => 0))), (q_3, .inl (cy 2, 6, .inl (fun _ => 0))), (q_4, .inr (10, u_9)), (q_10, .inr (10, u_15)), (q_16, .inl (cy 0, 20, .inl (fun _ => 0)))] := hD
  obtain ⟨x_22, ex_22⟩ : ∃ y : Int32, y = (2 : Int32) + 1 := ⟨_, rfl⟩
  refine lv_iinc (v := x_22) (lv' := [(7, .int x_22), (0, .ref h0), (1, .int p0), (2, .int p1), (3, .int p2), (4, .int p3), (5, .int p4), (6, .int p5)]) hx hb dX3_init_106 hl (k := 0) rfl (by rw [ex_22]; rfl) (by decide) rfl (fun ls hl => ?_)
  obtain rfl : x_22 = 3 := ex_22.trans (by decide)
  refine lv_goto (tgt := 92) hx hb dX3_init_109 (by decide) ?_
  refine lv_iload hx hb dX3_init_92 (lv_at hl 0 rfl) ?_
  refine lv_iconst (v := 4) hx hb dX3_init_94 (by decide) ?_
  refine lv_icmp_ge (tgt := 112) hx hb dX3_init_95 (by decide) (fun c_23 => absurd c_23 (by decide)) (fun c_23 => ?_)
  refine lv_aload_n hx hb dX3_init_98 rfl (lv_at hl 1 rfl) ?_
  refine va_get (D := D) (ci := 3) (v := .ref q_1) (C := RX3) (T := TX3) (N := 12) hx hb hT iX3 hown hK hP 0 rfl rfl 6 (by decide) (hT _ t_190) (fun _ h9 => h9) rfl dX3_init_99 ?_
  refine lv_iload hx hb dX3_init_102 (lv_at hl 0 rfl) ?_
  refine lv_iconst (v := 1) hx hb dX3_init_104 (by decide) ?_
  refine va_iast hx hb hK hP hD hS 1 0 rfl rfl (vp_inI (by decide) (by decide)) dX3_init_105 (fun H locs hP hD hS => ?_)
  have hP : va_P D vwCl [(h0, .inr (3, [.int p0, .int p1, .int p2, .int p3, .int p4, .int p5, .ref q_1, .ref q_2, .ref q_3, .ref q_4, .ref q_10, .ref q_16])), (q_1, .inl (cy 0, 4, .inl (upd (upd (upd (upd (fun _ => 0) ((0 : Int32).toNatClampNeg) 1) ((1 : Int32).toNatClampNeg) 1) ((2 : Int32).toNatClampNeg) 1) ((3 : Int32).toNatClampNeg) 1))), (q_2, .inl (cy 0, 3, .inl (fun _ => 0))), (q_3, .inl (cy 2, 6, .inl (fun _ => 0))), (q_4, .inr (10, u_9)), (q_10, .inr (10, u_15)), (q_16, .inl (cy 0, 20, .inl (fun _ => 0)))] H := hP
  have hD : va_D A [(h0, .inr (3, [.int p0, .int p1, .int p2, .int p3, .int p4, .int p5, .ref q_1, .ref q_2, .ref q_3, .ref q_4, .ref q_10, .ref q_16])), (q_1, .inl (cy 0, 4, .inl (upd (upd (upd (upd (fun _ => 0) ((0 : Int32).toNatClampNeg) 1) ((1 : Int32).toNatClampNeg) 1) ((2 : Int32).toNatClampNeg) 1) ((3 : Int32).toNatClampNeg) 1))), (q_2, .inl (cy 0, 3, .inl (fun _ => 0))), (q_3, .inl (cy 2, 6, .inl (fun _ => 0))), (q_4, .inr (10, u_9)), (q_10, .inr (10, u_15)), (q_16, .inl (cy 0, 20, .inl (fun _ => 0)))] := hD
  obtain ⟨x_24, ex_24⟩ : ∃ y : Int32, y = (3 : Int32) + 1 := ⟨_, rfl⟩
  refine lv_iinc (v := x_24) (lv' := [(7, .int x_24), (0, .ref h0), (1, .int p0), (2, .int p1), (3, .int p2), (4, .int p3), (5, .int p4), (6, .int p5)]) hx hb dX3_init_106 hl (k := 0) rfl (by rw [ex_24]; rfl) (by decide) rfl (fun ls hl => ?_)
  obtain rfl : x_24 = 4 := ex_24.trans (by decide)
  refine lv_goto (tgt := 92) hx hb dX3_init_109 (by decide) ?_
  refine lv_iload hx hb dX3_init_92 (lv_at hl 0 rfl) ?_
  refine lv_iconst (v := 4) hx hb dX3_init_94 (by decide) ?_
  refine lv_icmp_ge (tgt := 112) hx hb dX3_init_95 (by decide) (fun c_25 => ?_) (fun c_25 => absurd (by decide) c_25)
  subst hQ
  have hP9 := hP.sub (ws' := [(h0, .inr (3, [.int p0, .int p1, .int p2, .int p3, .int p4, .int p5, .ref q_1, .ref q_2, .ref q_3, .ref q_4, .ref q_10, .ref q_16]))]) [0] rfl
  have hD9 := hD.sub (ws' := [(h0, .inr (3, [.int p0, .int p1, .int p2, .int p3, .int p4, .int p5, .ref q_1, .ref q_2, .ref q_3, .ref q_4, .ref q_10, .ref q_16]))]) [0] (by decide) rfl
  exact W.vret hx hb hr (fun t ht hW => ⟨⟨[.int p0, .int p1, .int p2, .int p3, .int p4, .int p5, .ref q_1, .ref q_2, .ref q_3, .ref q_4, .ref q_10, .ref q_16], rfl, trivial, by rw [ht]; exact hP9, va_K.moved hW.alike hK, hD9⟩, hS.F ht⟩) hS.2.2 dX3_init_112
set_option maxHeartbeats 4000000 in
set_option maxRecDepth 100000 in
theorem c_X11_home (l : Launch) (D : va_G) (cy : Nat → ClassId) (h0 : Nat) (k0 : Nat) (k1 : Nat) (f2 : Int32) (k3 : Nat) (k4 : Nat) (k5 : Nat) (k6 : Nat) (k7 : Nat) (k8 : Nat) (k9 : Nat) (f10 : Int32) (k11 : Nat) (k12 : Nat) (k13 : Nat) (q : Nat → Option Nat) (p0 p1 p2 p3 p4 p5 : Int32) (sz : Nat) (e2 : f2 = 0) (hk : p5 = 0 ∨ p5 = 1) : Met l yX11_home (Cond.code yX11_home cX11_home 8 (some .int) :: gT) { frames := 3, cells := 15, slots := 215, locals := 71 } (va_Pc [.ref h0, .int p0, .int p1, .int p2, .int p3, .int p4, .int p5] (rN D cy [(h0, .inr (11, [.ref k0, .ref k1, .int f2, .ref k3, .ref k4, .ref k5, .ref k6, .ref k7, .ref k8, .ref k9, .int f10, .ref k11, .ref k12, .ref k13])), (k1, .inl (cy 4, 6, .inr (.inr (.inr (.inr q)))))] sz)) (va_Qi (fun (z : Int32) (u : Unit) => BR z ((0 ≤ p0.toInt ∧ p0.toInt ≤ 3) ∧ (1 ≤ p1.toInt ∧ p1.toInt ≤ 4) ∧ (0 ≤ p2.toInt ∧ p2.toInt ≤ 999999) ∧ (0 ≤ p3.toInt ∧ p3.toInt ≤ 999) ∧ p3.toInt ≤ p4.toInt ∧ p4.toInt ≤ 999) 0 (-1)) (fun _ _ => True) (va_A [(h0, .inr (11, [.ref k0, .ref k1, .int f2, .ref k3, .ref k4, .ref k5, .ref k6, .ref k7, .ref k8, .ref k9, .int f10, .ref k11, .ref k12, .ref k13])), (k1, .inl (cy 4, 6, .inr (.inr (.inr (.inr q)))))] sz)) 15 215 (va_A [(h0, .inr (11, [.ref k0, .ref k1, .int f2, .ref k3, .ref k4, .ref k5, .ref k6, .ref k7, .ref k8, .ref k9, .int f10, .ref k11, .ref k12, .ref k13])), (k1, .inl (cy 4, 6, .inr (.inr (.inr (.inr q)))))] sz) := by
  refine Met.ofQ (cc := cX11_home) (maxL := 8) (ret := (some .int)) (by decide) rfl ?_
  intro p e s m args below meth c s₁ B hml hv Q hQ
  obtain ⟨rfl, hnw, hsz, hP, hK, hD0⟩ := hv
  have hx := B.exec
  have hb := B.bytes
  have hr := B.returns
  have hlocks := B.notSynchronized
  have hT : ∀ w ∈ gT, w.before _ s = true := fun w h => atoms_spec (ws := (Cond.code yX11_home cX11_home 8 (some .int) :: gT)) B.pre w (List.mem_cons_of_mem _ h)
  have hown : s.vm.findClass RX11 = some m.cls := findClass_of_methodNamed B.named
  subst hsz
  have hD := hD0.self (sz := s.heap.size)
  generalize hAe : va_A [(h0, .inr (11, [.ref k0, .ref k1, .int f2, .ref k3, .ref k4, .ref k5, .ref k6, .ref k7, .ref k8, .ref k9, .int f10, .ref k11, .ref k12, .ref k13])), (k1, .inl (cy 4, 6, .inr (.inr (.inr (.inr q)))))] s.heap.size = A at hD hQ
  have hA : ∀ q : Nat, s.heap.size ≤ q → A q := fun q h => by rw [← hAe]; exact Or.inr h
  have hS : va_S A s.heap s.heap [] := va_S.rf
  have hl := lv_entry ([.ref h0, .int p0, .int p1, .int p2, .int p3, .int p4, .int p5]) (n := 8) (Nat.le_of_ble_eq_true rfl)
  rw [lg_entry_eq]
  generalize (lg_sl ([.ref h0, .int p0, .int p1, .int p2, .int p3, .int p4, .int p5]) ++ List.replicate (8 - (lg_sl ([.ref h0, .int p0, .int p1, .int p2, .int p3, .int p4, .int p5])).length) Slot.unset).toArray = ls at hl ⊢
  have hl : lv_has ls 8 [(0, .ref h0), (1, .int p0), (2, .int p1), (3, .int p2), (4, .int p3), (5, .int p4), (6, .int p5)] := hl
  refine lv_iload_n hx hb dX11_home_0 rfl (lv_at hl 1 rfl) ?_
  refine lv_iconst (v := 0) hx hb dX11_home_1 (by decide) ?_
  refine lv_iconst (v := 3) hx hb dX11_home_2 (by decide) ?_
  refine vp_callSi (W.runS (As := [.int p0, .int 0, .int 3]) (rest := []) ⟨hx, hb, hml, hown, hT⟩ (c_X11_within l p0 0 3) (va_cwS 3 hT (gS t_1 t_3 t_4 t_2) rfl rfl rfl (by decide +kernel) ⟨Nat.le_of_ble_eq_true rfl, Nat.le_of_ble_eq_true rfl⟩) preT rfl rfl hl.1 rfl (lv_room (Nat.le_of_ble_eq_true rfl)) dX11_home_3 ⟨Nat.le_of_ble_eq_true rfl, Nat.le_of_ble_eq_true rfl⟩) (fun r_1 hr_1 => ?_)
  have hr_1 : BR r_1 (0 ≤ p0.toInt ∧ p0.toInt ≤ 3) 1 0 := hr_1
  rcases hr_1 with ⟨rfl, h_2⟩ | ⟨rfl, h_2⟩
  · skip
    refine lv_if_eq (tgt := 62) hx hb dX11_home_6 (by decide) (fun c_3 => absurd c_3 (by decide)) (fun c_3 => ?_)
    refine lv_iload_n hx hb dX11_home_9 rfl (lv_at hl 2 rfl) ?_
    refine lv_iconst (v := 1) hx hb dX11_home_10 (by decide) ?_
    refine lv_iconst (v := 4) hx hb dX11_home_11 (by decide) ?_
    refine vp_callSi (W.runS (As := [.int p1, .int 1, .int 4]) (rest := []) ⟨hx, hb, hml, hown, hT⟩ (c_X11_within l p1 1 4) (va_cwS 3 hT (gS t_1 t_3 t_4 t_2) rfl rfl rfl (by decide +kernel) ⟨Nat.le_of_ble_eq_true rfl, Nat.le_of_ble_eq_true rfl⟩) preT rfl rfl hl.1 rfl (lv_room (Nat.le_of_ble_eq_true rfl)) dX11_home_12 ⟨Nat.le_of_ble_eq_true rfl, Nat.le_of_ble_eq_true rfl⟩) (fun r_4 hr_4 => ?_)
    have hr_4 : BR r_4 (1 ≤ p1.toInt ∧ p1.toInt ≤ 4) 1 0 := hr_4
    rcases hr_4 with ⟨rfl, h_5⟩ | ⟨rfl, h_5⟩
    · skip
      refine lv_if_eq (tgt := 62) hx hb dX11_home_15 (by decide) (fun c_6 => absurd c_6 (by decide)) (fun c_6 => ?_)
      refine lv_iload_n hx hb dX11_home_18 rfl (lv_at hl 3 rfl) ?_
      refine lv_iconst (v := 0) hx hb dX11_home_19 (by decide) ?_
      refine lv_ldc (v := 999999) hx hb hown (hT _ t_208) dX11_home_20 ?_
      refine vp_callSi (W.runS (As := [.int p2, .int 0, .int 999999]) (rest := []) ⟨hx, hb, hml, hown, hT⟩ (c_X11_within l p2 0 999999) (va_cwS 3 hT (gS t_1 t_3 t_4 t_2) rfl rfl rfl (by decide +kernel) ⟨Nat.le_of_ble_eq_true rfl, Nat.le_of_ble_eq_true rfl⟩) preT rfl rfl hl.1 rfl (lv_room (Nat.le_of_ble_eq_true rfl)) dX11_home_22 ⟨Nat.le_of_ble_eq_true rfl, Nat.le_of_ble_eq_true rfl⟩) (fun r_7 hr_7 => ?_)
      have hr_7 : BR r_7 (0 ≤ p2.toInt ∧ p2.toInt ≤ 999999) 1 0 := hr_7
      rcases hr_7 with ⟨rfl, h_8⟩ | ⟨rfl, h_8⟩
      · skip
        refine lv_if_eq (tgt := 62) hx hb dX11_home_25 (by decide) (fun c_9 => absurd c_9 (by decide)) (fun c_9 => ?_)
        refine lv_iload hx hb dX11_home_28 (lv_at hl 4 rfl) ?_
        refine lv_iconst (v := 0) hx hb dX11_home_30 (by decide) ?_
        refine lv_sipush (v := 999) hx hb dX11_home_31 (by decide) ?_
        refine vp_callSi (W.runS (As := [.int p3, .int 0, .int 999]) (rest := []) ⟨hx, hb, hml, hown, hT⟩ (c_X11_within l p3 0 999) (va_cwS 3 hT (gS t_1 t_3 t_4 t_2) rfl rfl rfl (by decide +kernel) ⟨Nat.le_of_ble_eq_true rfl, Nat.le_of_ble_eq_true rfl⟩) preT rfl rfl hl.1 rfl (lv_room (Nat.le_of_ble_eq_true rfl)) dX11_home_34 ⟨Nat.le_of_ble_eq_true rfl, Nat.le_of_ble_eq_true rfl⟩) (fun r_10 hr_10 => ?_)
        have hr_10 : BR r_10 (0 ≤ p3.toInt ∧ p3.toInt ≤ 999) 1 0 := hr_10
        rcases hr_10 with ⟨rfl, h_11⟩ | ⟨rfl, h_11⟩
        · skip
          refine lv_if_eq (tgt := 62) hx hb dX11_home_37 (by decide) (fun c_12 => absurd c_12 (by decide)) (fun c_12 => ?_)
          refine lv_iload hx hb dX11_home_40 (lv_at hl 5 rfl) ?_
          refine lv_iload hx hb dX11_home_42 (lv_at hl 4 rfl) ?_
          refine lv_sipush (v := 999) hx hb dX11_home_44 (by decide) ?_
          refine vp_callSi (W.runS (As := [.int p4, .int p3, .int 999]) (rest := []) ⟨hx, hb, hml, hown, hT⟩ (c_X11_within l p4 p3 999) (va_cwS 3 hT (gS t_1 t_3 t_4 t_2) rfl rfl rfl (by decide +kernel) ⟨Nat.le_of_ble_eq_true rfl, Nat.le_of_ble_eq_true rfl⟩) preT rfl rfl hl.1 rfl (lv_room (Nat.le_of_ble_eq_true rfl)) dX11_home_47 ⟨Nat.le_of_ble_eq_true rfl, Nat.le_of_ble_eq_true rfl⟩) (fun r_13 hr_13 => ?_)
          have hr_13 : BR r_13 (p3.toInt ≤ p4.toInt ∧ p4.toInt ≤ 999) 1 0 := hr_13
          rcases hr_13 with ⟨rfl, h_14⟩ | ⟨rfl, h_14⟩
          · skip
            refine lv_if_eq (tgt := 62) hx hb dX11_home_50 (by decide) (fun c_15 => absurd c_15 (by decide)) (fun c_15 => ?_)
            refine lv_aload_n hx hb dX11_home_53 rfl (lv_at hl 0 rfl) ?_
            refine va_get (D := D) (ci := 11) (v := .int 0) (C := RX11) (T := TX11) (N := 14) hx hb hT iX11 hown hK hP 0 rfl rfl 2 (by decide) (hT _ t_39) (fun _ h9 => h9) (congrArg (fun z => some (Value.int z)) e2) dX11_home_54 ?_
            refine lv_bipush (v := 6) hx hb dX11_home_57 (by decide) ?_
            refine lv_icmp_lt (tgt := 64) hx hb dX11_home_59 (by decide) (fun c_16 => ?_) (fun c_16 => absurd (by decide) c_16)
            refine va_new (ci := 3) (fs := [.int 0, .int 0, .int 0, .int 0, .int 0, .int 0, .null, .null, .null, .null, .null, .null]) (C := RX3) (T := TX3) (N := 12) hx hb hT iX3 tyX3 tyX3_ok hown (hT _ t_209) (hT _ t_210) (hT _ t_211) hK hP hD hS hA rfl (fun j hj => dfl3 j hj) (Nat.le_of_ble_eq_true rfl) (Nat.le_of_ble_eq_true rfl) dX11_home_64 (fun q_17 H hP hD hS => ?_)
            have hP : va_P D vwCl [(h0, .inr (11, [.ref k0, .ref k1, .int f2, .ref k3, .ref k4, .ref k5, .ref k6, .ref k7, .ref k8, .ref k9, .int f10, .ref k11, .ref k12, .ref k13])), (k1, .inl (cy 4, 6, .inr (.inr (.inr (.inr q))))), (q_17, .inr (3, [.int 0, .int 0, .int 0, .int 0, .int 0, .int 0, .null, .null, .null, .null, .null, .null]))] H := hP
            have hD : va_D A [(h0, .inr (11, [.ref k0, .ref k1, .int f2, .ref k3, .ref k4, .ref k5, .ref k6, .ref k7, .ref k8, .ref k9, .int f10, .ref k11, .ref k12, .ref k13])), (k1, .inl (cy 4, 6, .inr (.inr (.inr (.inr q))))), (q_17, .inr (3, [.int 0, .int 0, .int 0, .int 0, .int 0, .int 0, .null, .null, .null, .null, .null, .null]))] := hD
            refine W.widen (k := 1) (n := 12) (Nat.le_of_ble_eq_true rfl) (Nat.le_of_ble_eq_true rfl) ?_
            refine lv_dup hx hb dX11_home_67 rfl ?_
            refine lv_iload_n hx hb dX11_home_68 rfl (lv_at hl 1 rfl) ?_
            refine lv_iload_n hx hb dX11_home_69 rfl (lv_at hl 2 rfl) ?_
            refine lv_iload_n hx hb dX11_home_70 rfl (lv_at hl 3 rfl) ?_
            refine lv_iload hx hb dX11_home_71 (lv_at hl 4 rfl) ?_
            refine lv_iload hx hb dX11_home_73 (lv_at hl 5 rfl) ?_
            refine lv_iload hx hb dX11_home_75 (lv_at hl 6 rfl) ?_
            have hP_18 := hP.sub (ws' := [(q_17, .inr (3, [.int 0, .int 0, .int 0, .int 0, .int 0, .int 0, .null, .null, .null, .null, .null, .null]))]) [2] rfl
            have hD_20 := hD.sub (ws' := [(q_17, .inr (3, [.int 0, .int 0, .int 0, .int 0, .int 0, .int 0, .null, .null, .null, .null, .null, .null]))]) [2] (by decide) rfl
            have hF_19 := va_free (wc := [(q_17, .inr (3, [.int 0, .int 0, .int 0, .int 0, .int 0, .int 0, .null, .null, .null, .null, .null, .null]))]) hD hS hA [2] rfl
            refine va_callv (va_runI (As := [.int p0, .int p1, .int p2, .int p3, .int p4, .int p5]) (rest := [.ref q_17]) ⟨hx, hb, hml, hown, hT⟩ (c_X3_init l D cy q_17 p0 p1 p2 p3 p4 p5 _ hk) (cwI 6 hT (gI t_212) rfl rfl rfl (hT _ t_211) (hT _ t_213) (hT _ t_214) rfl (by decide +kernel) ⟨Nat.le_of_ble_eq_true rfl, Nat.le_of_ble_eq_true rfl⟩) (rN_s hnw hP_18 hK hD_20) rfl rfl hl.1 rfl (lv_room (Nat.le_of_ble_eq_true rfl)) dX11_home_77 ⟨Nat.le_of_ble_eq_true rfl, Nat.le_of_ble_eq_true rfl⟩) hS (fun q _ h => hF_19 q h) hF_19 (fun u_22 t H1 locs ht hvm hr_21 hB hz1 hk1 hS => ?_)
            obtain ⟨hP1, hK1, hD1⟩ := hB
            rw [ht] at hP1
            obtain ⟨hP, hD⟩ := va_join (wr := [(h0, .inr (11, [.ref k0, .ref k1, .int f2, .ref k3, .ref k4, .ref k5, .ref k6, .ref k7, .ref k8, .ref k9, .int f10, .ref k11, .ref k12, .ref k13])), (k1, .inl (cy 4, 6, .inr (.inr (.inr (.inr q)))))]) (w1 := [(q_17, .inr (3, u_22))]) hP hD [2] [0, 1] rfl rfl (by decide) (by decide) hk1 hF_19 hP1 hD1
            have hP : va_P D vwCl [(h0, .inr (11, [.ref k0, .ref k1, .int f2, .ref k3, .ref k4, .ref k5, .ref k6, .ref k7, .ref k8, .ref k9, .int f10, .ref k11, .ref k12, .ref k13])), (k1, .inl (cy 4, 6, .inr (.inr (.inr (.inr q))))), (q_17, .inr (3, u_22))] H1 := hP
            have hD : va_D A [(h0, .inr (11, [.ref k0, .ref k1, .int f2, .ref k3, .ref k4, .ref k5, .ref k6, .ref k7, .ref k8, .ref k9, .int f10, .ref k11, .ref k12, .ref k13])), (k1, .inl (cy 4, 6, .inr (.inr (.inr (.inr q))))), (q_17, .inr (3, u_22))] := hD
            refine W.widen (k := 15) (n := 215) (Nat.le_of_ble_eq_true rfl) (Nat.le_of_ble_eq_true rfl) ?_
            refine lv_astore (lv' := [(7, .ref q_17), (0, .ref h0), (1, .int p0), (2, .int p1), (3, .int p2), (4, .int p3), (5, .int p4), (6, .int p5)]) hx hb dX11_home_80 hl (by decide) rfl (fun ls hl => ?_)
            refine lv_aload_n hx hb dX11_home_82 rfl (lv_at hl 1 rfl) ?_
            refine va_get (D := D) (ci := 11) (v := .ref k1) (C := RX11) (T := TX11) (N := 14) hx hb hT iX11 hown hK hP 0 rfl rfl 1 (by decide) (hT _ t_215) (fun _ h9 => h9) rfl dX11_home_83 ?_
            refine lv_aload_n hx hb dX11_home_86 rfl (lv_at hl 1 rfl) ?_
            refine va_get (D := D) (ci := 11) (v := .int 0) (C := RX11) (T := TX11) (N := 14) hx hb hT iX11 hown hK hP 0 rfl rfl 2 (by decide) (hT _ t_39) (fun _ h9 => h9) (congrArg (fun z => some (Value.int z)) e2) dX11_home_87 ?_
            refine lv_aload hx hb dX11_home_90 (lv_at hl 0 rfl) ?_
            refine va_astq hx hb hK hP hD hS 1 4 2 3 rfl rfl rfl rfl (vp_inI (by decide) (by decide)) dX11_home_92 (fun H locs hP hD hS => ?_)
            have hP : va_P D vwCl [(h0, .inr (11, [.ref k0, .ref k1, .int f2, .ref k3, .ref k4, .ref k5, .ref k6, .ref k7, .ref k8, .ref k9, .int f10, .ref k11, .ref k12, .ref k13])), (k1, .inl (cy 4, 6, .inr (.inr (.inr (.inr (va_up q ((0 : Int32).toNatClampNeg) (some q_17))))))), (q_17, .inr (3, u_22))] H := hP
            have hD : va_D A [(h0, .inr (11, [.ref k0, .ref k1, .int f2, .ref k3, .ref k4, .ref k5, .ref k6, .ref k7, .ref k8, .ref k9, .int f10, .ref k11, .ref k12, .ref k13])), (k1, .inl (cy 4, 6, .inr (.inr (.inr (.inr (va_up q ((0 : Int32).toNatClampNeg) (some q_17))))))), (q_17, .inr (3, u_22))] := hD
            refine lv_aload_n hx hb dX11_home_93 rfl (lv_at hl 1 rfl) ?_
            refine lv_dup hx hb dX11_home_94 rfl ?_
            refine va_get (D := D) (ci := 11) (v := .int 0) (C := RX11) (T := TX11) (N := 14) hx hb hT iX11 hown hK hP 0 rfl rfl 2 (by decide) (hT _ t_39) (fun _ h9 => h9) (congrArg (fun z => some (Value.int z)) e2) dX11_home_95 ?_
            refine lv_iconst (v := 1) hx hb dX11_home_98 (by decide) ?_
            refine lv_iadd hx hb dX11_home_99 ?_
            refine lv_topi (fun v_23 ev_23 => ?_)
            obtain rfl : v_23 = 1 := ev_23.trans (by decide)
            refine va_put (D := D) (ci := 11) (v := .int 1) (ty := .int) (C := RX11) (T := TX11) (N := 14) hx hb hT iX11 tyX11 tyX11_ok nmX11 hown hK hP hD hS 0 rfl rfl 2 (by decide) (hT _ t_39) (fun _ h9 => h9) rfl (by decide +kernel) rfl rfl (Nat.le_of_ble_eq_true rfl) dX11_home_100 (fun H locs hP hD hS => ?_)
            have hP : va_P D vwCl [(h0, .inr (11, [.ref k0, .ref k1, .int 1, .ref k3, .ref k4, .ref k5, .ref k6, .ref k7, .ref k8, .ref k9, .int f10, .ref k11, .ref k12, .ref k13])), (k1, .inl (cy 4, 6, .inr (.inr (.inr (.inr (va_up q ((0 : Int32).toNatClampNeg) (some q_17))))))), (q_17, .inr (3, u_22))] H := hP
            have hD : va_D A [(h0, .inr (11, [.ref k0, .ref k1, .int 1, .ref k3, .ref k4, .ref k5, .ref k6, .ref k7, .ref k8, .ref k9, .int f10, .ref k11, .ref k12, .ref k13])), (k1, .inl (cy 4, 6, .inr (.inr (.inr (.inr (va_up q ((0 : Int32).toNatClampNeg) (some q_17))))))), (q_17, .inr (3, u_22))] := hD
            refine lv_aload_n hx hb dX11_home_103 rfl (lv_at hl 1 rfl) ?_
            refine va_get (D := D) (ci := 11) (v := .int 1) (C := RX11) (T := TX11) (N := 14) hx hb hT iX11 hown hK hP 0 rfl rfl 2 (by decide) (hT _ t_39) (fun _ h9 => h9) rfl dX11_home_104 ?_
            refine lv_iconst (v := 1) hx hb dX11_home_107 (by decide) ?_
            refine lv_isub hx hb dX11_home_108 ?_
            refine lv_topi (fun v_24 ev_24 => ?_)
            obtain rfl : v_24 = 0 := ev_24.trans (by decide)
            subst hQ
            exact W.iret (v := 0) hx hb hr (fun t ht hW => ⟨⟨_, (), rfl, Or.inl ⟨rfl, by omega⟩, trivial⟩, hS.F ht⟩) hS.2.2 dX11_home_109
          · skip
            refine lv_if_eq (tgt := 62) hx hb dX11_home_50 (by decide) (fun c_25 => ?_) (fun c_25 => absurd (by decide) c_25)
            refine lv_iconst (v := (-1)) hx hb dX11_home_62 (by decide) ?_
            subst hQ
            refine W.widen (k := 15) (n := 215) (Nat.le_of_ble_eq_true rfl) (Nat.le_of_ble_eq_true rfl) ?_
            exact W.iret (v := (-1)) hx hb hr (fun t ht hW => ⟨⟨_, (), rfl, Or.inr ⟨rfl, by omega⟩, trivial⟩, hS.F ht⟩) hS.2.2 dX11_home_63
        · skip
          refine lv_if_eq (tgt := 62) hx hb dX11_home_37 (by decide) (fun c_26 => ?_) (fun c_26 => absurd (by decide) c_26)
          refine lv_iconst (v := (-1)) hx hb dX11_home_62 (by decide) ?_
          subst hQ
          refine W.widen (k := 15) (n := 215) (Nat.le_of_ble_eq_true rfl) (Nat.le_of_ble_eq_true rfl) ?_
          exact W.iret (v := (-1)) hx hb hr (fun t ht hW => ⟨⟨_, (), rfl, Or.inr ⟨rfl, by omega⟩, trivial⟩, hS.F ht⟩) hS.2.2 dX11_home_63
      · skip
        refine lv_if_eq (tgt := 62) hx hb dX11_home_25 (by decide) (fun c_27 => ?_) (fun c_27 => absurd (by decide) c_27)
        refine lv_iconst (v := (-1)) hx hb dX11_home_62 (by decide) ?_
        subst hQ
        refine W.widen (k := 15) (n := 215) (Nat.le_of_ble_eq_true rfl) (Nat.le_of_ble_eq_true rfl) ?_
        exact W.iret (v := (-1)) hx hb hr (fun t ht hW => ⟨⟨_, (), rfl, Or.inr ⟨rfl, by omega⟩, trivial⟩, hS.F ht⟩) hS.2.2 dX11_home_63
    · skip
      refine lv_if_eq (tgt := 62) hx hb dX11_home_15 (by decide) (fun c_28 => ?_) (fun c_28 => absurd (by decide) c_28)
      refine lv_iconst (v := (-1)) hx hb dX11_home_62 (by decide) ?_
      subst hQ
      refine W.widen (k := 15) (n := 215) (Nat.le_of_ble_eq_true rfl) (Nat.le_of_ble_eq_true rfl) ?_
      exact W.iret (v := (-1)) hx hb hr (fun t ht hW => ⟨⟨_, (), rfl, Or.inr ⟨rfl, by omega⟩, trivial⟩, hS.F ht⟩) hS.2.2 dX11_home_63
  · skip
    refine lv_if_eq (tgt := 62) hx hb dX11_home_6 (by decide) (fun c_29 => ?_) (fun c_29 => absurd (by decide) c_29)
    refine lv_iconst (v := (-1)) hx hb dX11_home_62 (by decide) ?_
    subst hQ
    refine W.widen (k := 15) (n := 215) (Nat.le_of_ble_eq_true rfl) (Nat.le_of_ble_eq_true rfl) ?_
    exact W.iret (v := (-1)) hx hb hr (fun t ht hW => ⟨⟨_, (), rfl, Or.inr ⟨rfl, by omega⟩, trivial⟩, hS.F ht⟩) hS.2.2 dX11_home_63
end
