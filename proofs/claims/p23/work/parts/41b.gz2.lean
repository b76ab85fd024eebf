set_option maxRecDepth 100000 in
theorem t_1013 : Cond.code yX11_answer cX11_answer 4 (some .boolean) ∈ gT := tm (tb4 (List.mem_of_getElem? (i := 12) (by rfl))) (by decide +kernel)
set_option maxRecDepth 100000 in
theorem t_1014 : Cond.methodLink RL 77 yX11_answer ∈ gT := tm (tb4 (List.mem_of_getElem? (i := 9) (by rfl))) (by decide +kernel)
set_option maxRecDepth 100000 in
theorem t_1015 : Cond.instanceMethod yX11_answer ∈ gT := tm (tb4 (List.mem_of_getElem? (i := 10) (by rfl))) (by decide +kernel)
set_option maxRecDepth 100000 in
theorem t_1016 : Cond.selects RX11 yX11_answer yX11_answer ∈ gT := tm (tb4 (List.mem_of_getElem? (i := 11) (by rfl))) (by decide +kernel)
set_option maxRecDepth 100000 in
theorem t_1017 : Cond.code yX12_answer cX12_answer 4 (some .boolean) ∈ gT := tm (tb6 (List.mem_of_getElem? (i := 234) (by rfl))) (by decide +kernel)
set_option maxRecDepth 100000 in
theorem t_1018 : Cond.methodLink RL 81 yX12_answer ∈ gT := tm (tb6 (List.mem_of_getElem? (i := 231) (by rfl))) (by decide +kernel)
set_option maxRecDepth 100000 in
theorem t_1019 : Cond.instanceMethod yX12_answer ∈ gT := tm (tb6 (List.mem_of_getElem? (i := 232) (by rfl))) (by decide +kernel)
set_option maxRecDepth 100000 in
theorem t_1020 : Cond.selects RX12 yX12_answer yX12_answer ∈ gT := tm (tb6 (List.mem_of_getElem? (i := 233) (by rfl))) (by decide +kernel)
set_option maxRecDepth 100000 in
theorem t_1021 : Cond.code yX12_award cX12_award 5 (some .int) ∈ gT := tm (tb6 (List.mem_of_getElem? (i := 238) (by rfl))) (by decide +kernel)
set_option maxRecDepth 100000 in
theorem t_1022 : Cond.methodLink RL 85 yX12_award ∈ gT := tm (tb6 (List.mem_of_getElem? (i := 235) (by rfl))) (by decide +kernel)
set_option maxRecDepth 100000 in
theorem t_1023 : Cond.instanceMethod yX12_award ∈ gT := tm (tb6 (List.mem_of_getElem? (i := 236) (by rfl))) (by decide +kernel)
set_option maxRecDepth 100000 in
theorem t_1024 : Cond.selects RX12 yX12_award yX12_award ∈ gT := tm (tb6 (List.mem_of_getElem? (i := 237) (by rfl))) (by decide +kernel)
set_option maxRecDepth 100000 in
theorem t_1025 : Cond.methodLink RL 82 yX11_award ∈ gT := tm (tb4 (List.mem_of_getElem? (i := 13) (by rfl))) (by decide +kernel)
set_option maxRecDepth 100000 in
theorem t_1026 : Cond.code yX12_judged cX12_judged 4 (some .int) ∈ gT := tm (tb7 (List.mem_of_getElem? (i := 26) (by rfl))) (by decide +kernel)
set_option maxRecDepth 100000 in
theorem t_1027 : Cond.methodLink RL 89 yX12_judged ∈ gT := tm (tb7 (List.mem_of_getElem? (i := 23) (by rfl))) (by decide +kernel)
set_option maxRecDepth 100000 in
theorem t_1028 : Cond.instanceMethod yX12_judged ∈ gT := tm (tb7 (List.mem_of_getElem? (i := 24) (by rfl))) (by decide +kernel)
set_option maxRecDepth 100000 in
theorem t_1029 : Cond.selects RX12 yX12_judged yX12_judged ∈ gT := tm (tb7 (List.mem_of_getElem? (i := 25) (by rfl))) (by decide +kernel)
set_option maxRecDepth 100000 in
theorem t_1030 : Cond.code yX11_judged cX11_judged 5 (some .int) ∈ gT := tm (tb4 (List.mem_of_getElem? (i := 36) (by rfl))) (by decide +kernel)
set_option maxRecDepth 100000 in
theorem t_1031 : Cond.methodLink RL 86 yX11_judged ∈ gT := tm (tb4 (List.mem_of_getElem? (i := 33) (by rfl))) (by decide +kernel)
set_option maxRecDepth 100000 in
theorem t_1032 : Cond.instanceMethod yX11_judged ∈ gT := tm (tb4 (List.mem_of_getElem? (i := 34) (by rfl))) (by decide +kernel)
set_option maxRecDepth 100000 in
theorem t_1033 : Cond.selects RX11 yX11_judged yX11_judged ∈ gT := tm (tb4 (List.mem_of_getElem? (i := 35) (by rfl))) (by decide +kernel)
set_option maxRecDepth 100000 in
theorem t_1034 : Cond.code yX12_offer cX12_offer 4 (some .int) ∈ gT := tm (tb7 (List.mem_of_getElem? (i := 51) (by rfl))) (by decide +kernel)
set_option maxRecDepth 100000 in
theorem t_1035 : Cond.methodLink RL 94 yX12_offer ∈ gT := tm (tb7 (List.mem_of_getElem? (i := 48) (by rfl))) (by decide +kernel)
set_option maxRecDepth 100000 in
theorem t_1036 : Cond.instanceMethod yX12_offer ∈ gT := tm (tb7 (List.mem_of_getElem? (i := 49) (by rfl))) (by decide +kernel)
set_option maxRecDepth 100000 in
theorem t_1037 : Cond.selects RX12 yX12_offer yX12_offer ∈ gT := tm (tb7 (List.mem_of_getElem? (i := 50) (by rfl))) (by decide +kernel)
set_option maxRecDepth 100000 in
theorem t_1038 : Cond.code yX11_offer cX11_offer 4 (some .int) ∈ gT := tm (tb4 (List.mem_of_getElem? (i := 70) (by rfl))) (by decide +kernel)
set_option maxRecDepth 100000 in
theorem t_1039 : Cond.methodLink RL 90 yX11_offer ∈ gT := tm (tb4 (List.mem_of_getElem? (i := 67) (by rfl))) (by decide +kernel)
set_option maxRecDepth 100000 in
theorem t_1040 : Cond.instanceMethod yX11_offer ∈ gT := tm (tb4 (List.mem_of_getElem? (i := 68) (by rfl))) (by decide +kernel)
set_option maxRecDepth 100000 in
theorem t_1041 : Cond.selects RX11 yX11_offer yX11_offer ∈ gT := tm (tb4 (List.mem_of_getElem? (i := 69) (by rfl))) (by decide +kernel)
set_option maxRecDepth 100000 in
theorem t_1042 : Cond.code yX12_met cX12_met 2 (some .int) ∈ gT := tm (tb7 (List.mem_of_getElem? (i := 55) (by rfl))) (by decide +kernel)
set_option maxRecDepth 100000 in
theorem t_1043 : Cond.methodLink RL 98 yX12_met ∈ gT := tm (tb7 (List.mem_of_getElem? (i := 52) (by rfl))) (by decide +kernel)
set_option maxRecDepth 100000 in
theorem t_1044 : Cond.instanceMethod yX12_met ∈ gT := tm (tb7 (List.mem_of_getElem? (i := 53) (by rfl))) (by decide +kernel)
set_option maxRecDepth 100000 in
theorem t_1045 : Cond.selects RX12 yX12_met yX12_met ∈ gT := tm (tb7 (List.mem_of_getElem? (i := 54) (by rfl))) (by decide +kernel)
set_option maxRecDepth 100000 in
theorem t_1046 : Cond.code yX11_met cX11_met 4 (some .int) ∈ gT := tm (tb4 (List.mem_of_getElem? (i := 78) (by rfl))) (by decide +kernel)
set_option maxRecDepth 100000 in
theorem t_1047 : Cond.methodLink RL 95 yX11_met ∈ gT := tm (tb4 (List.mem_of_getElem? (i := 75) (by rfl))) (by decide +kernel)
set_option maxRecDepth 100000 in
theorem t_1048 : Cond.instanceMethod yX11_met ∈ gT := tm (tb4 (List.mem_of_getElem? (i := 76) (by rfl))) (by decide +kernel)
set_option maxRecDepth 100000 in
theorem t_1049 : Cond.selects RX11 yX11_met yX11_met ∈ gT := tm (tb4 (List.mem_of_getElem? (i := 77) (by rfl))) (by decide +kernel)
set_option maxRecDepth 100000 in
theorem t_1050 : Cond.code yX11_kin cX11_kin 5 (some .boolean) ∈ gT := tm (tb4 (List.mem_of_getElem? (i := 86) (by rfl))) (by decide +kernel)
set_option maxRecDepth 100000 in
theorem t_1051 : Cond.methodLink RL 99 yX11_kin ∈ gT := tm (tb4 (List.mem_of_getElem? (i := 83) (by rfl))) (by decide +kernel)
set_option maxRecDepth 100000 in
theorem t_1052 : Cond.instanceMethod yX11_kin ∈ gT := tm (tb4 (List.mem_of_getElem? (i := 84) (by rfl))) (by decide +kernel)
set_option maxRecDepth 100000 in
theorem t_1053 : Cond.selects RX11 yX11_kin yX11_kin ∈ gT := tm (tb4 (List.mem_of_getElem? (i := 85) (by rfl))) (by decide +kernel)
set_option maxRecDepth 100000 in
theorem t_1054 : Cond.code yX12_kin cX12_kin 4 (some .boolean) ∈ gT := tm (tb7 (List.mem_of_getElem? (i := 59) (by rfl))) (by decide +kernel)
set_option maxRecDepth 100000 in
theorem t_1055 : Cond.methodLink RL 102 yX12_kin ∈ gT := tm (tb7 (List.mem_of_getElem? (i := 56) (by rfl))) (by decide +kernel)
set_option maxRecDepth 100000 in
theorem t_1056 : Cond.instanceMethod yX12_kin ∈ gT := tm (tb7 (List.mem_of_getElem? (i := 57) (by rfl))) (by decide +kernel)
set_option maxRecDepth 100000 in
theorem t_1057 : Cond.selects RX12 yX12_kin yX12_kin ∈ gT := tm (tb7 (List.mem_of_getElem? (i := 58) (by rfl))) (by decide +kernel)
set_option maxRecDepth 100000 in
theorem t_1058 : Cond.code yX11_seed cX11_seed 2 (some .boolean) ∈ gT := tm (tb4 (List.mem_of_getElem? (i := 90) (by rfl))) (by decide +kernel)
set_option maxRecDepth 100000 in
theorem t_1059 : Cond.methodLink RL 103 yX11_seed ∈ gT := tm (tb4 (List.mem_of_getElem? (i := 87) (by rfl))) (by decide +kernel)
set_option maxRecDepth 100000 in
theorem t_1060 : Cond.instanceMethod yX11_seed ∈ gT := tm (tb4 (List.mem_of_getElem? (i := 88) (by rfl))) (by decide +kernel)
set_option maxRecDepth 100000 in
theorem t_1061 : Cond.selects RX11 yX11_seed yX11_seed ∈ gT := tm (tb4 (List.mem_of_getElem? (i := 89) (by rfl))) (by decide +kernel)
set_option maxRecDepth 100000 in
theorem t_1062 : Cond.code yX12_seed cX12_seed 2 (some .boolean) ∈ gT := tm (tb7 (List.mem_of_getElem? (i := 66) (by rfl))) (by decide +kernel)
set_option maxRecDepth 100000 in
theorem t_1063 : Cond.methodLink RL 107 yX12_seed ∈ gT := tm (tb7 (List.mem_of_getElem? (i := 63) (by rfl))) (by decide +kernel)
set_option maxRecDepth 100000 in
theorem t_1064 : Cond.instanceMethod yX12_seed ∈ gT := tm (tb7 (List.mem_of_getElem? (i := 64) (by rfl))) (by decide +kernel)
set_option maxRecDepth 100000 in
theorem t_1065 : Cond.selects RX12 yX12_seed yX12_seed ∈ gT := tm (tb7 (List.mem_of_getElem? (i := 65) (by rfl))) (by decide +kernel)
set_option maxRecDepth 100000 in
theorem t_1066 : Cond.code yX11_draw cX11_draw 5 (some .int) ∈ gT := tm (tb4 (List.mem_of_getElem? (i := 95) (by rfl))) (by decide +kernel)
set_option maxRecDepth 100000 in
theorem t_1067 : Cond.methodLink RL 108 yX11_draw ∈ gT := tm (tb4 (List.mem_of_getElem? (i := 92) (by rfl))) (by decide +kernel)
set_option maxRecDepth 100000 in
theorem t_1068 : Cond.instanceMethod yX11_draw ∈ gT := tm (tb4 (List.mem_of_getElem? (i := 93) (by rfl))) (by decide +kernel)
set_option maxRecDepth 100000 in
theorem t_1069 : Cond.selects RX11 yX11_draw yX11_draw ∈ gT := tm (tb4 (List.mem_of_getElem? (i := 94) (by rfl))) (by decide +kernel)
set_option maxRecDepth 100000 in
theorem t_1070 : Cond.code yX12_draw cX12_draw 4 (some .int) ∈ gT := tm (tb7 (List.mem_of_getElem? (i := 71) (by rfl))) (by decide +kernel)
set_option maxRecDepth 100000 in
theorem t_1071 : Cond.methodLink RL 111 yX12_draw ∈ gT := tm (tb7 (List.mem_of_getElem? (i := 68) (by rfl))) (by decide +kernel)
set_option maxRecDepth 100000 in
theorem t_1072 : Cond.instanceMethod yX12_draw ∈ gT := tm (tb7 (List.mem_of_getElem? (i := 69) (by rfl))) (by decide +kernel)
set_option maxRecDepth 100000 in
theorem t_1073 : Cond.selects RX12 yX12_draw yX12_draw ∈ gT := tm (tb7 (List.mem_of_getElem? (i := 70) (by rfl))) (by decide +kernel)
set_option maxRecDepth 100000 in
theorem t_1074 : Cond.code yX11_twice cX11_twice 5 (some .int) ∈ gT := tm (tb4 (List.mem_of_getElem? (i := 104) (by rfl))) (by decide +kernel)
set_option maxRecDepth 100000 in
theorem t_1075 : Cond.methodLink RL 112 yX11_twice ∈ gT := tm (tb4 (List.mem_of_getElem? (i := 101) (by rfl))) (by decide +kernel)
set_option maxRecDepth 100000 in
theorem t_1076 : Cond.instanceMethod yX11_twice ∈ gT := tm (tb4 (List.mem_of_getElem? (i := 102) (by rfl))) (by decide +kernel)
set_option maxRecDepth 100000 in
theorem t_1077 : Cond.selects RX11 yX11_twice yX11_twice ∈ gT := tm (tb4 (List.mem_of_getElem? (i := 103) (by rfl))) (by decide +kernel)
set_option maxRecDepth 100000 in
theorem t_1078 : Cond.code yX12_twice cX12_twice 5 (some .int) ∈ gT := tm (tb7 (List.mem_of_getElem? (i := 76) (by rfl))) (by decide +kernel)
set_option maxRecDepth 100000 in
theorem t_1079 : Cond.methodLink RL 115 yX12_twice ∈ gT := tm (tb7 (List.mem_of_getElem? (i := 73) (by rfl))) (by decide +kernel)
set_option maxRecDepth 100000 in
theorem t_1080 : Cond.instanceMethod yX12_twice ∈ gT := tm (tb7 (List.mem_of_getElem? (i := 74) (by rfl))) (by decide +kernel)
set_option maxRecDepth 100000 in
theorem t_1081 : Cond.selects RX12 yX12_twice yX12_twice ∈ gT := tm (tb7 (List.mem_of_getElem? (i := 75) (by rfl))) (by decide +kernel)
set_option maxRecDepth 100000 in
theorem t_1082 : Cond.code yX11_spread cX11_spread 6 (some .int) ∈ gT := tm (tb4 (List.mem_of_getElem? (i := 115) (by rfl))) (by decide +kernel)
set_option maxRecDepth 100000 in
theorem t_1083 : Cond.methodLink RL 116 yX11_spread ∈ gT := tm (tb4 (List.mem_of_getElem? (i := 112) (by rfl))) (by decide +kernel)
set_option maxRecDepth 100000 in
theorem t_1084 : Cond.instanceMethod yX11_spread ∈ gT := tm (tb4 (List.mem_of_getElem? (i := 113) (by rfl))) (by decide +kernel)
set_option maxRecDepth 100000 in
theorem t_1085 : Cond.selects RX11 yX11_spread yX11_spread ∈ gT := tm (tb4 (List.mem_of_getElem? (i := 114) (by rfl))) (by decide +kernel)
set_option maxRecDepth 100000 in
theorem t_1086 : Cond.code yX12_spread cX12_spread 8 (some .int) ∈ gT := tm (tb7 (List.mem_of_getElem? (i := 80) (by rfl))) (by decide +kernel)
set_option maxRecDepth 100000 in
theorem t_1087 : Cond.methodLink RL 119 yX12_spread ∈ gT := tm (tb7 (List.mem_of_getElem? (i := 77) (by rfl))) (by decide +kernel)
set_option maxRecDepth 100000 in
theorem t_1088 : Cond.instanceMethod yX12_spread ∈ gT := tm (tb7 (List.mem_of_getElem? (i := 78) (by rfl))) (by decide +kernel)
set_option maxRecDepth 100000 in
theorem t_1089 : Cond.selects RX12 yX12_spread yX12_spread ∈ gT := tm (tb7 (List.mem_of_getElem? (i := 79) (by rfl))) (by decide +kernel)
set_option maxRecDepth 100000 in
theorem t_1090 : Cond.code yX11_fact cX11_fact 4 (some .int) ∈ gT := tm (tb4 (List.mem_of_getElem? (i := 135) (by rfl))) (by decide +kernel)
set_option maxRecDepth 100000 in
theorem t_1091 : Cond.methodLink RL 124 yX11_fact ∈ gT := tm (tb4 (List.mem_of_getElem? (i := 132) (by rfl))) (by decide +kernel)
set_option maxRecDepth 100000 in
theorem t_1092 : Cond.instanceMethod yX11_fact ∈ gT := tm (tb4 (List.mem_of_getElem? (i := 133) (by rfl))) (by decide +kernel)
set_option maxRecDepth 100000 in
theorem t_1093 : Cond.selects RX11 yX11_fact yX11_fact ∈ gT := tm (tb4 (List.mem_of_getElem? (i := 134) (by rfl))) (by decide +kernel)
set_option maxRecDepth 100000 in
theorem t_1094 : Cond.code yX12_fact cX12_fact 4 (some .int) ∈ gT := tm (tb7 (List.mem_of_getElem? (i := 103) (by rfl))) (by decide +kernel)
set_option maxRecDepth 100000 in
theorem t_1095 : Cond.methodLink RL 127 yX12_fact ∈ gT := tm (tb7 (List.mem_of_getElem? (i := 100) (by rfl))) (by decide +kernel)
set_option maxRecDepth 100000 in
theorem t_1096 : Cond.instanceMethod yX12_fact ∈ gT := tm (tb7 (List.mem_of_getElem? (i := 101) (by rfl))) (by decide +kernel)
set_option maxRecDepth 100000 in
theorem t_1097 : Cond.selects RX12 yX12_fact yX12_fact ∈ gT := tm (tb7 (List.mem_of_getElem? (i := 102) (by rfl))) (by decide +kernel)
set_option maxRecDepth 100000 in
theorem t_1098 : Cond.code yX11_dated cX11_dated 4 (some .int) ∈ gT := tm (tb4 (List.mem_of_getElem? (i := 152) (by rfl))) (by decide +kernel)
set_option maxRecDepth 100000 in
theorem t_1099 : Cond.methodLink RL 128 yX11_dated ∈ gT := tm (tb4 (List.mem_of_getElem? (i := 149) (by rfl))) (by decide +kernel)
set_option maxRecDepth 100000 in
theorem t_1100 : Cond.instanceMethod yX11_dated ∈ gT := tm (tb4 (List.mem_of_getElem? (i := 150) (by rfl))) (by decide +kernel)
set_option maxRecDepth 100000 in
theorem t_1101 : Cond.selects RX11 yX11_dated yX11_dated ∈ gT := tm (tb4 (List.mem_of_getElem? (i := 151) (by rfl))) (by decide +kernel)
set_option maxRecDepth 100000 in
theorem t_1102 : Cond.code yX12_dated cX12_dated 4 (some .int) ∈ gT := tm (tb7 (List.mem_of_getElem? (i := 107) (by rfl))) (by decide +kernel)
set_option maxRecDepth 100000 in
theorem t_1103 : Cond.methodLink RL 131 yX12_dated ∈ gT := tm (tb7 (List.mem_of_getElem? (i := 104) (by rfl))) (by decide +kernel)
set_option maxRecDepth 100000 in
theorem t_1104 : Cond.instanceMethod yX12_dated ∈ gT := tm (tb7 (List.mem_of_getElem? (i := 105) (by rfl))) (by decide +kernel)
set_option maxRecDepth 100000 in
theorem t_1105 : Cond.selects RX12 yX12_dated yX12_dated ∈ gT := tm (tb7 (List.mem_of_getElem? (i := 106) (by rfl))) (by decide +kernel)
set_option maxRecDepth 100000 in
theorem t_1106 : Cond.code yX11_wrong cX11_wrong 2 (some .int) ∈ gT := tm (tb4 (List.mem_of_getElem? (i := 158) (by rfl))) (by decide +kernel)
set_option maxRecDepth 100000 in
theorem t_1107 : Cond.methodLink RL 132 yX11_wrong ∈ gT := tm (tb4 (List.mem_of_getElem? (i := 155) (by rfl))) (by decide +kernel)
set_option maxRecDepth 100000 in
theorem t_1108 : Cond.instanceMethod yX11_wrong ∈ gT := tm (tb4 (List.mem_of_getElem? (i := 156) (by rfl))) (by decide +kernel)
set_option maxRecDepth 100000 in
theorem t_1109 : Cond.selects RX11 yX11_wrong yX11_wrong ∈ gT := tm (tb4 (List.mem_of_getElem? (i := 157) (by rfl))) (by decide +kernel)
set_option maxRecDepth 100000 in
theorem t_1110 : Cond.code yX12_wrong cX12_wrong 4 (some .int) ∈ gT := tm (tb7 (List.mem_of_getElem? (i := 124) (by rfl))) (by decide +kernel)
set_option maxRecDepth 100000 in
theorem t_1111 : Cond.methodLink RL 135 yX12_wrong ∈ gT := tm (tb7 (List.mem_of_getElem? (i := 121) (by rfl))) (by decide +kernel)
set_option maxRecDepth 100000 in
theorem t_1112 : Cond.instanceMethod yX12_wrong ∈ gT := tm (tb7 (List.mem_of_getElem? (i := 122) (by rfl))) (by decide +kernel)
set_option maxRecDepth 100000 in
theorem t_1113 : Cond.selects RX12 yX12_wrong yX12_wrong ∈ gT := tm (tb7 (List.mem_of_getElem? (i := 123) (by rfl))) (by decide +kernel)
set_option maxRecDepth 100000 in
theorem t_1114 : Cond.code yX11_keep cX11_keep 1 (some .int) ∈ gT := tm (tb4 (List.mem_of_getElem? (i := 166) (by rfl))) (by decide +kernel)
set_option maxRecDepth 100000 in
theorem t_1115 : Cond.methodLink RL 140 yX11_keep ∈ gT := tm (tb4 (List.mem_of_getElem? (i := 163) (by rfl))) (by decide +kernel)
set_option maxRecDepth 100000 in
theorem t_1116 : Cond.instanceMethod yX11_keep ∈ gT := tm (tb4 (List.mem_of_getElem? (i := 164) (by rfl))) (by decide +kernel)
set_option maxRecDepth 100000 in
theorem t_1117 : Cond.selects RX11 yX11_keep yX11_keep ∈ gT := tm (tb4 (List.mem_of_getElem? (i := 165) (by rfl))) (by decide +kernel)
set_option maxRecDepth 100000 in
theorem t_1118 : Cond.code yX12_keep cX12_keep 2 (some .int) ∈ gT := tm (tb7 (List.mem_of_getElem? (i := 132) (by rfl))) (by decide +kernel)
set_option maxRecDepth 100000 in
theorem t_1119 : Cond.methodLink RL 144 yX12_keep ∈ gT := tm (tb7 (List.mem_of_getElem? (i := 129) (by rfl))) (by decide +kernel)
set_option maxRecDepth 100000 in
theorem t_1120 : Cond.instanceMethod yX12_keep ∈ gT := tm (tb7 (List.mem_of_getElem? (i := 130) (by rfl))) (by decide +kernel)
set_option maxRecDepth 100000 in
theorem t_1121 : Cond.selects RX12 yX12_keep yX12_keep ∈ gT := tm (tb7 (List.mem_of_getElem? (i := 131) (by rfl))) (by decide +kernel)
set_option maxRecDepth 100000 in
theorem t_1122 : Cond.code yX11_undo cX11_undo 1 (some .boolean) ∈ gT := tm (tb4 (List.mem_of_getElem? (i := 174) (by rfl))) (by decide +kernel)
set_option maxRecDepth 100000 in
theorem t_1123 : Cond.methodLink RL 145 yX11_undo ∈ gT := tm (tb4 (List.mem_of_getElem? (i := 171) (by rfl))) (by decide +kernel)
set_option maxRecDepth 100000 in
theorem t_1124 : Cond.instanceMethod yX11_undo ∈ gT := tm (tb4 (List.mem_of_getElem? (i := 172) (by rfl))) (by decide +kernel)
set_option maxRecDepth 100000 in
theorem t_1125 : Cond.selects RX11 yX11_undo yX11_undo ∈ gT := tm (tb4 (List.mem_of_getElem? (i := 173) (by rfl))) (by decide +kernel)
set_option maxRecDepth 100000 in
theorem t_1126 : Cond.code yX12_undo cX12_undo 2 (some .boolean) ∈ gT := tm (tb7 (List.mem_of_getElem? (i := 139) (by rfl))) (by decide +kernel)
set_option maxRecDepth 100000 in
theorem t_1127 : Cond.methodLink RL 149 yX12_undo ∈ gT := tm (tb7 (List.mem_of_getElem? (i := 136) (by rfl))) (by decide +kernel)
set_option maxRecDepth 100000 in
theorem t_1128 : Cond.instanceMethod yX12_undo ∈ gT := tm (tb7 (List.mem_of_getElem? (i := 137) (by rfl))) (by decide +kernel)
set_option maxRecDepth 100000 in
theorem t_1129 : Cond.selects RX12 yX12_undo yX12_undo ∈ gT := tm (tb7 (List.mem_of_getElem? (i := 138) (by rfl))) (by decide +kernel)
set_option maxRecDepth 100000 in
theorem t_1130 : Cond.code yX12_check cX12_check 5 (some .int) ∈ gT := tm (tb7 (List.mem_of_getElem? (i := 143) (by rfl))) (by decide +kernel)
set_option maxRecDepth 100000 in
theorem t_1131 : Cond.methodLink RL 153 yX12_check ∈ gT := tm (tb7 (List.mem_of_getElem? (i := 140) (by rfl))) (by decide +kernel)
set_option maxRecDepth 100000 in
theorem t_1132 : Cond.instanceMethod yX12_check ∈ gT := tm (tb7 (List.mem_of_getElem? (i := 141) (by rfl))) (by decide +kernel)
set_option maxRecDepth 100000 in
theorem t_1133 : Cond.selects RX12 yX12_check yX12_check ∈ gT := tm (tb7 (List.mem_of_getElem? (i := 142) (by rfl))) (by decide +kernel)
set_option maxRecDepth 100000 in
theorem t_1134 : Cond.code yX11_check cX11_check 6 (some .int) ∈ gT := tm (tb4 (List.mem_of_getElem? (i := 178) (by rfl))) (by decide +kernel)
set_option maxRecDepth 100000 in
theorem t_1135 : Cond.methodLink RL 150 yX11_check ∈ gT := tm (tb4 (List.mem_of_getElem? (i := 175) (by rfl))) (by decide +kernel)
set_option maxRecDepth 100000 in
theorem t_1136 : Cond.instanceMethod yX11_check ∈ gT := tm (tb4 (List.mem_of_getElem? (i := 176) (by rfl))) (by decide +kernel)
set_option maxRecDepth 100000 in
theorem t_1137 : Cond.selects RX11 yX11_check yX11_check ∈ gT := tm (tb4 (List.mem_of_getElem? (i := 177) (by rfl))) (by decide +kernel)
def dl_570 : List (Nat × (Instr × Nat)) := [(850, (.aload_n 1, 1)), (851, (.aload_n 0, 1)), (852, (.iload_n 3, 1)), (853, (.iconst 1, 1)), (854, (.iadd, 1)), (855, (.iaload, 1)), (856, (.aload_n 0, 1)), (857, (.iload_n 3, 1)), (858, (.iconst 2, 1)), (859, (.iadd, 1)), (860, (.iaload, 1)), (861, (.aload_n 0, 1)), (862, (.iload_n 3, 1)), (863, (.iconst 3, 1)), (864, (.iadd, 1)), (865, (.iaload, 1)), (866, (.ifCond .eq 7, 3)), (869, (.iconst 1, 1)), (870, (.goto 4, 3)), (873, (.iconst 0, 1))]
theorem dh_570 : dchk cL_law dl_570 = true := by decide +kernel
theorem dL_law_850 : decode cL_law 850 = .ok (.aload_n 1, 1) := dget dh_570 (k := 0) rfl
theorem dL_law_851 : decode cL_law 851 = .ok (.aload_n 0, 1) := dget dh_570 (k := 1) rfl
theorem dL_law_852 : decode cL_law 852 = .ok (.iload_n 3, 1) := dget dh_570 (k := 2) rfl
theorem dL_law_853 : decode cL_law 853 = .ok (.iconst 1, 1) := dget dh_570 (k := 3) rfl
theorem dL_law_854 : decode cL_law 854 = .ok (.iadd, 1) := dget dh_570 (k := 4) rfl
theorem dL_law_855 : decode cL_law 855 = .ok (.iaload, 1) := dget dh_570 (k := 5) rfl
theorem dL_law_856 : decode cL_law 856 = .ok (.aload_n 0, 1) := dget dh_570 (k := 6) rfl
theorem dL_law_857 : decode cL_law 857 = .ok (.iload_n 3, 1) := dget dh_570 (k := 7) rfl
theorem dL_law_858 : decode cL_law 858 = .ok (.iconst 2, 1) := dget dh_570 (k := 8) rfl
theorem dL_law_859 : decode cL_law 859 = .ok (.iadd, 1) := dget dh_570 (k := 9) rfl
theorem dL_law_860 : decode cL_law 860 = .ok (.iaload, 1) := dget dh_570 (k := 10) rfl
theorem dL_law_861 : decode cL_law 861 = .ok (.aload_n 0, 1) := dget dh_570 (k := 11) rfl
theorem dL_law_862 : decode cL_law 862 = .ok (.iload_n 3, 1) := dget dh_570 (k := 12) rfl
theorem dL_law_863 : decode cL_law 863 = .ok (.iconst 3, 1) := dget dh_570 (k := 13) rfl
theorem dL_law_864 : decode cL_law 864 = .ok (.iadd, 1) := dget dh_570 (k := 14) rfl
theorem dL_law_865 : decode cL_law 865 = .ok (.iaload, 1) := dget dh_570 (k := 15) rfl
theorem dL_law_866 : decode cL_law 866 = .ok (.ifCond .eq 7, 3) := dget dh_570 (k := 16) rfl
theorem dL_law_869 : decode cL_law 869 = .ok (.iconst 1, 1) := dget dh_570 (k := 17) rfl
theorem dL_law_870 : decode cL_law 870 = .ok (.goto 4, 3) := dget dh_570 (k := 18) rfl
theorem dL_law_873 : decode cL_law 873 = .ok (.iconst 0, 1) := dget dh_570 (k := 19) rfl
def dl_571 : List (Nat × (Instr × Nat)) := [(874, (.invokevirtual 77, 3)), (877, (.pop, 1)), (878, (.aload_n 2, 1)), (879, (.aload_n 0, 1)), (880, (.iload_n 3, 1)), (881, (.iconst 1, 1)), (882, (.iadd, 1)), (883, (.iaload, 1)), (884, (.aload_n 0, 1)), (885, (.iload_n 3, 1)), (886, (.iconst 2, 1)), (887, (.iadd, 1)), (888, (.iaload, 1)), (889, (.aload_n 0, 1)), (890, (.iload_n 3, 1)), (891, (.iconst 3, 1)), (892, (.iadd, 1)), (893, (.iaload, 1)), (894, (.ifCond .eq 7, 3)), (897, (.iconst 1, 1))]
theorem dh_571 : dchk cL_law dl_571 = true := by decide +kernel
theorem dL_law_874 : decode cL_law 874 = .ok (.invokevirtual 77, 3) := dget dh_571 (k := 0) rfl
theorem dL_law_877 : decode cL_law 877 = .ok (.pop, 1) := dget dh_571 (k := 1) rfl
theorem dL_law_878 : decode cL_law 878 = .ok (.aload_n 2, 1) := dget dh_571 (k := 2) rfl
theorem dL_law_879 : decode cL_law 879 = .ok (.aload_n 0, 1) := dget dh_571 (k := 3) rfl
theorem dL_law_880 : decode cL_law 880 = .ok (.iload_n 3, 1) := dget dh_571 (k := 4) rfl
theorem dL_law_881 : decode cL_law 881 = .ok (.iconst 1, 1) := dget dh_571 (k := 5) rfl
theorem dL_law_882 : decode cL_law 882 = .ok (.iadd, 1) := dget dh_571 (k := 6) rfl
theorem dL_law_883 : decode cL_law 883 = .ok (.iaload, 1) := dget dh_571 (k := 7) rfl
theorem dL_law_884 : decode cL_law 884 = .ok (.aload_n 0, 1) := dget dh_571 (k := 8) rfl
theorem dL_law_885 : decode cL_law 885 = .ok (.iload_n 3, 1) := dget dh_571 (k := 9) rfl
theorem dL_law_886 : decode cL_law 886 = .ok (.iconst 2, 1) := dget dh_571 (k := 10) rfl
theorem dL_law_887 : decode cL_law 887 = .ok (.iadd, 1) := dget dh_571 (k := 11) rfl
theorem dL_law_888 : decode cL_law 888 = .ok (.iaload, 1) := dget dh_571 (k := 12) rfl
theorem dL_law_889 : decode cL_law 889 = .ok (.aload_n 0, 1) := dget dh_571 (k := 13) rfl
theorem dL_law_890 : decode cL_law 890 = .ok (.iload_n 3, 1) := dget dh_571 (k := 14) rfl
theorem dL_law_891 : decode cL_law 891 = .ok (.iconst 3, 1) := dget dh_571 (k := 15) rfl
theorem dL_law_892 : decode cL_law 892 = .ok (.iadd, 1) := dget dh_571 (k := 16) rfl
theorem dL_law_893 : decode cL_law 893 = .ok (.iaload, 1) := dget dh_571 (k := 17) rfl
theorem dL_law_894 : decode cL_law 894 = .ok (.ifCond .eq 7, 3) := dget dh_571 (k := 18) rfl
theorem dL_law_897 : decode cL_law 897 = .ok (.iconst 1, 1) := dget dh_571 (k := 19) rfl
def dl_572 : List (Nat × (Instr × Nat)) := [(898, (.goto 4, 3)), (901, (.iconst 0, 1)), (902, (.invokevirtual 81, 3)), (905, (.pop, 1)), (906, (.goto 619, 3)), (909, (.aload_n 1, 1)), (910, (.aload_n 0, 1)), (911, (.iload_n 3, 1)), (912, (.iconst 1, 1)), (913, (.iadd, 1)), (914, (.iaload, 1)), (915, (.aload_n 0, 1)), (916, (.iload_n 3, 1)), (917, (.iconst 2, 1)), (918, (.iadd, 1)), (919, (.iaload, 1)), (920, (.aload_n 0, 1)), (921, (.iload_n 3, 1)), (922, (.iconst 3, 1)), (923, (.iadd, 1))]
theorem dh_572 : dchk cL_law dl_572 = true := by decide +kernel
theorem dL_law_898 : decode cL_law 898 = .ok (.goto 4, 3) := dget dh_572 (k := 0) rfl
theorem dL_law_901 : decode cL_law 901 = .ok (.iconst 0, 1) := dget dh_572 (k := 1) rfl
theorem dL_law_902 : decode cL_law 902 = .ok (.invokevirtual 81, 3) := dget dh_572 (k := 2) rfl
theorem dL_law_905 : decode cL_law 905 = .ok (.pop, 1) := dget dh_572 (k := 3) rfl
theorem dL_law_906 : decode cL_law 906 = .ok (.goto 619, 3) := dget dh_572 (k := 4) rfl
theorem dL_law_909 : decode cL_law 909 = .ok (.aload_n 1, 1) := dget dh_572 (k := 5) rfl
theorem dL_law_910 : decode cL_law 910 = .ok (.aload_n 0, 1) := dget dh_572 (k := 6) rfl
theorem dL_law_911 : decode cL_law 911 = .ok (.iload_n 3, 1) := dget dh_572 (k := 7) rfl
theorem dL_law_912 : decode cL_law 912 = .ok (.iconst 1, 1) := dget dh_572 (k := 8) rfl
theorem dL_law_913 : decode cL_law 913 = .ok (.iadd, 1) := dget dh_572 (k := 9) rfl
theorem dL_law_914 : decode cL_law 914 = .ok (.iaload, 1) := dget dh_572 (k := 10) rfl
theorem dL_law_915 : decode cL_law 915 = .ok (.aload_n 0, 1) := dget dh_572 (k := 11) rfl
theorem dL_law_916 : decode cL_law 916 = .ok (.iload_n 3, 1) := dget dh_572 (k := 12) rfl
theorem dL_law_917 : decode cL_law 917 = .ok (.iconst 2, 1) := dget dh_572 (k := 13) rfl
theorem dL_law_918 : decode cL_law 918 = .ok (.iadd, 1) := dget dh_572 (k := 14) rfl
theorem dL_law_919 : decode cL_law 919 = .ok (.iaload, 1) := dget dh_572 (k := 15) rfl
theorem dL_law_920 : decode cL_law 920 = .ok (.aload_n 0, 1) := dget dh_572 (k := 16) rfl
theorem dL_law_921 : decode cL_law 921 = .ok (.iload_n 3, 1) := dget dh_572 (k := 17) rfl
theorem dL_law_922 : decode cL_law 922 = .ok (.iconst 3, 1) := dget dh_572 (k := 18) rfl
theorem dL_law_923 : decode cL_law 923 = .ok (.iadd, 1) := dget dh_572 (k := 19) rfl
def dl_573 : List (Nat × (Instr × Nat)) := [(924, (.iaload, 1)), (925, (.invokevirtual 82, 3)), (928, (.pop, 1)), (929, (.aload_n 2, 1)), (930, (.aload_n 0, 1)), (931, (.iload_n 3, 1)), (932, (.iconst 1, 1)), (933, (.iadd, 1)), (934, (.iaload, 1)), (935, (.aload_n 0, 1)), (936, (.iload_n 3, 1)), (937, (.iconst 2, 1)), (938, (.iadd, 1)), (939, (.iaload, 1)), (940, (.aload_n 0, 1)), (941, (.iload_n 3, 1)), (942, (.iconst 3, 1)), (943, (.iadd, 1)), (944, (.iaload, 1)), (945, (.invokevirtual 85, 3))]
theorem dh_573 : dchk cL_law dl_573 = true := by decide +kernel
theorem dL_law_924 : decode cL_law 924 = .ok (.iaload, 1) := dget dh_573 (k := 0) rfl
theorem dL_law_925 : decode cL_law 925 = .ok (.invokevirtual 82, 3) := dget dh_573 (k := 1) rfl
theorem dL_law_928 : decode cL_law 928 = .ok (.pop, 1) := dget dh_573 (k := 2) rfl
theorem dL_law_929 : decode cL_law 929 = .ok (.aload_n 2, 1) := dget dh_573 (k := 3) rfl
theorem dL_law_930 : decode cL_law 930 = .ok (.aload_n 0, 1) := dget dh_573 (k := 4) rfl
theorem dL_law_931 : decode cL_law 931 = .ok (.iload_n 3, 1) := dget dh_573 (k := 5) rfl
theorem dL_law_932 : decode cL_law 932 = .ok (.iconst 1, 1) := dget dh_573 (k := 6) rfl
theorem dL_law_933 : decode cL_law 933 = .ok (.iadd, 1) := dget dh_573 (k := 7) rfl
theorem dL_law_934 : decode cL_law 934 = .ok (.iaload, 1) := dget dh_573 (k := 8) rfl
theorem dL_law_935 : decode cL_law 935 = .ok (.aload_n 0, 1) := dget dh_573 (k := 9) rfl
theorem dL_law_936 : decode cL_law 936 = .ok (.iload_n 3, 1) := dget dh_573 (k := 10) rfl
theorem dL_law_937 : decode cL_law 937 = .ok (.iconst 2, 1) := dget dh_573 (k := 11) rfl
theorem dL_law_938 : decode cL_law 938 = .ok (.iadd, 1) := dget dh_573 (k := 12) rfl
theorem dL_law_939 : decode cL_law 939 = .ok (.iaload, 1) := dget dh_573 (k := 13) rfl
theorem dL_law_940 : decode cL_law 940 = .ok (.aload_n 0, 1) := dget dh_573 (k := 14) rfl
theorem dL_law_941 : decode cL_law 941 = .ok (.iload_n 3, 1) := dget dh_573 (k := 15) rfl
theorem dL_law_942 : decode cL_law 942 = .ok (.iconst 3, 1) := dget dh_573 (k := 16) rfl
theorem dL_law_943 : decode cL_law 943 = .ok (.iadd, 1) := dget dh_573 (k := 17) rfl
theorem dL_law_944 : decode cL_law 944 = .ok (.iaload, 1) := dget dh_573 (k := 18) rfl
theorem dL_law_945 : decode cL_law 945 = .ok (.invokevirtual 85, 3) := dget dh_573 (k := 19) rfl
def dl_574 : List (Nat × (Instr × Nat)) := [(948, (.pop, 1)), (949, (.goto 576, 3)), (952, (.aload_n 1, 1)), (953, (.aload_n 0, 1)), (954, (.iload_n 3, 1)), (955, (.iconst 1, 1)), (956, (.iadd, 1)), (957, (.iaload, 1)), (958, (.aload_n 0, 1)), (959, (.iload_n 3, 1)), (960, (.iconst 2, 1)), (961, (.iadd, 1)), (962, (.iaload, 1)), (963, (.aload_n 0, 1)), (964, (.iload_n 3, 1)), (965, (.iconst 3, 1)), (966, (.iadd, 1)), (967, (.iaload, 1)), (968, (.invokevirtual 86, 3)), (971, (.pop, 1))]
theorem dh_574 : dchk cL_law dl_574 = true := by decide +kernel
theorem dL_law_948 : decode cL_law 948 = .ok (.pop, 1) := dget dh_574 (k := 0) rfl
theorem dL_law_949 : decode cL_law 949 = .ok (.goto 576, 3) := dget dh_574 (k := 1) rfl
theorem dL_law_952 : decode cL_law 952 = .ok (.aload_n 1, 1) := dget dh_574 (k := 2) rfl
theorem dL_law_953 : decode cL_law 953 = .ok (.aload_n 0, 1) := dget dh_574 (k := 3) rfl
theorem dL_law_954 : decode cL_law 954 = .ok (.iload_n 3, 1) := dget dh_574 (k := 4) rfl
theorem dL_law_955 : decode cL_law 955 = .ok (.iconst 1, 1) := dget dh_574 (k := 5) rfl
theorem dL_law_956 : decode cL_law 956 = .ok (.iadd, 1) := dget dh_574 (k := 6) rfl
theorem dL_law_957 : decode cL_law 957 = .ok (.iaload, 1) := dget dh_574 (k := 7) rfl
theorem dL_law_958 : decode cL_law 958 = .ok (.aload_n 0, 1) := dget dh_574 (k := 8) rfl
theorem dL_law_959 : decode cL_law 959 = .ok (.iload_n 3, 1) := dget dh_574 (k := 9) rfl
theorem dL_law_960 : decode cL_law 960 = .ok (.iconst 2, 1) := dget dh_574 (k := 10) rfl
theorem dL_law_961 : decode cL_law 961 = .ok (.iadd, 1) := dget dh_574 (k := 11) rfl
theorem dL_law_962 : decode cL_law 962 = .ok (.iaload, 1) := dget dh_574 (k := 12) rfl
theorem dL_law_963 : decode cL_law 963 = .ok (.aload_n 0, 1) := dget dh_574 (k := 13) rfl
theorem dL_law_964 : decode cL_law 964 = .ok (.iload_n 3, 1) := dget dh_574 (k := 14) rfl
theorem dL_law_965 : decode cL_law 965 = .ok (.iconst 3, 1) := dget dh_574 (k := 15) rfl
theorem dL_law_966 : decode cL_law 966 = .ok (.iadd, 1) := dget dh_574 (k := 16) rfl
theorem dL_law_967 : decode cL_law 967 = .ok (.iaload, 1) := dget dh_574 (k := 17) rfl
theorem dL_law_968 : decode cL_law 968 = .ok (.invokevirtual 86, 3) := dget dh_574 (k := 18) rfl
theorem dL_law_971 : decode cL_law 971 = .ok (.pop, 1) := dget dh_574 (k := 19) rfl
def dl_575 : List (Nat × (Instr × Nat)) := [(972, (.aload_n 2, 1)), (973, (.aload_n 0, 1)), (974, (.iload_n 3, 1)), (975, (.iconst 1, 1)), (976, (.iadd, 1)), (977, (.iaload, 1)), (978, (.aload_n 0, 1)), (979, (.iload_n 3, 1)), (980, (.iconst 2, 1)), (981, (.iadd, 1)), (982, (.iaload, 1)), (983, (.aload_n 0, 1)), (984, (.iload_n 3, 1)), (985, (.iconst 3, 1)), (986, (.iadd, 1)), (987, (.iaload, 1)), (988, (.invokevirtual 89, 3)), (991, (.pop, 1)), (992, (.goto 533, 3)), (995, (.aload_n 1, 1))]
theorem dh_575 : dchk cL_law dl_575 = true := by decide +kernel
theorem dL_law_972 : decode cL_law 972 = .ok (.aload_n 2, 1) := dget dh_575 (k := 0) rfl
theorem dL_law_973 : decode cL_law 973 = .ok (.aload_n 0, 1) := dget dh_575 (k := 1) rfl
theorem dL_law_974 : decode cL_law 974 = .ok (.iload_n 3, 1) := dget dh_575 (k := 2) rfl
theorem dL_law_975 : decode cL_law 975 = .ok (.iconst 1, 1) := dget dh_575 (k := 3) rfl
theorem dL_law_976 : decode cL_law 976 = .ok (.iadd, 1) := dget dh_575 (k := 4) rfl
theorem dL_law_977 : decode cL_law 977 = .ok (.iaload, 1) := dget dh_575 (k := 5) rfl
theorem dL_law_978 : decode cL_law 978 = .ok (.aload_n 0, 1) := dget dh_575 (k := 6) rfl
theorem dL_law_979 : decode cL_law 979 = .ok (.iload_n 3, 1) := dget dh_575 (k := 7) rfl
theorem dL_law_980 : decode cL_law 980 = .ok (.iconst 2, 1) := dget dh_575 (k := 8) rfl
theorem dL_law_981 : decode cL_law 981 = .ok (.iadd, 1) := dget dh_575 (k := 9) rfl
theorem dL_law_982 : decode cL_law 982 = .ok (.iaload, 1) := dget dh_575 (k := 10) rfl
theorem dL_law_983 : decode cL_law 983 = .ok (.aload_n 0, 1) := dget dh_575 (k := 11) rfl
theorem dL_law_984 : decode cL_law 984 = .ok (.iload_n 3, 1) := dget dh_575 (k := 12) rfl
theorem dL_law_985 : decode cL_law 985 = .ok (.iconst 3, 1) := dget dh_575 (k := 13) rfl
theorem dL_law_986 : decode cL_law 986 = .ok (.iadd, 1) := dget dh_575 (k := 14) rfl
theorem dL_law_987 : decode cL_law 987 = .ok (.iaload, 1) := dget dh_575 (k := 15) rfl
theorem dL_law_988 : decode cL_law 988 = .ok (.invokevirtual 89, 3) := dget dh_575 (k := 16) rfl
theorem dL_law_991 : decode cL_law 991 = .ok (.pop, 1) := dget dh_575 (k := 17) rfl
theorem dL_law_992 : decode cL_law 992 = .ok (.goto 533, 3) := dget dh_575 (k := 18) rfl
theorem dL_law_995 : decode cL_law 995 = .ok (.aload_n 1, 1) := dget dh_575 (k := 19) rfl
def dl_576 : List (Nat × (Instr × Nat)) := [(996, (.aload_n 0, 1)), (997, (.iload_n 3, 1)), (998, (.iconst 1, 1)), (999, (.iadd, 1)), (1000, (.iaload, 1)), (1001, (.aload_n 0, 1)), (1002, (.iload_n 3, 1)), (1003, (.iconst 2, 1)), (1004, (.iadd, 1)), (1005, (.iaload, 1)), (1006, (.ifCond .eq 7, 3)), (1009, (.iconst 1, 1)), (1010, (.goto 4, 3)), (1013, (.iconst 0, 1)), (1014, (.aload_n 0, 1)), (1015, (.iload_n 3, 1)), (1016, (.iconst 3, 1)), (1017, (.iadd, 1)), (1018, (.iaload, 1)), (1019, (.invokevirtual 90, 3))]
theorem dh_576 : dchk cL_law dl_576 = true := by decide +kernel
theorem dL_law_996 : decode cL_law 996 = .ok (.aload_n 0, 1) := dget dh_576 (k := 0) rfl
theorem dL_law_997 : decode cL_law 997 = .ok (.iload_n 3, 1) := dget dh_576 (k := 1) rfl
theorem dL_law_998 : decode cL_law 998 = .ok (.iconst 1, 1) := dget dh_576 (k := 2) rfl
theorem dL_law_999 : decode cL_law 999 = .ok (.iadd, 1) := dget dh_576 (k := 3) rfl
theorem dL_law_1000 : decode cL_law 1000 = .ok (.iaload, 1) := dget dh_576 (k := 4) rfl
theorem dL_law_1001 : decode cL_law 1001 = .ok (.aload_n 0, 1) := dget dh_576 (k := 5) rfl
theorem dL_law_1002 : decode cL_law 1002 = .ok (.iload_n 3, 1) := dget dh_576 (k := 6) rfl
theorem dL_law_1003 : decode cL_law 1003 = .ok (.iconst 2, 1) := dget dh_576 (k := 7) rfl
theorem dL_law_1004 : decode cL_law 1004 = .ok (.iadd, 1) := dget dh_576 (k := 8) rfl
theorem dL_law_1005 : decode cL_law 1005 = .ok (.iaload, 1) := dget dh_576 (k := 9) rfl
theorem dL_law_1006 : decode cL_law 1006 = .ok (.ifCond .eq 7, 3) := dget dh_576 (k := 10) rfl
theorem dL_law_1009 : decode cL_law 1009 = .ok (.iconst 1, 1) := dget dh_576 (k := 11) rfl
theorem dL_law_1010 : decode cL_law 1010 = .ok (.goto 4, 3) := dget dh_576 (k := 12) rfl
theorem dL_law_1013 : decode cL_law 1013 = .ok (.iconst 0, 1) := dget dh_576 (k := 13) rfl
theorem dL_law_1014 : decode cL_law 1014 = .ok (.aload_n 0, 1) := dget dh_576 (k := 14) rfl
theorem dL_law_1015 : decode cL_law 1015 = .ok (.iload_n 3, 1) := dget dh_576 (k := 15) rfl
theorem dL_law_1016 : decode cL_law 1016 = .ok (.iconst 3, 1) := dget dh_576 (k := 16) rfl
theorem dL_law_1017 : decode cL_law 1017 = .ok (.iadd, 1) := dget dh_576 (k := 17) rfl
theorem dL_law_1018 : decode cL_law 1018 = .ok (.iaload, 1) := dget dh_576 (k := 18) rfl
theorem dL_law_1019 : decode cL_law 1019 = .ok (.invokevirtual 90, 3) := dget dh_576 (k := 19) rfl
def dl_577 : List (Nat × (Instr × Nat)) := [(1022, (.pop, 1)), (1023, (.aload_n 2, 1)), (1024, (.aload_n 0, 1)), (1025, (.iload_n 3, 1)), (1026, (.iconst 1, 1)), (1027, (.iadd, 1)), (1028, (.iaload, 1)), (1029, (.aload_n 0, 1)), (1030, (.iload_n 3, 1)), (1031, (.iconst 2, 1)), (1032, (.iadd, 1)), (1033, (.iaload, 1)), (1034, (.ifCond .eq 7, 3)), (1037, (.iconst 1, 1)), (1038, (.goto 4, 3)), (1041, (.iconst 0, 1)), (1042, (.aload_n 0, 1)), (1043, (.iload_n 3, 1)), (1044, (.iconst 3, 1)), (1045, (.iadd, 1))]
theorem dh_577 : dchk cL_law dl_577 = true := by decide +kernel
theorem dL_law_1022 : decode cL_law 1022 = .ok (.pop, 1) := dget dh_577 (k := 0) rfl
theorem dL_law_1023 : decode cL_law 1023 = .ok (.aload_n 2, 1) := dget dh_577 (k := 1) rfl
theorem dL_law_1024 : decode cL_law 1024 = .ok (.aload_n 0, 1) := dget dh_577 (k := 2) rfl
theorem dL_law_1025 : decode cL_law 1025 = .ok (.iload_n 3, 1) := dget dh_577 (k := 3) rfl
theorem dL_law_1026 : decode cL_law 1026 = .ok (.iconst 1, 1) := dget dh_577 (k := 4) rfl
theorem dL_law_1027 : decode cL_law 1027 = .ok (.iadd, 1) := dget dh_577 (k := 5) rfl
theorem dL_law_1028 : decode cL_law 1028 = .ok (.iaload, 1) := dget dh_577 (k := 6) rfl
theorem dL_law_1029 : decode cL_law 1029 = .ok (.aload_n 0, 1) := dget dh_577 (k := 7) rfl
theorem dL_law_1030 : decode cL_law 1030 = .ok (.iload_n 3, 1) := dget dh_577 (k := 8) rfl
theorem dL_law_1031 : decode cL_law 1031 = .ok (.iconst 2, 1) := dget dh_577 (k := 9) rfl
theorem dL_law_1032 : decode cL_law 1032 = .ok (.iadd, 1) := dget dh_577 (k := 10) rfl
theorem dL_law_1033 : decode cL_law 1033 = .ok (.iaload, 1) := dget dh_577 (k := 11) rfl
theorem dL_law_1034 : decode cL_law 1034 = .ok (.ifCond .eq 7, 3) := dget dh_577 (k := 12) rfl
theorem dL_law_1037 : decode cL_law 1037 = .ok (.iconst 1, 1) := dget dh_577 (k := 13) rfl
theorem dL_law_1038 : decode cL_law 1038 = .ok (.goto 4, 3) := dget dh_577 (k := 14) rfl
theorem dL_law_1041 : decode cL_law 1041 = .ok (.iconst 0, 1) := dget dh_577 (k := 15) rfl
theorem dL_law_1042 : decode cL_law 1042 = .ok (.aload_n 0, 1) := dget dh_577 (k := 16) rfl
theorem dL_law_1043 : decode cL_law 1043 = .ok (.iload_n 3, 1) := dget dh_577 (k := 17) rfl
theorem dL_law_1044 : decode cL_law 1044 = .ok (.iconst 3, 1) := dget dh_577 (k := 18) rfl
theorem dL_law_1045 : decode cL_law 1045 = .ok (.iadd, 1) := dget dh_577 (k := 19) rfl
def dl_578 : List (Nat × (Instr × Nat)) := [(1046, (.iaload, 1)), (1047, (.invokevirtual 94, 3)), (1050, (.pop, 1)), (1051, (.goto 474, 3)), (1054, (.aload_n 1, 1)), (1055, (.aload_n 0, 1)), (1056, (.iload_n 3, 1)), (1057, (.iconst 1, 1)), (1058, (.iadd, 1)), (1059, (.iaload, 1)), (1060, (.invokevirtual 95, 3)), (1063, (.pop, 1)), (1064, (.aload_n 2, 1)), (1065, (.aload_n 0, 1)), (1066, (.iload_n 3, 1)), (1067, (.iconst 1, 1)), (1068, (.iadd, 1)), (1069, (.iaload, 1)), (1070, (.invokevirtual 98, 3)), (1073, (.pop, 1))]
theorem dh_578 : dchk cL_law dl_578 = true := by decide +kernel
theorem dL_law_1046 : decode cL_law 1046 = .ok (.iaload, 1) := dget dh_578 (k := 0) rfl
theorem dL_law_1047 : decode cL_law 1047 = .ok (.invokevirtual 94, 3) := dget dh_578 (k := 1) rfl
theorem dL_law_1050 : decode cL_law 1050 = .ok (.pop, 1) := dget dh_578 (k := 2) rfl
theorem dL_law_1051 : decode cL_law 1051 = .ok (.goto 474, 3) := dget dh_578 (k := 3) rfl
theorem dL_law_1054 : decode cL_law 1054 = .ok (.aload_n 1, 1) := dget dh_578 (k := 4) rfl
theorem dL_law_1055 : decode cL_law 1055 = .ok (.aload_n 0, 1) := dget dh_578 (k := 5) rfl
theorem dL_law_1056 : decode cL_law 1056 = .ok (.iload_n 3, 1) := dget dh_578 (k := 6) rfl
theorem dL_law_1057 : decode cL_law 1057 = .ok (.iconst 1, 1) := dget dh_578 (k := 7) rfl
theorem dL_law_1058 : decode cL_law 1058 = .ok (.iadd, 1) := dget dh_578 (k := 8) rfl
theorem dL_law_1059 : decode cL_law 1059 = .ok (.iaload, 1) := dget dh_578 (k := 9) rfl
theorem dL_law_1060 : decode cL_law 1060 = .ok (.invokevirtual 95, 3) := dget dh_578 (k := 10) rfl
theorem dL_law_1063 : decode cL_law 1063 = .ok (.pop, 1) := dget dh_578 (k := 11) rfl
theorem dL_law_1064 : decode cL_law 1064 = .ok (.aload_n 2, 1) := dget dh_578 (k := 12) rfl
theorem dL_law_1065 : decode cL_law 1065 = .ok (.aload_n 0, 1) := dget dh_578 (k := 13) rfl
theorem dL_law_1066 : decode cL_law 1066 = .ok (.iload_n 3, 1) := dget dh_578 (k := 14) rfl
theorem dL_law_1067 : decode cL_law 1067 = .ok (.iconst 1, 1) := dget dh_578 (k := 15) rfl
theorem dL_law_1068 : decode cL_law 1068 = .ok (.iadd, 1) := dget dh_578 (k := 16) rfl
theorem dL_law_1069 : decode cL_law 1069 = .ok (.iaload, 1) := dget dh_578 (k := 17) rfl
theorem dL_law_1070 : decode cL_law 1070 = .ok (.invokevirtual 98, 3) := dget dh_578 (k := 18) rfl
theorem dL_law_1073 : decode cL_law 1073 = .ok (.pop, 1) := dget dh_578 (k := 19) rfl
def dl_579 : List (Nat × (Instr × Nat)) := [(1074, (.goto 451, 3)), (1077, (.aload_n 1, 1)), (1078, (.aload_n 0, 1)), (1079, (.iload_n 3, 1)), (1080, (.iconst 1, 1)), (1081, (.iadd, 1)), (1082, (.iaload, 1)), (1083, (.aload_n 0, 1)), (1084, (.iload_n 3, 1)), (1085, (.iconst 2, 1)), (1086, (.iadd, 1)), (1087, (.iaload, 1)), (1088, (.aload_n 0, 1)), (1089, (.iload_n 3, 1)), (1090, (.iconst 3, 1)), (1091, (.iadd, 1)), (1092, (.iaload, 1)), (1093, (.ifCond .eq 7, 3)), (1096, (.iconst 1, 1)), (1097, (.goto 4, 3))]
theorem dh_579 : dchk cL_law dl_579 = true := by decide +kernel
theorem dL_law_1074 : decode cL_law 1074 = .ok (.goto 451, 3) := dget dh_579 (k := 0) rfl
theorem dL_law_1077 : decode cL_law 1077 = .ok (.aload_n 1, 1) := dget dh_579 (k := 1) rfl
theorem dL_law_1078 : decode cL_law 1078 = .ok (.aload_n 0, 1) := dget dh_579 (k := 2) rfl
theorem dL_law_1079 : decode cL_law 1079 = .ok (.iload_n 3, 1) := dget dh_579 (k := 3) rfl
theorem dL_law_1080 : decode cL_law 1080 = .ok (.iconst 1, 1) := dget dh_579 (k := 4) rfl
theorem dL_law_1081 : decode cL_law 1081 = .ok (.iadd, 1) := dget dh_579 (k := 5) rfl
theorem dL_law_1082 : decode cL_law 1082 = .ok (.iaload, 1) := dget dh_579 (k := 6) rfl
theorem dL_law_1083 : decode cL_law 1083 = .ok (.aload_n 0, 1) := dget dh_579 (k := 7) rfl
theorem dL_law_1084 : decode cL_law 1084 = .ok (.iload_n 3, 1) := dget dh_579 (k := 8) rfl
theorem dL_law_1085 : decode cL_law 1085 = .ok (.iconst 2, 1) := dget dh_579 (k := 9) rfl
theorem dL_law_1086 : decode cL_law 1086 = .ok (.iadd, 1) := dget dh_579 (k := 10) rfl
theorem dL_law_1087 : decode cL_law 1087 = .ok (.iaload, 1) := dget dh_579 (k := 11) rfl
theorem dL_law_1088 : decode cL_law 1088 = .ok (.aload_n 0, 1) := dget dh_579 (k := 12) rfl
theorem dL_law_1089 : decode cL_law 1089 = .ok (.iload_n 3, 1) := dget dh_579 (k := 13) rfl
theorem dL_law_1090 : decode cL_law 1090 = .ok (.iconst 3, 1) := dget dh_579 (k := 14) rfl
theorem dL_law_1091 : decode cL_law 1091 = .ok (.iadd, 1) := dget dh_579 (k := 15) rfl
theorem dL_law_1092 : decode cL_law 1092 = .ok (.iaload, 1) := dget dh_579 (k := 16) rfl
theorem dL_law_1093 : decode cL_law 1093 = .ok (.ifCond .eq 7, 3) := dget dh_579 (k := 17) rfl
theorem dL_law_1096 : decode cL_law 1096 = .ok (.iconst 1, 1) := dget dh_579 (k := 18) rfl
theorem dL_law_1097 : decode cL_law 1097 = .ok (.goto 4, 3) := dget dh_579 (k := 19) rfl
def dl_580 : List (Nat × (Instr × Nat)) := [(1100, (.iconst 0, 1)), (1101, (.invokevirtual 99, 3)), (1104, (.pop, 1)), (1105, (.aload_n 2, 1)), (1106, (.aload_n 0, 1)), (1107, (.iload_n 3, 1)), (1108, (.iconst 1, 1)), (1109, (.iadd, 1)), (1110, (.iaload, 1)), (1111, (.aload_n 0, 1)), (1112, (.iload_n 3, 1)), (1113, (.iconst 2, 1)), (1114, (.iadd, 1)), (1115, (.iaload, 1)), (1116, (.aload_n 0, 1)), (1117, (.iload_n 3, 1)), (1118, (.iconst 3, 1)), (1119, (.iadd, 1)), (1120, (.iaload, 1)), (1121, (.ifCond .eq 7, 3))]
theorem dh_580 : dchk cL_law dl_580 = true := by decide +kernel
theorem dL_law_1100 : decode cL_law 1100 = .ok (.iconst 0, 1) := dget dh_580 (k := 0) rfl
theorem dL_law_1101 : decode cL_law 1101 = .ok (.invokevirtual 99, 3) := dget dh_580 (k := 1) rfl
theorem dL_law_1104 : decode cL_law 1104 = .ok (.pop, 1) := dget dh_580 (k := 2) rfl
theorem dL_law_1105 : decode cL_law 1105 = .ok (.aload_n 2, 1) := dget dh_580 (k := 3) rfl
theorem dL_law_1106 : decode cL_law 1106 = .ok (.aload_n 0, 1) := dget dh_580 (k := 4) rfl
theorem dL_law_1107 : decode cL_law 1107 = .ok (.iload_n 3, 1) := dget dh_580 (k := 5) rfl
theorem dL_law_1108 : decode cL_law 1108 = .ok (.iconst 1, 1) := dget dh_580 (k := 6) rfl
theorem dL_law_1109 : decode cL_law 1109 = .ok (.iadd, 1) := dget dh_580 (k := 7) rfl
theorem dL_law_1110 : decode cL_law 1110 = .ok (.iaload, 1) := dget dh_580 (k := 8) rfl
theorem dL_law_1111 : decode cL_law 1111 = .ok (.aload_n 0, 1) := dget dh_580 (k := 9) rfl
theorem dL_law_1112 : decode cL_law 1112 = .ok (.iload_n 3, 1) := dget dh_580 (k := 10) rfl
theorem dL_law_1113 : decode cL_law 1113 = .ok (.iconst 2, 1) := dget dh_580 (k := 11) rfl
theorem dL_law_1114 : decode cL_law 1114 = .ok (.iadd, 1) := dget dh_580 (k := 12) rfl
theorem dL_law_1115 : decode cL_law 1115 = .ok (.iaload, 1) := dget dh_580 (k := 13) rfl
theorem dL_law_1116 : decode cL_law 1116 = .ok (.aload_n 0, 1) := dget dh_580 (k := 14) rfl
theorem dL_law_1117 : decode cL_law 1117 = .ok (.iload_n 3, 1) := dget dh_580 (k := 15) rfl
theorem dL_law_1118 : decode cL_law 1118 = .ok (.iconst 3, 1) := dget dh_580 (k := 16) rfl
theorem dL_law_1119 : decode cL_law 1119 = .ok (.iadd, 1) := dget dh_580 (k := 17) rfl
theorem dL_law_1120 : decode cL_law 1120 = .ok (.iaload, 1) := dget dh_580 (k := 18) rfl
theorem dL_law_1121 : decode cL_law 1121 = .ok (.ifCond .eq 7, 3) := dget dh_580 (k := 19) rfl
def dl_581 : List (Nat × (Instr × Nat)) := [(1124, (.iconst 1, 1)), (1125, (.goto 4, 3)), (1128, (.iconst 0, 1)), (1129, (.invokevirtual 102, 3)), (1132, (.pop, 1)), (1133, (.goto 392, 3)), (1136, (.aload_n 1, 1)), (1137, (.aload_n 0, 1)), (1138, (.iload_n 3, 1)), (1139, (.iconst 1, 1)), (1140, (.iadd, 1)), (1141, (.iaload, 1)), (1142, (.invokevirtual 103, 3)), (1145, (.pop, 1)), (1146, (.aload_n 2, 1)), (1147, (.aload_n 0, 1)), (1148, (.iload_n 3, 1)), (1149, (.iconst 1, 1)), (1150, (.iadd, 1)), (1151, (.iaload, 1))]
theorem dh_581 : dchk cL_law dl_581 = true := by decide +kernel
theorem dL_law_1124 : decode cL_law 1124 = .ok (.iconst 1, 1) := dget dh_581 (k := 0) rfl
theorem dL_law_1125 : decode cL_law 1125 = .ok (.goto 4, 3) := dget dh_581 (k := 1) rfl
theorem dL_law_1128 : decode cL_law 1128 = .ok (.iconst 0, 1) := dget dh_581 (k := 2) rfl
theorem dL_law_1129 : decode cL_law 1129 = .ok (.invokevirtual 102, 3) := dget dh_581 (k := 3) rfl
theorem dL_law_1132 : decode cL_law 1132 = .ok (.pop, 1) := dget dh_581 (k := 4) rfl
theorem dL_law_1133 : decode cL_law 1133 = .ok (.goto 392, 3) := dget dh_581 (k := 5) rfl
theorem dL_law_1136 : decode cL_law 1136 = .ok (.aload_n 1, 1) := dget dh_581 (k := 6) rfl
theorem dL_law_1137 : decode cL_law 1137 = .ok (.aload_n 0, 1) := dget dh_581 (k := 7) rfl
theorem dL_law_1138 : decode cL_law 1138 = .ok (.iload_n 3, 1) := dget dh_581 (k := 8) rfl
theorem dL_law_1139 : decode cL_law 1139 = .ok (.iconst 1, 1) := dget dh_581 (k := 9) rfl
theorem dL_law_1140 : decode cL_law 1140 = .ok (.iadd, 1) := dget dh_581 (k := 10) rfl
theorem dL_law_1141 : decode cL_law 1141 = .ok (.iaload, 1) := dget dh_581 (k := 11) rfl
theorem dL_law_1142 : decode cL_law 1142 = .ok (.invokevirtual 103, 3) := dget dh_581 (k := 12) rfl
theorem dL_law_1145 : decode cL_law 1145 = .ok (.pop, 1) := dget dh_581 (k := 13) rfl
theorem dL_law_1146 : decode cL_law 1146 = .ok (.aload_n 2, 1) := dget dh_581 (k := 14) rfl
theorem dL_law_1147 : decode cL_law 1147 = .ok (.aload_n 0, 1) := dget dh_581 (k := 15) rfl
theorem dL_law_1148 : decode cL_law 1148 = .ok (.iload_n 3, 1) := dget dh_581 (k := 16) rfl
theorem dL_law_1149 : decode cL_law 1149 = .ok (.iconst 1, 1) := dget dh_581 (k := 17) rfl
theorem dL_law_1150 : decode cL_law 1150 = .ok (.iadd, 1) := dget dh_581 (k := 18) rfl
theorem dL_law_1151 : decode cL_law 1151 = .ok (.iaload, 1) := dget dh_581 (k := 19) rfl
def dl_582 : List (Nat × (Instr × Nat)) := [(1152, (.invokevirtual 107, 3)), (1155, (.pop, 1)), (1156, (.goto 369, 3)), (1159, (.aload_n 1, 1)), (1160, (.aload_n 0, 1)), (1161, (.iload_n 3, 1)), (1162, (.iconst 1, 1)), (1163, (.iadd, 1)), (1164, (.iaload, 1)), (1165, (.invokevirtual 108, 3)), (1168, (.aload_n 2, 1)), (1169, (.aload_n 0, 1)), (1170, (.iload_n 3, 1)), (1171, (.iconst 1, 1)), (1172, (.iadd, 1)), (1173, (.iaload, 1)), (1174, (.invokevirtual 111, 3)), (1177, (.if_icmp .eq 348, 3)), (1182, (.aload_n 1, 1)), (1183, (.aload_n 0, 1))]
theorem dh_582 : dchk cL_law dl_582 = true := by decide +kernel
theorem dL_law_1152 : decode cL_law 1152 = .ok (.invokevirtual 107, 3) := dget dh_582 (k := 0) rfl
theorem dL_law_1155 : decode cL_law 1155 = .ok (.pop, 1) := dget dh_582 (k := 1) rfl
theorem dL_law_1156 : decode cL_law 1156 = .ok (.goto 369, 3) := dget dh_582 (k := 2) rfl
theorem dL_law_1159 : decode cL_law 1159 = .ok (.aload_n 1, 1) := dget dh_582 (k := 3) rfl
theorem dL_law_1160 : decode cL_law 1160 = .ok (.aload_n 0, 1) := dget dh_582 (k := 4) rfl
theorem dL_law_1161 : decode cL_law 1161 = .ok (.iload_n 3, 1) := dget dh_582 (k := 5) rfl
theorem dL_law_1162 : decode cL_law 1162 = .ok (.iconst 1, 1) := dget dh_582 (k := 6) rfl
theorem dL_law_1163 : decode cL_law 1163 = .ok (.iadd, 1) := dget dh_582 (k := 7) rfl
theorem dL_law_1164 : decode cL_law 1164 = .ok (.iaload, 1) := dget dh_582 (k := 8) rfl
theorem dL_law_1165 : decode cL_law 1165 = .ok (.invokevirtual 108, 3) := dget dh_582 (k := 9) rfl
theorem dL_law_1168 : decode cL_law 1168 = .ok (.aload_n 2, 1) := dget dh_582 (k := 10) rfl
theorem dL_law_1169 : decode cL_law 1169 = .ok (.aload_n 0, 1) := dget dh_582 (k := 11) rfl
theorem dL_law_1170 : decode cL_law 1170 = .ok (.iload_n 3, 1) := dget dh_582 (k := 12) rfl
theorem dL_law_1171 : decode cL_law 1171 = .ok (.iconst 1, 1) := dget dh_582 (k := 13) rfl
theorem dL_law_1172 : decode cL_law 1172 = .ok (.iadd, 1) := dget dh_582 (k := 14) rfl
theorem dL_law_1173 : decode cL_law 1173 = .ok (.iaload, 1) := dget dh_582 (k := 15) rfl
theorem dL_law_1174 : decode cL_law 1174 = .ok (.invokevirtual 111, 3) := dget dh_582 (k := 16) rfl
theorem dL_law_1177 : decode cL_law 1177 = .ok (.if_icmp .eq 348, 3) := dget dh_582 (k := 17) rfl
theorem dL_law_1182 : decode cL_law 1182 = .ok (.aload_n 1, 1) := dget dh_582 (k := 18) rfl
theorem dL_law_1183 : decode cL_law 1183 = .ok (.aload_n 0, 1) := dget dh_582 (k := 19) rfl
def dl_583 : List (Nat × (Instr × Nat)) := [(1184, (.iload_n 3, 1)), (1185, (.iconst 1, 1)), (1186, (.iadd, 1)), (1187, (.iaload, 1)), (1188, (.aload_n 0, 1)), (1189, (.iload_n 3, 1)), (1190, (.iconst 2, 1)), (1191, (.iadd, 1)), (1192, (.iaload, 1)), (1193, (.aload_n 0, 1)), (1194, (.iload_n 3, 1)), (1195, (.iconst 3, 1)), (1196, (.iadd, 1)), (1197, (.iaload, 1)), (1198, (.aload_n 0, 1)), (1199, (.iload_n 3, 1)), (1200, (.iconst 4, 1)), (1201, (.iadd, 1)), (1202, (.iaload, 1)), (1203, (.invokevirtual 112, 3))]
theorem dh_583 : dchk cL_law dl_583 = true := by decide +kernel
theorem dL_law_1184 : decode cL_law 1184 = .ok (.iload_n 3, 1) := dget dh_583 (k := 0) rfl
theorem dL_law_1185 : decode cL_law 1185 = .ok (.iconst 1, 1) := dget dh_583 (k := 1) rfl
theorem dL_law_1186 : decode cL_law 1186 = .ok (.iadd, 1) := dget dh_583 (k := 2) rfl
theorem dL_law_1187 : decode cL_law 1187 = .ok (.iaload, 1) := dget dh_583 (k := 3) rfl
theorem dL_law_1188 : decode cL_law 1188 = .ok (.aload_n 0, 1) := dget dh_583 (k := 4) rfl
theorem dL_law_1189 : decode cL_law 1189 = .ok (.iload_n 3, 1) := dget dh_583 (k := 5) rfl
theorem dL_law_1190 : decode cL_law 1190 = .ok (.iconst 2, 1) := dget dh_583 (k := 6) rfl
theorem dL_law_1191 : decode cL_law 1191 = .ok (.iadd, 1) := dget dh_583 (k := 7) rfl
theorem dL_law_1192 : decode cL_law 1192 = .ok (.iaload, 1) := dget dh_583 (k := 8) rfl
theorem dL_law_1193 : decode cL_law 1193 = .ok (.aload_n 0, 1) := dget dh_583 (k := 9) rfl
theorem dL_law_1194 : decode cL_law 1194 = .ok (.iload_n 3, 1) := dget dh_583 (k := 10) rfl
theorem dL_law_1195 : decode cL_law 1195 = .ok (.iconst 3, 1) := dget dh_583 (k := 11) rfl
theorem dL_law_1196 : decode cL_law 1196 = .ok (.iadd, 1) := dget dh_583 (k := 12) rfl
theorem dL_law_1197 : decode cL_law 1197 = .ok (.iaload, 1) := dget dh_583 (k := 13) rfl
theorem dL_law_1198 : decode cL_law 1198 = .ok (.aload_n 0, 1) := dget dh_583 (k := 14) rfl
theorem dL_law_1199 : decode cL_law 1199 = .ok (.iload_n 3, 1) := dget dh_583 (k := 15) rfl
theorem dL_law_1200 : decode cL_law 1200 = .ok (.iconst 4, 1) := dget dh_583 (k := 16) rfl
theorem dL_law_1201 : decode cL_law 1201 = .ok (.iadd, 1) := dget dh_583 (k := 17) rfl
theorem dL_law_1202 : decode cL_law 1202 = .ok (.iaload, 1) := dget dh_583 (k := 18) rfl
theorem dL_law_1203 : decode cL_law 1203 = .ok (.invokevirtual 112, 3) := dget dh_583 (k := 19) rfl
def dl_584 : List (Nat × (Instr × Nat)) := [(1206, (.pop, 1)), (1207, (.aload_n 2, 1)), (1208, (.aload_n 0, 1)), (1209, (.iload_n 3, 1)), (1210, (.iconst 1, 1)), (1211, (.iadd, 1)), (1212, (.iaload, 1)), (1213, (.aload_n 0, 1)), (1214, (.iload_n 3, 1)), (1215, (.iconst 2, 1)), (1216, (.iadd, 1)), (1217, (.iaload, 1)), (1218, (.aload_n 0, 1)), (1219, (.iload_n 3, 1)), (1220, (.iconst 3, 1)), (1221, (.iadd, 1)), (1222, (.iaload, 1)), (1223, (.aload_n 0, 1)), (1224, (.iload_n 3, 1)), (1225, (.iconst 4, 1))]
theorem dh_584 : dchk cL_law dl_584 = true := by decide +kernel
theorem dL_law_1206 : decode cL_law 1206 = .ok (.pop, 1) := dget dh_584 (k := 0) rfl
theorem dL_law_1207 : decode cL_law 1207 = .ok (.aload_n 2, 1) := dget dh_584 (k := 1) rfl
theorem dL_law_1208 : decode cL_law 1208 = .ok (.aload_n 0, 1) := dget dh_584 (k := 2) rfl
theorem dL_law_1209 : decode cL_law 1209 = .ok (.iload_n 3, 1) := dget dh_584 (k := 3) rfl
theorem dL_law_1210 : decode cL_law 1210 = .ok (.iconst 1, 1) := dget dh_584 (k := 4) rfl
theorem dL_law_1211 : decode cL_law 1211 = .ok (.iadd, 1) := dget dh_584 (k := 5) rfl
theorem dL_law_1212 : decode cL_law 1212 = .ok (.iaload, 1) := dget dh_584 (k := 6) rfl
theorem dL_law_1213 : decode cL_law 1213 = .ok (.aload_n 0, 1) := dget dh_584 (k := 7) rfl
theorem dL_law_1214 : decode cL_law 1214 = .ok (.iload_n 3, 1) := dget dh_584 (k := 8) rfl
theorem dL_law_1215 : decode cL_law 1215 = .ok (.iconst 2, 1) := dget dh_584 (k := 9) rfl
theorem dL_law_1216 : decode cL_law 1216 = .ok (.iadd, 1) := dget dh_584 (k := 10) rfl
theorem dL_law_1217 : decode cL_law 1217 = .ok (.iaload, 1) := dget dh_584 (k := 11) rfl
theorem dL_law_1218 : decode cL_law 1218 = .ok (.aload_n 0, 1) := dget dh_584 (k := 12) rfl
theorem dL_law_1219 : decode cL_law 1219 = .ok (.iload_n 3, 1) := dget dh_584 (k := 13) rfl
theorem dL_law_1220 : decode cL_law 1220 = .ok (.iconst 3, 1) := dget dh_584 (k := 14) rfl
theorem dL_law_1221 : decode cL_law 1221 = .ok (.iadd, 1) := dget dh_584 (k := 15) rfl
theorem dL_law_1222 : decode cL_law 1222 = .ok (.iaload, 1) := dget dh_584 (k := 16) rfl
theorem dL_law_1223 : decode cL_law 1223 = .ok (.aload_n 0, 1) := dget dh_584 (k := 17) rfl
theorem dL_law_1224 : decode cL_law 1224 = .ok (.iload_n 3, 1) := dget dh_584 (k := 18) rfl
theorem dL_law_1225 : decode cL_law 1225 = .ok (.iconst 4, 1) := dget dh_584 (k := 19) rfl
def dl_585 : List (Nat × (Instr × Nat)) := [(1226, (.iadd, 1)), (1227, (.iaload, 1)), (1228, (.invokevirtual 115, 3)), (1231, (.pop, 1)), (1232, (.goto 293, 3)), (1235, (.aload_n 1, 1)), (1236, (.aload_n 0, 1)), (1237, (.iload_n 3, 1)), (1238, (.iconst 1, 1)), (1239, (.iadd, 1)), (1240, (.iaload, 1)), (1241, (.aload_n 0, 1)), (1242, (.iload_n 3, 1)), (1243, (.iconst 2, 1)), (1244, (.iadd, 1)), (1245, (.iaload, 1)), (1246, (.invokevirtual 116, 3)), (1249, (.pop, 1)), (1250, (.aload_n 2, 1)), (1251, (.aload_n 0, 1))]
theorem dh_585 : dchk cL_law dl_585 = true := by decide +kernel
theorem dL_law_1226 : decode cL_law 1226 = .ok (.iadd, 1) := dget dh_585 (k := 0) rfl
theorem dL_law_1227 : decode cL_law 1227 = .ok (.iaload, 1) := dget dh_585 (k := 1) rfl
theorem dL_law_1228 : decode cL_law 1228 = .ok (.invokevirtual 115, 3) := dget dh_585 (k := 2) rfl
theorem dL_law_1231 : decode cL_law 1231 = .ok (.pop, 1) := dget dh_585 (k := 3) rfl
theorem dL_law_1232 : decode cL_law 1232 = .ok (.goto 293, 3) := dget dh_585 (k := 4) rfl
theorem dL_law_1235 : decode cL_law 1235 = .ok (.aload_n 1, 1) := dget dh_585 (k := 5) rfl
theorem dL_law_1236 : decode cL_law 1236 = .ok (.aload_n 0, 1) := dget dh_585 (k := 6) rfl
theorem dL_law_1237 : decode cL_law 1237 = .ok (.iload_n 3, 1) := dget dh_585 (k := 7) rfl
theorem dL_law_1238 : decode cL_law 1238 = .ok (.iconst 1, 1) := dget dh_585 (k := 8) rfl
theorem dL_law_1239 : decode cL_law 1239 = .ok (.iadd, 1) := dget dh_585 (k := 9) rfl
theorem dL_law_1240 : decode cL_law 1240 = .ok (.iaload, 1) := dget dh_585 (k := 10) rfl
theorem dL_law_1241 : decode cL_law 1241 = .ok (.aload_n 0, 1) := dget dh_585 (k := 11) rfl
theorem dL_law_1242 : decode cL_law 1242 = .ok (.iload_n 3, 1) := dget dh_585 (k := 12) rfl
theorem dL_law_1243 : decode cL_law 1243 = .ok (.iconst 2, 1) := dget dh_585 (k := 13) rfl
theorem dL_law_1244 : decode cL_law 1244 = .ok (.iadd, 1) := dget dh_585 (k := 14) rfl
theorem dL_law_1245 : decode cL_law 1245 = .ok (.iaload, 1) := dget dh_585 (k := 15) rfl
theorem dL_law_1246 : decode cL_law 1246 = .ok (.invokevirtual 116, 3) := dget dh_585 (k := 16) rfl
theorem dL_law_1249 : decode cL_law 1249 = .ok (.pop, 1) := dget dh_585 (k := 17) rfl
theorem dL_law_1250 : decode cL_law 1250 = .ok (.aload_n 2, 1) := dget dh_585 (k := 18) rfl
theorem dL_law_1251 : decode cL_law 1251 = .ok (.aload_n 0, 1) := dget dh_585 (k := 19) rfl
def dl_586 : List (Nat × (Instr × Nat)) := [(1252, (.iload_n 3, 1)), (1253, (.iconst 1, 1)), (1254, (.iadd, 1)), (1255, (.iaload, 1)), (1256, (.aload_n 0, 1)), (1257, (.iload_n 3, 1)), (1258, (.iconst 2, 1)), (1259, (.iadd, 1)), (1260, (.iaload, 1)), (1261, (.invokevirtual 119, 3)), (1264, (.pop, 1)), (1265, (.goto 260, 3)), (1301, (.aload_n 1, 1)), (1302, (.aload_n 0, 1)), (1303, (.iload_n 3, 1)), (1304, (.iconst 1, 1)), (1305, (.iadd, 1)), (1306, (.iaload, 1)), (1307, (.aload_n 0, 1)), (1308, (.iload_n 3, 1))]
theorem dh_586 : dchk cL_law dl_586 = true := by decide +kernel
theorem dL_law_1252 : decode cL_law 1252 = .ok (.iload_n 3, 1) := dget dh_586 (k := 0) rfl
theorem dL_law_1253 : decode cL_law 1253 = .ok (.iconst 1, 1) := dget dh_586 (k := 1) rfl
theorem dL_law_1254 : decode cL_law 1254 = .ok (.iadd, 1) := dget dh_586 (k := 2) rfl
theorem dL_law_1255 : decode cL_law 1255 = .ok (.iaload, 1) := dget dh_586 (k := 3) rfl
theorem dL_law_1256 : decode cL_law 1256 = .ok (.aload_n 0, 1) := dget dh_586 (k := 4) rfl
theorem dL_law_1257 : decode cL_law 1257 = .ok (.iload_n 3, 1) := dget dh_586 (k := 5) rfl
theorem dL_law_1258 : decode cL_law 1258 = .ok (.iconst 2, 1) := dget dh_586 (k := 6) rfl
theorem dL_law_1259 : decode cL_law 1259 = .ok (.iadd, 1) := dget dh_586 (k := 7) rfl
theorem dL_law_1260 : decode cL_law 1260 = .ok (.iaload, 1) := dget dh_586 (k := 8) rfl
theorem dL_law_1261 : decode cL_law 1261 = .ok (.invokevirtual 119, 3) := dget dh_586 (k := 9) rfl
theorem dL_law_1264 : decode cL_law 1264 = .ok (.pop, 1) := dget dh_586 (k := 10) rfl
theorem dL_law_1265 : decode cL_law 1265 = .ok (.goto 260, 3) := dget dh_586 (k := 11) rfl
theorem dL_law_1301 : decode cL_law 1301 = .ok (.aload_n 1, 1) := dget dh_586 (k := 12) rfl
theorem dL_law_1302 : decode cL_law 1302 = .ok (.aload_n 0, 1) := dget dh_586 (k := 13) rfl
theorem dL_law_1303 : decode cL_law 1303 = .ok (.iload_n 3, 1) := dget dh_586 (k := 14) rfl
theorem dL_law_1304 : decode cL_law 1304 = .ok (.iconst 1, 1) := dget dh_586 (k := 15) rfl
theorem dL_law_1305 : decode cL_law 1305 = .ok (.iadd, 1) := dget dh_586 (k := 16) rfl
theorem dL_law_1306 : decode cL_law 1306 = .ok (.iaload, 1) := dget dh_586 (k := 17) rfl
theorem dL_law_1307 : decode cL_law 1307 = .ok (.aload_n 0, 1) := dget dh_586 (k := 18) rfl
theorem dL_law_1308 : decode cL_law 1308 = .ok (.iload_n 3, 1) := dget dh_586 (k := 19) rfl
def dl_587 : List (Nat × (Instr × Nat)) := [(1309, (.iconst 2, 1)), (1310, (.iadd, 1)), (1311, (.iaload, 1)), (1312, (.aload_n 0, 1)), (1313, (.iload_n 3, 1)), (1314, (.iconst 3, 1)), (1315, (.iadd, 1)), (1316, (.iaload, 1)), (1317, (.invokevirtual 124, 3)), (1320, (.pop, 1)), (1321, (.aload_n 2, 1)), (1322, (.aload_n 0, 1)), (1323, (.iload_n 3, 1)), (1324, (.iconst 1, 1)), (1325, (.iadd, 1)), (1326, (.iaload, 1)), (1327, (.aload_n 0, 1)), (1328, (.iload_n 3, 1)), (1329, (.iconst 2, 1)), (1330, (.iadd, 1))]
theorem dh_587 : dchk cL_law dl_587 = true := by decide +kernel
theorem dL_law_1309 : decode cL_law 1309 = .ok (.iconst 2, 1) := dget dh_587 (k := 0) rfl
theorem dL_law_1310 : decode cL_law 1310 = .ok (.iadd, 1) := dget dh_587 (k := 1) rfl
theorem dL_law_1311 : decode cL_law 1311 = .ok (.iaload, 1) := dget dh_587 (k := 2) rfl
theorem dL_law_1312 : decode cL_law 1312 = .ok (.aload_n 0, 1) := dget dh_587 (k := 3) rfl
theorem dL_law_1313 : decode cL_law 1313 = .ok (.iload_n 3, 1) := dget dh_587 (k := 4) rfl
theorem dL_law_1314 : decode cL_law 1314 = .ok (.iconst 3, 1) := dget dh_587 (k := 5) rfl
theorem dL_law_1315 : decode cL_law 1315 = .ok (.iadd, 1) := dget dh_587 (k := 6) rfl
theorem dL_law_1316 : decode cL_law 1316 = .ok (.iaload, 1) := dget dh_587 (k := 7) rfl
theorem dL_law_1317 : decode cL_law 1317 = .ok (.invokevirtual 124, 3) := dget dh_587 (k := 8) rfl
theorem dL_law_1320 : decode cL_law 1320 = .ok (.pop, 1) := dget dh_587 (k := 9) rfl
theorem dL_law_1321 : decode cL_law 1321 = .ok (.aload_n 2, 1) := dget dh_587 (k := 10) rfl
theorem dL_law_1322 : decode cL_law 1322 = .ok (.aload_n 0, 1) := dget dh_587 (k := 11) rfl
theorem dL_law_1323 : decode cL_law 1323 = .ok (.iload_n 3, 1) := dget dh_587 (k := 12) rfl
theorem dL_law_1324 : decode cL_law 1324 = .ok (.iconst 1, 1) := dget dh_587 (k := 13) rfl
theorem dL_law_1325 : decode cL_law 1325 = .ok (.iadd, 1) := dget dh_587 (k := 14) rfl
theorem dL_law_1326 : decode cL_law 1326 = .ok (.iaload, 1) := dget dh_587 (k := 15) rfl
theorem dL_law_1327 : decode cL_law 1327 = .ok (.aload_n 0, 1) := dget dh_587 (k := 16) rfl
theorem dL_law_1328 : decode cL_law 1328 = .ok (.iload_n 3, 1) := dget dh_587 (k := 17) rfl
theorem dL_law_1329 : decode cL_law 1329 = .ok (.iconst 2, 1) := dget dh_587 (k := 18) rfl
theorem dL_law_1330 : decode cL_law 1330 = .ok (.iadd, 1) := dget dh_587 (k := 19) rfl
def dl_588 : List (Nat × (Instr × Nat)) := [(1331, (.iaload, 1)), (1332, (.aload_n 0, 1)), (1333, (.iload_n 3, 1)), (1334, (.iconst 3, 1)), (1335, (.iadd, 1)), (1336, (.iaload, 1)), (1337, (.invokevirtual 127, 3)), (1340, (.pop, 1)), (1341, (.goto 184, 3)), (1344, (.aload_n 1, 1)), (1345, (.aload_n 0, 1)), (1346, (.iload_n 3, 1)), (1347, (.iconst 1, 1)), (1348, (.iadd, 1)), (1349, (.iaload, 1)), (1350, (.aload_n 0, 1)), (1351, (.iload_n 3, 1)), (1352, (.iconst 2, 1)), (1353, (.iadd, 1)), (1354, (.iaload, 1))]
theorem dh_588 : dchk cL_law dl_588 = true := by decide +kernel
theorem dL_law_1331 : decode cL_law 1331 = .ok (.iaload, 1) := dget dh_588 (k := 0) rfl
theorem dL_law_1332 : decode cL_law 1332 = .ok (.aload_n 0, 1) := dget dh_588 (k := 1) rfl
theorem dL_law_1333 : decode cL_law 1333 = .ok (.iload_n 3, 1) := dget dh_588 (k := 2) rfl
theorem dL_law_1334 : decode cL_law 1334 = .ok (.iconst 3, 1) := dget dh_588 (k := 3) rfl
theorem dL_law_1335 : decode cL_law 1335 = .ok (.iadd, 1) := dget dh_588 (k := 4) rfl
theorem dL_law_1336 : decode cL_law 1336 = .ok (.iaload, 1) := dget dh_588 (k := 5) rfl
theorem dL_law_1337 : decode cL_law 1337 = .ok (.invokevirtual 127, 3) := dget dh_588 (k := 6) rfl
theorem dL_law_1340 : decode cL_law 1340 = .ok (.pop, 1) := dget dh_588 (k := 7) rfl
theorem dL_law_1341 : decode cL_law 1341 = .ok (.goto 184, 3) := dget dh_588 (k := 8) rfl
theorem dL_law_1344 : decode cL_law 1344 = .ok (.aload_n 1, 1) := dget dh_588 (k := 9) rfl
theorem dL_law_1345 : decode cL_law 1345 = .ok (.aload_n 0, 1) := dget dh_588 (k := 10) rfl
theorem dL_law_1346 : decode cL_law 1346 = .ok (.iload_n 3, 1) := dget dh_588 (k := 11) rfl
theorem dL_law_1347 : decode cL_law 1347 = .ok (.iconst 1, 1) := dget dh_588 (k := 12) rfl
theorem dL_law_1348 : decode cL_law 1348 = .ok (.iadd, 1) := dget dh_588 (k := 13) rfl
theorem dL_law_1349 : decode cL_law 1349 = .ok (.iaload, 1) := dget dh_588 (k := 14) rfl
theorem dL_law_1350 : decode cL_law 1350 = .ok (.aload_n 0, 1) := dget dh_588 (k := 15) rfl
theorem dL_law_1351 : decode cL_law 1351 = .ok (.iload_n 3, 1) := dget dh_588 (k := 16) rfl
theorem dL_law_1352 : decode cL_law 1352 = .ok (.iconst 2, 1) := dget dh_588 (k := 17) rfl
theorem dL_law_1353 : decode cL_law 1353 = .ok (.iadd, 1) := dget dh_588 (k := 18) rfl
theorem dL_law_1354 : decode cL_law 1354 = .ok (.iaload, 1) := dget dh_588 (k := 19) rfl
def dl_589 : List (Nat × (Instr × Nat)) := [(1355, (.invokevirtual 128, 3)), (1358, (.pop, 1)), (1359, (.aload_n 2, 1)), (1360, (.aload_n 0, 1)), (1361, (.iload_n 3, 1)), (1362, (.iconst 1, 1)), (1363, (.iadd, 1)), (1364, (.iaload, 1)), (1365, (.aload_n 0, 1)), (1366, (.iload_n 3, 1)), (1367, (.iconst 2, 1)), (1368, (.iadd, 1)), (1369, (.iaload, 1)), (1370, (.invokevirtual 131, 3)), (1373, (.pop, 1)), (1374, (.goto 151, 3)), (1377, (.aload_n 1, 1)), (1378, (.aload_n 0, 1)), (1379, (.iload_n 3, 1)), (1380, (.iconst 1, 1))]
theorem dh_589 : dchk cL_law dl_589 = true := by decide +kernel
theorem dL_law_1355 : decode cL_law 1355 = .ok (.invokevirtual 128, 3) := dget dh_589 (k := 0) rfl
theorem dL_law_1358 : decode cL_law 1358 = .ok (.pop, 1) := dget dh_589 (k := 1) rfl
theorem dL_law_1359 : decode cL_law 1359 = .ok (.aload_n 2, 1) := dget dh_589 (k := 2) rfl
theorem dL_law_1360 : decode cL_law 1360 = .ok (.aload_n 0, 1) := dget dh_589 (k := 3) rfl
theorem dL_law_1361 : decode cL_law 1361 = .ok (.iload_n 3, 1) := dget dh_589 (k := 4) rfl
theorem dL_law_1362 : decode cL_law 1362 = .ok (.iconst 1, 1) := dget dh_589 (k := 5) rfl
theorem dL_law_1363 : decode cL_law 1363 = .ok (.iadd, 1) := dget dh_589 (k := 6) rfl
theorem dL_law_1364 : decode cL_law 1364 = .ok (.iaload, 1) := dget dh_589 (k := 7) rfl
theorem dL_law_1365 : decode cL_law 1365 = .ok (.aload_n 0, 1) := dget dh_589 (k := 8) rfl
theorem dL_law_1366 : decode cL_law 1366 = .ok (.iload_n 3, 1) := dget dh_589 (k := 9) rfl
theorem dL_law_1367 : decode cL_law 1367 = .ok (.iconst 2, 1) := dget dh_589 (k := 10) rfl
theorem dL_law_1368 : decode cL_law 1368 = .ok (.iadd, 1) := dget dh_589 (k := 11) rfl
theorem dL_law_1369 : decode cL_law 1369 = .ok (.iaload, 1) := dget dh_589 (k := 12) rfl
theorem dL_law_1370 : decode cL_law 1370 = .ok (.invokevirtual 131, 3) := dget dh_589 (k := 13) rfl
theorem dL_law_1373 : decode cL_law 1373 = .ok (.pop, 1) := dget dh_589 (k := 14) rfl
theorem dL_law_1374 : decode cL_law 1374 = .ok (.goto 151, 3) := dget dh_589 (k := 15) rfl
theorem dL_law_1377 : decode cL_law 1377 = .ok (.aload_n 1, 1) := dget dh_589 (k := 16) rfl
theorem dL_law_1378 : decode cL_law 1378 = .ok (.aload_n 0, 1) := dget dh_589 (k := 17) rfl
theorem dL_law_1379 : decode cL_law 1379 = .ok (.iload_n 3, 1) := dget dh_589 (k := 18) rfl
theorem dL_law_1380 : decode cL_law 1380 = .ok (.iconst 1, 1) := dget dh_589 (k := 19) rfl
def dl_590 : List (Nat × (Instr × Nat)) := [(1381, (.iadd, 1)), (1382, (.iaload, 1)), (1383, (.invokevirtual 132, 3)), (1386, (.pop, 1)), (1387, (.aload_n 2, 1)), (1388, (.aload_n 0, 1)), (1389, (.iload_n 3, 1)), (1390, (.iconst 1, 1)), (1391, (.iadd, 1)), (1392, (.iaload, 1)), (1393, (.invokevirtual 135, 3)), (1396, (.pop, 1)), (1397, (.goto 128, 3)), (1433, (.aload_n 1, 1)), (1434, (.invokevirtual 140, 3)), (1437, (.pop, 1)), (1438, (.aload_n 2, 1)), (1439, (.invokevirtual 144, 3)), (1442, (.pop, 1)), (1443, (.goto 82, 3))]
theorem dh_590 : dchk cL_law dl_590 = true := by decide +kernel
theorem dL_law_1381 : decode cL_law 1381 = .ok (.iadd, 1) := dget dh_590 (k := 0) rfl
theorem dL_law_1382 : decode cL_law 1382 = .ok (.iaload, 1) := dget dh_590 (k := 1) rfl
theorem dL_law_1383 : decode cL_law 1383 = .ok (.invokevirtual 132, 3) := dget dh_590 (k := 2) rfl
theorem dL_law_1386 : decode cL_law 1386 = .ok (.pop, 1) := dget dh_590 (k := 3) rfl
theorem dL_law_1387 : decode cL_law 1387 = .ok (.aload_n 2, 1) := dget dh_590 (k := 4) rfl
theorem dL_law_1388 : decode cL_law 1388 = .ok (.aload_n 0, 1) := dget dh_590 (k := 5) rfl
theorem dL_law_1389 : decode cL_law 1389 = .ok (.iload_n 3, 1) := dget dh_590 (k := 6) rfl
theorem dL_law_1390 : decode cL_law 1390 = .ok (.iconst 1, 1) := dget dh_590 (k := 7) rfl
theorem dL_law_1391 : decode cL_law 1391 = .ok (.iadd, 1) := dget dh_590 (k := 8) rfl
theorem dL_law_1392 : decode cL_law 1392 = .ok (.iaload, 1) := dget dh_590 (k := 9) rfl
theorem dL_law_1393 : decode cL_law 1393 = .ok (.invokevirtual 135, 3) := dget dh_590 (k := 10) rfl
theorem dL_law_1396 : decode cL_law 1396 = .ok (.pop, 1) := dget dh_590 (k := 11) rfl
theorem dL_law_1397 : decode cL_law 1397 = .ok (.goto 128, 3) := dget dh_590 (k := 12) rfl
theorem dL_law_1433 : decode cL_law 1433 = .ok (.aload_n 1, 1) := dget dh_590 (k := 13) rfl
theorem dL_law_1434 : decode cL_law 1434 = .ok (.invokevirtual 140, 3) := dget dh_590 (k := 14) rfl
theorem dL_law_1437 : decode cL_law 1437 = .ok (.pop, 1) := dget dh_590 (k := 15) rfl
theorem dL_law_1438 : decode cL_law 1438 = .ok (.aload_n 2, 1) := dget dh_590 (k := 16) rfl
theorem dL_law_1439 : decode cL_law 1439 = .ok (.invokevirtual 144, 3) := dget dh_590 (k := 17) rfl
theorem dL_law_1442 : decode cL_law 1442 = .ok (.pop, 1) := dget dh_590 (k := 18) rfl
theorem dL_law_1443 : decode cL_law 1443 = .ok (.goto 82, 3) := dget dh_590 (k := 19) rfl
def dl_591 : List (Nat × (Instr × Nat)) := [(1446, (.aload_n 1, 1)), (1447, (.invokevirtual 145, 3)), (1450, (.pop, 1)), (1451, (.aload_n 2, 1)), (1452, (.invokevirtual 149, 3)), (1455, (.pop, 1)), (1456, (.goto 69, 3)), (1459, (.aload_n 1, 1)), (1460, (.aload_n 0, 1)), (1461, (.iload_n 3, 1)), (1462, (.iconst 1, 1)), (1463, (.iadd, 1)), (1464, (.iaload, 1)), (1465, (.aload_n 0, 1)), (1466, (.iload_n 3, 1)), (1467, (.iconst 2, 1)), (1468, (.iadd, 1)), (1469, (.iaload, 1)), (1470, (.aload_n 0, 1)), (1471, (.iload_n 3, 1))]
theorem dh_591 : dchk cL_law dl_591 = true := by decide +kernel
theorem dL_law_1446 : decode cL_law 1446 = .ok (.aload_n 1, 1) := dget dh_591 (k := 0) rfl
theorem dL_law_1447 : decode cL_law 1447 = .ok (.invokevirtual 145, 3) := dget dh_591 (k := 1) rfl
theorem dL_law_1450 : decode cL_law 1450 = .ok (.pop, 1) := dget dh_591 (k := 2) rfl
theorem dL_law_1451 : decode cL_law 1451 = .ok (.aload_n 2, 1) := dget dh_591 (k := 3) rfl
theorem dL_law_1452 : decode cL_law 1452 = .ok (.invokevirtual 149, 3) := dget dh_591 (k := 4) rfl
theorem dL_law_1455 : decode cL_law 1455 = .ok (.pop, 1) := dget dh_591 (k := 5) rfl
theorem dL_law_1456 : decode cL_law 1456 = .ok (.goto 69, 3) := dget dh_591 (k := 6) rfl
theorem dL_law_1459 : decode cL_law 1459 = .ok (.aload_n 1, 1) := dget dh_591 (k := 7) rfl
theorem dL_law_1460 : decode cL_law 1460 = .ok (.aload_n 0, 1) := dget dh_591 (k := 8) rfl
theorem dL_law_1461 : decode cL_law 1461 = .ok (.iload_n 3, 1) := dget dh_591 (k := 9) rfl
theorem dL_law_1462 : decode cL_law 1462 = .ok (.iconst 1, 1) := dget dh_591 (k := 10) rfl
theorem dL_law_1463 : decode cL_law 1463 = .ok (.iadd, 1) := dget dh_591 (k := 11) rfl
theorem dL_law_1464 : decode cL_law 1464 = .ok (.iaload, 1) := dget dh_591 (k := 12) rfl
theorem dL_law_1465 : decode cL_law 1465 = .ok (.aload_n 0, 1) := dget dh_591 (k := 13) rfl
theorem dL_law_1466 : decode cL_law 1466 = .ok (.iload_n 3, 1) := dget dh_591 (k := 14) rfl
theorem dL_law_1467 : decode cL_law 1467 = .ok (.iconst 2, 1) := dget dh_591 (k := 15) rfl
theorem dL_law_1468 : decode cL_law 1468 = .ok (.iadd, 1) := dget dh_591 (k := 16) rfl
theorem dL_law_1469 : decode cL_law 1469 = .ok (.iaload, 1) := dget dh_591 (k := 17) rfl
theorem dL_law_1470 : decode cL_law 1470 = .ok (.aload_n 0, 1) := dget dh_591 (k := 18) rfl
theorem dL_law_1471 : decode cL_law 1471 = .ok (.iload_n 3, 1) := dget dh_591 (k := 19) rfl
def dl_592 : List (Nat × (Instr × Nat)) := [(1472, (.iconst 3, 1)), (1473, (.iadd, 1)), (1474, (.iaload, 1)), (1475, (.invokevirtual 150, 3)), (1478, (.pop, 1)), (1479, (.aload_n 2, 1)), (1480, (.aload_n 0, 1)), (1481, (.iload_n 3, 1)), (1482, (.iconst 1, 1)), (1483, (.iadd, 1)), (1484, (.iaload, 1)), (1485, (.aload_n 0, 1)), (1486, (.iload_n 3, 1)), (1487, (.iconst 2, 1)), (1488, (.iadd, 1)), (1489, (.iaload, 1)), (1490, (.aload_n 0, 1)), (1491, (.iload_n 3, 1)), (1492, (.iconst 3, 1)), (1493, (.iadd, 1))]
theorem dh_592 : dchk cL_law dl_592 = true := by decide +kernel
theorem dL_law_1472 : decode cL_law 1472 = .ok (.iconst 3, 1) := dget dh_592 (k := 0) rfl
theorem dL_law_1473 : decode cL_law 1473 = .ok (.iadd, 1) := dget dh_592 (k := 1) rfl
theorem dL_law_1474 : decode cL_law 1474 = .ok (.iaload, 1) := dget dh_592 (k := 2) rfl
theorem dL_law_1475 : decode cL_law 1475 = .ok (.invokevirtual 150, 3) := dget dh_592 (k := 3) rfl
theorem dL_law_1478 : decode cL_law 1478 = .ok (.pop, 1) := dget dh_592 (k := 4) rfl
theorem dL_law_1479 : decode cL_law 1479 = .ok (.aload_n 2, 1) := dget dh_592 (k := 5) rfl
theorem dL_law_1480 : decode cL_law 1480 = .ok (.aload_n 0, 1) := dget dh_592 (k := 6) rfl
theorem dL_law_1481 : decode cL_law 1481 = .ok (.iload_n 3, 1) := dget dh_592 (k := 7) rfl
theorem dL_law_1482 : decode cL_law 1482 = .ok (.iconst 1, 1) := dget dh_592 (k := 8) rfl
theorem dL_law_1483 : decode cL_law 1483 = .ok (.iadd, 1) := dget dh_592 (k := 9) rfl
theorem dL_law_1484 : decode cL_law 1484 = .ok (.iaload, 1) := dget dh_592 (k := 10) rfl
theorem dL_law_1485 : decode cL_law 1485 = .ok (.aload_n 0, 1) := dget dh_592 (k := 11) rfl
theorem dL_law_1486 : decode cL_law 1486 = .ok (.iload_n 3, 1) := dget dh_592 (k := 12) rfl
theorem dL_law_1487 : decode cL_law 1487 = .ok (.iconst 2, 1) := dget dh_592 (k := 13) rfl
theorem dL_law_1488 : decode cL_law 1488 = .ok (.iadd, 1) := dget dh_592 (k := 14) rfl
theorem dL_law_1489 : decode cL_law 1489 = .ok (.iaload, 1) := dget dh_592 (k := 15) rfl
theorem dL_law_1490 : decode cL_law 1490 = .ok (.aload_n 0, 1) := dget dh_592 (k := 16) rfl
theorem dL_law_1491 : decode cL_law 1491 = .ok (.iload_n 3, 1) := dget dh_592 (k := 17) rfl
theorem dL_law_1492 : decode cL_law 1492 = .ok (.iconst 3, 1) := dget dh_592 (k := 18) rfl
theorem dL_law_1493 : decode cL_law 1493 = .ok (.iadd, 1) := dget dh_592 (k := 19) rfl
def dl_593 : List (Nat × (Instr × Nat)) := [(1494, (.iaload, 1)), (1495, (.invokevirtual 153, 3)), (1498, (.pop, 1)), (1499, (.goto 26, 3))]
theorem dh_593 : dchk cL_law dl_593 = true := by decide +kernel
theorem dL_law_1494 : decode cL_law 1494 = .ok (.iaload, 1) := dget dh_593 (k := 0) rfl
theorem dL_law_1495 : decode cL_law 1495 = .ok (.invokevirtual 153, 3) := dget dh_593 (k := 1) rfl
theorem dL_law_1498 : decode cL_law 1498 = .ok (.pop, 1) := dget dh_593 (k := 2) rfl
theorem dL_law_1499 : decode cL_law 1499 = .ok (.goto 26, 3) := dget dh_593 (k := 3) rfl
set_option maxHeartbeats 4000000 in
set_option maxRecDepth 100000 in
theorem lc_14 {p : Program} {l : Launch} {e : Env} {s : State} {m : MethodId} {below : List Frame} {meth : Method} {c : Code} {b L : Nat} {xs : Nat → Int32} (C0 : lw_At p s m meth c b L xs) {D : va_G} {cy : Nat → ClassId} {kq vq : Nat} {A : Nat → Prop} (hA : ∀ q, s.heap.size ≤ q → A q) (hbA : ¬ A b) (hK : va_K D vwCl (vT cy) s) (hn : nw s) (hm0 : nm s) (hsk : vk_R RX6 101 "krsoamngcv" kq s ∧ sA kq vq A s s.heap) {a : Nat → Nat} {i : Nat → Int32} {r : Nat → Nat → Int32} {q : Nat → Option Nat} {gb : Nat → Nat → Nat} {gi : Nat → Nat → Int32} {gr : Nat → Nat → Nat → Int32} {nh : Nat} {am : Nat → Nat} {im : Nat → Int32} {rm : Nat → Nat → Int32} {lm : Nat → Int64} (hLX : LX i r q gb gi gr nh) (hLM : LM im rm) (hLR : LR i r gi gr nh im rm) {H : Heap} {locs : List Loc} (hP : va_P D vwCl (xW cy a i r q (a 20) (a 12) ++ (HL cy gb gi gr nh ++ (mW cy am im rm lm))) H) (hD : va_D A (xW cy a i r q (a 20) (a 12) ++ (HL cy gb gi gr nh ++ (mW cy am im rm lm)))) (hS : va_S A s.heap H locs) {ls : Array Slot} {x : Int32} (hl : lv_has ls 4 [(0, .ref b), (1, .ref (a 0)), (2, .ref (am 0)), (3, .int x)]) {j : Nat} (hj : 7 * j + 7 ≤ L) (hL : L ≤ 3584) (hxj : x = nI (7 * j)) {ce sl : Nat} (hce : ce + 15 ≤ 600000) (hsl : sl + 215 ≤ 7302250) (kk : ∀ (a2 : Nat → Nat) (i2 : Nat → Int32) (r2 : Nat → Nat → Int32) (q2 : Nat → Option Nat) (gb2 : Nat → Nat → Nat) (gi2 : Nat → Nat → Int32) (gr2 : Nat → Nat → Nat → Int32) (nh2 : Nat) (im2 : Nat → Int32) (rm2 : Nat → Nat → Int32) (lm2 : Nat → Int64) (H2 : Heap) (locs2 : List Loc) (ls2 : Array Slot), a2 0 = a 0 → LX i2 r2 q2 gb2 gi2 gr2 nh2 → LM im2 rm2 → LR i2 r2 gi2 gr2 nh2 im2 rm2 → va_P D vwCl (xW cy a2 i2 r2 q2 (a2 20) (a2 12) ++ (HL cy gb2 gi2 gr2 nh2 ++ (mW cy am im2 rm2 lm2))) H2 → va_D A (xW cy a2 i2 r2 q2 (a2 20) (a2 12) ++ (HL cy gb2 gi2 gr2 nh2 ++ (mW cy am im2 rm2 lm2))) → va_S A s.heap H2 locs2 → lv_has ls2 4 [(0, .ref b), (1, .ref (a 0)), (2, .ref (am 0)), (3, .int x)] → W p l e room_1 s m #[Value.ref b] below meth c H2 locs2 (ce + 15) (sl + 215) (lw_Z below #[Value.ref b] s) (F0 m 1525 ls2 [])) : W p l e room_1 s m #[Value.ref b] below meth c H locs ce sl (lw_Z below #[Value.ref b] s) (F0 m 850 ls []) := by
  obtain ⟨hx, hb, hr, hml, hown, hts, hX, hbl, hlocks, hgv⟩ := id C0
  have hT : ∀ w ∈ gT, w.before _ s = true := fun w h => hts w (gT_in w h)
  have hx0 : x.toInt = ((7 * j : Nat) : Int) := by rw [hxj]; exact nI_toInt (by omega)
  have hLX0 := hLX
  have hLM0 := hLM
  refine lv_aload_n hx hb dL_law_850 rfl (lv_at hl 1 rfl) ?_
  refine lv_aload_n hx hb dL_law_851 rfl (lv_at hl 0 rfl) ?_
  refine lv_iload_n hx hb dL_law_852 rfl (lv_at hl 3 rfl) ?_
  refine lv_iconst (v := 1) hx hb dL_law_853 (by decide) ?_
  refine lv_iadd hx hb dL_law_854 ?_
  refine lv_topi (fun v_1 ev_1 => ?_)
  have hv_1 : v_1.toInt = x.toInt + 1 := by rw [ev_1]; have := b_rg x; exact i_add (a := x.toInt) (b := 1) rfl rfl (by omega) (by omega)
  refine va_sld hx hb hX hbl hbA hS (vp_inI (by omega) (by omega)) dL_law_855 ?_
  refine lv_topi (fun v_2 ev_2 => ?_)
  obtain rfl : v_2 = xs (7 * j + 1) := ev_2.trans (congrArg xs (nI_ix hxj (by omega) (by omega)))
  refine lv_aload_n hx hb dL_law_856 rfl (lv_at hl 0 rfl) ?_
  refine lv_iload_n hx hb dL_law_857 rfl (lv_at hl 3 rfl) ?_
  refine lv_iconst (v := 2) hx hb dL_law_858 (by decide) ?_
  refine lv_iadd hx hb dL_law_859 ?_
  refine lv_topi (fun v_3 ev_3 => ?_)
  have hv_3 : v_3.toInt = x.toInt + 2 := by rw [ev_3]; have := b_rg x; exact i_add (a := x.toInt) (b := 2) rfl rfl (by omega) (by omega)
  refine va_sld hx hb hX hbl hbA hS (vp_inI (by omega) (by omega)) dL_law_860 ?_
  refine lv_topi (fun v_4 ev_4 => ?_)
  obtain rfl : v_4 = xs (7 * j + 2) := ev_4.trans (congrArg xs (nI_ix hxj (by omega) (by omega)))
  refine lv_aload_n hx hb dL_law_861 rfl (lv_at hl 0 rfl) ?_
  refine lv_iload_n hx hb dL_law_862 rfl (lv_at hl 3 rfl) ?_
  refine lv_iconst (v := 3) hx hb dL_law_863 (by decide) ?_
  refine lv_iadd hx hb dL_law_864 ?_
  refine lv_topi (fun v_5 ev_5 => ?_)
  have hv_5 : v_5.toInt = x.toInt + 3 := by rw [ev_5]; have := b_rg x; exact i_add (a := x.toInt) (b := 3) rfl rfl (by omega) (by omega)
  refine va_sld hx hb hX hbl hbA hS (vp_inI (by omega) (by omega)) dL_law_865 ?_
  refine lv_topi (fun v_6 ev_6 => ?_)
  obtain rfl : v_6 = xs (7 * j + 3) := ev_6.trans (congrArg xs (nI_ix hxj (by omega) (by omega)))
  refine lv_if_eq (tgt := 873) hx hb dL_law_866 (by decide) (fun c_7 => ?_) (fun c_7 => ?_)
  · have c_7 : (xs (7 * j + 3)).toInt = 0 := b_eq c_7
    refine lv_iconst (v := 0) hx hb dL_law_873 (by decide) ?_
    have hRi := hLX.1.1
    have hRr := hLX.1.2
    have hF_8 := rF hD hS hA
    refine va_calli (va_runV (As := [.int (xs (7 * j + 1)), .int (xs (7 * j + 2)), .int 0]) (rest := []) ⟨hx, hb, hml, hown, hT⟩ (c_X11_answer l D cy a i r q (HL cy gb gi gr nh ++ (mW cy am im rm lm)) (xs (7 * j + 1)) (xs (7 * j + 2)) 0 _ hRi hRr) (cwV 3 hT (gV t_1013 t_1014 t_1015 t_1016 t_2) rfl rfl rfl (by decide +kernel) ⟨Nat.le_of_ble_eq_true rfl, Nat.le_of_ble_eq_true rfl⟩) (rQ_v hP hK hD (va_recv hK hP (ci := 11) (q0 := 0) rfl rfl)) rfl rfl hl.1 rfl (lv_room (Nat.le_of_ble_eq_true rfl)) dL_law_874 ⟨by show _ ≤ (600000 : Nat); omega, by show _ ≤ (7302250 : Nat); omega⟩) hS (fun q _ h => hF_8 q h) hF_8 (fun r_9 u_10 t H1 locs ht hvm hr_9 hB hz1 hk1 hS => ?_)
    obtain ⟨r10, rfl⟩ : ∃ z, z = u_10 := ⟨_, rfl⟩
    obtain ⟨hP, hK1, hD1⟩ := hB
    rw [ht] at hP
    have hD := hD1.weaken (fun k q _ h => hF_8 q.1 h)
    obtain ⟨hRr, hE2, hr_9⟩ := hr_9
    have hRr : yRr r10 := hRr
    have hE2 : mEr [36, 37] r r10 := hE2
    have hP : va_P D vwCl (xW cy a i r10 q (a 20) (a 12) ++ (HL cy gb gi gr nh ++ (mW cy am im rm lm))) H1 := hP
    have hD : va_D A (xW cy a i r10 q (a 20) (a 12) ++ (HL cy gb gi gr nh ++ (mW cy am im rm lm))) := hD
    have hLX := LX_x hLX hRi hRr rfl
    have hCX := CX_x (gi := gi) (gr := gr) (nh := nh) (Ei_rf (T := []) (i := i)) hE2
    refine lv_pop hx hb dL_law_877 rfl ?_
    refine lv_aload_n hx hb dL_law_878 rfl (lv_at hl 2 rfl) ?_
    refine lv_aload_n hx hb dL_law_879 rfl (lv_at hl 0 rfl) ?_
    refine lv_iload_n hx hb dL_law_880 rfl (lv_at hl 3 rfl) ?_
    refine lv_iconst (v := 1) hx hb dL_law_881 (by decide) ?_
    refine lv_iadd hx hb dL_law_882 ?_
    refine lv_topi (fun v_11 ev_11 => ?_)
    have hv_11 : v_11.toInt = x.toInt + 1 := by rw [ev_11]; have := b_rg x; exact i_add (a := x.toInt) (b := 1) rfl rfl (by omega) (by omega)
    refine va_sld hx hb hX hbl hbA hS (vp_inI (by omega) (by omega)) dL_law_883 ?_
    refine lv_topi (fun v_12 ev_12 => ?_)
    obtain rfl : v_12 = xs (7 * j + 1) := ev_12.trans (congrArg xs (nI_ix hxj (by omega) (by omega)))
    refine lv_aload_n hx hb dL_law_884 rfl (lv_at hl 0 rfl) ?_
    refine lv_iload_n hx hb dL_law_885 rfl (lv_at hl 3 rfl) ?_
    refine lv_iconst (v := 2) hx hb dL_law_886 (by decide) ?_
    refine lv_iadd hx hb dL_law_887 ?_
    refine lv_topi (fun v_13 ev_13 => ?_)
    have hv_13 : v_13.toInt = x.toInt + 2 := by rw [ev_13]; have := b_rg x; exact i_add (a := x.toInt) (b := 2) rfl rfl (by omega) (by omega)
    refine va_sld hx hb hX hbl hbA hS (vp_inI (by omega) (by omega)) dL_law_888 ?_
    refine lv_topi (fun v_14 ev_14 => ?_)
    obtain rfl : v_14 = xs (7 * j + 2) := ev_14.trans (congrArg xs (nI_ix hxj (by omega) (by omega)))
    refine lv_aload_n hx hb dL_law_889 rfl (lv_at hl 0 rfl) ?_
    refine lv_iload_n hx hb dL_law_890 rfl (lv_at hl 3 rfl) ?_
    refine lv_iconst (v := 3) hx hb dL_law_891 (by decide) ?_
    refine lv_iadd hx hb dL_law_892 ?_
    refine lv_topi (fun v_15 ev_15 => ?_)
    have hv_15 : v_15.toInt = x.toInt + 3 := by rw [ev_15]; have := b_rg x; exact i_add (a := x.toInt) (b := 3) rfl rfl (by omega) (by omega)
    refine va_sld hx hb hX hbl hbA hS (vp_inI (by omega) (by omega)) dL_law_893 ?_
    refine lv_topi (fun v_16 ev_16 => ?_)
    obtain rfl : v_16 = xs (7 * j + 3) := ev_16.trans (congrArg xs (nI_ix hxj (by omega) (by omega)))
    refine lv_if_eq (tgt := 901) hx hb dL_law_894 (by decide) (fun c_17 => ?_) (fun c_17 => by have c_17 : (xs (7 * j + 3)).toInt ≠ 0 := b_ne c_17; omega)
    have c_17 : (xs (7 * j + 3)).toInt = 0 := b_eq c_17
    refine lv_iconst (v := 0) hx hb dL_law_901 (by decide) ?_
    have hPa := hP
    have hDa := hD
    have hP := vaP_r (vaP_r hPa)
    have hD := vaD_r (vaD_r hDa)
    have hRi := hLM.1
    have hRr := hLM.2.1
    have hE := hLM.2.2
    have hF_18 := rF hD hS hA
    refine va_calli (va_runV (As := [.int (xs (7 * j + 1)), .int (xs (7 * j + 2)), .int 0]) (rest := []) ⟨hx, hb, hml, hown, hT⟩ (c_X12_answer l D cy am im rm lm (xs (7 * j + 1)) (xs (7 * j + 2)) 0 _ hRi hRr) (cwV 3 hT (gV t_1017 t_1018 t_1019 t_1020 t_6) rfl rfl rfl (by decide +kernel) ⟨Nat.le_of_ble_eq_true rfl, Nat.le_of_ble_eq_true rfl⟩) (rQ_v hP hK hD (va_recv hK hP (ci := 12) (q0 := 0) rfl rfl)) rfl rfl hl.1 rfl (lv_room (Nat.le_of_ble_eq_true rfl)) dL_law_902 ⟨by show _ ≤ (600000 : Nat); omega, by show _ ≤ (7302250 : Nat); omega⟩) hS (fun q _ h => hF_18 q h) hF_18 (fun r_19 u_20 t H1 locs ht hvm hr_19 hB hz1 hk1 hS => ?_)
    obtain ⟨r20, rfl⟩ : ∃ z, z = u_20 := ⟨_, rfl⟩
    obtain ⟨hP, hK1, hD1⟩ := hB
    rw [ht] at hP
    have hD := hD1.weaken (fun k q _ h => hF_18 q.1 h)
    have hP : va_P D vwCl (mW cy am im r20 lm) H1 := hP
    have hD : va_D A (mW cy am im r20 lm) := hD
    obtain ⟨hRr, hE2, hr_19⟩ := hr_19
    have hRr : mRr r20 := hRr
    obtain ⟨hP, hD⟩ := joinM hPa hDa hk1 hP rfl
    have hLM : LM im r20 := ⟨hRi, hRr, (mE_same (Ei_rf (T := [])) hE2 (by decide) (by decide) hE)⟩
    have hMI : mEi [] im im := Ei_rf
    have hMR : mEr [46, 47] rm r20 := hE2
    obtain ⟨hL1, hL2, hL3⟩ := id hLR
    obtain ⟨kH, kK, kN, kX, kY, _⟩ := id hL1
    have hLR : LR i r10 gi gr nh im r20 := ⟨LR1_same hL1 hMI hMR hCX (by decide) (by decide) (by decide) (by decide), LR2_same hL2 hMI hMR hCX (by decide) (by decide) (by decide) (by decide), LR3_same hL3 hMI hMR hCX (by decide) (by decide) (by decide) (by decide)⟩
    refine lv_pop hx hb dL_law_905 rfl ?_
    refine lv_goto (tgt := 1525) hx hb dL_law_906 (by decide) ?_
    refine W.widen (k := ce + 15) (n := sl + 215) (by omega) (by omega) ?_
    exact kk a _ _ _ _ _ _ _ _ _ _ _ _ _ rfl hLX hLM hLR hP hD hS (lv_sub hl [0, 1, 2, 3] rfl)
  · have c_7 : (xs (7 * j + 3)).toInt ≠ 0 := b_ne c_7
    refine lv_iconst (v := 1) hx hb dL_law_869 (by decide) ?_
    refine lv_goto (tgt := 874) hx hb dL_law_870 (by decide) ?_
    have hRi := hLX.1.1
    have hRr := hLX.1.2
    have hF_21 := rF hD hS hA
    refine va_calli (va_runV (As := [.int (xs (7 * j + 1)), .int (xs (7 * j + 2)), .int 1]) (rest := []) ⟨hx, hb, hml, hown, hT⟩ (c_X11_answer l D cy a i r q (HL cy gb gi gr nh ++ (mW cy am im rm lm)) (xs (7 * j + 1)) (xs (7 * j + 2)) 1 _ hRi hRr) (cwV 3 hT (gV t_1013 t_1014 t_1015 t_1016 t_2) rfl rfl rfl (by decide +kernel) ⟨Nat.le_of_ble_eq_true rfl, Nat.le_of_ble_eq_true rfl⟩) (rQ_v hP hK hD (va_recv hK hP (ci := 11) (q0 := 0) rfl rfl)) rfl rfl hl.1 rfl (lv_room (Nat.le_of_ble_eq_true rfl)) dL_law_874 ⟨by show _ ≤ (600000 : Nat); omega, by show _ ≤ (7302250 : Nat); omega⟩) hS (fun q _ h => hF_21 q h) hF_21 (fun r_22 u_23 t H1 locs ht hvm hr_22 hB hz1 hk1 hS => ?_)
    obtain ⟨r23, rfl⟩ : ∃ z, z = u_23 := ⟨_, rfl⟩
    obtain ⟨hP, hK1, hD1⟩ := hB
    rw [ht] at hP
    have hD := hD1.weaken (fun k q _ h => hF_21 q.1 h)
    obtain ⟨hRr, hE2, hr_22⟩ := hr_22
    have hRr : yRr r23 := hRr
    have hE2 : mEr [36, 37] r r23 := hE2
    have hP : va_P D vwCl (xW cy a i r23 q (a 20) (a 12) ++ (HL cy gb gi gr nh ++ (mW cy am im rm lm))) H1 := hP
    have hD : va_D A (xW cy a i r23 q (a 20) (a 12) ++ (HL cy gb gi gr nh ++ (mW cy am im rm lm))) := hD
    have hLX := LX_x hLX hRi hRr rfl
    have hCX := CX_x (gi := gi) (gr := gr) (nh := nh) (Ei_rf (T := []) (i := i)) hE2
    refine lv_pop hx hb dL_law_877 rfl ?_
    refine lv_aload_n hx hb dL_law_878 rfl (lv_at hl 2 rfl) ?_
    refine lv_aload_n hx hb dL_law_879 rfl (lv_at hl 0 rfl) ?_
    refine lv_iload_n hx hb dL_law_880 rfl (lv_at hl 3 rfl) ?_
    refine lv_iconst (v := 1) hx hb dL_law_881 (by decide) ?_
    refine lv_iadd hx hb dL_law_882 ?_
    refine lv_topi (fun v_24 ev_24 => ?_)
    have hv_24 : v_24.toInt = x.toInt + 1 := by rw [ev_24]; have := b_rg x; exact i_add (a := x.toInt) (b := 1) rfl rfl (by omega) (by omega)
    refine va_sld hx hb hX hbl hbA hS (vp_inI (by omega) (by omega)) dL_law_883 ?_
    refine lv_topi (fun v_25 ev_25 => ?_)
    obtain rfl : v_25 = xs (7 * j + 1) := ev_25.trans (congrArg xs (nI_ix hxj (by omega) (by omega)))
    refine lv_aload_n hx hb dL_law_884 rfl (lv_at hl 0 rfl) ?_
    refine lv_iload_n hx hb dL_law_885 rfl (lv_at hl 3 rfl) ?_
    refine lv_iconst (v := 2) hx hb dL_law_886 (by decide) ?_
    refine lv_iadd hx hb dL_law_887 ?_
    refine lv_topi (fun v_26 ev_26 => ?_)
    have hv_26 : v_26.toInt = x.toInt + 2 := by rw [ev_26]; have := b_rg x; exact i_add (a := x.toInt) (b := 2) rfl rfl (by omega) (by omega)
    refine va_sld hx hb hX hbl hbA hS (vp_inI (by omega) (by omega)) dL_law_888 ?_
    refine lv_topi (fun v_27 ev_27 => ?_)
    obtain rfl : v_27 = xs (7 * j + 2) := ev_27.trans (congrArg xs (nI_ix hxj (by omega) (by omega)))
    refine lv_aload_n hx hb dL_law_889 rfl (lv_at hl 0 rfl) ?_
    refine lv_iload_n hx hb dL_law_890 rfl (lv_at hl 3 rfl) ?_
    refine lv_iconst (v := 3) hx hb dL_law_891 (by decide) ?_
    refine lv_iadd hx hb dL_law_892 ?_
    refine lv_topi (fun v_28 ev_28 => ?_)
    have hv_28 : v_28.toInt = x.toInt + 3 := by rw [ev_28]; have := b_rg x; exact i_add (a := x.toInt) (b := 3) rfl rfl (by omega) (by omega)
    refine va_sld hx hb hX hbl hbA hS (vp_inI (by omega) (by omega)) dL_law_893 ?_
    refine lv_topi (fun v_29 ev_29 => ?_)
    obtain rfl : v_29 = xs (7 * j + 3) := ev_29.trans (congrArg xs (nI_ix hxj (by omega) (by omega)))
    refine lv_if_eq (tgt := 901) hx hb dL_law_894 (by decide) (fun c_30 => absurd (show (xs (7 * j + 3)).toInt = 0 from b_eq c_30) c_7) (fun c_30 => ?_)
    refine lv_iconst (v := 1) hx hb dL_law_897 (by decide) ?_
    refine lv_goto (tgt := 902) hx hb dL_law_898 (by decide) ?_
    have hPa := hP
    have hDa := hD
    have hP := vaP_r (vaP_r hPa)
    have hD := vaD_r (vaD_r hDa)
    have hRi := hLM.1
    have hRr := hLM.2.1
    have hE := hLM.2.2
    have hF_31 := rF hD hS hA
    refine va_calli (va_runV (As := [.int (xs (7 * j + 1)), .int (xs (7 * j + 2)), .int 1]) (rest := []) ⟨hx, hb, hml, hown, hT⟩ (c_X12_answer l D cy am im rm lm (xs (7 * j + 1)) (xs (7 * j + 2)) 1 _ hRi hRr) (cwV 3 hT (gV t_1017 t_1018 t_1019 t_1020 t_6) rfl rfl rfl (by decide +kernel) ⟨Nat.le_of_ble_eq_true rfl, Nat.le_of_ble_eq_true rfl⟩) (rQ_v hP hK hD (va_recv hK hP (ci := 12) (q0 := 0) rfl rfl)) rfl rfl hl.1 rfl (lv_room (Nat.le_of_ble_eq_true rfl)) dL_law_902 ⟨by show _ ≤ (600000 : Nat); omega, by show _ ≤ (7302250 : Nat); omega⟩) hS (fun q _ h => hF_31 q h) hF_31 (fun r_32 u_33 t H1 locs ht hvm hr_32 hB hz1 hk1 hS => ?_)
    obtain ⟨r33, rfl⟩ : ∃ z, z = u_33 := ⟨_, rfl⟩
    obtain ⟨hP, hK1, hD1⟩ := hB
    rw [ht] at hP
    have hD := hD1.weaken (fun k q _ h => hF_31 q.1 h)
    have hP : va_P D vwCl (mW cy am im r33 lm) H1 := hP
    have hD : va_D A (mW cy am im r33 lm) := hD
    obtain ⟨hRr, hE2, hr_32⟩ := hr_32
    have hRr : mRr r33 := hRr
    obtain ⟨hP, hD⟩ := joinM hPa hDa hk1 hP rfl
    have hLM : LM im r33 := ⟨hRi, hRr, (mE_same (Ei_rf (T := [])) hE2 (by decide) (by decide) hE)⟩
    have hMI : mEi [] im im := Ei_rf
    have hMR : mEr [46, 47] rm r33 := hE2
    obtain ⟨hL1, hL2, hL3⟩ := id hLR
    obtain ⟨kH, kK, kN, kX, kY, _⟩ := id hL1
    have hLR : LR i r23 gi gr nh im r33 := ⟨LR1_same hL1 hMI hMR hCX (by decide) (by decide) (by decide) (by decide), LR2_same hL2 hMI hMR hCX (by decide) (by decide) (by decide) (by decide), LR3_same hL3 hMI hMR hCX (by decide) (by decide) (by decide) (by decide)⟩
    refine lv_pop hx hb dL_law_905 rfl ?_
    refine lv_goto (tgt := 1525) hx hb dL_law_906 (by decide) ?_
    refine W.widen (k := ce + 15) (n := sl + 215) (by omega) (by omega) ?_
    exact kk a _ _ _ _ _ _ _ _ _ _ _ _ _ rfl hLX hLM hLR hP hD hS (lv_sub hl [0, 1, 2, 3] rfl)
set_option maxHeartbeats 4000000 in
set_option maxRecDepth 100000 in
theorem lc_15 {p : Program} {l : Launch} {e : Env} {s : State} {m : MethodId} {below : List Frame} {meth : Method} {c : Code} {b L : Nat} {xs : Nat → Int32} (C0 : lw_At p s m meth c b L xs) {D : va_G} {cy : Nat → ClassId} {kq vq : Nat} {A : Nat → Prop} (hA : ∀ q, s.heap.size ≤ q → A q) (hbA : ¬ A b) (hK : va_K D vwCl (vT cy) s) (hn : nw s) (hm0 : nm s) (hsk : vk_R RX6 101 "krsoamngcv" kq s ∧ sA kq vq A s s.heap) {a : Nat → Nat} {i : Nat → Int32} {r : Nat → Nat → Int32} {q : Nat → Option Nat} {gb : Nat → Nat → Nat} {gi : Nat → Nat → Int32} {gr : Nat → Nat → Nat → Int32} {nh : Nat} {am : Nat → Nat} {im : Nat → Int32} {rm : Nat → Nat → Int32} {lm : Nat → Int64} (hLX : LX i r q gb gi gr nh) (hLM : LM im rm) (hLR : LR i r gi gr nh im rm) {H : Heap} {locs : List Loc} (hP : va_P D vwCl (xW cy a i r q (a 20) (a 12) ++ (HL cy gb gi gr nh ++ (mW cy am im rm lm))) H) (hD : va_D A (xW cy a i r q (a 20) (a 12) ++ (HL cy gb gi gr nh ++ (mW cy am im rm lm)))) (hS : va_S A s.heap H locs) {ls : Array Slot} {x : Int32} (hl : lv_has ls 4 [(0, .ref b), (1, .ref (a 0)), (2, .ref (am 0)), (3, .int x)]) {j : Nat} (hj : 7 * j + 7 ≤ L) (hL : L ≤ 3584) (hxj : x = nI (7 * j)) {ce sl : Nat} (hce : ce + 15 ≤ 600000) (hsl : sl + 215 ≤ 7302250) (kk : ∀ (a2 : Nat → Nat) (i2 : Nat → Int32) (r2 : Nat → Nat → Int32) (q2 : Nat → Option Nat) (gb2 : Nat → Nat → Nat) (gi2 : Nat → Nat → Int32) (gr2 : Nat → Nat → Nat → Int32) (nh2 : Nat) (im2 : Nat → Int32) (rm2 : Nat → Nat → Int32) (lm2 : Nat → Int64) (H2 : Heap) (locs2 : List Loc) (ls2 : Array Slot), a2 0 = a 0 → LX i2 r2 q2 gb2 gi2 gr2 nh2 → LM im2 rm2 → LR i2 r2 gi2 gr2 nh2 im2 rm2 → va_P D vwCl (xW cy a2 i2 r2 q2 (a2 20) (a2 12) ++ (HL cy gb2 gi2 gr2 nh2 ++ (mW cy am im2 rm2 lm2))) H2 → va_D A (xW cy a2 i2 r2 q2 (a2 20) (a2 12) ++ (HL cy gb2 gi2 gr2 nh2 ++ (mW cy am im2 rm2 lm2))) → va_S A s.heap H2 locs2 → lv_has ls2 4 [(0, .ref b), (1, .ref (a 0)), (2, .ref (am 0)), (3, .int x)] → W p l e room_1 s m #[Value.ref b] below meth c H2 locs2 (ce + 15) (sl + 215) (lw_Z below #[Value.ref b] s) (F0 m 1525 ls2 [])) : W p l e room_1 s m #[Value.ref b] below meth c H locs ce sl (lw_Z below #[Value.ref b] s) (F0 m 909 ls []) := by
  obtain ⟨hx, hb, hr, hml, hown, hts, hX, hbl, hlocks, hgv⟩ := id C0
  have hT : ∀ w ∈ gT, w.before _ s = true := fun w h => hts w (gT_in w h)
  have hx0 : x.toInt = ((7 * j : Nat) : Int) := by rw [hxj]; exact nI_toInt (by omega)
  have hLX0 := hLX
  have hLM0 := hLM
  refine lv_aload_n hx hb dL_law_909 rfl (lv_at hl 1 rfl) ?_
  refine lv_aload_n hx hb dL_law_910 rfl (lv_at hl 0 rfl) ?_
  refine lv_iload_n hx hb dL_law_911 rfl (lv_at hl 3 rfl) ?_
  refine lv_iconst (v := 1) hx hb dL_law_912 (by decide) ?_
  refine lv_iadd hx hb dL_law_913 ?_
  refine lv_topi (fun v_1 ev_1 => ?_)
  have hv_1 : v_1.toInt = x.toInt + 1 := by rw [ev_1]; have := b_rg x; exact i_add (a := x.toInt) (b := 1) rfl rfl (by omega) (by omega)
  refine va_sld hx hb hX hbl hbA hS (vp_inI (by omega) (by omega)) dL_law_914 ?_
  refine lv_topi (fun v_2 ev_2 => ?_)
  obtain rfl : v_2 = xs (7 * j + 1) := ev_2.trans (congrArg xs (nI_ix hxj (by omega) (by omega)))
  refine lv_aload_n hx hb dL_law_915 rfl (lv_at hl 0 rfl) ?_
  refine lv_iload_n hx hb dL_law_916 rfl (lv_at hl 3 rfl) ?_
  refine lv_iconst (v := 2) hx hb dL_law_917 (by decide) ?_
  refine lv_iadd hx hb dL_law_918 ?_
  refine lv_topi (fun v_3 ev_3 => ?_)
  have hv_3 : v_3.toInt = x.toInt + 2 := by rw [ev_3]; have := b_rg x; exact i_add (a := x.toInt) (b := 2) rfl rfl (by omega) (by omega)
  refine va_sld hx hb hX hbl hbA hS (vp_inI (by omega) (by omega)) dL_law_919 ?_
  refine lv_topi (fun v_4 ev_4 => ?_)
  obtain rfl : v_4 = xs (7 * j + 2) := ev_4.trans (congrArg xs (nI_ix hxj (by omega) (by omega)))
  refine lv_aload_n hx hb dL_law_920 rfl (lv_at hl 0 rfl) ?_
  refine lv_iload_n hx hb dL_law_921 rfl (lv_at hl 3 rfl) ?_
  refine lv_iconst (v := 3) hx hb dL_law_922 (by decide) ?_
  refine lv_iadd hx hb dL_law_923 ?_
  refine lv_topi (fun v_5 ev_5 => ?_)
  have hv_5 : v_5.toInt = x.toInt + 3 := by rw [ev_5]; have := b_rg x; exact i_add (a := x.toInt) (b := 3) rfl rfl (by omega) (by omega)
  refine va_sld hx hb hX hbl hbA hS (vp_inI (by omega) (by omega)) dL_law_924 ?_
  refine lv_topi (fun v_6 ev_6 => ?_)
  obtain rfl : v_6 = xs (7 * j + 3) := ev_6.trans (congrArg xs (nI_ix hxj (by omega) (by omega)))
  have kx : ∀ (z9 : Int32) (i9 : Nat → Int32) (r9 : Nat → Nat → Int32) (gi9 : Nat → Nat → Int32) (gr9 : Nat → Nat → Nat → Int32) (H9 : Heap) (locs9 : List Loc), LX i9 r9 q gb gi9 gr9 nh → CX [] [27, 28] nh i r gi gr i9 r9 gi9 gr9 → va_P D vwCl (xW cy a i9 r9 q (a 20) (a 12) ++ (HL cy gb gi9 gr9 nh ++ (mW cy am im rm lm))) H9 → va_D A (xW cy a i9 r9 q (a 20) (a 12) ++ (HL cy gb gi9 gr9 nh ++ (mW cy am im rm lm))) → va_S A s.heap H9 locs9 → W p l e room_1 s m #[Value.ref b] below meth c H9 locs9 ce sl (lw_Z below #[Value.ref b] s) (F0 m 928 ls [.int z9]) := by
    intro z9 i9 r9 gi9 gr9 H locs hLX hCX hP hD hS
    refine lv_pop hx hb dL_law_928 rfl ?_
    refine lv_aload_n hx hb dL_law_929 rfl (lv_at hl 2 rfl) ?_
    refine lv_aload_n hx hb dL_law_930 rfl (lv_at hl 0 rfl) ?_
    refine lv_iload_n hx hb dL_law_931 rfl (lv_at hl 3 rfl) ?_
    refine lv_iconst (v := 1) hx hb dL_law_932 (by decide) ?_
    refine lv_iadd hx hb dL_law_933 ?_
    refine lv_topi (fun v_7 ev_7 => ?_)
    have hv_7 : v_7.toInt = x.toInt + 1 := by rw [ev_7]; have := b_rg x; exact i_add (a := x.toInt) (b := 1) rfl rfl (by omega) (by omega)
    refine va_sld hx hb hX hbl hbA hS (vp_inI (by omega) (by omega)) dL_law_934 ?_
    refine lv_topi (fun v_8 ev_8 => ?_)
    obtain rfl : v_8 = xs (7 * j + 1) := ev_8.trans (congrArg xs (nI_ix hxj (by omega) (by omega)))
    refine lv_aload_n hx hb dL_law_935 rfl (lv_at hl 0 rfl) ?_
    refine lv_iload_n hx hb dL_law_936 rfl (lv_at hl 3 rfl) ?_
    refine lv_iconst (v := 2) hx hb dL_law_937 (by decide) ?_
    refine lv_iadd hx hb dL_law_938 ?_
    refine lv_topi (fun v_9 ev_9 => ?_)
    have hv_9 : v_9.toInt = x.toInt + 2 := by rw [ev_9]; have := b_rg x; exact i_add (a := x.toInt) (b := 2) rfl rfl (by omega) (by omega)
    refine va_sld hx hb hX hbl hbA hS (vp_inI (by omega) (by omega)) dL_law_939 ?_
    refine lv_topi (fun v_10 ev_10 => ?_)
    obtain rfl : v_10 = xs (7 * j + 2) := ev_10.trans (congrArg xs (nI_ix hxj (by omega) (by omega)))
    refine lv_aload_n hx hb dL_law_940 rfl (lv_at hl 0 rfl) ?_
    refine lv_iload_n hx hb dL_law_941 rfl (lv_at hl 3 rfl) ?_
    refine lv_iconst (v := 3) hx hb dL_law_942 (by decide) ?_
    refine lv_iadd hx hb dL_law_943 ?_
    refine lv_topi (fun v_11 ev_11 => ?_)
    have hv_11 : v_11.toInt = x.toInt + 3 := by rw [ev_11]; have := b_rg x; exact i_add (a := x.toInt) (b := 3) rfl rfl (by omega) (by omega)
    refine va_sld hx hb hX hbl hbA hS (vp_inI (by omega) (by omega)) dL_law_944 ?_
    refine lv_topi (fun v_12 ev_12 => ?_)
    obtain rfl : v_12 = xs (7 * j + 3) := ev_12.trans (congrArg xs (nI_ix hxj (by omega) (by omega)))
    have hPa := hP
    have hDa := hD
    have hP := vaP_r (vaP_r hPa)
    have hD := vaD_r (vaD_r hDa)
    have hRi := hLM.1
    have hRr := hLM.2.1
    have hE := hLM.2.2
    have hF_13 := rF hD hS hA
    refine va_calli (va_runV (As := [.int (xs (7 * j + 1)), .int (xs (7 * j + 2)), .int (xs (7 * j + 3))]) (rest := []) ⟨hx, hb, hml, hown, hT⟩ (c_X12_award l D cy am im rm lm (xs (7 * j + 1)) (xs (7 * j + 2)) (xs (7 * j + 3)) _ hRi hRr hE) (cwV 3 hT (gV t_1021 t_1022 t_1023 t_1024 t_6) rfl rfl rfl (by decide +kernel) ⟨Nat.le_of_ble_eq_true rfl, Nat.le_of_ble_eq_true rfl⟩) (rQ_v hP hK hD (va_recv hK hP (ci := 12) (q0 := 0) rfl rfl)) rfl rfl hl.1 rfl (lv_room (Nat.le_of_ble_eq_true rfl)) dL_law_945 ⟨by show _ ≤ (600000 : Nat); omega, by show _ ≤ (7302250 : Nat); omega⟩) hS (fun q _ h => hF_13 q h) hF_13 (fun r_14 u_15 t H1 locs ht hvm hr_14 hB hz1 hk1 hS => ?_)
    obtain ⟨i15, r15⟩ := u_15
    obtain ⟨hP, hK1, hD1⟩ := hB
    rw [ht] at hP
    have hD := hD1.weaken (fun k q _ h => hF_13 q.1 h)
    have hP : va_P D vwCl (mW cy am i15 r15 lm) H1 := hP
    have hD : va_D A (mW cy am i15 r15 lm) := hD
    obtain ⟨hRi, hRr, hE1, hE2, hr_14⟩ := hr_14
    have hRi : mRi i15 := hRi
    have hRr : mRr r15 := hRr
    obtain ⟨hP, hD⟩ := joinM hPa hDa hk1 hP rfl
    have hLM : LM i15 r15 := ⟨hRi, hRr, (mE_same hE1 hE2 (by decide) (by decide) hE)⟩
    have hMI : mEi [23, 24, 25, 26, 27, 28, 29, 30, 60] im i15 := hE1
    have hMR : mEr [32, 33, 34, 35, 36, 37, 38, 39] rm r15 := hE2
    obtain ⟨hL1, hL2, hL3⟩ := id hLR
    obtain ⟨kH, kK, kN, kX, kY, _⟩ := id hL1
    have hLR : LR i9 r9 gi9 gr9 nh i15 r15 := ⟨LR1_same hL1 hMI hMR hCX (by decide) (by decide) (by decide) (by decide), LR2_same hL2 hMI hMR hCX (by decide) (by decide) (by decide) (by decide), LR3_same hL3 hMI hMR hCX (by decide) (by decide) (by decide) (by decide)⟩
    refine lv_pop hx hb dL_law_948 rfl ?_
    refine lv_goto (tgt := 1525) hx hb dL_law_949 (by decide) ?_
    refine W.widen (k := ce + 15) (n := sl + 215) (by omega) (by omega) ?_
    exact kk a _ _ _ _ _ _ _ _ _ _ _ _ _ rfl hLX hLM hLR hP hD hS (lv_sub hl [0, 1, 2, 3] rfl)
  by_cases hv : (0 ≤ (xs (7 * j + 1)).toInt ∧ (xs (7 * j + 1)).toInt < (i 10).toInt) ∧ (r 30 (xs (7 * j + 1)).toNatClampNeg).toInt < (i 0).toInt
  · have hlt : (r 30 (xs (7 * j + 1)).toNatClampNeg).toNatClampNeg < nh := by have h9 : (r 30 (xs (7 * j + 1)).toNatClampNeg).toNatClampNeg = (r 30 (xs (7 * j + 1)).toNatClampNeg).toInt.toNat := rfl; have h8 := hLX.2.1; have h7 : 0 ≤ (r 30 (xs (7 * j + 1)).toNatClampNeg).toInt := (hLX.1.2 30 _).1; omega
    have hP0 := hP
    have hD0 := hD
    have hn6 : nh ≤ 6 := by have h8 := hLX.2.1; have h7 : (i 0).toInt ≤ 6 := (hLX.1.1 0).2; omega
    have hz := zoom (cy := cy) (a := a) (i := i) (r := r) (q := q) (hb := gb) (hi := gi) (hr := gr) (tl := (mW cy am im rm lm)) hlt
    have hP := vaP_perm hz hP
    have hD := vaD_perm hz hD
    have hRi := mix_Ri hLX.1.1 (hLX.2.2 _ hlt).2.1
    have hRr := mix_Rr hLX.1.2 (hLX.2.2 _ hlt).2.2
    obtain ⟨A2, hA2⟩ : ∃ z, z = mixA a (gb ((r 30 (xs (7 * j + 1)).toNatClampNeg).toNatClampNeg)) := ⟨_, rfl⟩
    obtain ⟨I2, hI2⟩ : ∃ z, z = mixI i (gi ((r 30 (xs (7 * j + 1)).toNatClampNeg).toNatClampNeg)) := ⟨_, rfl⟩
    obtain ⟨R2, hR2⟩ : ∃ z, z = mixR r (gr ((r 30 (xs (7 * j + 1)).toNatClampNeg).toNatClampNeg)) := ⟨_, rfl⟩
    rw [← hA2, ← hI2, ← hR2] at hP hD
    rw [← hI2] at hRi
    rw [← hR2] at hRr
    have h0 : I2 0 = i 0 := by rw [hI2]; rfl
    have h61 : A2 61 = gb ((r 30 (xs (7 * j + 1)).toNatClampNeg).toNatClampNeg) 61 := by rw [hA2]; rfl
    have ha0 : A2 0 = a 0 := by rw [hA2]; rfl
    have h10 : I2 10 = i 10 := by rw [hI2]; rfl
    have h30 : R2 30 = r 30 := by rw [hR2]; rfl
    rw [← ha0]
    have hnw := hm0
    have hF_16 := rF hD hS hA
    refine va_calli (va_runV (As := [.int (xs (7 * j + 1)), .int (xs (7 * j + 2)), .int (xs (7 * j + 3))]) (rest := []) ⟨hx, hb, hml, hown, hT⟩ (c_X11_award l D cy A2 I2 R2 q (HX cy gb gi gr ((r 30 (xs (7 * j + 1)).toNatClampNeg).toNatClampNeg) nh ++ (mW cy am im rm lm)) (xs (7 * j + 1)) (xs (7 * j + 2)) (xs (7 * j + 3)) _ hRi hRr (by rw [h10]; exact hv.1) (by rw [h30, h0]; exact hv.2) (by rw [h30, h61]; exact (hLX.2.2 _ hlt).1)) (cwV 3 hT (gV t_559 t_1025 t_561 t_562 t_2) rfl rfl rfl (by decide +kernel) ⟨Nat.le_of_ble_eq_true rfl, Nat.le_of_ble_eq_true rfl⟩) (rM_v hnw hP hK hD (va_recv hK hP (ci := 11) (q0 := 0) rfl rfl)) rfl rfl hl.1 rfl (lv_room (Nat.le_of_ble_eq_true rfl)) dL_law_925 ⟨by show _ ≤ (600000 : Nat); omega, by show _ ≤ (7302250 : Nat); omega⟩) hS (fun q _ h => hF_16 q h) hF_16 (fun r_17 u_18 t H1 locs ht hvm hr_17 hB hz1 hk1 hS => ?_)
    obtain ⟨r18, rfl⟩ : ∃ z, z = u_18 := ⟨_, rfl⟩
    obtain ⟨hP, hK1, hD1⟩ := hB
    rw [ht] at hP
    have hD := hD1.weaken (fun k q _ h => hF_16 q.1 h)
    obtain ⟨hRr, hE2, hr_17⟩ := hr_17
    have hRr : yRr r18 := hRr
    have hE2 : mEr [27, 28] R2 r18 := hE2
    have hP : va_P D vwCl (xW cy A2 I2 r18 q (A2 20) (A2 12) ++ (hW cy A2 I2 r18 ++ (HX cy gb gi gr ((r 30 (xs (7 * j + 1)).toNatClampNeg).toNatClampNeg) nh ++ (mW cy am im rm lm)))) H1 := hP
    have hD : va_D A (xW cy A2 I2 r18 q (A2 20) (A2 12) ++ (hW cy A2 I2 r18 ++ (HX cy gb gi gr ((r 30 (xs (7 * j + 1)).toNatClampNeg).toNatClampNeg) nh ++ (mW cy am im rm lm)))) := hD
    rw [hA2] at hP hD
    have hP := vaP_perm (unzoom (i := I2) (r := R2) hlt) hP
    have hD := vaD_perm (unzoom (i := I2) (r := R2) hlt) hD
    have hLX := LX_y (K := (r 30 (xs (7 * j + 1)).toNatClampNeg).toNatClampNeg) hLX hRi hRr h0
    have hE2x := hE2
    have hCX := CX_y (nh := nh) (i := i) (r := r) (gi := gi) (gr := gr) (K := (r 30 (xs (7 * j + 1)).toNatClampNeg).toNatClampNeg) hI2 hR2 (Ei_rf (T := [])) hE2
    exact kx _ _ _ _ _ _ _ hLX hCX hP hD hS
  · skip
    have hRi := hLX.1.1
    have hRr := hLX.1.2
    refine vp_callSi (W.runV (As := [.int (xs (7 * j + 1)), .int (xs (7 * j + 2)), .int (xs (7 * j + 3))]) (rest := []) ⟨hx, hb, hml, hown, hT⟩ (c_X11_award.b l D cy a i r q (HL cy gb gi gr nh ++ (mW cy am im rm lm)) (xs (7 * j + 1)) (xs (7 * j + 2)) (xs (7 * j + 3)) hRi hRr hv) (cwV 3 hT (gV t_559 t_1025 t_561 t_562 t_2) rfl rfl rfl (by decide +kernel) ⟨Nat.le_of_ble_eq_true rfl, Nat.le_of_ble_eq_true rfl⟩) (rP_v hP hK (va_recv hK hP (ci := 11) (q0 := 0) rfl rfl)) rfl rfl hl.1 rfl (lv_room (Nat.le_of_ble_eq_true rfl)) dL_law_925 ⟨by show _ ≤ (600000 : Nat); omega, by show _ ≤ (7302250 : Nat); omega⟩) (fun r_19 hr_19 => ?_)
    have hCX := CX_rf (i := i) (r := r) (gi := gi) (gr := gr) (nh := nh)
    exact kx _ _ _ _ _ _ _ hLX CX_rfT hP hD hS
set_option maxHeartbeats 4000000 in
set_option maxRecDepth 100000 in
theorem lc_16 {p : Program} {l : Launch} {e : Env} {s : State} {m : MethodId} {below : List Frame} {meth : Method} {c : Code} {b L : Nat} {xs : Nat → Int32} (C0 : lw_At p s m meth c b L xs) {D : va_G} {cy : Nat → ClassId} {kq vq : Nat} {A : Nat → Prop} (hA : ∀ q, s.heap.size ≤ q → A q) (hbA : ¬ A b) (hK : va_K D vwCl (vT cy) s) (hn : nw s) (hm0 : nm s) (hsk : vk_R RX6 101 "krsoamngcv" kq s ∧ sA kq vq A s s.heap) {a : Nat → Nat} {i : Nat → Int32} {r : Nat → Nat → Int32} {q : Nat → Option Nat} {gb : Nat → Nat → Nat} {gi : Nat → Nat → Int32} {gr : Nat → Nat → Nat → Int32} {nh : Nat} {am : Nat → Nat} {im : Nat → Int32} {rm : Nat → Nat → Int32} {lm : Nat → Int64} (hLX : LX i r q gb gi gr nh) (hLM : LM im rm) (hLR : LR i r gi gr nh im rm) {H : Heap} {locs : List Loc} (hP : va_P D vwCl (xW cy a i r q (a 20) (a 12) ++ (HL cy gb gi gr nh ++ (mW cy am im rm lm))) H) (hD : va_D A (xW cy a i r q (a 20) (a 12) ++ (HL cy gb gi gr nh ++ (mW cy am im rm lm)))) (hS : va_S A s.heap H locs) {ls : Array Slot} {x : Int32} (hl : lv_has ls 4 [(0, .ref b), (1, .ref (a 0)), (2, .ref (am 0)), (3, .int x)]) {j : Nat} (hj : 7 * j + 7 ≤ L) (hL : L ≤ 3584) (hxj : x = nI (7 * j)) {ce sl : Nat} (hce : ce + 15 ≤ 600000) (hsl : sl + 215 ≤ 7302250) (kk : ∀ (a2 : Nat → Nat) (i2 : Nat → Int32) (r2 : Nat → Nat → Int32) (q2 : Nat → Option Nat) (gb2 : Nat → Nat → Nat) (gi2 : Nat → Nat → Int32) (gr2 : Nat → Nat → Nat → Int32) (nh2 : Nat) (im2 : Nat → Int32) (rm2 : Nat → Nat → Int32) (lm2 : Nat → Int64) (H2 : Heap) (locs2 : List Loc) (ls2 : Array Slot), a2 0 = a 0 → LX i2 r2 q2 gb2 gi2 gr2 nh2 → LM im2 rm2 → LR i2 r2 gi2 gr2 nh2 im2 rm2 → va_P D vwCl (xW cy a2 i2 r2 q2 (a2 20) (a2 12) ++ (HL cy gb2 gi2 gr2 nh2 ++ (mW cy am im2 rm2 lm2))) H2 → va_D A (xW cy a2 i2 r2 q2 (a2 20) (a2 12) ++ (HL cy gb2 gi2 gr2 nh2 ++ (mW cy am im2 rm2 lm2))) → va_S A s.heap H2 locs2 → lv_has ls2 4 [(0, .ref b), (1, .ref (a 0)), (2, .ref (am 0)), (3, .int x)] → W p l e room_1 s m #[Value.ref b] below meth c H2 locs2 (ce + 15) (sl + 215) (lw_Z below #[Value.ref b] s) (F0 m 1525 ls2 [])) : W p l e room_1 s m #[Value.ref b] below meth c H locs ce sl (lw_Z below #[Value.ref b] s) (F0 m 952 ls []) := by
  obtain ⟨hx, hb, hr, hml, hown, hts, hX, hbl, hlocks, hgv⟩ := id C0
  have hT : ∀ w ∈ gT, w.before _ s = true := fun w h => hts w (gT_in w h)
  have hx0 : x.toInt = ((7 * j : Nat) : Int) := by rw [hxj]; exact nI_toInt (by omega)
  have hLX0 := hLX
  have hLM0 := hLM
  refine lv_aload_n hx hb dL_law_952 rfl (lv_at hl 1 rfl) ?_
  refine lv_aload_n hx hb dL_law_953 rfl (lv_at hl 0 rfl) ?_
  refine lv_iload_n hx hb dL_law_954 rfl (lv_at hl 3 rfl) ?_
  refine lv_iconst (v := 1) hx hb dL_law_955 (by decide) ?_
  refine lv_iadd hx hb dL_law_956 ?_
  refine lv_topi (fun v_1 ev_1 => ?_)
  have hv_1 : v_1.toInt = x.toInt + 1 := by rw [ev_1]; have := b_rg x; exact i_add (a := x.toInt) (b := 1) rfl rfl (by omega) (by omega)
  refine va_sld hx hb hX hbl hbA hS (vp_inI (by omega) (by omega)) dL_law_957 ?_
  refine lv_topi (fun v_2 ev_2 => ?_)
  obtain rfl : v_2 = xs (7 * j + 1) := ev_2.trans (congrArg xs (nI_ix hxj (by omega) (by omega)))
  refine lv_aload_n hx hb dL_law_958 rfl (lv_at hl 0 rfl) ?_
  refine lv_iload_n hx hb dL_law_959 rfl (lv_at hl 3 rfl) ?_
  refine lv_iconst (v := 2) hx hb dL_law_960 (by decide) ?_
  refine lv_iadd hx hb dL_law_961 ?_
  refine lv_topi (fun v_3 ev_3 => ?_)
  have hv_3 : v_3.toInt = x.toInt + 2 := by rw [ev_3]; have := b_rg x; exact i_add (a := x.toInt) (b := 2) rfl rfl (by omega) (by omega)
  refine va_sld hx hb hX hbl hbA hS (vp_inI (by omega) (by omega)) dL_law_962 ?_
  refine lv_topi (fun v_4 ev_4 => ?_)
  obtain rfl : v_4 = xs (7 * j + 2) := ev_4.trans (congrArg xs (nI_ix hxj (by omega) (by omega)))
  refine lv_aload_n hx hb dL_law_963 rfl (lv_at hl 0 rfl) ?_
  refine lv_iload_n hx hb dL_law_964 rfl (lv_at hl 3 rfl) ?_
  refine lv_iconst (v := 3) hx hb dL_law_965 (by decide) ?_
  refine lv_iadd hx hb dL_law_966 ?_
  refine lv_topi (fun v_5 ev_5 => ?_)
  have hv_5 : v_5.toInt = x.toInt + 3 := by rw [ev_5]; have := b_rg x; exact i_add (a := x.toInt) (b := 3) rfl rfl (by omega) (by omega)
  refine va_sld hx hb hX hbl hbA hS (vp_inI (by omega) (by omega)) dL_law_967 ?_
  refine lv_topi (fun v_6 ev_6 => ?_)
  obtain rfl : v_6 = xs (7 * j + 3) := ev_6.trans (congrArg xs (nI_ix hxj (by omega) (by omega)))
  have kx : ∀ (z9 : Int32) (i9 : Nat → Int32) (r9 : Nat → Nat → Int32) (gi9 : Nat → Nat → Int32) (gr9 : Nat → Nat → Nat → Int32) (H9 : Heap) (locs9 : List Loc), LX i9 r9 q gb gi9 gr9 nh → CX [] [27, 28, 52, 53] nh i r gi gr i9 r9 gi9 gr9 → va_P D vwCl (xW cy a i9 r9 q (a 20) (a 12) ++ (HL cy gb gi9 gr9 nh ++ (mW cy am im rm lm))) H9 → va_D A (xW cy a i9 r9 q (a 20) (a 12) ++ (HL cy gb gi9 gr9 nh ++ (mW cy am im rm lm))) → va_S A s.heap H9 locs9 → W p l e room_1 s m #[Value.ref b] below meth c H9 locs9 ce sl (lw_Z below #[Value.ref b] s) (F0 m 971 ls [.int z9]) := by
    intro z9 i9 r9 gi9 gr9 H locs hLX hCX hP hD hS
    refine lv_pop hx hb dL_law_971 rfl ?_
    refine lv_aload_n hx hb dL_law_972 rfl (lv_at hl 2 rfl) ?_
    refine lv_aload_n hx hb dL_law_973 rfl (lv_at hl 0 rfl) ?_
    refine lv_iload_n hx hb dL_law_974 rfl (lv_at hl 3 rfl) ?_
    refine lv_iconst (v := 1) hx hb dL_law_975 (by decide) ?_
    refine lv_iadd hx hb dL_law_976 ?_
    refine lv_topi (fun v_7 ev_7 => ?_)
    have hv_7 : v_7.toInt = x.toInt + 1 := by rw [ev_7]; have := b_rg x; exact i_add (a := x.toInt) (b := 1) rfl rfl (by omega) (by omega)
    refine va_sld hx hb hX hbl hbA hS (vp_inI (by omega) (by omega)) dL_law_977 ?_
    refine lv_topi (fun v_8 ev_8 => ?_)
    obtain rfl : v_8 = xs (7 * j + 1) := ev_8.trans (congrArg xs (nI_ix hxj (by omega) (by omega)))
    refine lv_aload_n hx hb dL_law_978 rfl (lv_at hl 0 rfl) ?_
    refine lv_iload_n hx hb dL_law_979 rfl (lv_at hl 3 rfl) ?_
    refine lv_iconst (v := 2) hx hb dL_law_980 (by decide) ?_
    refine lv_iadd hx hb dL_law_981 ?_
    refine lv_topi (fun v_9 ev_9 => ?_)
    have hv_9 : v_9.toInt = x.toInt + 2 := by rw [ev_9]; have := b_rg x; exact i_add (a := x.toInt) (b := 2) rfl rfl (by omega) (by omega)
    refine va_sld hx hb hX hbl hbA hS (vp_inI (by omega) (by omega)) dL_law_982 ?_
    refine lv_topi (fun v_10 ev_10 => ?_)
    obtain rfl : v_10 = xs (7 * j + 2) := ev_10.trans (congrArg xs (nI_ix hxj (by omega) (by omega)))
    refine lv_aload_n hx hb dL_law_983 rfl (lv_at hl 0 rfl) ?_
    refine lv_iload_n hx hb dL_law_984 rfl (lv_at hl 3 rfl) ?_
    refine lv_iconst (v := 3) hx hb dL_law_985 (by decide) ?_
    refine lv_iadd hx hb dL_law_986 ?_
    refine lv_topi (fun v_11 ev_11 => ?_)
    have hv_11 : v_11.toInt = x.toInt + 3 := by rw [ev_11]; have := b_rg x; exact i_add (a := x.toInt) (b := 3) rfl rfl (by omega) (by omega)
    refine va_sld hx hb hX hbl hbA hS (vp_inI (by omega) (by omega)) dL_law_987 ?_
    refine lv_topi (fun v_12 ev_12 => ?_)
    obtain rfl : v_12 = xs (7 * j + 3) := ev_12.trans (congrArg xs (nI_ix hxj (by omega) (by omega)))
    have hPa := hP
    have hDa := hD
    have hP := vaP_r (vaP_r hPa)
    have hD := vaD_r (vaD_r hDa)
    have hRi := hLM.1
    have hRr := hLM.2.1
    have hE := hLM.2.2
    have hF_13 := rF hD hS hA
    refine va_calli (va_runV (As := [.int (xs (7 * j + 1)), .int (xs (7 * j + 2)), .int (xs (7 * j + 3))]) (rest := []) ⟨hx, hb, hml, hown, hT⟩ (c_X12_judged l D cy am im rm lm (xs (7 * j + 1)) (xs (7 * j + 2)) (xs (7 * j + 3)) _ hRi hRr hE) (cwV 3 hT (gV t_1026 t_1027 t_1028 t_1029 t_6) rfl rfl rfl (by decide +kernel) ⟨Nat.le_of_ble_eq_true rfl, Nat.le_of_ble_eq_true rfl⟩) (rQ_v hP hK hD (va_recv hK hP (ci := 12) (q0 := 0) rfl rfl)) rfl rfl hl.1 rfl (lv_room (Nat.le_of_ble_eq_true rfl)) dL_law_988 ⟨by show _ ≤ (600000 : Nat); omega, by show _ ≤ (7302250 : Nat); omega⟩) hS (fun q _ h => hF_13 q h) hF_13 (fun r_14 u_15 t H1 locs ht hvm hr_14 hB hz1 hk1 hS => ?_)
    obtain ⟨i15, r15, l15⟩ := u_15
    obtain ⟨hP, hK1, hD1⟩ := hB
    rw [ht] at hP
    have hD := hD1.weaken (fun k q _ h => hF_13 q.1 h)
    have hP : va_P D vwCl (mW cy am i15 r15 l15) H1 := hP
    have hD : va_D A (mW cy am i15 r15 l15) := hD
    obtain ⟨hRi, hRr, hE1, hE2, hr_14⟩ := hr_14
    have hRi : mRi i15 := hRi
    have hRr : mRr r15 := hRr
    obtain ⟨hP, hD⟩ := joinM hPa hDa hk1 hP rfl
    have hLM : LM i15 r15 := ⟨hRi, hRr, (mE_same hE1 hE2 (by decide) (by decide) hE)⟩
    have hMI : mEi [23, 24, 25, 26, 27, 28, 29, 30, 60] im i15 := hE1
    have hMR : mEr [32, 33, 34, 35, 36, 37, 38, 39, 49] rm r15 := hE2
    obtain ⟨hL1, hL2, hL3⟩ := id hLR
    obtain ⟨kH, kK, kN, kX, kY, _⟩ := id hL1
    have hLR : LR i9 r9 gi9 gr9 nh i15 r15 := ⟨LR1_same hL1 hMI hMR hCX (by decide) (by decide) (by decide) (by decide), LR2_same hL2 hMI hMR hCX (by decide) (by decide) (by decide) (by decide), LR3_same hL3 hMI hMR hCX (by decide) (by decide) (by decide) (by decide)⟩
    refine lv_pop hx hb dL_law_991 rfl ?_
    refine lv_goto (tgt := 1525) hx hb dL_law_992 (by decide) ?_
    refine W.widen (k := ce + 15) (n := sl + 215) (by omega) (by omega) ?_
    exact kk a _ _ _ _ _ _ _ _ _ _ _ _ _ rfl hLX hLM hLR hP hD hS (lv_sub hl [0, 1, 2, 3] rfl)
  by_cases hv : 0 ≤ (xs (7 * j + 1)).toInt ∧ (xs (7 * j + 1)).toInt < (i 0).toInt
  · have hlt : (xs (7 * j + 1)).toNatClampNeg < nh := by have h9 : (xs (7 * j + 1)).toNatClampNeg = (xs (7 * j + 1)).toInt.toNat := rfl; have h8 := hLX.2.1; omega
    have hP0 := hP
    have hD0 := hD
    have hn6 : nh ≤ 6 := by have h8 := hLX.2.1; have h7 : (i 0).toInt ≤ 6 := (hLX.1.1 0).2; omega
    have hz := zoom (cy := cy) (a := a) (i := i) (r := r) (q := q) (hb := gb) (hi := gi) (hr := gr) (tl := (mW cy am im rm lm)) hlt
    have hP := vaP_perm hz hP
    have hD := vaD_perm hz hD
    have hRi := mix_Ri hLX.1.1 (hLX.2.2 _ hlt).2.1
    have hRr := mix_Rr hLX.1.2 (hLX.2.2 _ hlt).2.2
    obtain ⟨A2, hA2⟩ : ∃ z, z = mixA a (gb ((xs (7 * j + 1)).toNatClampNeg)) := ⟨_, rfl⟩
    obtain ⟨I2, hI2⟩ : ∃ z, z = mixI i (gi ((xs (7 * j + 1)).toNatClampNeg)) := ⟨_, rfl⟩
    obtain ⟨R2, hR2⟩ : ∃ z, z = mixR r (gr ((xs (7 * j + 1)).toNatClampNeg)) := ⟨_, rfl⟩
    rw [← hA2, ← hI2, ← hR2] at hP hD
    rw [← hI2] at hRi
    rw [← hR2] at hRr
    have h0 : I2 0 = i 0 := by rw [hI2]; rfl
    have h61 : A2 61 = gb ((xs (7 * j + 1)).toNatClampNeg) 61 := by rw [hA2]; rfl
    have ha0 : A2 0 = a 0 := by rw [hA2]; rfl
    rw [← ha0]
    have hnw := hm0
    have hF_16 := rF hD hS hA
    refine va_calli (va_runV (As := [.int (xs (7 * j + 1)), .int (xs (7 * j + 2)), .int (xs (7 * j + 3))]) (rest := []) ⟨hx, hb, hml, hown, hT⟩ (c_X11_judged.y l D cy A2 I2 R2 q (HX cy gb gi gr ((xs (7 * j + 1)).toNatClampNeg) nh ++ (mW cy am im rm lm)) (xs (7 * j + 1)) (xs (7 * j + 2)) (xs (7 * j + 3)) _ hRi hRr (by rw [h0]; exact hv) (by rw [h61]; exact (hLX.2.2 _ hlt).1)) (cwV 3 hT (gV t_1030 t_1031 t_1032 t_1033 t_2) rfl rfl rfl (by decide +kernel) ⟨Nat.le_of_ble_eq_true rfl, Nat.le_of_ble_eq_true rfl⟩) (rM_v hnw hP hK hD (va_recv hK hP (ci := 11) (q0 := 0) rfl rfl)) rfl rfl hl.1 rfl (lv_room (Nat.le_of_ble_eq_true rfl)) dL_law_968 ⟨by show _ ≤ (600000 : Nat); omega, by show _ ≤ (7302250 : Nat); omega⟩) hS (fun q _ h => hF_16 q h) hF_16 (fun r_17 u_18 t H1 locs ht hvm hr_17 hB hz1 hk1 hS => ?_)
    obtain ⟨r18, rfl⟩ : ∃ z, z = u_18 := ⟨_, rfl⟩
    obtain ⟨hP, hK1, hD1⟩ := hB
    rw [ht] at hP
    have hD := hD1.weaken (fun k q _ h => hF_16 q.1 h)
    obtain ⟨hRr, hE2, hr_17⟩ := hr_17
    have hRr : yRr r18 := hRr
    have hE2 : mEr [27, 28, 52, 53] R2 r18 := hE2
    have hP : va_P D vwCl (xW cy A2 I2 r18 q (A2 20) (A2 12) ++ (hW cy A2 I2 r18 ++ (HX cy gb gi gr ((xs (7 * j + 1)).toNatClampNeg) nh ++ (mW cy am im rm lm)))) H1 := hP
    have hD : va_D A (xW cy A2 I2 r18 q (A2 20) (A2 12) ++ (hW cy A2 I2 r18 ++ (HX cy gb gi gr ((xs (7 * j + 1)).toNatClampNeg) nh ++ (mW cy am im rm lm)))) := hD
    rw [hA2] at hP hD
    have hP := vaP_perm (unzoom (i := I2) (r := R2) hlt) hP
    have hD := vaD_perm (unzoom (i := I2) (r := R2) hlt) hD
    have hLX := LX_y (K := (xs (7 * j + 1)).toNatClampNeg) hLX hRi hRr h0
    have hE2x := hE2
    have hCX := CX_y (nh := nh) (i := i) (r := r) (gi := gi) (gr := gr) (K := (xs (7 * j + 1)).toNatClampNeg) hI2 hR2 (Ei_rf (T := [])) hE2
    exact kx _ _ _ _ _ _ _ hLX hCX hP hD hS
  · skip
    have hRi := hLX.1.1
    have hRr := hLX.1.2
    refine vp_callSi (W.runV (As := [.int (xs (7 * j + 1)), .int (xs (7 * j + 2)), .int (xs (7 * j + 3))]) (rest := []) ⟨hx, hb, hml, hown, hT⟩ (c_X11_judged.b l D cy a i r q (HL cy gb gi gr nh ++ (mW cy am im rm lm)) (xs (7 * j + 1)) (xs (7 * j + 2)) (xs (7 * j + 3)) hRi hRr hv) (cwV 3 hT (gV t_1030 t_1031 t_1032 t_1033 t_2) rfl rfl rfl (by decide +kernel) ⟨Nat.le_of_ble_eq_true rfl, Nat.le_of_ble_eq_true rfl⟩) (rP_v hP hK (va_recv hK hP (ci := 11) (q0 := 0) rfl rfl)) rfl rfl hl.1 rfl (lv_room (Nat.le_of_ble_eq_true rfl)) dL_law_968 ⟨by show _ ≤ (600000 : Nat); omega, by show _ ≤ (7302250 : Nat); omega⟩) (fun r_19 hr_19 => ?_)
    have hCX := CX_rf (i := i) (r := r) (gi := gi) (gr := gr) (nh := nh)
    exact kx _ _ _ _ _ _ _ hLX CX_rfT hP hD hS
set_option maxHeartbeats 4000000 in
set_option maxRecDepth 100000 in
theorem lc_17 {p : Program} {l : Launch} {e : Env} {s : State} {m : MethodId} {below : List Frame} {meth : Method} {c : Code} {b L : Nat} {xs : Nat → Int32} (C0 : lw_At p s m meth c b L xs) {D : va_G} {cy : Nat → ClassId} {kq vq : Nat} {A : Nat → Prop} (hA : ∀ q, s.heap.size ≤ q → A q) (hbA : ¬ A b) (hK : va_K D vwCl (vT cy) s) (hn : nw s) (hm0 : nm s) (hsk : vk_R RX6 101 "krsoamngcv" kq s ∧ sA kq vq A s s.heap) {a : Nat → Nat} {i : Nat → Int32} {r : Nat → Nat → Int32} {q : Nat → Option Nat} {gb : Nat → Nat → Nat} {gi : Nat → Nat → Int32} {gr : Nat → Nat → Nat → Int32} {nh : Nat} {am : Nat → Nat} {im : Nat → Int32} {rm : Nat → Nat → Int32} {lm : Nat → Int64} (hLX : LX i r q gb gi gr nh) (hLM : LM im rm) (hLR : LR i r gi gr nh im rm) {H : Heap} {locs : List Loc} (hP : va_P D vwCl (xW cy a i r q (a 20) (a 12) ++ (HL cy gb gi gr nh ++ (mW cy am im rm lm))) H) (hD : va_D A (xW cy a i r q (a 20) (a 12) ++ (HL cy gb gi gr nh ++ (mW cy am im rm lm)))) (hS : va_S A s.heap H locs) {ls : Array Slot} {x : Int32} (hl : lv_has ls 4 [(0, .ref b), (1, .ref (a 0)), (2, .ref (am 0)), (3, .int x)]) {j : Nat} (hj : 7 * j + 7 ≤ L) (hL : L ≤ 3584) (hxj : x = nI (7 * j)) {ce sl : Nat} (hce : ce + 15 ≤ 600000) (hsl : sl + 215 ≤ 7302250) (kk : ∀ (a2 : Nat → Nat) (i2 : Nat → Int32) (r2 : Nat → Nat → Int32) (q2 : Nat → Option Nat) (gb2 : Nat → Nat → Nat) (gi2 : Nat → Nat → Int32) (gr2 : Nat → Nat → Nat → Int32) (nh2 : Nat) (im2 : Nat → Int32) (rm2 : Nat → Nat → Int32) (lm2 : Nat → Int64) (H2 : Heap) (locs2 : List Loc) (ls2 : Array Slot), a2 0 = a 0 → LX i2 r2 q2 gb2 gi2 gr2 nh2 → LM im2 rm2 → LR i2 r2 gi2 gr2 nh2 im2 rm2 → va_P D vwCl (xW cy a2 i2 r2 q2 (a2 20) (a2 12) ++ (HL cy gb2 gi2 gr2 nh2 ++ (mW cy am im2 rm2 lm2))) H2 → va_D A (xW cy a2 i2 r2 q2 (a2 20) (a2 12) ++ (HL cy gb2 gi2 gr2 nh2 ++ (mW cy am im2 rm2 lm2))) → va_S A s.heap H2 locs2 → lv_has ls2 4 [(0, .ref b), (1, .ref (a 0)), (2, .ref (am 0)), (3, .int x)] → W p l e room_1 s m #[Value.ref b] below meth c H2 locs2 (ce + 15) (sl + 215) (lw_Z below #[Value.ref b] s) (F0 m 1525 ls2 [])) : W p l e room_1 s m #[Value.ref b] below meth c H locs ce sl (lw_Z below #[Value.ref b] s) (F0 m 995 ls []) := by
  obtain ⟨hx, hb, hr, hml, hown, hts, hX, hbl, hlocks, hgv⟩ := id C0
  have hT : ∀ w ∈ gT, w.before _ s = true := fun w h => hts w (gT_in w h)
  have hx0 : x.toInt = ((7 * j : Nat) : Int) := by rw [hxj]; exact nI_toInt (by omega)
  have hLX0 := hLX
  have hLM0 := hLM
  refine lv_aload_n hx hb dL_law_995 rfl (lv_at hl 1 rfl) ?_
  refine lv_aload_n hx hb dL_law_996 rfl (lv_at hl 0 rfl) ?_
  refine lv_iload_n hx hb dL_law_997 rfl (lv_at hl 3 rfl) ?_
  refine lv_iconst (v := 1) hx hb dL_law_998 (by decide) ?_
  refine lv_iadd hx hb dL_law_999 ?_
  refine lv_topi (fun v_1 ev_1 => ?_)
  have hv_1 : v_1.toInt = x.toInt + 1 := by rw [ev_1]; have := b_rg x; exact i_add (a := x.toInt) (b := 1) rfl rfl (by omega) (by omega)
  refine va_sld hx hb hX hbl hbA hS (vp_inI (by omega) (by omega)) dL_law_1000 ?_
  refine lv_topi (fun v_2 ev_2 => ?_)
  obtain rfl : v_2 = xs (7 * j + 1) := ev_2.trans (congrArg xs (nI_ix hxj (by omega) (by omega)))
  refine lv_aload_n hx hb dL_law_1001 rfl (lv_at hl 0 rfl) ?_
  refine lv_iload_n hx hb dL_law_1002 rfl (lv_at hl 3 rfl) ?_
  refine lv_iconst (v := 2) hx hb dL_law_1003 (by decide) ?_
  refine lv_iadd hx hb dL_law_1004 ?_
  refine lv_topi (fun v_3 ev_3 => ?_)
  have hv_3 : v_3.toInt = x.toInt + 2 := by rw [ev_3]; have := b_rg x; exact i_add (a := x.toInt) (b := 2) rfl rfl (by omega) (by omega)
  refine va_sld hx hb hX hbl hbA hS (vp_inI (by omega) (by omega)) dL_law_1005 ?_
  refine lv_topi (fun v_4 ev_4 => ?_)
  obtain rfl : v_4 = xs (7 * j + 2) := ev_4.trans (congrArg xs (nI_ix hxj (by omega) (by omega)))
  refine lv_if_eq (tgt := 1013) hx hb dL_law_1006 (by decide) (fun c_5 => ?_) (fun c_5 => ?_)
  · have c_5 : (xs (7 * j + 2)).toInt = 0 := b_eq c_5
    refine lv_iconst (v := 0) hx hb dL_law_1013 (by decide) ?_
    refine lv_aload_n hx hb dL_law_1014 rfl (lv_at hl 0 rfl) ?_
    refine lv_iload_n hx hb dL_law_1015 rfl (lv_at hl 3 rfl) ?_
    refine lv_iconst (v := 3) hx hb dL_law_1016 (by decide) ?_
    refine lv_iadd hx hb dL_law_1017 ?_
    refine lv_topi (fun v_6 ev_6 => ?_)
    have hv_6 : v_6.toInt = x.toInt + 3 := by rw [ev_6]; have := b_rg x; exact i_add (a := x.toInt) (b := 3) rfl rfl (by omega) (by omega)
    refine va_sld hx hb hX hbl hbA hS (vp_inI (by omega) (by omega)) dL_law_1018 ?_
    refine lv_topi (fun v_7 ev_7 => ?_)
    obtain rfl : v_7 = xs (7 * j + 3) := ev_7.trans (congrArg xs (nI_ix hxj (by omega) (by omega)))
    have kx : ∀ (z9 : Int32) (i9 : Nat → Int32) (r9 : Nat → Nat → Int32) (gi9 : Nat → Nat → Int32) (gr9 : Nat → Nat → Nat → Int32) (H9 : Heap) (locs9 : List Loc), LX i9 r9 q gb gi9 gr9 nh → CX [] [38, 39] nh i r gi gr i9 r9 gi9 gr9 → va_P D vwCl (xW cy a i9 r9 q (a 20) (a 12) ++ (HL cy gb gi9 gr9 nh ++ (mW cy am im rm lm))) H9 → va_D A (xW cy a i9 r9 q (a 20) (a 12) ++ (HL cy gb gi9 gr9 nh ++ (mW cy am im rm lm))) → va_S A s.heap H9 locs9 → W p l e room_1 s m #[Value.ref b] below meth c H9 locs9 ce sl (lw_Z below #[Value.ref b] s) (F0 m 1022 ls [.int z9]) := by
      intro z9 i9 r9 gi9 gr9 H locs hLX hCX hP hD hS
      refine lv_pop hx hb dL_law_1022 rfl ?_
      refine lv_aload_n hx hb dL_law_1023 rfl (lv_at hl 2 rfl) ?_
      refine lv_aload_n hx hb dL_law_1024 rfl (lv_at hl 0 rfl) ?_
      refine lv_iload_n hx hb dL_law_1025 rfl (lv_at hl 3 rfl) ?_
      refine lv_iconst (v := 1) hx hb dL_law_1026 (by decide) ?_
      refine lv_iadd hx hb dL_law_1027 ?_
      refine lv_topi (fun v_8 ev_8 => ?_)
      have hv_8 : v_8.toInt = x.toInt + 1 := by rw [ev_8]; have := b_rg x; exact i_add (a := x.toInt) (b := 1) rfl rfl (by omega) (by omega)
      refine va_sld hx hb hX hbl hbA hS (vp_inI (by omega) (by omega)) dL_law_1028 ?_
      refine lv_topi (fun v_9 ev_9 => ?_)
      obtain rfl : v_9 = xs (7 * j + 1) := ev_9.trans (congrArg xs (nI_ix hxj (by omega) (by omega)))
      refine lv_aload_n hx hb dL_law_1029 rfl (lv_at hl 0 rfl) ?_
      refine lv_iload_n hx hb dL_law_1030 rfl (lv_at hl 3 rfl) ?_
      refine lv_iconst (v := 2) hx hb dL_law_1031 (by decide) ?_
      refine lv_iadd hx hb dL_law_1032 ?_
      refine lv_topi (fun v_10 ev_10 => ?_)
      have hv_10 : v_10.toInt = x.toInt + 2 := by rw [ev_10]; have := b_rg x; exact i_add (a := x.toInt) (b := 2) rfl rfl (by omega) (by omega)
      refine va_sld hx hb hX hbl hbA hS (vp_inI (by omega) (by omega)) dL_law_1033 ?_
      refine lv_topi (fun v_11 ev_11 => ?_)
      obtain rfl : v_11 = xs (7 * j + 2) := ev_11.trans (congrArg xs (nI_ix hxj (by omega) (by omega)))
      refine lv_if_eq (tgt := 1041) hx hb dL_law_1034 (by decide) (fun c_12 => ?_) (fun c_12 => by have c_12 : (xs (7 * j + 2)).toInt ≠ 0 := b_ne c_12; omega)
      have c_12 : (xs (7 * j + 2)).toInt = 0 := b_eq c_12
      refine lv_iconst (v := 0) hx hb dL_law_1041 (by decide) ?_
      refine lv_aload_n hx hb dL_law_1042 rfl (lv_at hl 0 rfl) ?_
      refine lv_iload_n hx hb dL_law_1043 rfl (lv_at hl 3 rfl) ?_
      refine lv_iconst (v := 3) hx hb dL_law_1044 (by decide) ?_
      refine lv_iadd hx hb dL_law_1045 ?_
      refine lv_topi (fun v_13 ev_13 => ?_)
      have hv_13 : v_13.toInt = x.toInt + 3 := by rw [ev_13]; have := b_rg x; exact i_add (a := x.toInt) (b := 3) rfl rfl (by omega) (by omega)
      refine va_sld hx hb hX hbl hbA hS (vp_inI (by omega) (by omega)) dL_law_1046 ?_
      refine lv_topi (fun v_14 ev_14 => ?_)
      obtain rfl : v_14 = xs (7 * j + 3) := ev_14.trans (congrArg xs (nI_ix hxj (by omega) (by omega)))
      have hPa := hP
      have hDa := hD
      have hP := vaP_r (vaP_r hPa)
      have hD := vaD_r (vaD_r hDa)
      have hRi := hLM.1
      have hRr := hLM.2.1
      have hE := hLM.2.2
      have hF_15 := rF hD hS hA
      refine va_calli (va_runV (As := [.int (xs (7 * j + 1)), .int 0, .int (xs (7 * j + 3))]) (rest := []) ⟨hx, hb, hml, hown, hT⟩ (c_X12_offer l D cy am im rm lm (xs (7 * j + 1)) 0 (xs (7 * j + 3)) _ hRi hRr) (cwV 3 hT (gV t_1034 t_1035 t_1036 t_1037 t_6) rfl rfl rfl (by decide +kernel) ⟨Nat.le_of_ble_eq_true rfl, Nat.le_of_ble_eq_true rfl⟩) (rQ_v hP hK hD (va_recv hK hP (ci := 12) (q0 := 0) rfl rfl)) rfl rfl hl.1 rfl (lv_room (Nat.le_of_ble_eq_true rfl)) dL_law_1047 ⟨by show _ ≤ (600000 : Nat); omega, by show _ ≤ (7302250 : Nat); omega⟩) hS (fun q _ h => hF_15 q h) hF_15 (fun r_16 u_17 t H1 locs ht hvm hr_16 hB hz1 hk1 hS => ?_)
      obtain ⟨r17, rfl⟩ : ∃ z, z = u_17 := ⟨_, rfl⟩
      obtain ⟨hP, hK1, hD1⟩ := hB
      rw [ht] at hP
      have hD := hD1.weaken (fun k q _ h => hF_15 q.1 h)
      have hP : va_P D vwCl (mW cy am im r17 lm) H1 := hP
      have hD : va_D A (mW cy am im r17 lm) := hD
      obtain ⟨hRr, hE2, hr_16⟩ := hr_16
      have hRr : mRr r17 := hRr
      obtain ⟨hP, hD⟩ := joinM hPa hDa hk1 hP rfl
      have hLM : LM im r17 := ⟨hRi, hRr, (mE_same (Ei_rf (T := [])) hE2 (by decide) (by decide) hE)⟩
      have hMI : mEi [] im im := Ei_rf
      have hMR : mEr [50, 51] rm r17 := hE2
      obtain ⟨hL1, hL2, hL3⟩ := id hLR
      obtain ⟨kH, kK, kN, kX, kY, _⟩ := id hL1
      have hLR : LR i9 r9 gi9 gr9 nh im r17 := ⟨LR1_same hL1 hMI hMR hCX (by decide) (by decide) (by decide) (by decide), LR2_same hL2 hMI hMR hCX (by decide) (by decide) (by decide) (by decide), LR3_same hL3 hMI hMR hCX (by decide) (by decide) (by decide) (by decide)⟩
      refine lv_pop hx hb dL_law_1050 rfl ?_
      refine lv_goto (tgt := 1525) hx hb dL_law_1051 (by decide) ?_
      refine W.widen (k := ce + 15) (n := sl + 215) (by omega) (by omega) ?_
      exact kk a _ _ _ _ _ _ _ _ _ _ _ _ _ rfl hLX hLM hLR hP hD hS (lv_sub hl [0, 1, 2, 3] rfl)
    by_cases hv : 0 ≤ (xs (7 * j + 1)).toInt ∧ (xs (7 * j + 1)).toInt < (i 0).toInt
    · have hlt : (xs (7 * j + 1)).toNatClampNeg < nh := by have h9 : (xs (7 * j + 1)).toNatClampNeg = (xs (7 * j + 1)).toInt.toNat := rfl; have h8 := hLX.2.1; omega
      have hP0 := hP
      have hD0 := hD
      have hn6 : nh ≤ 6 := by have h8 := hLX.2.1; have h7 : (i 0).toInt ≤ 6 := (hLX.1.1 0).2; omega
      have hz := zoom (cy := cy) (a := a) (i := i) (r := r) (q := q) (hb := gb) (hi := gi) (hr := gr) (tl := (mW cy am im rm lm)) hlt
      have hP := vaP_perm hz hP
      have hD := vaD_perm hz hD
      have hRi := mix_Ri hLX.1.1 (hLX.2.2 _ hlt).2.1
      have hRr := mix_Rr hLX.1.2 (hLX.2.2 _ hlt).2.2
      obtain ⟨A2, hA2⟩ : ∃ z, z = mixA a (gb ((xs (7 * j + 1)).toNatClampNeg)) := ⟨_, rfl⟩
      obtain ⟨I2, hI2⟩ : ∃ z, z = mixI i (gi ((xs (7 * j + 1)).toNatClampNeg)) := ⟨_, rfl⟩
      obtain ⟨R2, hR2⟩ : ∃ z, z = mixR r (gr ((xs (7 * j + 1)).toNatClampNeg)) := ⟨_, rfl⟩
      rw [← hA2, ← hI2, ← hR2] at hP hD
      rw [← hI2] at hRi
      rw [← hR2] at hRr
      have h0 : I2 0 = i 0 := by rw [hI2]; rfl
      have h61 : A2 61 = gb ((xs (7 * j + 1)).toNatClampNeg) 61 := by rw [hA2]; rfl
      have ha0 : A2 0 = a 0 := by rw [hA2]; rfl
      rw [← ha0]
      have hF_18 := rF hD hS hA
      refine va_calli (va_runV (As := [.int (xs (7 * j + 1)), .int 0, .int (xs (7 * j + 3))]) (rest := []) ⟨hx, hb, hml, hown, hT⟩ (c_X11_offer.y l D cy A2 I2 R2 q (HX cy gb gi gr ((xs (7 * j + 1)).toNatClampNeg) nh ++ (mW cy am im rm lm)) (xs (7 * j + 1)) 0 (xs (7 * j + 3)) _ hRi hRr (by rw [h0]; exact hv) (by rw [h61]; exact (hLX.2.2 _ hlt).1)) (cwV 3 hT (gV t_1038 t_1039 t_1040 t_1041 t_2) rfl rfl rfl (by decide +kernel) ⟨Nat.le_of_ble_eq_true rfl, Nat.le_of_ble_eq_true rfl⟩) (rQ_v hP hK hD (va_recv hK hP (ci := 11) (q0 := 0) rfl rfl)) rfl rfl hl.1 rfl (lv_room (Nat.le_of_ble_eq_true rfl)) dL_law_1019 ⟨by show _ ≤ (600000 : Nat); omega, by show _ ≤ (7302250 : Nat); omega⟩) hS (fun q _ h => hF_18 q h) hF_18 (fun r_19 u_20 t H1 locs ht hvm hr_19 hB hz1 hk1 hS => ?_)
      obtain ⟨r20, rfl⟩ : ∃ z, z = u_20 := ⟨_, rfl⟩
      obtain ⟨hP, hK1, hD1⟩ := hB
      rw [ht] at hP
      have hD := hD1.weaken (fun k q _ h => hF_18 q.1 h)
      obtain ⟨hRr, hE2, hr_19⟩ := hr_19
      have hRr : yRr r20 := hRr
      have hE2 : mEr [38, 39] R2 r20 := hE2
      have hP : va_P D vwCl (xW cy A2 I2 r20 q (A2 20) (A2 12) ++ (hW cy A2 I2 r20 ++ (HX cy gb gi gr ((xs (7 * j + 1)).toNatClampNeg) nh ++ (mW cy am im rm lm)))) H1 := hP
      have hD : va_D A (xW cy A2 I2 r20 q (A2 20) (A2 12) ++ (hW cy A2 I2 r20 ++ (HX cy gb gi gr ((xs (7 * j + 1)).toNatClampNeg) nh ++ (mW cy am im rm lm)))) := hD
      rw [hA2] at hP hD
      have hP := vaP_perm (unzoom (i := I2) (r := R2) hlt) hP
      have hD := vaD_perm (unzoom (i := I2) (r := R2) hlt) hD
      have hLX := LX_y (K := (xs (7 * j + 1)).toNatClampNeg) hLX hRi hRr h0
      have hE2x := hE2
      have hCX := CX_y (nh := nh) (i := i) (r := r) (gi := gi) (gr := gr) (K := (xs (7 * j + 1)).toNatClampNeg) hI2 hR2 (Ei_rf (T := [])) hE2
      exact kx _ _ _ _ _ _ _ hLX hCX hP hD hS
    · skip
      have hRi := hLX.1.1
      have hRr := hLX.1.2
      refine vp_callSi (W.runV (As := [.int (xs (7 * j + 1)), .int 0, .int (xs (7 * j + 3))]) (rest := []) ⟨hx, hb, hml, hown, hT⟩ (c_X11_offer.b l D cy a i r q (HL cy gb gi gr nh ++ (mW cy am im rm lm)) (xs (7 * j + 1)) 0 (xs (7 * j + 3)) hRi hRr hv) (cwV 3 hT (gV t_1038 t_1039 t_1040 t_1041 t_2) rfl rfl rfl (by decide +kernel) ⟨Nat.le_of_ble_eq_true rfl, Nat.le_of_ble_eq_true rfl⟩) (rP_v hP hK (va_recv hK hP (ci := 11) (q0 := 0) rfl rfl)) rfl rfl hl.1 rfl (lv_room (Nat.le_of_ble_eq_true rfl)) dL_law_1019 ⟨by show _ ≤ (600000 : Nat); omega, by show _ ≤ (7302250 : Nat); omega⟩) (fun r_21 hr_21 => ?_)
      have hCX := CX_rf (i := i) (r := r) (gi := gi) (gr := gr) (nh := nh)
      exact kx _ _ _ _ _ _ _ hLX CX_rfT hP hD hS
  · have c_5 : (xs (7 * j + 2)).toInt ≠ 0 := b_ne c_5
    refine lv_iconst (v := 1) hx hb dL_law_1009 (by decide) ?_
    refine lv_goto (tgt := 1014) hx hb dL_law_1010 (by decide) ?_
    refine lv_aload_n hx hb dL_law_1014 rfl (lv_at hl 0 rfl) ?_
    refine lv_iload_n hx hb dL_law_1015 rfl (lv_at hl 3 rfl) ?_
    refine lv_iconst (v := 3) hx hb dL_law_1016 (by decide) ?_
    refine lv_iadd hx hb dL_law_1017 ?_
    refine lv_topi (fun v_22 ev_22 => ?_)
    have hv_22 : v_22.toInt = x.toInt + 3 := by rw [ev_22]; have := b_rg x; exact i_add (a := x.toInt) (b := 3) rfl rfl (by omega) (by omega)
    refine va_sld hx hb hX hbl hbA hS (vp_inI (by omega) (by omega)) dL_law_1018 ?_
    refine lv_topi (fun v_23 ev_23 => ?_)
    obtain rfl : v_23 = xs (7 * j + 3) := ev_23.trans (congrArg xs (nI_ix hxj (by omega) (by omega)))
    have kx : ∀ (z9 : Int32) (i9 : Nat → Int32) (r9 : Nat → Nat → Int32) (gi9 : Nat → Nat → Int32) (gr9 : Nat → Nat → Nat → Int32) (H9 : Heap) (locs9 : List Loc), LX i9 r9 q gb gi9 gr9 nh → CX [] [38, 39] nh i r gi gr i9 r9 gi9 gr9 → va_P D vwCl (xW cy a i9 r9 q (a 20) (a 12) ++ (HL cy gb gi9 gr9 nh ++ (mW cy am im rm lm))) H9 → va_D A (xW cy a i9 r9 q (a 20) (a 12) ++ (HL cy gb gi9 gr9 nh ++ (mW cy am im rm lm))) → va_S A s.heap H9 locs9 → W p l e room_1 s m #[Value.ref b] below meth c H9 locs9 ce sl (lw_Z below #[Value.ref b] s) (F0 m 1022 ls [.int z9]) := by
      intro z9 i9 r9 gi9 gr9 H locs hLX hCX hP hD hS
      refine lv_pop hx hb dL_law_1022 rfl ?_
      refine lv_aload_n hx hb dL_law_1023 rfl (lv_at hl 2 rfl) ?_
      refine lv_aload_n hx hb dL_law_1024 rfl (lv_at hl 0 rfl) ?_
      refine lv_iload_n hx hb dL_law_1025 rfl (lv_at hl 3 rfl) ?_
      refine lv_iconst (v := 1) hx hb dL_law_1026 (by decide) ?_
      refine lv_iadd hx hb dL_law_1027 ?_
      refine lv_topi (fun v_24 ev_24 => ?_)
      have hv_24 : v_24.toInt = x.toInt + 1 := by rw [ev_24]; have := b_rg x; exact i_add (a := x.toInt) (b := 1) rfl rfl (by omega) (by omega)
      refine va_sld hx hb hX hbl hbA hS (vp_inI (by omega) (by omega)) dL_law_1028 ?_
      refine lv_topi (fun v_25 ev_25 => ?_)
      obtain rfl : v_25 = xs (7 * j + 1) := ev_25.trans (congrArg xs (nI_ix hxj (by omega) (by omega)))
      refine lv_aload_n hx hb dL_law_1029 rfl (lv_at hl 0 rfl) ?_
      refine lv_iload_n hx hb dL_law_1030 rfl (lv_at hl 3 rfl) ?_
      refine lv_iconst (v := 2) hx hb dL_law_1031 (by decide) ?_
      refine lv_iadd hx hb dL_law_1032 ?_
      refine lv_topi (fun v_26 ev_26 => ?_)
      have hv_26 : v_26.toInt = x.toInt + 2 := by rw [ev_26]; have := b_rg x; exact i_add (a := x.toInt) (b := 2) rfl rfl (by omega) (by omega)
      refine va_sld hx hb hX hbl hbA hS (vp_inI (by omega) (by omega)) dL_law_1033 ?_
      refine lv_topi (fun v_27 ev_27 => ?_)
      obtain rfl : v_27 = xs (7 * j + 2) := ev_27.trans (congrArg xs (nI_ix hxj (by omega) (by omega)))
      refine lv_if_eq (tgt := 1041) hx hb dL_law_1034 (by decide) (fun c_28 => absurd (show (xs (7 * j + 2)).toInt = 0 from b_eq c_28) c_5) (fun c_28 => ?_)
      refine lv_iconst (v := 1) hx hb dL_law_1037 (by decide) ?_
      refine lv_goto (tgt := 1042) hx hb dL_law_1038 (by decide) ?_
      refine lv_aload_n hx hb dL_law_1042 rfl (lv_at hl 0 rfl) ?_
      refine lv_iload_n hx hb dL_law_1043 rfl (lv_at hl 3 rfl) ?_
      refine lv_iconst (v := 3) hx hb dL_law_1044 (by decide) ?_
      refine lv_iadd hx hb dL_law_1045 ?_
      refine lv_topi (fun v_29 ev_29 => ?_)
      have hv_29 : v_29.toInt = x.toInt + 3 := by rw [ev_29]; have := b_rg x; exact i_add (a := x.toInt) (b := 3) rfl rfl (by omega) (by omega)
      refine va_sld hx hb hX hbl hbA hS (vp_inI (by omega) (by omega)) dL_law_1046 ?_
      refine lv_topi (fun v_30 ev_30 => ?_)
      obtain rfl : v_30 = xs (7 * j + 3) := ev_30.trans (congrArg xs (nI_ix hxj (by omega) (by omega)))
      have hPa := hP
      have hDa := hD
      have hP := vaP_r (vaP_r hPa)
      have hD := vaD_r (vaD_r hDa)
      have hRi := hLM.1
      have hRr := hLM.2.1
      have hE := hLM.2.2
      have hF_31 := rF hD hS hA
      refine va_calli (va_runV (As := [.int (xs (7 * j + 1)), .int 1, .int (xs (7 * j + 3))]) (rest := []) ⟨hx, hb, hml, hown, hT⟩ (c_X12_offer l D cy am im rm lm (xs (7 * j + 1)) 1 (xs (7 * j + 3)) _ hRi hRr) (cwV 3 hT (gV t_1034 t_1035 t_1036 t_1037 t_6) rfl rfl rfl (by decide +kernel) ⟨Nat.le_of_ble_eq_true rfl, Nat.le_of_ble_eq_true rfl⟩) (rQ_v hP hK hD (va_recv hK hP (ci := 12) (q0 := 0) rfl rfl)) rfl rfl hl.1 rfl (lv_room (Nat.le_of_ble_eq_true rfl)) dL_law_1047 ⟨by show _ ≤ (600000 : Nat); omega, by show _ ≤ (7302250 : Nat); omega⟩) hS (fun q _ h => hF_31 q h) hF_31 (fun r_32 u_33 t H1 locs ht hvm hr_32 hB hz1 hk1 hS => ?_)
      obtain ⟨r33, rfl⟩ : ∃ z, z = u_33 := ⟨_, rfl⟩
      obtain ⟨hP, hK1, hD1⟩ := hB
      rw [ht] at hP
      have hD := hD1.weaken (fun k q _ h => hF_31 q.1 h)
      have hP : va_P D vwCl (mW cy am im r33 lm) H1 := hP
      have hD : va_D A (mW cy am im r33 lm) := hD
      obtain ⟨hRr, hE2, hr_32⟩ := hr_32
      have hRr : mRr r33 := hRr
      obtain ⟨hP, hD⟩ := joinM hPa hDa hk1 hP rfl
      have hLM : LM im r33 := ⟨hRi, hRr, (mE_same (Ei_rf (T := [])) hE2 (by decide) (by decide) hE)⟩
      have hMI : mEi [] im im := Ei_rf
      have hMR : mEr [50, 51] rm r33 := hE2
      obtain ⟨hL1, hL2, hL3⟩ := id hLR
      obtain ⟨kH, kK, kN, kX, kY, _⟩ := id hL1
      have hLR : LR i9 r9 gi9 gr9 nh im r33 := ⟨LR1_same hL1 hMI hMR hCX (by decide) (by decide) (by decide) (by decide), LR2_same hL2 hMI hMR hCX (by decide) (by decide) (by decide) (by decide), LR3_same hL3 hMI hMR hCX (by decide) (by decide) (by decide) (by decide)⟩
      refine lv_pop hx hb dL_law_1050 rfl ?_
      refine lv_goto (tgt := 1525) hx hb dL_law_1051 (by decide) ?_
      refine W.widen (k := ce + 15) (n := sl + 215) (by omega) (by omega) ?_
      exact kk a _ _ _ _ _ _ _ _ _ _ _ _ _ rfl hLX hLM hLR hP hD hS (lv_sub hl [0, 1, 2, 3] rfl)
    by_cases hv : 0 ≤ (xs (7 * j + 1)).toInt ∧ (xs (7 * j + 1)).toInt < (i 0).toInt
    · have hlt : (xs (7 * j + 1)).toNatClampNeg < nh := by have h9 : (xs (7 * j + 1)).toNatClampNeg = (xs (7 * j + 1)).toInt.toNat := rfl; have h8 := hLX.2.1; omega
      have hP0 := hP
      have hD0 := hD
      have hn6 : nh ≤ 6 := by have h8 := hLX.2.1; have h7 : (i 0).toInt ≤ 6 := (hLX.1.1 0).2; omega
      have hz := zoom (cy := cy) (a := a) (i := i) (r := r) (q := q) (hb := gb) (hi := gi) (hr := gr) (tl := (mW cy am im rm lm)) hlt
      have hP := vaP_perm hz hP
      have hD := vaD_perm hz hD
      have hRi := mix_Ri hLX.1.1 (hLX.2.2 _ hlt).2.1
      have hRr := mix_Rr hLX.1.2 (hLX.2.2 _ hlt).2.2
      obtain ⟨A2, hA2⟩ : ∃ z, z = mixA a (gb ((xs (7 * j + 1)).toNatClampNeg)) := ⟨_, rfl⟩
      obtain ⟨I2, hI2⟩ : ∃ z, z = mixI i (gi ((xs (7 * j + 1)).toNatClampNeg)) := ⟨_, rfl⟩
      obtain ⟨R2, hR2⟩ : ∃ z, z = mixR r (gr ((xs (7 * j + 1)).toNatClampNeg)) := ⟨_, rfl⟩
      rw [← hA2, ← hI2, ← hR2] at hP hD
      rw [← hI2] at hRi
      rw [← hR2] at hRr
      have h0 : I2 0 = i 0 := by rw [hI2]; rfl
      have h61 : A2 61 = gb ((xs (7 * j + 1)).toNatClampNeg) 61 := by rw [hA2]; rfl
      have ha0 : A2 0 = a 0 := by rw [hA2]; rfl
      rw [← ha0]
      have hF_34 := rF hD hS hA
      refine va_calli (va_runV (As := [.int (xs (7 * j + 1)), .int 1, .int (xs (7 * j + 3))]) (rest := []) ⟨hx, hb, hml, hown, hT⟩ (c_X11_offer.y l D cy A2 I2 R2 q (HX cy gb gi gr ((xs (7 * j + 1)).toNatClampNeg) nh ++ (mW cy am im rm lm)) (xs (7 * j + 1)) 1 (xs (7 * j + 3)) _ hRi hRr (by rw [h0]; exact hv) (by rw [h61]; exact (hLX.2.2 _ hlt).1)) (cwV 3 hT (gV t_1038 t_1039 t_1040 t_1041 t_2) rfl rfl rfl (by decide +kernel) ⟨Nat.le_of_ble_eq_true rfl, Nat.le_of_ble_eq_true rfl⟩) (rQ_v hP hK hD (va_recv hK hP (ci := 11) (q0 := 0) rfl rfl)) rfl rfl hl.1 rfl (lv_room (Nat.le_of_ble_eq_true rfl)) dL_law_1019 ⟨by show _ ≤ (600000 : Nat); omega, by show _ ≤ (7302250 : Nat); omega⟩) hS (fun q _ h => hF_34 q h) hF_34 (fun r_35 u_36 t H1 locs ht hvm hr_35 hB hz1 hk1 hS => ?_)
      obtain ⟨r36, rfl⟩ : ∃ z, z = u_36 := ⟨_, rfl⟩
      obtain ⟨hP, hK1, hD1⟩ := hB
      rw [ht] at hP
      have hD := hD1.weaken (fun k q _ h => hF_34 q.1 h)
      obtain ⟨hRr, hE2, hr_35⟩ := hr_35
      have hRr : yRr r36 := hRr
      have hE2 : mEr [38, 39] R2 r36 := hE2
      have hP : va_P D vwCl (xW cy A2 I2 r36 q (A2 20) (A2 12) ++ (hW cy A2 I2 r36 ++ (HX cy gb gi gr ((xs (7 * j + 1)).toNatClampNeg) nh ++ (mW cy am im rm lm)))) H1 := hP
      have hD : va_D A (xW cy A2 I2 r36 q (A2 20) (A2 12) ++ (hW cy A2 I2 r36 ++ (HX cy gb gi gr ((xs (7 * j + 1)).toNatClampNeg) nh ++ (mW cy am im rm lm)))) := hD
      rw [hA2] at hP hD
      have hP := vaP_perm (unzoom (i := I2) (r := R2) hlt) hP
      have hD := vaD_perm (unzoom (i := I2) (r := R2) hlt) hD
      have hLX := LX_y (K := (xs (7 * j + 1)).toNatClampNeg) hLX hRi hRr h0
      have hE2x := hE2
      have hCX := CX_y (nh := nh) (i := i) (r := r) (gi := gi) (gr := gr) (K := (xs (7 * j + 1)).toNatClampNeg) hI2 hR2 (Ei_rf (T := [])) hE2
      exact kx _ _ _ _ _ _ _ hLX hCX hP hD hS
    · skip
      have hRi := hLX.1.1
      have hRr := hLX.1.2
      refine vp_callSi (W.runV (As := [.int (xs (7 * j + 1)), .int 1, .int (xs (7 * j + 3))]) (rest := []) ⟨hx, hb, hml, hown, hT⟩ (c_X11_offer.b l D cy a i r q (HL cy gb gi gr nh ++ (mW cy am im rm lm)) (xs (7 * j + 1)) 1 (xs (7 * j + 3)) hRi hRr hv) (cwV 3 hT (gV t_1038 t_1039 t_1040 t_1041 t_2) rfl rfl rfl (by decide +kernel) ⟨Nat.le_of_ble_eq_true rfl, Nat.le_of_ble_eq_true rfl⟩) (rP_v hP hK (va_recv hK hP (ci := 11) (q0 := 0) rfl rfl)) rfl rfl hl.1 rfl (lv_room (Nat.le_of_ble_eq_true rfl)) dL_law_1019 ⟨by show _ ≤ (600000 : Nat); omega, by show _ ≤ (7302250 : Nat); omega⟩) (fun r_37 hr_37 => ?_)
      have hCX := CX_rf (i := i) (r := r) (gi := gi) (gr := gr) (nh := nh)
      exact kx _ _ _ _ _ _ _ hLX CX_rfT hP hD hS
set_option maxHeartbeats 4000000 in
set_option maxRecDepth 100000 in
theorem lc_18 {p : Program} {l : Launch} {e : Env} {s : State} {m : MethodId} {below : List Frame} {meth : Method} {c : Code} {b L : Nat} {xs : Nat → Int32} (C0 : lw_At p s m meth c b L xs) {D : va_G} {cy : Nat → ClassId} {kq vq : Nat} {A : Nat → Prop} (hA : ∀ q, s.heap.size ≤ q → A q) (hbA : ¬ A b) (hK : va_K D vwCl (vT cy) s) (hn : nw s) (hm0 : nm s) (hsk : vk_R RX6 101 "krsoamngcv" kq s ∧ sA kq vq A s s.heap) {a : Nat → Nat} {i : Nat → Int32} {r : Nat → Nat → Int32} {q : Nat → Option Nat} {gb : Nat → Nat → Nat} {gi : Nat → Nat → Int32} {gr : Nat → Nat → Nat → Int32} {nh : Nat} {am : Nat → Nat} {im : Nat → Int32} {rm : Nat → Nat → Int32} {lm : Nat → Int64} (hLX : LX i r q gb gi gr nh) (hLM : LM im rm) (hLR : LR i r gi gr nh im rm) {H : Heap} {locs : List Loc} (hP : va_P D vwCl (xW cy a i r q (a 20) (a 12) ++ (HL cy gb gi gr nh ++ (mW cy am im rm lm))) H) (hD : va_D A (xW cy a i r q (a 20) (a 12) ++ (HL cy gb gi gr nh ++ (mW cy am im rm lm)))) (hS : va_S A s.heap H locs) {ls : Array Slot} {x : Int32} (hl : lv_has ls 4 [(0, .ref b), (1, .ref (a 0)), (2, .ref (am 0)), (3, .int x)]) {j : Nat} (hj : 7 * j + 7 ≤ L) (hL : L ≤ 3584) (hxj : x = nI (7 * j)) {ce sl : Nat} (hce : ce + 15 ≤ 600000) (hsl : sl + 215 ≤ 7302250) (kk : ∀ (a2 : Nat → Nat) (i2 : Nat → Int32) (r2 : Nat → Nat → Int32) (q2 : Nat → Option Nat) (gb2 : Nat → Nat → Nat) (gi2 : Nat → Nat → Int32) (gr2 : Nat → Nat → Nat → Int32) (nh2 : Nat) (im2 : Nat → Int32) (rm2 : Nat → Nat → Int32) (lm2 : Nat → Int64) (H2 : Heap) (locs2 : List Loc) (ls2 : Array Slot), a2 0 = a 0 → LX i2 r2 q2 gb2 gi2 gr2 nh2 → LM im2 rm2 → LR i2 r2 gi2 gr2 nh2 im2 rm2 → va_P D vwCl (xW cy a2 i2 r2 q2 (a2 20) (a2 12) ++ (HL cy gb2 gi2 gr2 nh2 ++ (mW cy am im2 rm2 lm2))) H2 → va_D A (xW cy a2 i2 r2 q2 (a2 20) (a2 12) ++ (HL cy gb2 gi2 gr2 nh2 ++ (mW cy am im2 rm2 lm2))) → va_S A s.heap H2 locs2 → lv_has ls2 4 [(0, .ref b), (1, .ref (a 0)), (2, .ref (am 0)), (3, .int x)] → W p l e room_1 s m #[Value.ref b] below meth c H2 locs2 (ce + 15) (sl + 215) (lw_Z below #[Value.ref b] s) (F0 m 1525 ls2 [])) : W p l e room_1 s m #[Value.ref b] below meth c H locs ce sl (lw_Z below #[Value.ref b] s) (F0 m 1054 ls []) := by
  obtain ⟨hx, hb, hr, hml, hown, hts, hX, hbl, hlocks, hgv⟩ := id C0
  have hT : ∀ w ∈ gT, w.before _ s = true := fun w h => hts w (gT_in w h)
  have hx0 : x.toInt = ((7 * j : Nat) : Int) := by rw [hxj]; exact nI_toInt (by omega)
  have hLX0 := hLX
  have hLM0 := hLM
  refine lv_aload_n hx hb dL_law_1054 rfl (lv_at hl 1 rfl) ?_
  refine lv_aload_n hx hb dL_law_1055 rfl (lv_at hl 0 rfl) ?_
  refine lv_iload_n hx hb dL_law_1056 rfl (lv_at hl 3 rfl) ?_
  refine lv_iconst (v := 1) hx hb dL_law_1057 (by decide) ?_
  refine lv_iadd hx hb dL_law_1058 ?_
  refine lv_topi (fun v_1 ev_1 => ?_)
  have hv_1 : v_1.toInt = x.toInt + 1 := by rw [ev_1]; have := b_rg x; exact i_add (a := x.toInt) (b := 1) rfl rfl (by omega) (by omega)
  refine va_sld hx hb hX hbl hbA hS (vp_inI (by omega) (by omega)) dL_law_1059 ?_
  refine lv_topi (fun v_2 ev_2 => ?_)
  obtain rfl : v_2 = xs (7 * j + 1) := ev_2.trans (congrArg xs (nI_ix hxj (by omega) (by omega)))
  have kx : ∀ (z9 : Int32) (i9 : Nat → Int32) (r9 : Nat → Nat → Int32) (gi9 : Nat → Nat → Int32) (gr9 : Nat → Nat → Nat → Int32) (H9 : Heap) (locs9 : List Loc), LX i9 r9 q gb gi9 gr9 nh → CX [] [38, 39] nh i r gi gr i9 r9 gi9 gr9 → va_P D vwCl (xW cy a i9 r9 q (a 20) (a 12) ++ (HL cy gb gi9 gr9 nh ++ (mW cy am im rm lm))) H9 → va_D A (xW cy a i9 r9 q (a 20) (a 12) ++ (HL cy gb gi9 gr9 nh ++ (mW cy am im rm lm))) → va_S A s.heap H9 locs9 → W p l e room_1 s m #[Value.ref b] below meth c H9 locs9 ce sl (lw_Z below #[Value.ref b] s) (F0 m 1063 ls [.int z9]) := by
    intro z9 i9 r9 gi9 gr9 H locs hLX hCX hP hD hS
    refine lv_pop hx hb dL_law_1063 rfl ?_
    refine lv_aload_n hx hb dL_law_1064 rfl (lv_at hl 2 rfl) ?_
    refine lv_aload_n hx hb dL_law_1065 rfl (lv_at hl 0 rfl) ?_
    refine lv_iload_n hx hb dL_law_1066 rfl (lv_at hl 3 rfl) ?_
    refine lv_iconst (v := 1) hx hb dL_law_1067 (by decide) ?_
    refine lv_iadd hx hb dL_law_1068 ?_
    refine lv_topi (fun v_3 ev_3 => ?_)
    have hv_3 : v_3.toInt = x.toInt + 1 := by rw [ev_3]; have := b_rg x; exact i_add (a := x.toInt) (b := 1) rfl rfl (by omega) (by omega)
    refine va_sld hx hb hX hbl hbA hS (vp_inI (by omega) (by omega)) dL_law_1069 ?_
    refine lv_topi (fun v_4 ev_4 => ?_)
    obtain rfl : v_4 = xs (7 * j + 1) := ev_4.trans (congrArg xs (nI_ix hxj (by omega) (by omega)))
    have hPa := hP
    have hDa := hD
    have hP := vaP_r (vaP_r hPa)
    have hD := vaD_r (vaD_r hDa)
    have hRi := hLM.1
    have hRr := hLM.2.1
    have hE := hLM.2.2
    have hF_5 := rF hD hS hA
    refine va_calli (va_runV (As := [.int (xs (7 * j + 1))]) (rest := []) ⟨hx, hb, hml, hown, hT⟩ (c_X12_met l D cy am im rm lm (xs (7 * j + 1)) _ hRi hRr) (cwV 1 hT (gV t_1042 t_1043 t_1044 t_1045 t_6) rfl rfl rfl (by decide +kernel) ⟨Nat.le_of_ble_eq_true rfl, Nat.le_of_ble_eq_true rfl⟩) (rQ_v hP hK hD (va_recv hK hP (ci := 12) (q0 := 0) rfl rfl)) rfl rfl hl.1 rfl (lv_room (Nat.le_of_ble_eq_true rfl)) dL_law_1070 ⟨by show _ ≤ (600000 : Nat); omega, by show _ ≤ (7302250 : Nat); omega⟩) hS (fun q _ h => hF_5 q h) hF_5 (fun r_6 u_7 t H1 locs ht hvm hr_6 hB hz1 hk1 hS => ?_)
    obtain ⟨r7, rfl⟩ : ∃ z, z = u_7 := ⟨_, rfl⟩
    obtain ⟨hP, hK1, hD1⟩ := hB
    rw [ht] at hP
    have hD := hD1.weaken (fun k q _ h => hF_5 q.1 h)
    have hP : va_P D vwCl (mW cy am im r7 lm) H1 := hP
    have hD : va_D A (mW cy am im r7 lm) := hD
    obtain ⟨hRr, hE2, hr_6⟩ := hr_6
    have hRr : mRr r7 := hRr
    obtain ⟨hP, hD⟩ := joinM hPa hDa hk1 hP rfl
    have hLM : LM im r7 := ⟨hRi, hRr, (mE_same (Ei_rf (T := [])) hE2 (by decide) (by decide) hE)⟩
    have hMI : mEi [] im im := Ei_rf
    have hMR : mEr [50, 51] rm r7 := hE2
    obtain ⟨hL1, hL2, hL3⟩ := id hLR
    obtain ⟨kH, kK, kN, kX, kY, _⟩ := id hL1
    have hLR : LR i9 r9 gi9 gr9 nh im r7 := ⟨LR1_same hL1 hMI hMR hCX (by decide) (by decide) (by decide) (by decide), LR2_same hL2 hMI hMR hCX (by decide) (by decide) (by decide) (by decide), LR3_same hL3 hMI hMR hCX (by decide) (by decide) (by decide) (by decide)⟩
    refine lv_pop hx hb dL_law_1073 rfl ?_
    refine lv_goto (tgt := 1525) hx hb dL_law_1074 (by decide) ?_
    refine W.widen (k := ce + 15) (n := sl + 215) (by omega) (by omega) ?_
    exact kk a _ _ _ _ _ _ _ _ _ _ _ _ _ rfl hLX hLM hLR hP hD hS (lv_sub hl [0, 1, 2, 3] rfl)
  by_cases hv : 0 ≤ (xs (7 * j + 1)).toInt ∧ (xs (7 * j + 1)).toInt < (i 0).toInt
  · have hlt : (xs (7 * j + 1)).toNatClampNeg < nh := by have h9 : (xs (7 * j + 1)).toNatClampNeg = (xs (7 * j + 1)).toInt.toNat := rfl; have h8 := hLX.2.1; omega
    have hP0 := hP
    have hD0 := hD
    have hn6 : nh ≤ 6 := by have h8 := hLX.2.1; have h7 : (i 0).toInt ≤ 6 := (hLX.1.1 0).2; omega
    have hz := zoom (cy := cy) (a := a) (i := i) (r := r) (q := q) (hb := gb) (hi := gi) (hr := gr) (tl := (mW cy am im rm lm)) hlt
    have hP := vaP_perm hz hP
    have hD := vaD_perm hz hD
    have hRi := mix_Ri hLX.1.1 (hLX.2.2 _ hlt).2.1
    have hRr := mix_Rr hLX.1.2 (hLX.2.2 _ hlt).2.2
    obtain ⟨A2, hA2⟩ : ∃ z, z = mixA a (gb ((xs (7 * j + 1)).toNatClampNeg)) := ⟨_, rfl⟩
    obtain ⟨I2, hI2⟩ : ∃ z, z = mixI i (gi ((xs (7 * j + 1)).toNatClampNeg)) := ⟨_, rfl⟩
    obtain ⟨R2, hR2⟩ : ∃ z, z = mixR r (gr ((xs (7 * j + 1)).toNatClampNeg)) := ⟨_, rfl⟩
    rw [← hA2, ← hI2, ← hR2] at hP hD
    rw [← hI2] at hRi
    rw [← hR2] at hRr
    have h0 : I2 0 = i 0 := by rw [hI2]; rfl
    have h61 : A2 61 = gb ((xs (7 * j + 1)).toNatClampNeg) 61 := by rw [hA2]; rfl
    have ha0 : A2 0 = a 0 := by rw [hA2]; rfl
    rw [← ha0]
    have hF_8 := rF hD hS hA
    refine va_calli (va_runV (As := [.int (xs (7 * j + 1))]) (rest := []) ⟨hx, hb, hml, hown, hT⟩ (c_X11_met.y l D cy A2 I2 R2 q (HX cy gb gi gr ((xs (7 * j + 1)).toNatClampNeg) nh ++ (mW cy am im rm lm)) (xs (7 * j + 1)) _ hRi hRr (by rw [h0]; exact hv) (by rw [h61]; exact (hLX.2.2 _ hlt).1)) (cwV 1 hT (gV t_1046 t_1047 t_1048 t_1049 t_2) rfl rfl rfl (by decide +kernel) ⟨Nat.le_of_ble_eq_true rfl, Nat.le_of_ble_eq_true rfl⟩) (rQ_v hP hK hD (va_recv hK hP (ci := 11) (q0 := 0) rfl rfl)) rfl rfl hl.1 rfl (lv_room (Nat.le_of_ble_eq_true rfl)) dL_law_1060 ⟨by show _ ≤ (600000 : Nat); omega, by show _ ≤ (7302250 : Nat); omega⟩) hS (fun q _ h => hF_8 q h) hF_8 (fun r_9 u_10 t H1 locs ht hvm hr_9 hB hz1 hk1 hS => ?_)
    obtain ⟨r10, rfl⟩ : ∃ z, z = u_10 := ⟨_, rfl⟩
    obtain ⟨hP, hK1, hD1⟩ := hB
    rw [ht] at hP
    have hD := hD1.weaken (fun k q _ h => hF_8 q.1 h)
    obtain ⟨hRr, hE2, hr_9⟩ := hr_9
    have hRr : yRr r10 := hRr
    have hE2 : mEr [38, 39] R2 r10 := hE2
    have hP : va_P D vwCl (xW cy A2 I2 r10 q (A2 20) (A2 12) ++ (hW cy A2 I2 r10 ++ (HX cy gb gi gr ((xs (7 * j + 1)).toNatClampNeg) nh ++ (mW cy am im rm lm)))) H1 := hP
    have hD : va_D A (xW cy A2 I2 r10 q (A2 20) (A2 12) ++ (hW cy A2 I2 r10 ++ (HX cy gb gi gr ((xs (7 * j + 1)).toNatClampNeg) nh ++ (mW cy am im rm lm)))) := hD
    rw [hA2] at hP hD
    have hP := vaP_perm (unzoom (i := I2) (r := R2) hlt) hP
    have hD := vaD_perm (unzoom (i := I2) (r := R2) hlt) hD
    have hLX := LX_y (K := (xs (7 * j + 1)).toNatClampNeg) hLX hRi hRr h0
    have hE2x := hE2
    have hCX := CX_y (nh := nh) (i := i) (r := r) (gi := gi) (gr := gr) (K := (xs (7 * j + 1)).toNatClampNeg) hI2 hR2 (Ei_rf (T := [])) hE2
    exact kx _ _ _ _ _ _ _ hLX hCX hP hD hS
  · skip
    have hRi := hLX.1.1
    have hRr := hLX.1.2
    refine vp_callSi (W.runV (As := [.int (xs (7 * j + 1))]) (rest := []) ⟨hx, hb, hml, hown, hT⟩ (c_X11_met.b l D cy a i r q (HL cy gb gi gr nh ++ (mW cy am im rm lm)) (xs (7 * j + 1)) hRi hRr hv) (cwV 1 hT (gV t_1046 t_1047 t_1048 t_1049 t_2) rfl rfl rfl (by decide +kernel) ⟨Nat.le_of_ble_eq_true rfl, Nat.le_of_ble_eq_true rfl⟩) (rP_v hP hK (va_recv hK hP (ci := 11) (q0 := 0) rfl rfl)) rfl rfl hl.1 rfl (lv_room (Nat.le_of_ble_eq_true rfl)) dL_law_1060 ⟨by show _ ≤ (600000 : Nat); omega, by show _ ≤ (7302250 : Nat); omega⟩) (fun r_11 hr_11 => ?_)
    have hCX := CX_rf (i := i) (r := r) (gi := gi) (gr := gr) (nh := nh)
    exact kx _ _ _ _ _ _ _ hLX CX_rfT hP hD hS
set_option maxHeartbeats 4000000 in
set_option maxRecDepth 100000 in
theorem lc_19 {p : Program} {l : Launch} {e : Env} {s : State} {m : MethodId} {below : List Frame} {meth : Method} {c : Code} {b L : Nat} {xs : Nat → Int32} (C0 : lw_At p s m meth c b L xs) {D : va_G} {cy : Nat → ClassId} {kq vq : Nat} {A : Nat → Prop} (hA : ∀ q, s.heap.size ≤ q → A q) (hbA : ¬ A b) (hK : va_K D vwCl (vT cy) s) (hn : nw s) (hm0 : nm s) (hsk : vk_R RX6 101 "krsoamngcv" kq s ∧ sA kq vq A s s.heap) {a : Nat → Nat} {i : Nat → Int32} {r : Nat → Nat → Int32} {q : Nat → Option Nat} {gb : Nat → Nat → Nat} {gi : Nat → Nat → Int32} {gr : Nat → Nat → Nat → Int32} {nh : Nat} {am : Nat → Nat} {im : Nat → Int32} {rm : Nat → Nat → Int32} {lm : Nat → Int64} (hLX : LX i r q gb gi gr nh) (hLM : LM im rm) (hLR : LR i r gi gr nh im rm) {H : Heap} {locs : List Loc} (hP : va_P D vwCl (xW cy a i r q (a 20) (a 12) ++ (HL cy gb gi gr nh ++ (mW cy am im rm lm))) H) (hD : va_D A (xW cy a i r q (a 20) (a 12) ++ (HL cy gb gi gr nh ++ (mW cy am im rm lm)))) (hS : va_S A s.heap H locs) {ls : Array Slot} {x : Int32} (hl : lv_has ls 4 [(0, .ref b), (1, .ref (a 0)), (2, .ref (am 0)), (3, .int x)]) {j : Nat} (hj : 7 * j + 7 ≤ L) (hL : L ≤ 3584) (hxj : x = nI (7 * j)) {ce sl : Nat} (hce : ce + 15 ≤ 600000) (hsl : sl + 215 ≤ 7302250) (kk : ∀ (a2 : Nat → Nat) (i2 : Nat → Int32) (r2 : Nat → Nat → Int32) (q2 : Nat → Option Nat) (gb2 : Nat → Nat → Nat) (gi2 : Nat → Nat → Int32) (gr2 : Nat → Nat → Nat → Int32) (nh2 : Nat) (im2 : Nat → Int32) (rm2 : Nat → Nat → Int32) (lm2 : Nat → Int64) (H2 : Heap) (locs2 : List Loc) (ls2 : Array Slot), a2 0 = a 0 → LX i2 r2 q2 gb2 gi2 gr2 nh2 → LM im2 rm2 → LR i2 r2 gi2 gr2 nh2 im2 rm2 → va_P D vwCl (xW cy a2 i2 r2 q2 (a2 20) (a2 12) ++ (HL cy gb2 gi2 gr2 nh2 ++ (mW cy am im2 rm2 lm2))) H2 → va_D A (xW cy a2 i2 r2 q2 (a2 20) (a2 12) ++ (HL cy gb2 gi2 gr2 nh2 ++ (mW cy am im2 rm2 lm2))) → va_S A s.heap H2 locs2 → lv_has ls2 4 [(0, .ref b), (1, .ref (a 0)), (2, .ref (am 0)), (3, .int x)] → W p l e room_1 s m #[Value.ref b] below meth c H2 locs2 (ce + 15) (sl + 215) (lw_Z below #[Value.ref b] s) (F0 m 1525 ls2 [])) : W p l e room_1 s m #[Value.ref b] below meth c H locs ce sl (lw_Z below #[Value.ref b] s) (F0 m 1077 ls []) := by
  obtain ⟨hx, hb, hr, hml, hown, hts, hX, hbl, hlocks, hgv⟩ := id C0
  have hT : ∀ w ∈ gT, w.before _ s = true := fun w h => hts w (gT_in w h)
  have hx0 : x.toInt = ((7 * j : Nat) : Int) := by rw [hxj]; exact nI_toInt (by omega)
  have hLX0 := hLX
  have hLM0 := hLM
  refine lv_aload_n hx hb dL_law_1077 rfl (lv_at hl 1 rfl) ?_
  refine lv_aload_n hx hb dL_law_1078 rfl (lv_at hl 0 rfl) ?_
  refine lv_iload_n hx hb dL_law_1079 rfl (lv_at hl 3 rfl) ?_
  refine lv_iconst (v := 1) hx hb dL_law_1080 (by decide) ?_
  refine lv_iadd hx hb dL_law_1081 ?_
  refine lv_topi (fun v_1 ev_1 => ?_)
  have hv_1 : v_1.toInt = x.toInt + 1 := by rw [ev_1]; have := b_rg x; exact i_add (a := x.toInt) (b := 1) rfl rfl (by omega) (by omega)
  refine va_sld hx hb hX hbl hbA hS (vp_inI (by omega) (by omega)) dL_law_1082 ?_
  refine lv_topi (fun v_2 ev_2 => ?_)
  obtain rfl : v_2 = xs (7 * j + 1) := ev_2.trans (congrArg xs (nI_ix hxj (by omega) (by omega)))
  refine lv_aload_n hx hb dL_law_1083 rfl (lv_at hl 0 rfl) ?_
  refine lv_iload_n hx hb dL_law_1084 rfl (lv_at hl 3 rfl) ?_
  refine lv_iconst (v := 2) hx hb dL_law_1085 (by decide) ?_
  refine lv_iadd hx hb dL_law_1086 ?_
  refine lv_topi (fun v_3 ev_3 => ?_)
  have hv_3 : v_3.toInt = x.toInt + 2 := by rw [ev_3]; have := b_rg x; exact i_add (a := x.toInt) (b := 2) rfl rfl (by omega) (by omega)
  refine va_sld hx hb hX hbl hbA hS (vp_inI (by omega) (by omega)) dL_law_1087 ?_
  refine lv_topi (fun v_4 ev_4 => ?_)
  obtain rfl : v_4 = xs (7 * j + 2) := ev_4.trans (congrArg xs (nI_ix hxj (by omega) (by omega)))
  refine lv_aload_n hx hb dL_law_1088 rfl (lv_at hl 0 rfl) ?_
  refine lv_iload_n hx hb dL_law_1089 rfl (lv_at hl 3 rfl) ?_
  refine lv_iconst (v := 3) hx hb dL_law_1090 (by decide) ?_
  refine lv_iadd hx hb dL_law_1091 ?_
  refine lv_topi (fun v_5 ev_5 => ?_)
  have hv_5 : v_5.toInt = x.toInt + 3 := by rw [ev_5]; have := b_rg x; exact i_add (a := x.toInt) (b := 3) rfl rfl (by omega) (by omega)
  refine va_sld hx hb hX hbl hbA hS (vp_inI (by omega) (by omega)) dL_law_1092 ?_
  refine lv_topi (fun v_6 ev_6 => ?_)
  obtain rfl : v_6 = xs (7 * j + 3) := ev_6.trans (congrArg xs (nI_ix hxj (by omega) (by omega)))
  refine lv_if_eq (tgt := 1100) hx hb dL_law_1093 (by decide) (fun c_7 => ?_) (fun c_7 => ?_)
  · have c_7 : (xs (7 * j + 3)).toInt = 0 := b_eq c_7
    refine lv_iconst (v := 0) hx hb dL_law_1100 (by decide) ?_
    by_cases hv : 0 ≤ (xs (7 * j + 2)).toInt ∧ (xs (7 * j + 2)).toInt < (i 0).toInt
    · have hlt : (xs (7 * j + 2)).toNatClampNeg < nh := by have h9 : (xs (7 * j + 2)).toNatClampNeg = (xs (7 * j + 2)).toInt.toNat := rfl; have h8 := hLX.2.1; omega
      have hP0 := hP
      have hD0 := hD
      have hn6 : nh ≤ 6 := by have h8 := hLX.2.1; have h7 : (i 0).toInt ≤ 6 := (hLX.1.1 0).2; omega
      have hz := zoom (cy := cy) (a := a) (i := i) (r := r) (q := q) (hb := gb) (hi := gi) (hr := gr) (tl := (mW cy am im rm lm)) hlt
      have hP := vaP_perm hz hP
      have hD := vaD_perm hz hD
      have hRi := mix_Ri hLX.1.1 (hLX.2.2 _ hlt).2.1
      have hRr := mix_Rr hLX.1.2 (hLX.2.2 _ hlt).2.2
      obtain ⟨A2, hA2⟩ : ∃ z, z = mixA a (gb ((xs (7 * j + 2)).toNatClampNeg)) := ⟨_, rfl⟩
      obtain ⟨I2, hI2⟩ : ∃ z, z = mixI i (gi ((xs (7 * j + 2)).toNatClampNeg)) := ⟨_, rfl⟩
      obtain ⟨R2, hR2⟩ : ∃ z, z = mixR r (gr ((xs (7 * j + 2)).toNatClampNeg)) := ⟨_, rfl⟩
      rw [← hA2, ← hI2, ← hR2] at hP hD
      rw [← hI2] at hRi
      rw [← hR2] at hRr
      have h0 : I2 0 = i 0 := by rw [hI2]; rfl
      have h61 : A2 61 = gb ((xs (7 * j + 2)).toNatClampNeg) 61 := by rw [hA2]; rfl
      have ha0 : A2 0 = a 0 := by rw [hA2]; rfl
      rw [← ha0]
      have hF_8 := rF hD hS hA
      refine va_calli (va_runV (As := [.int (xs (7 * j + 1)), .int (xs (7 * j + 2)), .int 0]) (rest := []) ⟨hx, hb, hml, hown, hT⟩ (c_X11_kin.y9 l D cy A2 I2 R2 q (HX cy gb gi gr ((xs (7 * j + 2)).toNatClampNeg) nh ++ (mW cy am im rm lm)) (xs (7 * j + 1)) (xs (7 * j + 2)) 0 _ hRi hRr (by rw [h0]; exact hv) (by rw [h61]; exact (hLX.2.2 _ hlt).1)) (cwV 3 hT (gV t_1050 t_1051 t_1052 t_1053 t_2) rfl rfl rfl (by decide +kernel) ⟨Nat.le_of_ble_eq_true rfl, Nat.le_of_ble_eq_true rfl⟩) (rQ_v hP hK hD (va_recv hK hP (ci := 11) (q0 := 0) rfl rfl)) rfl rfl hl.1 rfl (lv_room (Nat.le_of_ble_eq_true rfl)) dL_law_1101 ⟨by show _ ≤ (600000 : Nat); omega, by show _ ≤ (7302250 : Nat); omega⟩) hS (fun q _ h => hF_8 q h) hF_8 (fun r_9 u_10 t H1 locs ht hvm hr_9 hB hz1 hk1 hS => ?_)
      obtain ⟨r10, rfl⟩ : ∃ z, z = u_10 := ⟨_, rfl⟩
      obtain ⟨hP, hK1, hD1⟩ := hB
      rw [ht] at hP
      have hD := hD1.weaken (fun k q _ h => hF_8 q.1 h)
      obtain ⟨hRr, hE2, hr_9⟩ := hr_9
      have hRr : yRr r10 := hRr
      have hE2 : mEr [64] R2 r10 := hE2
      have hP : va_P D vwCl (xW cy A2 I2 r10 q (A2 20) (A2 12) ++ (hW cy A2 I2 r10 ++ (HX cy gb gi gr ((xs (7 * j + 2)).toNatClampNeg) nh ++ (mW cy am im rm lm)))) H1 := hP
      have hD : va_D A (xW cy A2 I2 r10 q (A2 20) (A2 12) ++ (hW cy A2 I2 r10 ++ (HX cy gb gi gr ((xs (7 * j + 2)).toNatClampNeg) nh ++ (mW cy am im rm lm)))) := hD
      rw [hA2] at hP hD
      have hP := vaP_perm (unzoom (i := I2) (r := R2) hlt) hP
      have hD := vaD_perm (unzoom (i := I2) (r := R2) hlt) hD
      have hLX := LX_y (K := (xs (7 * j + 2)).toNatClampNeg) hLX hRi hRr h0
      have hE2x := hE2
      have hCX := CX_y (nh := nh) (i := i) (r := r) (gi := gi) (gr := gr) (K := (xs (7 * j + 2)).toNatClampNeg) hI2 hR2 (Ei_rf (T := [])) hE2
      refine lv_pop hx hb dL_law_1104 rfl ?_
      refine lv_aload_n hx hb dL_law_1105 rfl (lv_at hl 2 rfl) ?_
      refine lv_aload_n hx hb dL_law_1106 rfl (lv_at hl 0 rfl) ?_
      refine lv_iload_n hx hb dL_law_1107 rfl (lv_at hl 3 rfl) ?_
      refine lv_iconst (v := 1) hx hb dL_law_1108 (by decide) ?_
      refine lv_iadd hx hb dL_law_1109 ?_
      refine lv_topi (fun v_11 ev_11 => ?_)
      have hv_11 : v_11.toInt = x.toInt + 1 := by rw [ev_11]; have := b_rg x; exact i_add (a := x.toInt) (b := 1) rfl rfl (by omega) (by omega)
      refine va_sld hx hb hX hbl hbA hS (vp_inI (by omega) (by omega)) dL_law_1110 ?_
      refine lv_topi (fun v_12 ev_12 => ?_)
      obtain rfl : v_12 = xs (7 * j + 1) := ev_12.trans (congrArg xs (nI_ix hxj (by omega) (by omega)))
      refine lv_aload_n hx hb dL_law_1111 rfl (lv_at hl 0 rfl) ?_
      refine lv_iload_n hx hb dL_law_1112 rfl (lv_at hl 3 rfl) ?_
      refine lv_iconst (v := 2) hx hb dL_law_1113 (by decide) ?_
      refine lv_iadd hx hb dL_law_1114 ?_
      refine lv_topi (fun v_13 ev_13 => ?_)
      have hv_13 : v_13.toInt = x.toInt + 2 := by rw [ev_13]; have := b_rg x; exact i_add (a := x.toInt) (b := 2) rfl rfl (by omega) (by omega)
      refine va_sld hx hb hX hbl hbA hS (vp_inI (by omega) (by omega)) dL_law_1115 ?_
      refine lv_topi (fun v_14 ev_14 => ?_)
      obtain rfl : v_14 = xs (7 * j + 2) := ev_14.trans (congrArg xs (nI_ix hxj (by omega) (by omega)))
      refine lv_aload_n hx hb dL_law_1116 rfl (lv_at hl 0 rfl) ?_
      refine lv_iload_n hx hb dL_law_1117 rfl (lv_at hl 3 rfl) ?_
      refine lv_iconst (v := 3) hx hb dL_law_1118 (by decide) ?_
      refine lv_iadd hx hb dL_law_1119 ?_
      refine lv_topi (fun v_15 ev_15 => ?_)
      have hv_15 : v_15.toInt = x.toInt + 3 := by rw [ev_15]; have := b_rg x; exact i_add (a := x.toInt) (b := 3) rfl rfl (by omega) (by omega)
      refine va_sld hx hb hX hbl hbA hS (vp_inI (by omega) (by omega)) dL_law_1120 ?_
      refine lv_topi (fun v_16 ev_16 => ?_)
      obtain rfl : v_16 = xs (7 * j + 3) := ev_16.trans (congrArg xs (nI_ix hxj (by omega) (by omega)))
      refine lv_if_eq (tgt := 1128) hx hb dL_law_1121 (by decide) (fun c_17 => ?_) (fun c_17 => by have c_17 : (xs (7 * j + 3)).toInt ≠ 0 := b_ne c_17; omega)
      have c_17 : (xs (7 * j + 3)).toInt = 0 := b_eq c_17
      refine lv_iconst (v := 0) hx hb dL_law_1128 (by decide) ?_
      have hPa := hP
      have hDa := hD
      have hP := vaP_r (vaP_r hPa)
      have hD := vaD_r (vaD_r hDa)
      have hRi := hLM.1
      have hRr := hLM.2.1
      have hE := hLM.2.2
      have hF_18 := rF hD hS hA
      refine va_calli (va_runV (As := [.int (xs (7 * j + 1)), .int (xs (7 * j + 2)), .int 0]) (rest := []) ⟨hx, hb, hml, hown, hT⟩ (c_X12_kin9 l D cy am im rm lm (xs (7 * j + 1)) (xs (7 * j + 2)) 0 _ hRi hRr) (cwV 3 hT (gV t_1054 t_1055 t_1056 t_1057 t_6) rfl rfl rfl (by decide +kernel) ⟨Nat.le_of_ble_eq_true rfl, Nat.le_of_ble_eq_true rfl⟩) (rQ_v hP hK hD (va_recv hK hP (ci := 12) (q0 := 0) rfl rfl)) rfl rfl hl.1 rfl (lv_room (Nat.le_of_ble_eq_true rfl)) dL_law_1129 ⟨by show _ ≤ (600000 : Nat); omega, by show _ ≤ (7302250 : Nat); omega⟩) hS (fun q _ h => hF_18 q h) hF_18 (fun r_19 u_20 t H1 locs ht hvm hr_19 hB hz1 hk1 hS => ?_)
      obtain ⟨r20, rfl⟩ : ∃ z, z = u_20 := ⟨_, rfl⟩
      obtain ⟨hP, hK1, hD1⟩ := hB
      rw [ht] at hP
      have hD := hD1.weaken (fun k q _ h => hF_18 q.1 h)
      have hP : va_P D vwCl (mW cy am im r20 lm) H1 := hP
      have hD : va_D A (mW cy am im r20 lm) := hD
      obtain ⟨hRr, hE2, hr_19⟩ := hr_19
      have hRr : mRr r20 := hRr
      obtain ⟨hP, hD⟩ := joinM hPa hDa hk1 hP rfl
      have hLM : LM im r20 := ⟨hRi, hRr, (mE_same (Ei_rf (T := [])) hE2 (by decide) (by decide) hE)⟩
      have hMI : mEi [] im im := Ei_rf
      have hMR : mEr [56] rm r20 := hE2
      obtain ⟨hL1, hL2, hL3⟩ := id hLR
      obtain ⟨kH, kK, kN, kX, kY, _⟩ := id hL1
      have e0 : im 0 = i 0 := kH
      have hmr : (((0 ≤ (xs (7 * j + 1)).toInt ∧ (xs (7 * j + 1)).toInt ≤ 5) ∧ (0 ≤ (xs (7 * j + 2)).toInt ∧ (xs (7 * j + 2)).toInt < (im 0).toInt) ∧ (rm 56 (6 * (xs (7 * j + 1)).toInt + (xs (7 * j + 2)).toInt).toNat).toInt ≠ (0 : Int32).toInt) → r_19 = 1 ∧ r20 56 = upd (rm 56) (6 * (xs (7 * j + 1)).toInt + (xs (7 * j + 2)).toInt).toNat (vp_nar .boolean 0)) ∧ (¬ ((0 ≤ (xs (7 * j + 1)).toInt ∧ (xs (7 * j + 1)).toInt ≤ 5) ∧ (0 ≤ (xs (7 * j + 2)).toInt ∧ (xs (7 * j + 2)).toInt < (im 0).toInt) ∧ (rm 56 (6 * (xs (7 * j + 1)).toInt + (xs (7 * j + 2)).toInt).toNat).toInt ≠ (0 : Int32).toInt) → r_19 = 0 ∧ mEr [] rm r20) := hr_19
      rw [e0] at hmr
      have hxr : (((0 ≤ (xs (7 * j + 1)).toInt ∧ (xs (7 * j + 1)).toInt ≤ 5) ∧ (R2 64 (xs (7 * j + 1)).toNatClampNeg).toInt ≠ (0 : Int32).toInt) → r_9 = 1 ∧ r10 64 = upd (R2 64) ((xs (7 * j + 1)).toNatClampNeg) (vp_nar .boolean 0)) ∧ (¬ ((0 ≤ (xs (7 * j + 1)).toInt ∧ (xs (7 * j + 1)).toInt ≤ 5) ∧ (R2 64 (xs (7 * j + 1)).toNatClampNeg).toInt ≠ (0 : Int32).toInt) → r_9 = 0 ∧ mEr [] R2 r10) := hr_9
      have eg : R2 64 = gr ((xs (7 * j + 2)).toNatClampNeg) 64 := by rw [hR2]; rfl
      have hJ9 : (xs (7 * j + 1)).toNatClampNeg = (xs (7 * j + 1)).toInt.toNat := rfl
      have hK9 : (xs (7 * j + 2)).toNatClampNeg = (xs (7 * j + 2)).toInt.toNat := rfl
      by_cases hj6 : 0 ≤ (xs (7 * j + 1)).toInt ∧ (xs (7 * j + 1)).toInt ≤ 5
      · have eix : (6 * (xs (7 * j + 1)).toInt + (xs (7 * j + 2)).toInt).toNat = kix ((xs (7 * j + 2)).toNatClampNeg) ((xs (7 * j + 1)).toNatClampNeg) := by unfold kix; omega
        have eK : rm 56 (6 * (xs (7 * j + 1)).toInt + (xs (7 * j + 2)).toInt).toNat = R2 64 ((xs (7 * j + 1)).toNatClampNeg) := by rw [eix, kN _ _ (Nat.lt_of_lt_of_le hlt hn6) (by omega), if_pos hlt, eg]
        rw [eK] at hmr
        by_cases hC : (R2 64 ((xs (7 * j + 1)).toNatClampNeg)).toInt ≠ (0 : Int32).toInt
        · obtain ⟨a1, a2⟩ := hxr.1 ⟨hj6, hC⟩
          obtain ⟨b1, b2⟩ := hmr.1 ⟨hj6, hv, hC⟩
          have hEQ : r_9 = r_19 := a1.trans b1.symm
          rw [eg] at a2
          rw [eix] at b2
          have hLR : LR I2 r10 (uf gi ((xs (7 * j + 2)).toNatClampNeg) I2) (uf gr ((xs (7 * j + 2)).toNatClampNeg) r10) nh im r20 := ⟨⟨RI1_same kH hMI (by decide) hCX (by decide) (by decide), RI1_same kK hMI (by decide) hCX (by decide) (by decide), RHR_upd kN hlt b2 a2 (kix_inj (Nat.lt_of_lt_of_le hlt hn6)), RI1_same kX hMI (by decide) hCX (by decide) (by decide), RIK_same kY hMI (by decide) hCX (by decide) (by decide), trivial⟩, LR2_same hL2 hMI hMR hCX (by decide) (by decide) (by decide) (by decide), LR3_same hL3 hMI hMR hCX (by decide) (by decide) (by decide) (by decide)⟩
          refine lv_pop hx hb dL_law_1132 rfl ?_
          refine lv_goto (tgt := 1525) hx hb dL_law_1133 (by decide) ?_
          refine W.widen (k := ce + 15) (n := sl + 215) (by omega) (by omega) ?_
          exact kk a _ _ _ _ _ _ _ _ _ _ _ _ _ rfl hLX hLM hLR hP hD hS (lv_sub hl [0, 1, 2, 3] rfl)
        · obtain ⟨a1, a2⟩ := hxr.2 (fun h9 => hC h9.2)
          obtain ⟨b1, b2⟩ := hmr.2 (fun h9 => hC h9.2.2)
          have hEQ : r_9 = r_19 := a1.trans b1.symm
          have hCX := CX_y (nh := nh) (i := i) (r := r) (gi := gi) (gr := gr) (K := (xs (7 * j + 2)).toNatClampNeg) hI2 hR2 (Ei_rf (T := [])) a2
          have hLR : LR I2 r10 (uf gi ((xs (7 * j + 2)).toNatClampNeg) I2) (uf gr ((xs (7 * j + 2)).toNatClampNeg) r10) nh im r20 := ⟨LR1_same hL1 hMI b2 hCX (by decide) (by decide) (by decide) (by decide), LR2_same hL2 hMI b2 hCX (by decide) (by decide) (by decide) (by decide), LR3_same hL3 hMI b2 hCX (by decide) (by decide) (by decide) (by decide)⟩
          refine lv_pop hx hb dL_law_1132 rfl ?_
          refine lv_goto (tgt := 1525) hx hb dL_law_1133 (by decide) ?_
          refine W.widen (k := ce + 15) (n := sl + 215) (by omega) (by omega) ?_
          exact kk a _ _ _ _ _ _ _ _ _ _ _ _ _ rfl hLX hLM hLR hP hD hS (lv_sub hl [0, 1, 2, 3] rfl)
      · obtain ⟨a1, a2⟩ := hxr.2 (fun h9 => hj6 h9.1)
        obtain ⟨b1, b2⟩ := hmr.2 (fun h9 => hj6 h9.1)
        have hEQ : r_9 = r_19 := a1.trans b1.symm
        have hCX := CX_y (nh := nh) (i := i) (r := r) (gi := gi) (gr := gr) (K := (xs (7 * j + 2)).toNatClampNeg) hI2 hR2 (Ei_rf (T := [])) a2
        have hLR : LR I2 r10 (uf gi ((xs (7 * j + 2)).toNatClampNeg) I2) (uf gr ((xs (7 * j + 2)).toNatClampNeg) r10) nh im r20 := ⟨LR1_same hL1 hMI b2 hCX (by decide) (by decide) (by decide) (by decide), LR2_same hL2 hMI b2 hCX (by decide) (by decide) (by decide) (by decide), LR3_same hL3 hMI b2 hCX (by decide) (by decide) (by decide) (by decide)⟩
        refine lv_pop hx hb dL_law_1132 rfl ?_
        refine lv_goto (tgt := 1525) hx hb dL_law_1133 (by decide) ?_
        refine W.widen (k := ce + 15) (n := sl + 215) (by omega) (by omega) ?_
        exact kk a _ _ _ _ _ _ _ _ _ _ _ _ _ rfl hLX hLM hLR hP hD hS (lv_sub hl [0, 1, 2, 3] rfl)
    · skip
      have hRi := hLX.1.1
      have hRr := hLX.1.2
      refine vp_callSi (W.runV (As := [.int (xs (7 * j + 1)), .int (xs (7 * j + 2)), .int 0]) (rest := []) ⟨hx, hb, hml, hown, hT⟩ (c_X11_kin.b l D cy a i r q (HL cy gb gi gr nh ++ (mW cy am im rm lm)) (xs (7 * j + 1)) (xs (7 * j + 2)) 0 hRi hRr hv) (cwV 3 hT (gV t_1050 t_1051 t_1052 t_1053 t_2) rfl rfl rfl (by decide +kernel) ⟨Nat.le_of_ble_eq_true rfl, Nat.le_of_ble_eq_true rfl⟩) (rP_v hP hK (va_recv hK hP (ci := 11) (q0 := 0) rfl rfl)) rfl rfl hl.1 rfl (lv_room (Nat.le_of_ble_eq_true rfl)) dL_law_1101 ⟨by show _ ≤ (600000 : Nat); omega, by show _ ≤ (7302250 : Nat); omega⟩) (fun r_21 hr_21 => ?_)
      have hCX := CX_rf (i := i) (r := r) (gi := gi) (gr := gr) (nh := nh)
      refine lv_pop hx hb dL_law_1104 rfl ?_
      refine lv_aload_n hx hb dL_law_1105 rfl (lv_at hl 2 rfl) ?_
      refine lv_aload_n hx hb dL_law_1106 rfl (lv_at hl 0 rfl) ?_
      refine lv_iload_n hx hb dL_law_1107 rfl (lv_at hl 3 rfl) ?_
      refine lv_iconst (v := 1) hx hb dL_law_1108 (by decide) ?_
      refine lv_iadd hx hb dL_law_1109 ?_
      refine lv_topi (fun v_22 ev_22 => ?_)
      have hv_22 : v_22.toInt = x.toInt + 1 := by rw [ev_22]; have := b_rg x; exact i_add (a := x.toInt) (b := 1) rfl rfl (by omega) (by omega)
      refine va_sld hx hb hX hbl hbA hS (vp_inI (by omega) (by omega)) dL_law_1110 ?_
      refine lv_topi (fun v_23 ev_23 => ?_)
      obtain rfl : v_23 = xs (7 * j + 1) := ev_23.trans (congrArg xs (nI_ix hxj (by omega) (by omega)))
      refine lv_aload_n hx hb dL_law_1111 rfl (lv_at hl 0 rfl) ?_
      refine lv_iload_n hx hb dL_law_1112 rfl (lv_at hl 3 rfl) ?_
      refine lv_iconst (v := 2) hx hb dL_law_1113 (by decide) ?_
      refine lv_iadd hx hb dL_law_1114 ?_
      refine lv_topi (fun v_24 ev_24 => ?_)
      have hv_24 : v_24.toInt = x.toInt + 2 := by rw [ev_24]; have := b_rg x; exact i_add (a := x.toInt) (b := 2) rfl rfl (by omega) (by omega)
      refine va_sld hx hb hX hbl hbA hS (vp_inI (by omega) (by omega)) dL_law_1115 ?_
      refine lv_topi (fun v_25 ev_25 => ?_)
      obtain rfl : v_25 = xs (7 * j + 2) := ev_25.trans (congrArg xs (nI_ix hxj (by omega) (by omega)))
      refine lv_aload_n hx hb dL_law_1116 rfl (lv_at hl 0 rfl) ?_
      refine lv_iload_n hx hb dL_law_1117 rfl (lv_at hl 3 rfl) ?_
      refine lv_iconst (v := 3) hx hb dL_law_1118 (by decide) ?_
      refine lv_iadd hx hb dL_law_1119 ?_
      refine lv_topi (fun v_26 ev_26 => ?_)
      have hv_26 : v_26.toInt = x.toInt + 3 := by rw [ev_26]; have := b_rg x; exact i_add (a := x.toInt) (b := 3) rfl rfl (by omega) (by omega)
      refine va_sld hx hb hX hbl hbA hS (vp_inI (by omega) (by omega)) dL_law_1120 ?_
      refine lv_topi (fun v_27 ev_27 => ?_)
      obtain rfl : v_27 = xs (7 * j + 3) := ev_27.trans (congrArg xs (nI_ix hxj (by omega) (by omega)))
      refine lv_if_eq (tgt := 1128) hx hb dL_law_1121 (by decide) (fun c_28 => ?_) (fun c_28 => by have c_28 : (xs (7 * j + 3)).toInt ≠ 0 := b_ne c_28; omega)
      have c_28 : (xs (7 * j + 3)).toInt = 0 := b_eq c_28
      refine lv_iconst (v := 0) hx hb dL_law_1128 (by decide) ?_
      have hPa := hP
      have hDa := hD
      have hP := vaP_r (vaP_r hPa)
      have hD := vaD_r (vaD_r hDa)
      have hRi := hLM.1
      have hRr := hLM.2.1
      have hE := hLM.2.2
      have hF_29 := rF hD hS hA
      refine va_calli (va_runV (As := [.int (xs (7 * j + 1)), .int (xs (7 * j + 2)), .int 0]) (rest := []) ⟨hx, hb, hml, hown, hT⟩ (c_X12_kin9 l D cy am im rm lm (xs (7 * j + 1)) (xs (7 * j + 2)) 0 _ hRi hRr) (cwV 3 hT (gV t_1054 t_1055 t_1056 t_1057 t_6) rfl rfl rfl (by decide +kernel) ⟨Nat.le_of_ble_eq_true rfl, Nat.le_of_ble_eq_true rfl⟩) (rQ_v hP hK hD (va_recv hK hP (ci := 12) (q0 := 0) rfl rfl)) rfl rfl hl.1 rfl (lv_room (Nat.le_of_ble_eq_true rfl)) dL_law_1129 ⟨by show _ ≤ (600000 : Nat); omega, by show _ ≤ (7302250 : Nat); omega⟩) hS (fun q _ h => hF_29 q h) hF_29 (fun r_30 u_31 t H1 locs ht hvm hr_30 hB hz1 hk1 hS => ?_)
      obtain ⟨r31, rfl⟩ : ∃ z, z = u_31 := ⟨_, rfl⟩
      obtain ⟨hP, hK1, hD1⟩ := hB
      rw [ht] at hP
      have hD := hD1.weaken (fun k q _ h => hF_29 q.1 h)
      have hP : va_P D vwCl (mW cy am im r31 lm) H1 := hP
      have hD : va_D A (mW cy am im r31 lm) := hD
      obtain ⟨hRr, hE2, hr_30⟩ := hr_30
      have hRr : mRr r31 := hRr
      obtain ⟨hP, hD⟩ := joinM hPa hDa hk1 hP rfl
      have hLM : LM im r31 := ⟨hRi, hRr, (mE_same (Ei_rf (T := [])) hE2 (by decide) (by decide) hE)⟩
      have hMI : mEi [] im im := Ei_rf
      have hMR : mEr [56] rm r31 := hE2
      obtain ⟨hL1, hL2, hL3⟩ := id hLR
      obtain ⟨kH, kK, kN, kX, kY, _⟩ := id hL1
      have e0 : im 0 = i 0 := kH
      have hmr : (((0 ≤ (xs (7 * j + 1)).toInt ∧ (xs (7 * j + 1)).toInt ≤ 5) ∧ (0 ≤ (xs (7 * j + 2)).toInt ∧ (xs (7 * j + 2)).toInt < (im 0).toInt) ∧ (rm 56 (6 * (xs (7 * j + 1)).toInt + (xs (7 * j + 2)).toInt).toNat).toInt ≠ (0 : Int32).toInt) → r_30 = 1 ∧ r31 56 = upd (rm 56) (6 * (xs (7 * j + 1)).toInt + (xs (7 * j + 2)).toInt).toNat (vp_nar .boolean 0)) ∧ (¬ ((0 ≤ (xs (7 * j + 1)).toInt ∧ (xs (7 * j + 1)).toInt ≤ 5) ∧ (0 ≤ (xs (7 * j + 2)).toInt ∧ (xs (7 * j + 2)).toInt < (im 0).toInt) ∧ (rm 56 (6 * (xs (7 * j + 1)).toInt + (xs (7 * j + 2)).toInt).toNat).toInt ≠ (0 : Int32).toInt) → r_30 = 0 ∧ mEr [] rm r31) := hr_30
      rw [e0] at hmr
      obtain ⟨b1, b2⟩ := hmr.2 (fun h9 => hv h9.2.1)
      have hEQ : r_21 = r_30 := hr_21.trans b1.symm
      have hLR : LR i r gi gr nh im r31 := ⟨LR1_same hL1 hMI b2 hCX (by decide) (by decide) (by decide) (by decide), LR2_same hL2 hMI b2 hCX (by decide) (by decide) (by decide) (by decide), LR3_same hL3 hMI b2 hCX (by decide) (by decide) (by decide) (by decide)⟩
      refine lv_pop hx hb dL_law_1132 rfl ?_
      refine lv_goto (tgt := 1525) hx hb dL_law_1133 (by decide) ?_
      refine W.widen (k := ce + 15) (n := sl + 215) (by omega) (by omega) ?_
      exact kk a _ _ _ _ _ _ _ _ _ _ _ _ _ rfl hLX hLM hLR hP hD hS (lv_sub hl [0, 1, 2, 3] rfl)
  · have c_7 : (xs (7 * j + 3)).toInt ≠ 0 := b_ne c_7
    refine lv_iconst (v := 1) hx hb dL_law_1096 (by decide) ?_
    refine lv_goto (tgt := 1101) hx hb dL_law_1097 (by decide) ?_
    by_cases hv : 0 ≤ (xs (7 * j + 2)).toInt ∧ (xs (7 * j + 2)).toInt < (i 0).toInt
    · have hlt : (xs (7 * j + 2)).toNatClampNeg < nh := by have h9 : (xs (7 * j + 2)).toNatClampNeg = (xs (7 * j + 2)).toInt.toNat := rfl; have h8 := hLX.2.1; omega
      have hP0 := hP
      have hD0 := hD
      have hn6 : nh ≤ 6 := by have h8 := hLX.2.1; have h7 : (i 0).toInt ≤ 6 := (hLX.1.1 0).2; omega
      have hz := zoom (cy := cy) (a := a) (i := i) (r := r) (q := q) (hb := gb) (hi := gi) (hr := gr) (tl := (mW cy am im rm lm)) hlt
      have hP := vaP_perm hz hP
      have hD := vaD_perm hz hD
      have hRi := mix_Ri hLX.1.1 (hLX.2.2 _ hlt).2.1
      have hRr := mix_Rr hLX.1.2 (hLX.2.2 _ hlt).2.2
      obtain ⟨A2, hA2⟩ : ∃ z, z = mixA a (gb ((xs (7 * j + 2)).toNatClampNeg)) := ⟨_, rfl⟩
      obtain ⟨I2, hI2⟩ : ∃ z, z = mixI i (gi ((xs (7 * j + 2)).toNatClampNeg)) := ⟨_, rfl⟩
      obtain ⟨R2, hR2⟩ : ∃ z, z = mixR r (gr ((xs (7 * j + 2)).toNatClampNeg)) := ⟨_, rfl⟩
      rw [← hA2, ← hI2, ← hR2] at hP hD
      rw [← hI2] at hRi
      rw [← hR2] at hRr
      have h0 : I2 0 = i 0 := by rw [hI2]; rfl
      have h61 : A2 61 = gb ((xs (7 * j + 2)).toNatClampNeg) 61 := by rw [hA2]; rfl
      have ha0 : A2 0 = a 0 := by rw [hA2]; rfl
      rw [← ha0]
      have hF_32 := rF hD hS hA
      refine va_calli (va_runV (As := [.int (xs (7 * j + 1)), .int (xs (7 * j + 2)), .int 1]) (rest := []) ⟨hx, hb, hml, hown, hT⟩ (c_X11_kin.y9 l D cy A2 I2 R2 q (HX cy gb gi gr ((xs (7 * j + 2)).toNatClampNeg) nh ++ (mW cy am im rm lm)) (xs (7 * j + 1)) (xs (7 * j + 2)) 1 _ hRi hRr (by rw [h0]; exact hv) (by rw [h61]; exact (hLX.2.2 _ hlt).1)) (cwV 3 hT (gV t_1050 t_1051 t_1052 t_1053 t_2) rfl rfl rfl (by decide +kernel) ⟨Nat.le_of_ble_eq_true rfl, Nat.le_of_ble_eq_true rfl⟩) (rQ_v hP hK hD (va_recv hK hP (ci := 11) (q0 := 0) rfl rfl)) rfl rfl hl.1 rfl (lv_room (Nat.le_of_ble_eq_true rfl)) dL_law_1101 ⟨by show _ ≤ (600000 : Nat); omega, by show _ ≤ (7302250 : Nat); omega⟩) hS (fun q _ h => hF_32 q h) hF_32 (fun r_33 u_34 t H1 locs ht hvm hr_33 hB hz1 hk1 hS => ?_)
      obtain ⟨r34, rfl⟩ : ∃ z, z = u_34 := ⟨_, rfl⟩
      obtain ⟨hP, hK1, hD1⟩ := hB
      rw [ht] at hP
      have hD := hD1.weaken (fun k q _ h => hF_32 q.1 h)
      obtain ⟨hRr, hE2, hr_33⟩ := hr_33
      have hRr : yRr r34 := hRr
      have hE2 : mEr [64] R2 r34 := hE2
      have hP : va_P D vwCl (xW cy A2 I2 r34 q (A2 20) (A2 12) ++ (hW cy A2 I2 r34 ++ (HX cy gb gi gr ((xs (7 * j + 2)).toNatClampNeg) nh ++ (mW cy am im rm lm)))) H1 := hP
      have hD : va_D A (xW cy A2 I2 r34 q (A2 20) (A2 12) ++ (hW cy A2 I2 r34 ++ (HX cy gb gi gr ((xs (7 * j + 2)).toNatClampNeg) nh ++ (mW cy am im rm lm)))) := hD
      rw [hA2] at hP hD
      have hP := vaP_perm (unzoom (i := I2) (r := R2) hlt) hP
      have hD := vaD_perm (unzoom (i := I2) (r := R2) hlt) hD
      have hLX := LX_y (K := (xs (7 * j + 2)).toNatClampNeg) hLX hRi hRr h0
      have hE2x := hE2
      have hCX := CX_y (nh := nh) (i := i) (r := r) (gi := gi) (gr := gr) (K := (xs (7 * j + 2)).toNatClampNeg) hI2 hR2 (Ei_rf (T := [])) hE2
      refine lv_pop hx hb dL_law_1104 rfl ?_
      refine lv_aload_n hx hb dL_law_1105 rfl (lv_at hl 2 rfl) ?_
      refine lv_aload_n hx hb dL_law_1106 rfl (lv_at hl 0 rfl) ?_
      refine lv_iload_n hx hb dL_law_1107 rfl (lv_at hl 3 rfl) ?_
      refine lv_iconst (v := 1) hx hb dL_law_1108 (by decide) ?_
      refine lv_iadd hx hb dL_law_1109 ?_
      refine lv_topi (fun v_35 ev_35 => ?_)
      have hv_35 : v_35.toInt = x.toInt + 1 := by rw [ev_35]; have := b_rg x; exact i_add (a := x.toInt) (b := 1) rfl rfl (by omega) (by omega)
      refine va_sld hx hb hX hbl hbA hS (vp_inI (by omega) (by omega)) dL_law_1110 ?_
      refine lv_topi (fun v_36 ev_36 => ?_)
      obtain rfl : v_36 = xs (7 * j + 1) := ev_36.trans (congrArg xs (nI_ix hxj (by omega) (by omega)))
      refine lv_aload_n hx hb dL_law_1111 rfl (lv_at hl 0 rfl) ?_
      refine lv_iload_n hx hb dL_law_1112 rfl (lv_at hl 3 rfl) ?_
      refine lv_iconst (v := 2) hx hb dL_law_1113 (by decide) ?_
      refine lv_iadd hx hb dL_law_1114 ?_
      refine lv_topi (fun v_37 ev_37 => ?_)
      have hv_37 : v_37.toInt = x.toInt + 2 := by rw [ev_37]; have := b_rg x; exact i_add (a := x.toInt) (b := 2) rfl rfl (by omega) (by omega)
      refine va_sld hx hb hX hbl hbA hS (vp_inI (by omega) (by omega)) dL_law_1115 ?_
      refine lv_topi (fun v_38 ev_38 => ?_)
      obtain rfl : v_38 = xs (7 * j + 2) := ev_38.trans (congrArg xs (nI_ix hxj (by omega) (by omega)))
      refine lv_aload_n hx hb dL_law_1116 rfl (lv_at hl 0 rfl) ?_
      refine lv_iload_n hx hb dL_law_1117 rfl (lv_at hl 3 rfl) ?_
      refine lv_iconst (v := 3) hx hb dL_law_1118 (by decide) ?_
      refine lv_iadd hx hb dL_law_1119 ?_
      refine lv_topi (fun v_39 ev_39 => ?_)
      have hv_39 : v_39.toInt = x.toInt + 3 := by rw [ev_39]; have := b_rg x; exact i_add (a := x.toInt) (b := 3) rfl rfl (by omega) (by omega)
      refine va_sld hx hb hX hbl hbA hS (vp_inI (by omega) (by omega)) dL_law_1120 ?_
      refine lv_topi (fun v_40 ev_40 => ?_)
      obtain rfl : v_40 = xs (7 * j + 3) := ev_40.trans (congrArg xs (nI_ix hxj (by omega) (by omega)))
      refine lv_if_eq (tgt := 1128) hx hb dL_law_1121 (by decide) (fun c_41 => absurd (show (xs (7 * j + 3)).toInt = 0 from b_eq c_41) c_7) (fun c_41 => ?_)
      refine lv_iconst (v := 1) hx hb dL_law_1124 (by decide) ?_
      refine lv_goto (tgt := 1129) hx hb dL_law_1125 (by decide) ?_
      have hPa := hP
      have hDa := hD
      have hP := vaP_r (vaP_r hPa)
      have hD := vaD_r (vaD_r hDa)
      have hRi := hLM.1
      have hRr := hLM.2.1
      have hE := hLM.2.2
      have hF_42 := rF hD hS hA
      refine va_calli (va_runV (As := [.int (xs (7 * j + 1)), .int (xs (7 * j + 2)), .int 1]) (rest := []) ⟨hx, hb, hml, hown, hT⟩ (c_X12_kin9 l D cy am im rm lm (xs (7 * j + 1)) (xs (7 * j + 2)) 1 _ hRi hRr) (cwV 3 hT (gV t_1054 t_1055 t_1056 t_1057 t_6) rfl rfl rfl (by decide +kernel) ⟨Nat.le_of_ble_eq_true rfl, Nat.le_of_ble_eq_true rfl⟩) (rQ_v hP hK hD (va_recv hK hP (ci := 12) (q0 := 0) rfl rfl)) rfl rfl hl.1 rfl (lv_room (Nat.le_of_ble_eq_true rfl)) dL_law_1129 ⟨by show _ ≤ (600000 : Nat); omega, by show _ ≤ (7302250 : Nat); omega⟩) hS (fun q _ h => hF_42 q h) hF_42 (fun r_43 u_44 t H1 locs ht hvm hr_43 hB hz1 hk1 hS => ?_)
      obtain ⟨r44, rfl⟩ : ∃ z, z = u_44 := ⟨_, rfl⟩
      obtain ⟨hP, hK1, hD1⟩ := hB
      rw [ht] at hP
      have hD := hD1.weaken (fun k q _ h => hF_42 q.1 h)
      have hP : va_P D vwCl (mW cy am im r44 lm) H1 := hP
      have hD : va_D A (mW cy am im r44 lm) := hD
      obtain ⟨hRr, hE2, hr_43⟩ := hr_43
      have hRr : mRr r44 := hRr
      obtain ⟨hP, hD⟩ := joinM hPa hDa hk1 hP rfl
      have hLM : LM im r44 := ⟨hRi, hRr, (mE_same (Ei_rf (T := [])) hE2 (by decide) (by decide) hE)⟩
      have hMI : mEi [] im im := Ei_rf
      have hMR : mEr [56] rm r44 := hE2
      obtain ⟨hL1, hL2, hL3⟩ := id hLR
      obtain ⟨kH, kK, kN, kX, kY, _⟩ := id hL1
      have e0 : im 0 = i 0 := kH
      have hmr : (((0 ≤ (xs (7 * j + 1)).toInt ∧ (xs (7 * j + 1)).toInt ≤ 5) ∧ (0 ≤ (xs (7 * j + 2)).toInt ∧ (xs (7 * j + 2)).toInt < (im 0).toInt) ∧ (rm 56 (6 * (xs (7 * j + 1)).toInt + (xs (7 * j + 2)).toInt).toNat).toInt ≠ (1 : Int32).toInt) → r_43 = 1 ∧ r44 56 = upd (rm 56) (6 * (xs (7 * j + 1)).toInt + (xs (7 * j + 2)).toInt).toNat (vp_nar .boolean 1)) ∧ (¬ ((0 ≤ (xs (7 * j + 1)).toInt ∧ (xs (7 * j + 1)).toInt ≤ 5) ∧ (0 ≤ (xs (7 * j + 2)).toInt ∧ (xs (7 * j + 2)).toInt < (im 0).toInt) ∧ (rm 56 (6 * (xs (7 * j + 1)).toInt + (xs (7 * j + 2)).toInt).toNat).toInt ≠ (1 : Int32).toInt) → r_43 = 0 ∧ mEr [] rm r44) := hr_43
      rw [e0] at hmr
      have hxr : (((0 ≤ (xs (7 * j + 1)).toInt ∧ (xs (7 * j + 1)).toInt ≤ 5) ∧ (R2 64 (xs (7 * j + 1)).toNatClampNeg).toInt ≠ (1 : Int32).toInt) → r_33 = 1 ∧ r34 64 = upd (R2 64) ((xs (7 * j + 1)).toNatClampNeg) (vp_nar .boolean 1)) ∧ (¬ ((0 ≤ (xs (7 * j + 1)).toInt ∧ (xs (7 * j + 1)).toInt ≤ 5) ∧ (R2 64 (xs (7 * j + 1)).toNatClampNeg).toInt ≠ (1 : Int32).toInt) → r_33 = 0 ∧ mEr [] R2 r34) := hr_33
      have eg : R2 64 = gr ((xs (7 * j + 2)).toNatClampNeg) 64 := by rw [hR2]; rfl
      have hJ9 : (xs (7 * j + 1)).toNatClampNeg = (xs (7 * j + 1)).toInt.toNat := rfl
      have hK9 : (xs (7 * j + 2)).toNatClampNeg = (xs (7 * j + 2)).toInt.toNat := rfl
      by_cases hj6 : 0 ≤ (xs (7 * j + 1)).toInt ∧ (xs (7 * j + 1)).toInt ≤ 5
      · have eix : (6 * (xs (7 * j + 1)).toInt + (xs (7 * j + 2)).toInt).toNat = kix ((xs (7 * j + 2)).toNatClampNeg) ((xs (7 * j + 1)).toNatClampNeg) := by unfold kix; omega
        have eK : rm 56 (6 * (xs (7 * j + 1)).toInt + (xs (7 * j + 2)).toInt).toNat = R2 64 ((xs (7 * j + 1)).toNatClampNeg) := by rw [eix, kN _ _ (Nat.lt_of_lt_of_le hlt hn6) (by omega), if_pos hlt, eg]
        rw [eK] at hmr
        by_cases hC : (R2 64 ((xs (7 * j + 1)).toNatClampNeg)).toInt ≠ (1 : Int32).toInt
        · obtain ⟨a1, a2⟩ := hxr.1 ⟨hj6, hC⟩
          obtain ⟨b1, b2⟩ := hmr.1 ⟨hj6, hv, hC⟩
          have hEQ : r_33 = r_43 := a1.trans b1.symm
          rw [eg] at a2
          rw [eix] at b2
          have hLR : LR I2 r34 (uf gi ((xs (7 * j + 2)).toNatClampNeg) I2) (uf gr ((xs (7 * j + 2)).toNatClampNeg) r34) nh im r44 := ⟨⟨RI1_same kH hMI (by decide) hCX (by decide) (by decide), RI1_same kK hMI (by decide) hCX (by decide) (by decide), RHR_upd kN hlt b2 a2 (kix_inj (Nat.lt_of_lt_of_le hlt hn6)), RI1_same kX hMI (by decide) hCX (by decide) (by decide), RIK_same kY hMI (by decide) hCX (by decide) (by decide), trivial⟩, LR2_same hL2 hMI hMR hCX (by decide) (by decide) (by decide) (by decide), LR3_same hL3 hMI hMR hCX (by decide) (by decide) (by decide) (by decide)⟩
          refine lv_pop hx hb dL_law_1132 rfl ?_
          refine lv_goto (tgt := 1525) hx hb dL_law_1133 (by decide) ?_
          refine W.widen (k := ce + 15) (n := sl + 215) (by omega) (by omega) ?_
          exact kk a _ _ _ _ _ _ _ _ _ _ _ _ _ rfl hLX hLM hLR hP hD hS (lv_sub hl [0, 1, 2, 3] rfl)
        · obtain ⟨a1, a2⟩ := hxr.2 (fun h9 => hC h9.2)
          obtain ⟨b1, b2⟩ := hmr.2 (fun h9 => hC h9.2.2)
          have hEQ : r_33 = r_43 := a1.trans b1.symm
          have hCX := CX_y (nh := nh) (i := i) (r := r) (gi := gi) (gr := gr) (K := (xs (7 * j + 2)).toNatClampNeg) hI2 hR2 (Ei_rf (T := [])) a2
          have hLR : LR I2 r34 (uf gi ((xs (7 * j + 2)).toNatClampNeg) I2) (uf gr ((xs (7 * j + 2)).toNatClampNeg) r34) nh im r44 := ⟨LR1_same hL1 hMI b2 hCX (by decide) (by decide) (by decide) (by decide), LR2_same hL2 hMI b2 hCX (by decide) (by decide) (by decide) (by decide), LR3_same hL3 hMI b2 hCX (by decide) (by decide) (by decide) (by decide)⟩
          refine lv_pop hx hb dL_law_1132 rfl ?_
          refine lv_goto (tgt := 1525) hx hb dL_law_1133 (by decide) ?_
          refine W.widen (k := ce + 15) (n := sl + 215) (by omega) (by omega) ?_
          exact kk a _ _ _ _ _ _ _ _ _ _ _ _ _ rfl hLX hLM hLR hP hD hS (lv_sub hl [0, 1, 2, 3] rfl)
      · obtain ⟨a1, a2⟩ := hxr.2 (fun h9 => hj6 h9.1)
        obtain ⟨b1, b2⟩ := hmr.2 (fun h9 => hj6 h9.1)
        have hEQ : r_33 = r_43 := a1.trans b1.symm
        have hCX := CX_y (nh := nh) (i := i) (r := r) (gi := gi) (gr := gr) (K := (xs (7 * j + 2)).toNatClampNeg) hI2 hR2 (Ei_rf (T := [])) a2
        have hLR : LR I2 r34 (uf gi ((xs (7 * j + 2)).toNatClampNeg) I2) (uf gr ((xs (7 * j + 2)).toNatClampNeg) r34) nh im r44 := ⟨LR1_same hL1 hMI b2 hCX (by decide) (by decide) (by decide) (by decide), LR2_same hL2 hMI b2 hCX (by decide) (by decide) (by decide) (by decide), LR3_same hL3 hMI b2 hCX (by decide) (by decide) (by decide) (by decide)⟩
        refine lv_pop hx hb dL_law_1132 rfl ?_
        refine lv_goto (tgt := 1525) hx hb dL_law_1133 (by decide) ?_
        refine W.widen (k := ce + 15) (n := sl + 215) (by omega) (by omega) ?_
        exact kk a _ _ _ _ _ _ _ _ _ _ _ _ _ rfl hLX hLM hLR hP hD hS (lv_sub hl [0, 1, 2, 3] rfl)
    · skip
      have hRi := hLX.1.1
      have hRr := hLX.1.2
      refine vp_callSi (W.runV (As := [.int (xs (7 * j + 1)), .int (xs (7 * j + 2)), .int 1]) (rest := []) ⟨hx, hb, hml, hown, hT⟩ (c_X11_kin.b l D cy a i r q (HL cy gb gi gr nh ++ (mW cy am im rm lm)) (xs (7 * j + 1)) (xs (7 * j + 2)) 1 hRi hRr hv) (cwV 3 hT (gV t_1050 t_1051 t_1052 t_1053 t_2) rfl rfl rfl (by decide +kernel) ⟨Nat.le_of_ble_eq_true rfl, Nat.le_of_ble_eq_true rfl⟩) (rP_v hP hK (va_recv hK hP (ci := 11) (q0 := 0) rfl rfl)) rfl rfl hl.1 rfl (lv_room (Nat.le_of_ble_eq_true rfl)) dL_law_1101 ⟨by show _ ≤ (600000 : Nat); omega, by show _ ≤ (7302250 : Nat); omega⟩) (fun r_45 hr_45 => ?_)
      have hCX := CX_rf (i := i) (r := r) (gi := gi) (gr := gr) (nh := nh)
      refine lv_pop hx hb dL_law_1104 rfl ?_
      refine lv_aload_n hx hb dL_law_1105 rfl (lv_at hl 2 rfl) ?_
      refine lv_aload_n hx hb dL_law_1106 rfl (lv_at hl 0 rfl) ?_
      refine lv_iload_n hx hb dL_law_1107 rfl (lv_at hl 3 rfl) ?_
      refine lv_iconst (v := 1) hx hb dL_law_1108 (by decide) ?_
      refine lv_iadd hx hb dL_law_1109 ?_
      refine lv_topi (fun v_46 ev_46 => ?_)
      have hv_46 : v_46.toInt = x.toInt + 1 := by rw [ev_46]; have := b_rg x; exact i_add (a := x.toInt) (b := 1) rfl rfl (by omega) (by omega)
      refine va_sld hx hb hX hbl hbA hS (vp_inI (by omega) (by omega)) dL_law_1110 ?_
      refine lv_topi (fun v_47 ev_47 => ?_)
      obtain rfl : v_47 = xs (7 * j + 1) := ev_47.trans (congrArg xs (nI_ix hxj (by omega) (by omega)))
      refine lv_aload_n hx hb dL_law_1111 rfl (lv_at hl 0 rfl) ?_
      refine lv_iload_n hx hb dL_law_1112 rfl (lv_at hl 3 rfl) ?_
      refine lv_iconst (v := 2) hx hb dL_law_1113 (by decide) ?_
      refine lv_iadd hx hb dL_law_1114 ?_
      refine lv_topi (fun v_48 ev_48 => ?_)
      have hv_48 : v_48.toInt = x.toInt + 2 := by rw [ev_48]; have := b_rg x; exact i_add (a := x.toInt) (b := 2) rfl rfl (by omega) (by omega)
      refine va_sld hx hb hX hbl hbA hS (vp_inI (by omega) (by omega)) dL_law_1115 ?_
      refine lv_topi (fun v_49 ev_49 => ?_)
      obtain rfl : v_49 = xs (7 * j + 2) := ev_49.trans (congrArg xs (nI_ix hxj (by omega) (by omega)))
      refine lv_aload_n hx hb dL_law_1116 rfl (lv_at hl 0 rfl) ?_
      refine lv_iload_n hx hb dL_law_1117 rfl (lv_at hl 3 rfl) ?_
      refine lv_iconst (v := 3) hx hb dL_law_1118 (by decide) ?_
      refine lv_iadd hx hb dL_law_1119 ?_
      refine lv_topi (fun v_50 ev_50 => ?_)
      have hv_50 : v_50.toInt = x.toInt + 3 := by rw [ev_50]; have := b_rg x; exact i_add (a := x.toInt) (b := 3) rfl rfl (by omega) (by omega)
      refine va_sld hx hb hX hbl hbA hS (vp_inI (by omega) (by omega)) dL_law_1120 ?_
      refine lv_topi (fun v_51 ev_51 => ?_)
      obtain rfl : v_51 = xs (7 * j + 3) := ev_51.trans (congrArg xs (nI_ix hxj (by omega) (by omega)))
      refine lv_if_eq (tgt := 1128) hx hb dL_law_1121 (by decide) (fun c_52 => absurd (show (xs (7 * j + 3)).toInt = 0 from b_eq c_52) c_7) (fun c_52 => ?_)
      refine lv_iconst (v := 1) hx hb dL_law_1124 (by decide) ?_
      refine lv_goto (tgt := 1129) hx hb dL_law_1125 (by decide) ?_
      have hPa := hP
      have hDa := hD
      have hP := vaP_r (vaP_r hPa)
      have hD := vaD_r (vaD_r hDa)
      have hRi := hLM.1
      have hRr := hLM.2.1
      have hE := hLM.2.2
      have hF_53 := rF hD hS hA
      refine va_calli (va_runV (As := [.int (xs (7 * j + 1)), .int (xs (7 * j + 2)), .int 1]) (rest := []) ⟨hx, hb, hml, hown, hT⟩ (c_X12_kin9 l D cy am im rm lm (xs (7 * j + 1)) (xs (7 * j + 2)) 1 _ hRi hRr) (cwV 3 hT (gV t_1054 t_1055 t_1056 t_1057 t_6) rfl rfl rfl (by decide +kernel) ⟨Nat.le_of_ble_eq_true rfl, Nat.le_of_ble_eq_true rfl⟩) (rQ_v hP hK hD (va_recv hK hP (ci := 12) (q0 := 0) rfl rfl)) rfl rfl hl.1 rfl (lv_room (Nat.le_of_ble_eq_true rfl)) dL_law_1129 ⟨by show _ ≤ (600000 : Nat); omega, by show _ ≤ (7302250 : Nat); omega⟩) hS (fun q _ h => hF_53 q h) hF_53 (fun r_54 u_55 t H1 locs ht hvm hr_54 hB hz1 hk1 hS => ?_)
      obtain ⟨r55, rfl⟩ : ∃ z, z = u_55 := ⟨_, rfl⟩
      obtain ⟨hP, hK1, hD1⟩ := hB
      rw [ht] at hP
      have hD := hD1.weaken (fun k q _ h => hF_53 q.1 h)
      have hP : va_P D vwCl (mW cy am im r55 lm) H1 := hP
      have hD : va_D A (mW cy am im r55 lm) := hD
      obtain ⟨hRr, hE2, hr_54⟩ := hr_54
      have hRr : mRr r55 := hRr
      obtain ⟨hP, hD⟩ := joinM hPa hDa hk1 hP rfl
      have hLM : LM im r55 := ⟨hRi, hRr, (mE_same (Ei_rf (T := [])) hE2 (by decide) (by decide) hE)⟩
      have hMI : mEi [] im im := Ei_rf
      have hMR : mEr [56] rm r55 := hE2
      obtain ⟨hL1, hL2, hL3⟩ := id hLR
      obtain ⟨kH, kK, kN, kX, kY, _⟩ := id hL1
      have e0 : im 0 = i 0 := kH
      have hmr : (((0 ≤ (xs (7 * j + 1)).toInt ∧ (xs (7 * j + 1)).toInt ≤ 5) ∧ (0 ≤ (xs (7 * j + 2)).toInt ∧ (xs (7 * j + 2)).toInt < (im 0).toInt) ∧ (rm 56 (6 * (xs (7 * j + 1)).toInt + (xs (7 * j + 2)).toInt).toNat).toInt ≠ (1 : Int32).toInt) → r_54 = 1 ∧ r55 56 = upd (rm 56) (6 * (xs (7 * j + 1)).toInt + (xs (7 * j + 2)).toInt).toNat (vp_nar .boolean 1)) ∧ (¬ ((0 ≤ (xs (7 * j + 1)).toInt ∧ (xs (7 * j + 1)).toInt ≤ 5) ∧ (0 ≤ (xs (7 * j + 2)).toInt ∧ (xs (7 * j + 2)).toInt < (im 0).toInt) ∧ (rm 56 (6 * (xs (7 * j + 1)).toInt + (xs (7 * j + 2)).toInt).toNat).toInt ≠ (1 : Int32).toInt) → r_54 = 0 ∧ mEr [] rm r55) := hr_54
      rw [e0] at hmr
      obtain ⟨b1, b2⟩ := hmr.2 (fun h9 => hv h9.2.1)
      have hEQ : r_45 = r_54 := hr_45.trans b1.symm
      have hLR : LR i r gi gr nh im r55 := ⟨LR1_same hL1 hMI b2 hCX (by decide) (by decide) (by decide) (by decide), LR2_same hL2 hMI b2 hCX (by decide) (by decide) (by decide) (by decide), LR3_same hL3 hMI b2 hCX (by decide) (by decide) (by decide) (by decide)⟩
      refine lv_pop hx hb dL_law_1132 rfl ?_
      refine lv_goto (tgt := 1525) hx hb dL_law_1133 (by decide) ?_
      refine W.widen (k := ce + 15) (n := sl + 215) (by omega) (by omega) ?_
      exact kk a _ _ _ _ _ _ _ _ _ _ _ _ _ rfl hLX hLM hLR hP hD hS (lv_sub hl [0, 1, 2, 3] rfl)
set_option maxHeartbeats 4000000 in
set_option maxRecDepth 100000 in
theorem lc_20 {p : Program} {l : Launch} {e : Env} {s : State} {m : MethodId} {below : List Frame} {meth : Method} {c : Code} {b L : Nat} {xs : Nat → Int32} (C0 : lw_At p s m meth c b L xs) {D : va_G} {cy : Nat → ClassId} {kq vq : Nat} {A : Nat → Prop} (hA : ∀ q, s.heap.size ≤ q → A q) (hbA : ¬ A b) (hK : va_K D vwCl (vT cy) s) (hn : nw s) (hm0 : nm s) (hsk : vk_R RX6 101 "krsoamngcv" kq s ∧ sA kq vq A s s.heap) {a : Nat → Nat} {i : Nat → Int32} {r : Nat → Nat → Int32} {q : Nat → Option Nat} {gb : Nat → Nat → Nat} {gi : Nat → Nat → Int32} {gr : Nat → Nat → Nat → Int32} {nh : Nat} {am : Nat → Nat} {im : Nat → Int32} {rm : Nat → Nat → Int32} {lm : Nat → Int64} (hLX : LX i r q gb gi gr nh) (hLM : LM im rm) (hLR : LR i r gi gr nh im rm) {H : Heap} {locs : List Loc} (hP : va_P D vwCl (xW cy a i r q (a 20) (a 12) ++ (HL cy gb gi gr nh ++ (mW cy am im rm lm))) H) (hD : va_D A (xW cy a i r q (a 20) (a 12) ++ (HL cy gb gi gr nh ++ (mW cy am im rm lm)))) (hS : va_S A s.heap H locs) {ls : Array Slot} {x : Int32} (hl : lv_has ls 4 [(0, .ref b), (1, .ref (a 0)), (2, .ref (am 0)), (3, .int x)]) {j : Nat} (hj : 7 * j + 7 ≤ L) (hL : L ≤ 3584) (hxj : x = nI (7 * j)) {ce sl : Nat} (hce : ce + 15 ≤ 600000) (hsl : sl + 215 ≤ 7302250) (kk : ∀ (a2 : Nat → Nat) (i2 : Nat → Int32) (r2 : Nat → Nat → Int32) (q2 : Nat → Option Nat) (gb2 : Nat → Nat → Nat) (gi2 : Nat → Nat → Int32) (gr2 : Nat → Nat → Nat → Int32) (nh2 : Nat) (im2 : Nat → Int32) (rm2 : Nat → Nat → Int32) (lm2 : Nat → Int64) (H2 : Heap) (locs2 : List Loc) (ls2 : Array Slot), a2 0 = a 0 → LX i2 r2 q2 gb2 gi2 gr2 nh2 → LM im2 rm2 → LR i2 r2 gi2 gr2 nh2 im2 rm2 → va_P D vwCl (xW cy a2 i2 r2 q2 (a2 20) (a2 12) ++ (HL cy gb2 gi2 gr2 nh2 ++ (mW cy am im2 rm2 lm2))) H2 → va_D A (xW cy a2 i2 r2 q2 (a2 20) (a2 12) ++ (HL cy gb2 gi2 gr2 nh2 ++ (mW cy am im2 rm2 lm2))) → va_S A s.heap H2 locs2 → lv_has ls2 4 [(0, .ref b), (1, .ref (a 0)), (2, .ref (am 0)), (3, .int x)] → W p l e room_1 s m #[Value.ref b] below meth c H2 locs2 (ce + 15) (sl + 215) (lw_Z below #[Value.ref b] s) (F0 m 1525 ls2 [])) : W p l e room_1 s m #[Value.ref b] below meth c H locs ce sl (lw_Z below #[Value.ref b] s) (F0 m 1136 ls []) := by
  obtain ⟨hx, hb, hr, hml, hown, hts, hX, hbl, hlocks, hgv⟩ := id C0
  have hT : ∀ w ∈ gT, w.before _ s = true := fun w h => hts w (gT_in w h)
  have hx0 : x.toInt = ((7 * j : Nat) : Int) := by rw [hxj]; exact nI_toInt (by omega)
  have hLX0 := hLX
  have hLM0 := hLM
  refine lv_aload_n hx hb dL_law_1136 rfl (lv_at hl 1 rfl) ?_
  refine lv_aload_n hx hb dL_law_1137 rfl (lv_at hl 0 rfl) ?_
  refine lv_iload_n hx hb dL_law_1138 rfl (lv_at hl 3 rfl) ?_
  refine lv_iconst (v := 1) hx hb dL_law_1139 (by decide) ?_
  refine lv_iadd hx hb dL_law_1140 ?_
  refine lv_topi (fun v_1 ev_1 => ?_)
  have hv_1 : v_1.toInt = x.toInt + 1 := by rw [ev_1]; have := b_rg x; exact i_add (a := x.toInt) (b := 1) rfl rfl (by omega) (by omega)
  refine va_sld hx hb hX hbl hbA hS (vp_inI (by omega) (by omega)) dL_law_1141 ?_
  refine lv_topi (fun v_2 ev_2 => ?_)
  obtain rfl : v_2 = xs (7 * j + 1) := ev_2.trans (congrArg xs (nI_ix hxj (by omega) (by omega)))
  have hRi := hLX.1.1
  have hRr := hLX.1.2
  have hF_3 := rF hD hS hA
  refine va_calli (va_runV (As := [.int (xs (7 * j + 1))]) (rest := []) ⟨hx, hb, hml, hown, hT⟩ (c_X11_seed9 l D cy a i r q (HL cy gb gi gr nh ++ (mW cy am im rm lm)) (xs (7 * j + 1)) _ hRi hRr) (cwV 1 hT (gV t_1058 t_1059 t_1060 t_1061 t_2) rfl rfl rfl (by decide +kernel) ⟨Nat.le_of_ble_eq_true rfl, Nat.le_of_ble_eq_true rfl⟩) (rQ_v hP hK hD (va_recv hK hP (ci := 11) (q0 := 0) rfl rfl)) rfl rfl hl.1 rfl (lv_room (Nat.le_of_ble_eq_true rfl)) dL_law_1142 ⟨by show _ ≤ (600000 : Nat); omega, by show _ ≤ (7302250 : Nat); omega⟩) hS (fun q _ h => hF_3 q h) hF_3 (fun r_4 u_5 t H1 locs ht hvm hr_4 hB hz1 hk1 hS => ?_)
  obtain ⟨i5, r5⟩ := u_5
  obtain ⟨hP, hK1, hD1⟩ := hB
  rw [ht] at hP
  have hD := hD1.weaken (fun k q _ h => hF_3 q.1 h)
  obtain ⟨hRi, hRr, hE1, hE2, hr_4⟩ := hr_4
  have hRi : yRi i5 := hRi
  have hE1 : mEi [11] i i5 := hE1
  have hRr : yRr r5 := hRr
  have hE2 : mEr [] r r5 := hE2
  have hP : va_P D vwCl (xW cy a i5 r5 q (a 20) (a 12) ++ (HL cy gb gi gr nh ++ (mW cy am im rm lm))) H1 := hP
  have hD : va_D A (xW cy a i5 r5 q (a 20) (a 12) ++ (HL cy gb gi gr nh ++ (mW cy am im rm lm))) := hD
  have hLX := LX_x hLX hRi hRr (hE1 0 (by decide))
  have hCX := CX_x (gi := gi) (gr := gr) (nh := nh) hE1 hE2
  refine lv_pop hx hb dL_law_1145 rfl ?_
  refine lv_aload_n hx hb dL_law_1146 rfl (lv_at hl 2 rfl) ?_
  refine lv_aload_n hx hb dL_law_1147 rfl (lv_at hl 0 rfl) ?_
  refine lv_iload_n hx hb dL_law_1148 rfl (lv_at hl 3 rfl) ?_
  refine lv_iconst (v := 1) hx hb dL_law_1149 (by decide) ?_
  refine lv_iadd hx hb dL_law_1150 ?_
  refine lv_topi (fun v_6 ev_6 => ?_)
  have hv_6 : v_6.toInt = x.toInt + 1 := by rw [ev_6]; have := b_rg x; exact i_add (a := x.toInt) (b := 1) rfl rfl (by omega) (by omega)
  refine va_sld hx hb hX hbl hbA hS (vp_inI (by omega) (by omega)) dL_law_1151 ?_
  refine lv_topi (fun v_7 ev_7 => ?_)
  obtain rfl : v_7 = xs (7 * j + 1) := ev_7.trans (congrArg xs (nI_ix hxj (by omega) (by omega)))
  have hPa := hP
  have hDa := hD
  have hP := vaP_r (vaP_r hPa)
  have hD := vaD_r (vaD_r hDa)
  have hRi := hLM.1
  have hRr := hLM.2.1
  have hE := hLM.2.2
  have hF_8 := rF hD hS hA
  refine va_calli (va_runV (As := [.int (xs (7 * j + 1))]) (rest := []) ⟨hx, hb, hml, hown, hT⟩ (c_X12_seed9 l D cy am im rm lm (xs (7 * j + 1)) _ hRi hRr) (cwV 1 hT (gV t_1062 t_1063 t_1064 t_1065 t_6) rfl rfl rfl (by decide +kernel) ⟨Nat.le_of_ble_eq_true rfl, Nat.le_of_ble_eq_true rfl⟩) (rQ_v hP hK hD (va_recv hK hP (ci := 12) (q0 := 0) rfl rfl)) rfl rfl hl.1 rfl (lv_room (Nat.le_of_ble_eq_true rfl)) dL_law_1152 ⟨by show _ ≤ (600000 : Nat); omega, by show _ ≤ (7302250 : Nat); omega⟩) hS (fun q _ h => hF_8 q h) hF_8 (fun r_9 u_10 t H1 locs ht hvm hr_9 hB hz1 hk1 hS => ?_)
  obtain ⟨i10, r10⟩ := u_10
  obtain ⟨hP, hK1, hD1⟩ := hB
  rw [ht] at hP
  have hD := hD1.weaken (fun k q _ h => hF_8 q.1 h)
  have hP : va_P D vwCl (mW cy am i10 r10 lm) H1 := hP
  have hD : va_D A (mW cy am i10 r10 lm) := hD
  obtain ⟨hRi, hRr, hE1, hE2, hr_9⟩ := hr_9
  have hRi : mRi i10 := hRi
  have hRr : mRr r10 := hRr
  obtain ⟨hP, hD⟩ := joinM hPa hDa hk1 hP rfl
  have hLM : LM i10 r10 := ⟨hRi, hRr, (mE_same hE1 hE2 (by decide) (by decide) hE)⟩
  have hMI : mEi [1] im i10 := hE1
  have hMR : mEr [] rm r10 := hE2
  obtain ⟨hL1, hL2, hL3⟩ := id hLR
  obtain ⟨kH, kK, kN, kX, kY, _⟩ := id hL1
  have hmr : BR r_9 ((0 ≤ (xs (7 * j + 1)).toInt ∧ (xs (7 * j + 1)).toInt ≤ 65535)) 1 0 ∧ (((0 ≤ (xs (7 * j + 1)).toInt ∧ (xs (7 * j + 1)).toInt ≤ 65535)) → i10 1 = (xs (7 * j + 1))) ∧ (¬ ((0 ≤ (xs (7 * j + 1)).toInt ∧ (xs (7 * j + 1)).toInt ≤ 65535)) → mEi [] im i10) := hr_9
  have hxr : BR r_4 ((0 ≤ (xs (7 * j + 1)).toInt ∧ (xs (7 * j + 1)).toInt ≤ 65535)) 1 0 ∧ (((0 ≤ (xs (7 * j + 1)).toInt ∧ (xs (7 * j + 1)).toInt ≤ 65535)) → i5 11 = (xs (7 * j + 1))) ∧ (¬ ((0 ≤ (xs (7 * j + 1)).toInt ∧ (xs (7 * j + 1)).toInt ≤ 65535)) → mEi [] i i5) := hr_4
  have hEQ : r_4 = r_9 := BR_eq hxr.1 hmr.1
  have nX : i10 1 = i5 11 := by
    by_cases hC : (0 ≤ (xs (7 * j + 1)).toInt ∧ (xs (7 * j + 1)).toInt ≤ 65535)
    · exact (hmr.2.1 hC).trans (hxr.2.1 hC).symm
    · exact (hmr.2.2 hC 1 (by decide)).trans ((kX : im 1 = i 11).trans (hxr.2.2 hC 11 (by decide)).symm)
  have hLR : LR i5 r5 gi gr nh i10 r10 := ⟨⟨RI1_same kH hMI (by decide) hCX (by decide) (by decide), RI1_same kK hMI (by decide) hCX (by decide) (by decide), RHR_same kN hMR (by decide) hCX (by decide) (by decide), nX, RIK_same kY hMI (by decide) hCX (by decide) (by decide), trivial⟩, LR2_same hL2 hMI hMR hCX (by decide) (by decide) (by decide) (by decide), LR3_same hL3 hMI hMR hCX (by decide) (by decide) (by decide) (by decide)⟩
  refine lv_pop hx hb dL_law_1155 rfl ?_
  refine lv_goto (tgt := 1525) hx hb dL_law_1156 (by decide) ?_
  refine W.widen (k := ce + 15) (n := sl + 215) (by omega) (by omega) ?_
  exact kk a _ _ _ _ _ _ _ _ _ _ _ _ _ rfl hLX hLM hLR hP hD hS (lv_sub hl [0, 1, 2, 3] rfl)
set_option maxHeartbeats 4000000 in
set_option maxRecDepth 100000 in
theorem lc_21 {p : Program} {l : Launch} {e : Env} {s : State} {m : MethodId} {below : List Frame} {meth : Method} {c : Code} {b L : Nat} {xs : Nat → Int32} (C0 : lw_At p s m meth c b L xs) {D : va_G} {cy : Nat → ClassId} {kq vq : Nat} {A : Nat → Prop} (hA : ∀ q, s.heap.size ≤ q → A q) (hbA : ¬ A b) (hK : va_K D vwCl (vT cy) s) (hn : nw s) (hm0 : nm s) (hsk : vk_R RX6 101 "krsoamngcv" kq s ∧ sA kq vq A s s.heap) {a : Nat → Nat} {i : Nat → Int32} {r : Nat → Nat → Int32} {q : Nat → Option Nat} {gb : Nat → Nat → Nat} {gi : Nat → Nat → Int32} {gr : Nat → Nat → Nat → Int32} {nh : Nat} {am : Nat → Nat} {im : Nat → Int32} {rm : Nat → Nat → Int32} {lm : Nat → Int64} (hLX : LX i r q gb gi gr nh) (hLM : LM im rm) (hLR : LR i r gi gr nh im rm) {H : Heap} {locs : List Loc} (hP : va_P D vwCl (xW cy a i r q (a 20) (a 12) ++ (HL cy gb gi gr nh ++ (mW cy am im rm lm))) H) (hD : va_D A (xW cy a i r q (a 20) (a 12) ++ (HL cy gb gi gr nh ++ (mW cy am im rm lm)))) (hS : va_S A s.heap H locs) {ls : Array Slot} {x : Int32} (hl : lv_has ls 4 [(0, .ref b), (1, .ref (a 0)), (2, .ref (am 0)), (3, .int x)]) {j : Nat} (hj : 7 * j + 7 ≤ L) (hL : L ≤ 3584) (hxj : x = nI (7 * j)) {ce sl : Nat} (hce : ce + 15 ≤ 600000) (hsl : sl + 215 ≤ 7302250) (kk : ∀ (a2 : Nat → Nat) (i2 : Nat → Int32) (r2 : Nat → Nat → Int32) (q2 : Nat → Option Nat) (gb2 : Nat → Nat → Nat) (gi2 : Nat → Nat → Int32) (gr2 : Nat → Nat → Nat → Int32) (nh2 : Nat) (im2 : Nat → Int32) (rm2 : Nat → Nat → Int32) (lm2 : Nat → Int64) (H2 : Heap) (locs2 : List Loc) (ls2 : Array Slot), a2 0 = a 0 → LX i2 r2 q2 gb2 gi2 gr2 nh2 → LM im2 rm2 → LR i2 r2 gi2 gr2 nh2 im2 rm2 → va_P D vwCl (xW cy a2 i2 r2 q2 (a2 20) (a2 12) ++ (HL cy gb2 gi2 gr2 nh2 ++ (mW cy am im2 rm2 lm2))) H2 → va_D A (xW cy a2 i2 r2 q2 (a2 20) (a2 12) ++ (HL cy gb2 gi2 gr2 nh2 ++ (mW cy am im2 rm2 lm2))) → va_S A s.heap H2 locs2 → lv_has ls2 4 [(0, .ref b), (1, .ref (a 0)), (2, .ref (am 0)), (3, .int x)] → W p l e room_1 s m #[Value.ref b] below meth c H2 locs2 (ce + 15) (sl + 215) (lw_Z below #[Value.ref b] s) (F0 m 1525 ls2 [])) : W p l e room_1 s m #[Value.ref b] below meth c H locs ce sl (lw_Z below #[Value.ref b] s) (F0 m 1159 ls []) := by
  obtain ⟨hx, hb, hr, hml, hown, hts, hX, hbl, hlocks, hgv⟩ := id C0
  have hT : ∀ w ∈ gT, w.before _ s = true := fun w h => hts w (gT_in w h)
  have hx0 : x.toInt = ((7 * j : Nat) : Int) := by rw [hxj]; exact nI_toInt (by omega)
  have hLX0 := hLX
  have hLM0 := hLM
  refine lv_aload_n hx hb dL_law_1159 rfl (lv_at hl 1 rfl) ?_
  refine lv_aload_n hx hb dL_law_1160 rfl (lv_at hl 0 rfl) ?_
  refine lv_iload_n hx hb dL_law_1161 rfl (lv_at hl 3 rfl) ?_
  refine lv_iconst (v := 1) hx hb dL_law_1162 (by decide) ?_
  refine lv_iadd hx hb dL_law_1163 ?_
  refine lv_topi (fun v_1 ev_1 => ?_)
  have hv_1 : v_1.toInt = x.toInt + 1 := by rw [ev_1]; have := b_rg x; exact i_add (a := x.toInt) (b := 1) rfl rfl (by omega) (by omega)
  refine va_sld hx hb hX hbl hbA hS (vp_inI (by omega) (by omega)) dL_law_1164 ?_
  refine lv_topi (fun v_2 ev_2 => ?_)
  obtain rfl : v_2 = xs (7 * j + 1) := ev_2.trans (congrArg xs (nI_ix hxj (by omega) (by omega)))
  by_cases hv : 0 ≤ (xs (7 * j + 1)).toInt ∧ (xs (7 * j + 1)).toInt < (i 0).toInt
  · have hlt : (xs (7 * j + 1)).toNatClampNeg < nh := by have h9 : (xs (7 * j + 1)).toNatClampNeg = (xs (7 * j + 1)).toInt.toNat := rfl; have h8 := hLX.2.1; omega
    have hP0 := hP
    have hD0 := hD
    have hn6 : nh ≤ 6 := by have h8 := hLX.2.1; have h7 : (i 0).toInt ≤ 6 := (hLX.1.1 0).2; omega
    have hz := zoom (cy := cy) (a := a) (i := i) (r := r) (q := q) (hb := gb) (hi := gi) (hr := gr) (tl := (mW cy am im rm lm)) hlt
    have hP := vaP_perm hz hP
    have hD := vaD_perm hz hD
    have hRi := mix_Ri hLX.1.1 (hLX.2.2 _ hlt).2.1
    have hRr := mix_Rr hLX.1.2 (hLX.2.2 _ hlt).2.2
    obtain ⟨A2, hA2⟩ : ∃ z, z = mixA a (gb ((xs (7 * j + 1)).toNatClampNeg)) := ⟨_, rfl⟩
    obtain ⟨I2, hI2⟩ : ∃ z, z = mixI i (gi ((xs (7 * j + 1)).toNatClampNeg)) := ⟨_, rfl⟩
    obtain ⟨R2, hR2⟩ : ∃ z, z = mixR r (gr ((xs (7 * j + 1)).toNatClampNeg)) := ⟨_, rfl⟩
    rw [← hA2, ← hI2, ← hR2] at hP hD
    rw [← hI2] at hRi
    rw [← hR2] at hRr
    have h0 : I2 0 = i 0 := by rw [hI2]; rfl
    have h61 : A2 61 = gb ((xs (7 * j + 1)).toNatClampNeg) 61 := by rw [hA2]; rfl
    have ha0 : A2 0 = a 0 := by rw [hA2]; rfl
    rw [← ha0]
    have hF_3 := rF hD hS hA
    refine va_calli (va_runV (As := [.int (xs (7 * j + 1))]) (rest := []) ⟨hx, hb, hml, hown, hT⟩ (c_X11_draw.y9 l D cy A2 I2 R2 q (HX cy gb gi gr ((xs (7 * j + 1)).toNatClampNeg) nh ++ (mW cy am im rm lm)) (xs (7 * j + 1)) _ hRi hRr (by rw [h0]; exact hv) (by rw [h61]; exact (hLX.2.2 _ hlt).1)) (cwV 1 hT (gV t_1066 t_1067 t_1068 t_1069 t_2) rfl rfl rfl (by decide +kernel) ⟨Nat.le_of_ble_eq_true rfl, Nat.le_of_ble_eq_true rfl⟩) (rQ_v hP hK hD (va_recv hK hP (ci := 11) (q0 := 0) rfl rfl)) rfl rfl hl.1 rfl (lv_room (Nat.le_of_ble_eq_true rfl)) dL_law_1165 ⟨by show _ ≤ (600000 : Nat); omega, by show _ ≤ (7302250 : Nat); omega⟩) hS (fun q _ h => hF_3 q h) hF_3 (fun r_4 u_5 t H1 locs ht hvm hr_4 hB hz1 hk1 hS => ?_)
    obtain ⟨i5, r5⟩ := u_5
    obtain ⟨hP, hK1, hD1⟩ := hB
    rw [ht] at hP
    have hD := hD1.weaken (fun k q _ h => hF_3 q.1 h)
    obtain ⟨hRi, hRr, hE1, hE2, hr_4⟩ := hr_4
    have hRi : yRi i5 := hRi
    have hE1 : mEi [11] I2 i5 := hE1
    have hRr : yRr r5 := hRr
    have hE2 : mEr [] R2 r5 := hE2
    have hP : va_P D vwCl (xW cy A2 i5 r5 q (A2 20) (A2 12) ++ (hW cy A2 i5 r5 ++ (HX cy gb gi gr ((xs (7 * j + 1)).toNatClampNeg) nh ++ (mW cy am im rm lm)))) H1 := hP
    have hD : va_D A (xW cy A2 i5 r5 q (A2 20) (A2 12) ++ (hW cy A2 i5 r5 ++ (HX cy gb gi gr ((xs (7 * j + 1)).toNatClampNeg) nh ++ (mW cy am im rm lm)))) := hD
    rw [hA2] at hP hD
    have hP := vaP_perm (unzoom (i := I2) (r := R2) hlt) hP
    have hD := vaD_perm (unzoom (i := I2) (r := R2) hlt) hD
    have hLX := LX_y (K := (xs (7 * j + 1)).toNatClampNeg) hLX hRi hRr ((hE1 0 (by decide)).trans h0)
    have hE2x := hE2
    have hCX := CX_y (nh := nh) (i := i) (r := r) (gi := gi) (gr := gr) (K := (xs (7 * j + 1)).toNatClampNeg) hI2 hR2 hE1 hE2
    refine lv_aload_n hx hb dL_law_1168 rfl (lv_at hl 2 rfl) ?_
    refine lv_aload_n hx hb dL_law_1169 rfl (lv_at hl 0 rfl) ?_
    refine lv_iload_n hx hb dL_law_1170 rfl (lv_at hl 3 rfl) ?_
    refine lv_iconst (v := 1) hx hb dL_law_1171 (by decide) ?_
    refine lv_iadd hx hb dL_law_1172 ?_
    refine lv_topi (fun v_6 ev_6 => ?_)
    have hv_6 : v_6.toInt = x.toInt + 1 := by rw [ev_6]; have := b_rg x; exact i_add (a := x.toInt) (b := 1) rfl rfl (by omega) (by omega)
    refine va_sld hx hb hX hbl hbA hS (vp_inI (by omega) (by omega)) dL_law_1173 ?_
    refine lv_topi (fun v_7 ev_7 => ?_)
    obtain rfl : v_7 = xs (7 * j + 1) := ev_7.trans (congrArg xs (nI_ix hxj (by omega) (by omega)))
    have hPa := hP
    have hDa := hD
    have hP := vaP_r (vaP_r hPa)
    have hD := vaD_r (vaD_r hDa)
    have hRi := hLM.1
    have hRr := hLM.2.1
    have hE := hLM.2.2
    have hF_8 := rF hD hS hA
    refine va_calli (va_runV (As := [.int (xs (7 * j + 1))]) (rest := [.int r_4]) ⟨hx, hb, hml, hown, hT⟩ (c_X12_draw9 l D cy am im rm lm (xs (7 * j + 1)) _ hRi hRr) (cwV 1 hT (gV t_1070 t_1071 t_1072 t_1073 t_6) rfl rfl rfl (by decide +kernel) ⟨Nat.le_of_ble_eq_true rfl, Nat.le_of_ble_eq_true rfl⟩) (rQ_v hP hK hD (va_recv hK hP (ci := 12) (q0 := 0) rfl rfl)) rfl rfl hl.1 rfl (lv_room (Nat.le_of_ble_eq_true rfl)) dL_law_1174 ⟨by show _ ≤ (600000 : Nat); omega, by show _ ≤ (7302250 : Nat); omega⟩) hS (fun q _ h => hF_8 q h) hF_8 (fun r_9 u_10 t H1 locs ht hvm hr_9 hB hz1 hk1 hS => ?_)
    obtain ⟨i10, r10⟩ := u_10
    obtain ⟨hP, hK1, hD1⟩ := hB
    rw [ht] at hP
    have hD := hD1.weaken (fun k q _ h => hF_8 q.1 h)
    have hP : va_P D vwCl (mW cy am i10 r10 lm) H1 := hP
    have hD : va_D A (mW cy am i10 r10 lm) := hD
    obtain ⟨hRi, hRr, hE1, hE2, hr_9⟩ := hr_9
    have hRi : mRi i10 := hRi
    have hRr : mRr r10 := hRr
    obtain ⟨hP, hD⟩ := joinM hPa hDa hk1 hP rfl
    have hLM : LM i10 r10 := ⟨hRi, hRr, (mE_same hE1 hE2 (by decide) (by decide) hE)⟩
    have hMI : mEi [1] im i10 := hE1
    have hMR : mEr [] rm r10 := hE2
    obtain ⟨hL1, hL2, hL3⟩ := id hLR
    obtain ⟨kH, kK, kN, kX, kY, _⟩ := id hL1
    have e0 : im 0 = i 0 := kH
    have hmr : (¬ (0 ≤ (xs (7 * j + 1)).toInt ∧ (xs (7 * j + 1)).toInt < (im 0).toInt) → r_9 = -1 ∧ mEi [] im i10) ∧ ((0 ≤ (xs (7 * j + 1)).toInt ∧ (xs (7 * j + 1)).toInt < (im 0).toInt) → AKM rm (xs (7 * j + 1)) → r_9 = -2 ∧ mEi [] im i10) ∧ ((0 ≤ (xs (7 * j + 1)).toInt ∧ (xs (7 * j + 1)).toInt < (im 0).toInt) → ¬ AKM rm (xs (7 * j + 1)) → DRW (KM rm (xs (7 * j + 1))) (im 1).toInt.toNat (i10 1).toInt.toNat ∧ r_9.toInt = (i10 1).toInt % 6) := hr_9
    rw [e0] at hmr
    have hxr : (AKX R2 → r_4 = -2 ∧ mEi [] I2 i5) ∧ (¬ AKX R2 → DRW (KX R2) (I2 11).toInt.toNat (i5 11).toInt.toNat ∧ r_4.toInt = (i5 11).toInt % 6) := hr_4
    have hK6 := Nat.lt_of_lt_of_le hlt hn6
    have eX : im 1 = I2 11 := (kX : im 1 = i 11).trans (by rw [hI2]; rfl)
    have hco : ∀ k9, k9 < 6 → (KM rm (xs (7 * j + 1)) k9 ↔ KX R2 k9) := by
      intro k9 hk9
      have e9 : rm 56 (6 * k9 + (xs (7 * j + 1)).toNatClampNeg) = R2 64 k9 := (kN _ k9 hK6 hk9).trans (by rw [if_pos hlt, hR2]; rfl)
      unfold KM KX; rw [e9]
    by_cases hC : AKX R2
    · obtain ⟨a1, a2⟩ := hxr.1 hC
      obtain ⟨b1, b2⟩ := hmr.2.1 hv (fun k9 hk9 => (hco k9 hk9).mpr (hC k9 hk9))
      have hEQ : r_4 = r_9 := a1.trans b1.symm
      have hCX := CX_y (nh := nh) (i := i) (r := r) (gi := gi) (gr := gr) (K := (xs (7 * j + 1)).toNatClampNeg) hI2 hR2 a2 hE2x
      have hLR : LR i5 r5 (uf gi ((xs (7 * j + 1)).toNatClampNeg) i5) (uf gr ((xs (7 * j + 1)).toNatClampNeg) r5) nh i10 r10 := ⟨LR1_same hL1 b2 hMR hCX (by decide) (by decide) (by decide) (by decide), LR2_same hL2 b2 hMR hCX (by decide) (by decide) (by decide) (by decide), LR3_same hL3 b2 hMR hCX (by decide) (by decide) (by decide) (by decide)⟩
      refine lv_icmp_eq (tgt := 1525) hx hb dL_law_1177 (by decide) (fun _ => ?_) (fun c9 => absurd (hEQ) c9)
      refine W.widen (k := ce + 15) (n := sl + 215) (by omega) (by omega) ?_
      exact kk a _ _ _ _ _ _ _ _ _ _ _ _ _ rfl hLX hLM hLR hP hD hS (lv_sub hl [0, 1, 2, 3] rfl)
    · obtain ⟨a1, a2⟩ := hxr.2 hC
      obtain ⟨b1, b2⟩ := hmr.2.2 hv (fun h9 => hC (fun k9 hk9 => (hco k9 hk9).mp (h9 k9 hk9)))
      have b3 := DRW_co b1 hco
      rw [eX] at b3
      have hxy := DRW_un a1 b3
      have g1 : 0 ≤ (i5 11).toInt := (hLX.1.1 11).1
      have g2 : 0 ≤ (i10 1).toInt := (hLM.1 1).1
      have nX : i10 1 = i5 11 := Int32.toInt_inj.mp (by clear hxr hmr; omega)
      have hEQ : r_4 = r_9 := Int32.toInt_inj.mp (by rw [a2, b2, nX])
      have hLR : LR i5 r5 (uf gi ((xs (7 * j + 1)).toNatClampNeg) i5) (uf gr ((xs (7 * j + 1)).toNatClampNeg) r5) nh i10 r10 := ⟨⟨RI1_same kH hMI (by decide) hCX (by decide) (by decide), RI1_same kK hMI (by decide) hCX (by decide) (by decide), RHR_same kN hMR (by decide) hCX (by decide) (by decide), nX, RIK_same kY hMI (by decide) hCX (by decide) (by decide), trivial⟩, LR2_same hL2 hMI hMR hCX (by decide) (by decide) (by decide) (by decide), LR3_same hL3 hMI hMR hCX (by decide) (by decide) (by decide) (by decide)⟩
      refine lv_icmp_eq (tgt := 1525) hx hb dL_law_1177 (by decide) (fun _ => ?_) (fun c9 => absurd (hEQ) c9)
      refine W.widen (k := ce + 15) (n := sl + 215) (by omega) (by omega) ?_
      exact kk a _ _ _ _ _ _ _ _ _ _ _ _ _ rfl hLX hLM hLR hP hD hS (lv_sub hl [0, 1, 2, 3] rfl)
  · skip
    have hRi := hLX.1.1
    have hRr := hLX.1.2
    refine vp_callSi (W.runV (As := [.int (xs (7 * j + 1))]) (rest := []) ⟨hx, hb, hml, hown, hT⟩ (c_X11_draw.b l D cy a i r q (HL cy gb gi gr nh ++ (mW cy am im rm lm)) (xs (7 * j + 1)) hRi hRr hv) (cwV 1 hT (gV t_1066 t_1067 t_1068 t_1069 t_2) rfl rfl rfl (by decide +kernel) ⟨Nat.le_of_ble_eq_true rfl, Nat.le_of_ble_eq_true rfl⟩) (rP_v hP hK (va_recv hK hP (ci := 11) (q0 := 0) rfl rfl)) rfl rfl hl.1 rfl (lv_room (Nat.le_of_ble_eq_true rfl)) dL_law_1165 ⟨by show _ ≤ (600000 : Nat); omega, by show _ ≤ (7302250 : Nat); omega⟩) (fun r_11 hr_11 => ?_)
    have hCX := CX_rf (i := i) (r := r) (gi := gi) (gr := gr) (nh := nh)
    refine lv_aload_n hx hb dL_law_1168 rfl (lv_at hl 2 rfl) ?_
    refine lv_aload_n hx hb dL_law_1169 rfl (lv_at hl 0 rfl) ?_
    refine lv_iload_n hx hb dL_law_1170 rfl (lv_at hl 3 rfl) ?_
    refine lv_iconst (v := 1) hx hb dL_law_1171 (by decide) ?_
    refine lv_iadd hx hb dL_law_1172 ?_
    refine lv_topi (fun v_12 ev_12 => ?_)
    have hv_12 : v_12.toInt = x.toInt + 1 := by rw [ev_12]; have := b_rg x; exact i_add (a := x.toInt) (b := 1) rfl rfl (by omega) (by omega)
    refine va_sld hx hb hX hbl hbA hS (vp_inI (by omega) (by omega)) dL_law_1173 ?_
    refine lv_topi (fun v_13 ev_13 => ?_)
    obtain rfl : v_13 = xs (7 * j + 1) := ev_13.trans (congrArg xs (nI_ix hxj (by omega) (by omega)))
    have hPa := hP
    have hDa := hD
    have hP := vaP_r (vaP_r hPa)
    have hD := vaD_r (vaD_r hDa)
    have hRi := hLM.1
    have hRr := hLM.2.1
    have hE := hLM.2.2
    have hF_14 := rF hD hS hA
    refine va_calli (va_runV (As := [.int (xs (7 * j + 1))]) (rest := [.int r_11]) ⟨hx, hb, hml, hown, hT⟩ (c_X12_draw9 l D cy am im rm lm (xs (7 * j + 1)) _ hRi hRr) (cwV 1 hT (gV t_1070 t_1071 t_1072 t_1073 t_6) rfl rfl rfl (by decide +kernel) ⟨Nat.le_of_ble_eq_true rfl, Nat.le_of_ble_eq_true rfl⟩) (rQ_v hP hK hD (va_recv hK hP (ci := 12) (q0 := 0) rfl rfl)) rfl rfl hl.1 rfl (lv_room (Nat.le_of_ble_eq_true rfl)) dL_law_1174 ⟨by show _ ≤ (600000 : Nat); omega, by show _ ≤ (7302250 : Nat); omega⟩) hS (fun q _ h => hF_14 q h) hF_14 (fun r_15 u_16 t H1 locs ht hvm hr_15 hB hz1 hk1 hS => ?_)
    obtain ⟨i16, r16⟩ := u_16
    obtain ⟨hP, hK1, hD1⟩ := hB
    rw [ht] at hP
    have hD := hD1.weaken (fun k q _ h => hF_14 q.1 h)
    have hP : va_P D vwCl (mW cy am i16 r16 lm) H1 := hP
    have hD : va_D A (mW cy am i16 r16 lm) := hD
    obtain ⟨hRi, hRr, hE1, hE2, hr_15⟩ := hr_15
    have hRi : mRi i16 := hRi
    have hRr : mRr r16 := hRr
    obtain ⟨hP, hD⟩ := joinM hPa hDa hk1 hP rfl
    have hLM : LM i16 r16 := ⟨hRi, hRr, (mE_same hE1 hE2 (by decide) (by decide) hE)⟩
    have hMI : mEi [1] im i16 := hE1
    have hMR : mEr [] rm r16 := hE2
    obtain ⟨hL1, hL2, hL3⟩ := id hLR
    obtain ⟨kH, kK, kN, kX, kY, _⟩ := id hL1
    have e0 : im 0 = i 0 := kH
    have hmr : (¬ (0 ≤ (xs (7 * j + 1)).toInt ∧ (xs (7 * j + 1)).toInt < (im 0).toInt) → r_15 = -1 ∧ mEi [] im i16) ∧ ((0 ≤ (xs (7 * j + 1)).toInt ∧ (xs (7 * j + 1)).toInt < (im 0).toInt) → AKM rm (xs (7 * j + 1)) → r_15 = -2 ∧ mEi [] im i16) ∧ ((0 ≤ (xs (7 * j + 1)).toInt ∧ (xs (7 * j + 1)).toInt < (im 0).toInt) → ¬ AKM rm (xs (7 * j + 1)) → DRW (KM rm (xs (7 * j + 1))) (im 1).toInt.toNat (i16 1).toInt.toNat ∧ r_15.toInt = (i16 1).toInt % 6) := hr_15
    rw [e0] at hmr
    obtain ⟨b1, b2⟩ := hmr.1 hv
    have hEQ : r_11 = r_15 := hr_11.trans b1.symm
    have hLR : LR i r gi gr nh i16 r16 := ⟨LR1_same hL1 b2 hMR hCX (by decide) (by decide) (by decide) (by decide), LR2_same hL2 b2 hMR hCX (by decide) (by decide) (by decide) (by decide), LR3_same hL3 b2 hMR hCX (by decide) (by decide) (by decide) (by decide)⟩
    refine lv_icmp_eq (tgt := 1525) hx hb dL_law_1177 (by decide) (fun _ => ?_) (fun c9 => absurd (hEQ) c9)
    refine W.widen (k := ce + 15) (n := sl + 215) (by omega) (by omega) ?_
    exact kk a _ _ _ _ _ _ _ _ _ _ _ _ _ rfl hLX hLM hLR hP hD hS (lv_sub hl [0, 1, 2, 3] rfl)
set_option maxHeartbeats 4000000 in
set_option maxRecDepth 100000 in
theorem lc_22 {p : Program} {l : Launch} {e : Env} {s : State} {m : MethodId} {below : List Frame} {meth : Method} {c : Code} {b L : Nat} {xs : Nat → Int32} (C0 : lw_At p s m meth c b L xs) {D : va_G} {cy : Nat → ClassId} {kq vq : Nat} {A : Nat → Prop} (hA : ∀ q, s.heap.size ≤ q → A q) (hbA : ¬ A b) (hK : va_K D vwCl (vT cy) s) (hn : nw s) (hm0 : nm s) (hsk : vk_R RX6 101 "krsoamngcv" kq s ∧ sA kq vq A s s.heap) {a : Nat → Nat} {i : Nat → Int32} {r : Nat → Nat → Int32} {q : Nat → Option Nat} {gb : Nat → Nat → Nat} {gi : Nat → Nat → Int32} {gr : Nat → Nat → Nat → Int32} {nh : Nat} {am : Nat → Nat} {im : Nat → Int32} {rm : Nat → Nat → Int32} {lm : Nat → Int64} (hLX : LX i r q gb gi gr nh) (hLM : LM im rm) (hLR : LR i r gi gr nh im rm) {H : Heap} {locs : List Loc} (hP : va_P D vwCl (xW cy a i r q (a 20) (a 12) ++ (HL cy gb gi gr nh ++ (mW cy am im rm lm))) H) (hD : va_D A (xW cy a i r q (a 20) (a 12) ++ (HL cy gb gi gr nh ++ (mW cy am im rm lm)))) (hS : va_S A s.heap H locs) {ls : Array Slot} {x : Int32} (hl : lv_has ls 4 [(0, .ref b), (1, .ref (a 0)), (2, .ref (am 0)), (3, .int x)]) {j : Nat} (hj : 7 * j + 7 ≤ L) (hL : L ≤ 3584) (hxj : x = nI (7 * j)) {ce sl : Nat} (hce : ce + 15 ≤ 600000) (hsl : sl + 215 ≤ 7302250) (kk : ∀ (a2 : Nat → Nat) (i2 : Nat → Int32) (r2 : Nat → Nat → Int32) (q2 : Nat → Option Nat) (gb2 : Nat → Nat → Nat) (gi2 : Nat → Nat → Int32) (gr2 : Nat → Nat → Nat → Int32) (nh2 : Nat) (im2 : Nat → Int32) (rm2 : Nat → Nat → Int32) (lm2 : Nat → Int64) (H2 : Heap) (locs2 : List Loc) (ls2 : Array Slot), a2 0 = a 0 → LX i2 r2 q2 gb2 gi2 gr2 nh2 → LM im2 rm2 → LR i2 r2 gi2 gr2 nh2 im2 rm2 → va_P D vwCl (xW cy a2 i2 r2 q2 (a2 20) (a2 12) ++ (HL cy gb2 gi2 gr2 nh2 ++ (mW cy am im2 rm2 lm2))) H2 → va_D A (xW cy a2 i2 r2 q2 (a2 20) (a2 12) ++ (HL cy gb2 gi2 gr2 nh2 ++ (mW cy am im2 rm2 lm2))) → va_S A s.heap H2 locs2 → lv_has ls2 4 [(0, .ref b), (1, .ref (a 0)), (2, .ref (am 0)), (3, .int x)] → W p l e room_1 s m #[Value.ref b] below meth c H2 locs2 (ce + 15) (sl + 215) (lw_Z below #[Value.ref b] s) (F0 m 1525 ls2 [])) : W p l e room_1 s m #[Value.ref b] below meth c H locs ce sl (lw_Z below #[Value.ref b] s) (F0 m 1182 ls []) := by
  obtain ⟨hx, hb, hr, hml, hown, hts, hX, hbl, hlocks, hgv⟩ := id C0
  have hT : ∀ w ∈ gT, w.before _ s = true := fun w h => hts w (gT_in w h)
  have hx0 : x.toInt = ((7 * j : Nat) : Int) := by rw [hxj]; exact nI_toInt (by omega)
  have hLX0 := hLX
  have hLM0 := hLM
  refine lv_aload_n hx hb dL_law_1182 rfl (lv_at hl 1 rfl) ?_
  refine lv_aload_n hx hb dL_law_1183 rfl (lv_at hl 0 rfl) ?_
  refine lv_iload_n hx hb dL_law_1184 rfl (lv_at hl 3 rfl) ?_
  refine lv_iconst (v := 1) hx hb dL_law_1185 (by decide) ?_
  refine lv_iadd hx hb dL_law_1186 ?_
  refine lv_topi (fun v_1 ev_1 => ?_)
  have hv_1 : v_1.toInt = x.toInt + 1 := by rw [ev_1]; have := b_rg x; exact i_add (a := x.toInt) (b := 1) rfl rfl (by omega) (by omega)
  refine va_sld hx hb hX hbl hbA hS (vp_inI (by omega) (by omega)) dL_law_1187 ?_
  refine lv_topi (fun v_2 ev_2 => ?_)
  obtain rfl : v_2 = xs (7 * j + 1) := ev_2.trans (congrArg xs (nI_ix hxj (by omega) (by omega)))
  refine lv_aload_n hx hb dL_law_1188 rfl (lv_at hl 0 rfl) ?_
  refine lv_iload_n hx hb dL_law_1189 rfl (lv_at hl 3 rfl) ?_
  refine lv_iconst (v := 2) hx hb dL_law_1190 (by decide) ?_
  refine lv_iadd hx hb dL_law_1191 ?_
  refine lv_topi (fun v_3 ev_3 => ?_)
  have hv_3 : v_3.toInt = x.toInt + 2 := by rw [ev_3]; have := b_rg x; exact i_add (a := x.toInt) (b := 2) rfl rfl (by omega) (by omega)
  refine va_sld hx hb hX hbl hbA hS (vp_inI (by omega) (by omega)) dL_law_1192 ?_
  refine lv_topi (fun v_4 ev_4 => ?_)
  obtain rfl : v_4 = xs (7 * j + 2) := ev_4.trans (congrArg xs (nI_ix hxj (by omega) (by omega)))
  refine lv_aload_n hx hb dL_law_1193 rfl (lv_at hl 0 rfl) ?_
  refine lv_iload_n hx hb dL_law_1194 rfl (lv_at hl 3 rfl) ?_
  refine lv_iconst (v := 3) hx hb dL_law_1195 (by decide) ?_
  refine lv_iadd hx hb dL_law_1196 ?_
  refine lv_topi (fun v_5 ev_5 => ?_)
  have hv_5 : v_5.toInt = x.toInt + 3 := by rw [ev_5]; have := b_rg x; exact i_add (a := x.toInt) (b := 3) rfl rfl (by omega) (by omega)
  refine va_sld hx hb hX hbl hbA hS (vp_inI (by omega) (by omega)) dL_law_1197 ?_
  refine lv_topi (fun v_6 ev_6 => ?_)
  obtain rfl : v_6 = xs (7 * j + 3) := ev_6.trans (congrArg xs (nI_ix hxj (by omega) (by omega)))
  refine lv_aload_n hx hb dL_law_1198 rfl (lv_at hl 0 rfl) ?_
  refine lv_iload_n hx hb dL_law_1199 rfl (lv_at hl 3 rfl) ?_
  refine lv_iconst (v := 4) hx hb dL_law_1200 (by decide) ?_
  refine lv_iadd hx hb dL_law_1201 ?_
  refine lv_topi (fun v_7 ev_7 => ?_)
  have hv_7 : v_7.toInt = x.toInt + 4 := by rw [ev_7]; have := b_rg x; exact i_add (a := x.toInt) (b := 4) rfl rfl (by omega) (by omega)
  refine va_sld hx hb hX hbl hbA hS (vp_inI (by omega) (by omega)) dL_law_1202 ?_
  refine lv_topi (fun v_8 ev_8 => ?_)
  obtain rfl : v_8 = xs (7 * j + 4) := ev_8.trans (congrArg xs (nI_ix hxj (by omega) (by omega)))
  have hRi := hLX.1.1
  have hRr := hLX.1.2
  have hF_9 := rF hD hS hA
  refine va_calli (va_runV (As := [.int (xs (7 * j + 1)), .int (xs (7 * j + 2)), .int (xs (7 * j + 3)), .int (xs (7 * j + 4))]) (rest := []) ⟨hx, hb, hml, hown, hT⟩ (c_X11_twice l D cy a i r q (HL cy gb gi gr nh ++ (mW cy am im rm lm)) (xs (7 * j + 1)) (xs (7 * j + 2)) (xs (7 * j + 3)) (xs (7 * j + 4)) _ hRi hRr) (cwV 4 hT (gV t_1074 t_1075 t_1076 t_1077 t_2) rfl rfl rfl (by decide +kernel) ⟨Nat.le_of_ble_eq_true rfl, Nat.le_of_ble_eq_true rfl⟩) (rQ_v hP hK hD (va_recv hK hP (ci := 11) (q0 := 0) rfl rfl)) rfl rfl hl.1 rfl (lv_room (Nat.le_of_ble_eq_true rfl)) dL_law_1203 ⟨by show _ ≤ (600000 : Nat); omega, by show _ ≤ (7302250 : Nat); omega⟩) hS (fun q _ h => hF_9 q h) hF_9 (fun r_10 u_11 t H1 locs ht hvm hr_10 hB hz1 hk1 hS => ?_)
  obtain ⟨i11, r11⟩ := u_11
  obtain ⟨hP, hK1, hD1⟩ := hB
  rw [ht] at hP
  have hD := hD1.weaken (fun k q _ h => hF_9 q.1 h)
  obtain ⟨hRi, hRr, hE1, hE2, hr_10⟩ := hr_10
  have hRi : yRi i11 := hRi
  have hE1 : mEi [14] i i11 := hE1
  have hRr : yRr r11 := hRr
  have hE2 : mEr [55, 56, 57] r r11 := hE2
  have hP : va_P D vwCl (xW cy a i11 r11 q (a 20) (a 12) ++ (HL cy gb gi gr nh ++ (mW cy am im rm lm))) H1 := hP
  have hD : va_D A (xW cy a i11 r11 q (a 20) (a 12) ++ (HL cy gb gi gr nh ++ (mW cy am im rm lm))) := hD
  have hLX := LX_x hLX hRi hRr (hE1 0 (by decide))
  have hCX := CX_x (gi := gi) (gr := gr) (nh := nh) hE1 hE2
  refine lv_pop hx hb dL_law_1206 rfl ?_
  refine lv_aload_n hx hb dL_law_1207 rfl (lv_at hl 2 rfl) ?_
  refine lv_aload_n hx hb dL_law_1208 rfl (lv_at hl 0 rfl) ?_
  refine lv_iload_n hx hb dL_law_1209 rfl (lv_at hl 3 rfl) ?_
  refine lv_iconst (v := 1) hx hb dL_law_1210 (by decide) ?_
  refine lv_iadd hx hb dL_law_1211 ?_
  refine lv_topi (fun v_12 ev_12 => ?_)
  have hv_12 : v_12.toInt = x.toInt + 1 := by rw [ev_12]; have := b_rg x; exact i_add (a := x.toInt) (b := 1) rfl rfl (by omega) (by omega)
  refine va_sld hx hb hX hbl hbA hS (vp_inI (by omega) (by omega)) dL_law_1212 ?_
  refine lv_topi (fun v_13 ev_13 => ?_)
  obtain rfl : v_13 = xs (7 * j + 1) := ev_13.trans (congrArg xs (nI_ix hxj (by omega) (by omega)))
  refine lv_aload_n hx hb dL_law_1213 rfl (lv_at hl 0 rfl) ?_
  refine lv_iload_n hx hb dL_law_1214 rfl (lv_at hl 3 rfl) ?_
  refine lv_iconst (v := 2) hx hb dL_law_1215 (by decide) ?_
  refine lv_iadd hx hb dL_law_1216 ?_
  refine lv_topi (fun v_14 ev_14 => ?_)
  have hv_14 : v_14.toInt = x.toInt + 2 := by rw [ev_14]; have := b_rg x; exact i_add (a := x.toInt) (b := 2) rfl rfl (by omega) (by omega)
  refine va_sld hx hb hX hbl hbA hS (vp_inI (by omega) (by omega)) dL_law_1217 ?_
  refine lv_topi (fun v_15 ev_15 => ?_)
  obtain rfl : v_15 = xs (7 * j + 2) := ev_15.trans (congrArg xs (nI_ix hxj (by omega) (by omega)))
  refine lv_aload_n hx hb dL_law_1218 rfl (lv_at hl 0 rfl) ?_
  refine lv_iload_n hx hb dL_law_1219 rfl (lv_at hl 3 rfl) ?_
  refine lv_iconst (v := 3) hx hb dL_law_1220 (by decide) ?_
  refine lv_iadd hx hb dL_law_1221 ?_
  refine lv_topi (fun v_16 ev_16 => ?_)
  have hv_16 : v_16.toInt = x.toInt + 3 := by rw [ev_16]; have := b_rg x; exact i_add (a := x.toInt) (b := 3) rfl rfl (by omega) (by omega)
  refine va_sld hx hb hX hbl hbA hS (vp_inI (by omega) (by omega)) dL_law_1222 ?_
  refine lv_topi (fun v_17 ev_17 => ?_)
  obtain rfl : v_17 = xs (7 * j + 3) := ev_17.trans (congrArg xs (nI_ix hxj (by omega) (by omega)))
  refine lv_aload_n hx hb dL_law_1223 rfl (lv_at hl 0 rfl) ?_
  refine lv_iload_n hx hb dL_law_1224 rfl (lv_at hl 3 rfl) ?_
  refine lv_iconst (v := 4) hx hb dL_law_1225 (by decide) ?_
  refine lv_iadd hx hb dL_law_1226 ?_
  refine lv_topi (fun v_18 ev_18 => ?_)
  have hv_18 : v_18.toInt = x.toInt + 4 := by rw [ev_18]; have := b_rg x; exact i_add (a := x.toInt) (b := 4) rfl rfl (by omega) (by omega)
  refine va_sld hx hb hX hbl hbA hS (vp_inI (by omega) (by omega)) dL_law_1227 ?_
  refine lv_topi (fun v_19 ev_19 => ?_)
  obtain rfl : v_19 = xs (7 * j + 4) := ev_19.trans (congrArg xs (nI_ix hxj (by omega) (by omega)))
  have hPa := hP
  have hDa := hD
  have hP := vaP_r (vaP_r hPa)
  have hD := vaD_r (vaD_r hDa)
  have hRi := hLM.1
  have hRr := hLM.2.1
  have hE := hLM.2.2
  have hF_20 := rF hD hS hA
  refine va_calli (va_runV (As := [.int (xs (7 * j + 1)), .int (xs (7 * j + 2)), .int (xs (7 * j + 3)), .int (xs (7 * j + 4))]) (rest := []) ⟨hx, hb, hml, hown, hT⟩ (c_X12_twice l D cy am im rm lm (xs (7 * j + 1)) (xs (7 * j + 2)) (xs (7 * j + 3)) (xs (7 * j + 4)) _ hRi hRr) (cwV 4 hT (gV t_1078 t_1079 t_1080 t_1081 t_6) rfl rfl rfl (by decide +kernel) ⟨Nat.le_of_ble_eq_true rfl, Nat.le_of_ble_eq_true rfl⟩) (rQ_v hP hK hD (va_recv hK hP (ci := 12) (q0 := 0) rfl rfl)) rfl rfl hl.1 rfl (lv_room (Nat.le_of_ble_eq_true rfl)) dL_law_1228 ⟨by show _ ≤ (600000 : Nat); omega, by show _ ≤ (7302250 : Nat); omega⟩) hS (fun q _ h => hF_20 q h) hF_20 (fun r_21 u_22 t H1 locs ht hvm hr_21 hB hz1 hk1 hS => ?_)
  obtain ⟨i22, r22⟩ := u_22
  obtain ⟨hP, hK1, hD1⟩ := hB
  rw [ht] at hP
  have hD := hD1.weaken (fun k q _ h => hF_20 q.1 h)
  have hP : va_P D vwCl (mW cy am i22 r22 lm) H1 := hP
  have hD : va_D A (mW cy am i22 r22 lm) := hD
  obtain ⟨hRi, hRr, hE1, hE2, hr_21⟩ := hr_21
  have hRi : mRi i22 := hRi
  have hRr : mRr r22 := hRr
  obtain ⟨hP, hD⟩ := joinM hPa hDa hk1 hP rfl
  have hLM : LM i22 r22 := ⟨hRi, hRr, (mE_same hE1 hE2 (by decide) (by decide) hE)⟩
  have hMI : mEi [63] im i22 := hE1
  have hMR : mEr [52, 53, 54, 55] rm r22 := hE2
  obtain ⟨hL1, hL2, hL3⟩ := id hLR
  obtain ⟨kH, kK, kN, kX, kY, _⟩ := id hL1
  have hLR : LR i11 r11 gi gr nh i22 r22 := ⟨LR1_same hL1 hMI hMR hCX (by decide) (by decide) (by decide) (by decide), LR2_same hL2 hMI hMR hCX (by decide) (by decide) (by decide) (by decide), LR3_same hL3 hMI hMR hCX (by decide) (by decide) (by decide) (by decide)⟩
  refine lv_pop hx hb dL_law_1231 rfl ?_
  refine lv_goto (tgt := 1525) hx hb dL_law_1232 (by decide) ?_
  refine W.widen (k := ce + 15) (n := sl + 215) (by omega) (by omega) ?_
  exact kk a _ _ _ _ _ _ _ _ _ _ _ _ _ rfl hLX hLM hLR hP hD hS (lv_sub hl [0, 1, 2, 3] rfl)
set_option maxHeartbeats 4000000 in
set_option maxRecDepth 100000 in
theorem lc_23 {p : Program} {l : Launch} {e : Env} {s : State} {m : MethodId} {below : List Frame} {meth : Method} {c : Code} {b L : Nat} {xs : Nat → Int32} (C0 : lw_At p s m meth c b L xs) {D : va_G} {cy : Nat → ClassId} {kq vq : Nat} {A : Nat → Prop} (hA : ∀ q, s.heap.size ≤ q → A q) (hbA : ¬ A b) (hK : va_K D vwCl (vT cy) s) (hn : nw s) (hm0 : nm s) (hsk : vk_R RX6 101 "krsoamngcv" kq s ∧ sA kq vq A s s.heap) {a : Nat → Nat} {i : Nat → Int32} {r : Nat → Nat → Int32} {q : Nat → Option Nat} {gb : Nat → Nat → Nat} {gi : Nat → Nat → Int32} {gr : Nat → Nat → Nat → Int32} {nh : Nat} {am : Nat → Nat} {im : Nat → Int32} {rm : Nat → Nat → Int32} {lm : Nat → Int64} (hLX : LX i r q gb gi gr nh) (hLM : LM im rm) (hLR : LR i r gi gr nh im rm) {H : Heap} {locs : List Loc} (hP : va_P D vwCl (xW cy a i r q (a 20) (a 12) ++ (HL cy gb gi gr nh ++ (mW cy am im rm lm))) H) (hD : va_D A (xW cy a i r q (a 20) (a 12) ++ (HL cy gb gi gr nh ++ (mW cy am im rm lm)))) (hS : va_S A s.heap H locs) {ls : Array Slot} {x : Int32} (hl : lv_has ls 4 [(0, .ref b), (1, .ref (a 0)), (2, .ref (am 0)), (3, .int x)]) {j : Nat} (hj : 7 * j + 7 ≤ L) (hL : L ≤ 3584) (hxj : x = nI (7 * j)) {ce sl : Nat} (hce : ce + 15 ≤ 600000) (hsl : sl + 215 ≤ 7302250) (kk : ∀ (a2 : Nat → Nat) (i2 : Nat → Int32) (r2 : Nat → Nat → Int32) (q2 : Nat → Option Nat) (gb2 : Nat → Nat → Nat) (gi2 : Nat → Nat → Int32) (gr2 : Nat → Nat → Nat → Int32) (nh2 : Nat) (im2 : Nat → Int32) (rm2 : Nat → Nat → Int32) (lm2 : Nat → Int64) (H2 : Heap) (locs2 : List Loc) (ls2 : Array Slot), a2 0 = a 0 → LX i2 r2 q2 gb2 gi2 gr2 nh2 → LM im2 rm2 → LR i2 r2 gi2 gr2 nh2 im2 rm2 → va_P D vwCl (xW cy a2 i2 r2 q2 (a2 20) (a2 12) ++ (HL cy gb2 gi2 gr2 nh2 ++ (mW cy am im2 rm2 lm2))) H2 → va_D A (xW cy a2 i2 r2 q2 (a2 20) (a2 12) ++ (HL cy gb2 gi2 gr2 nh2 ++ (mW cy am im2 rm2 lm2))) → va_S A s.heap H2 locs2 → lv_has ls2 4 [(0, .ref b), (1, .ref (a 0)), (2, .ref (am 0)), (3, .int x)] → W p l e room_1 s m #[Value.ref b] below meth c H2 locs2 (ce + 15) (sl + 215) (lw_Z below #[Value.ref b] s) (F0 m 1525 ls2 [])) : W p l e room_1 s m #[Value.ref b] below meth c H locs ce sl (lw_Z below #[Value.ref b] s) (F0 m 1235 ls []) := by
  obtain ⟨hx, hb, hr, hml, hown, hts, hX, hbl, hlocks, hgv⟩ := id C0
  have hT : ∀ w ∈ gT, w.before _ s = true := fun w h => hts w (gT_in w h)
  have hx0 : x.toInt = ((7 * j : Nat) : Int) := by rw [hxj]; exact nI_toInt (by omega)
  have hLX0 := hLX
  have hLM0 := hLM
  refine lv_aload_n hx hb dL_law_1235 rfl (lv_at hl 1 rfl) ?_
  refine lv_aload_n hx hb dL_law_1236 rfl (lv_at hl 0 rfl) ?_
  refine lv_iload_n hx hb dL_law_1237 rfl (lv_at hl 3 rfl) ?_
  refine lv_iconst (v := 1) hx hb dL_law_1238 (by decide) ?_
  refine lv_iadd hx hb dL_law_1239 ?_
  refine lv_topi (fun v_1 ev_1 => ?_)
  have hv_1 : v_1.toInt = x.toInt + 1 := by rw [ev_1]; have := b_rg x; exact i_add (a := x.toInt) (b := 1) rfl rfl (by omega) (by omega)
  refine va_sld hx hb hX hbl hbA hS (vp_inI (by omega) (by omega)) dL_law_1240 ?_
  refine lv_topi (fun v_2 ev_2 => ?_)
  obtain rfl : v_2 = xs (7 * j + 1) := ev_2.trans (congrArg xs (nI_ix hxj (by omega) (by omega)))
  refine lv_aload_n hx hb dL_law_1241 rfl (lv_at hl 0 rfl) ?_
  refine lv_iload_n hx hb dL_law_1242 rfl (lv_at hl 3 rfl) ?_
  refine lv_iconst (v := 2) hx hb dL_law_1243 (by decide) ?_
  refine lv_iadd hx hb dL_law_1244 ?_
  refine lv_topi (fun v_3 ev_3 => ?_)
  have hv_3 : v_3.toInt = x.toInt + 2 := by rw [ev_3]; have := b_rg x; exact i_add (a := x.toInt) (b := 2) rfl rfl (by omega) (by omega)
  refine va_sld hx hb hX hbl hbA hS (vp_inI (by omega) (by omega)) dL_law_1245 ?_
  refine lv_topi (fun v_4 ev_4 => ?_)
  obtain rfl : v_4 = xs (7 * j + 2) := ev_4.trans (congrArg xs (nI_ix hxj (by omega) (by omega)))
  have hRi := hLX.1.1
  have hRr := hLX.1.2
  refine vp_callSi (W.runV (As := [.int (xs (7 * j + 1)), .int (xs (7 * j + 2))]) (rest := []) ⟨hx, hb, hml, hown, hT⟩ (c_X11_spread l D cy a i r q (HL cy gb gi gr nh ++ (mW cy am im rm lm)) (xs (7 * j + 1)) (xs (7 * j + 2)) hRi hRr) (cwV 2 hT (gV t_1082 t_1083 t_1084 t_1085 t_2) rfl rfl rfl (by decide +kernel) ⟨Nat.le_of_ble_eq_true rfl, Nat.le_of_ble_eq_true rfl⟩) (rP_v hP hK (va_recv hK hP (ci := 11) (q0 := 0) rfl rfl)) rfl rfl hl.1 rfl (lv_room (Nat.le_of_ble_eq_true rfl)) dL_law_1246 ⟨by show _ ≤ (600000 : Nat); omega, by show _ ≤ (7302250 : Nat); omega⟩) (fun r_5 hr_5 => ?_)
  have hCX := CX_rf (i := i) (r := r) (gi := gi) (gr := gr) (nh := nh)
  refine lv_pop hx hb dL_law_1249 rfl ?_
  refine lv_aload_n hx hb dL_law_1250 rfl (lv_at hl 2 rfl) ?_
  refine lv_aload_n hx hb dL_law_1251 rfl (lv_at hl 0 rfl) ?_
  refine lv_iload_n hx hb dL_law_1252 rfl (lv_at hl 3 rfl) ?_
  refine lv_iconst (v := 1) hx hb dL_law_1253 (by decide) ?_
  refine lv_iadd hx hb dL_law_1254 ?_
  refine lv_topi (fun v_6 ev_6 => ?_)
  have hv_6 : v_6.toInt = x.toInt + 1 := by rw [ev_6]; have := b_rg x; exact i_add (a := x.toInt) (b := 1) rfl rfl (by omega) (by omega)
  refine va_sld hx hb hX hbl hbA hS (vp_inI (by omega) (by omega)) dL_law_1255 ?_
  refine lv_topi (fun v_7 ev_7 => ?_)
  obtain rfl : v_7 = xs (7 * j + 1) := ev_7.trans (congrArg xs (nI_ix hxj (by omega) (by omega)))
  refine lv_aload_n hx hb dL_law_1256 rfl (lv_at hl 0 rfl) ?_
  refine lv_iload_n hx hb dL_law_1257 rfl (lv_at hl 3 rfl) ?_
  refine lv_iconst (v := 2) hx hb dL_law_1258 (by decide) ?_
  refine lv_iadd hx hb dL_law_1259 ?_
  refine lv_topi (fun v_8 ev_8 => ?_)
  have hv_8 : v_8.toInt = x.toInt + 2 := by rw [ev_8]; have := b_rg x; exact i_add (a := x.toInt) (b := 2) rfl rfl (by omega) (by omega)
  refine va_sld hx hb hX hbl hbA hS (vp_inI (by omega) (by omega)) dL_law_1260 ?_
  refine lv_topi (fun v_9 ev_9 => ?_)
  obtain rfl : v_9 = xs (7 * j + 2) := ev_9.trans (congrArg xs (nI_ix hxj (by omega) (by omega)))
  have hPa := hP
  have hDa := hD
  have hP := vaP_r (vaP_r hPa)
  have hD := vaD_r (vaD_r hDa)
  have hRi := hLM.1
  have hRr := hLM.2.1
  have hE := hLM.2.2
  refine vp_callSi (W.runV (As := [.int (xs (7 * j + 1)), .int (xs (7 * j + 2))]) (rest := []) ⟨hx, hb, hml, hown, hT⟩ (c_X12_spread l D cy am im rm lm (xs (7 * j + 1)) (xs (7 * j + 2)) hRi hRr) (cwV 2 hT (gV t_1086 t_1087 t_1088 t_1089 t_6) rfl rfl rfl (by decide +kernel) ⟨Nat.le_of_ble_eq_true rfl, Nat.le_of_ble_eq_true rfl⟩) (rP_v hP hK (va_recv hK hP (ci := 12) (q0 := 0) rfl rfl)) rfl rfl hl.1 rfl (lv_room (Nat.le_of_ble_eq_true rfl)) dL_law_1261 ⟨by show _ ≤ (600000 : Nat); omega, by show _ ≤ (7302250 : Nat); omega⟩) (fun r_10 hr_10 => ?_)
  have hP := hPa
  have hD := hDa
  have hMI : mEi [] im im := Ei_rf
  have hMR : mEr [] rm rm := Er_rf
  obtain ⟨hL1, hL2, hL3⟩ := id hLR
  obtain ⟨kH, kK, kN, kX, kY, _⟩ := id hL1
  have hLR : LR i r gi gr nh im rm := ⟨LR1_same hL1 hMI hMR hCX (by decide) (by decide) (by decide) (by decide), LR2_same hL2 hMI hMR hCX (by decide) (by decide) (by decide) (by decide), LR3_same hL3 hMI hMR hCX (by decide) (by decide) (by decide) (by decide)⟩
  refine lv_pop hx hb dL_law_1264 rfl ?_
  refine lv_goto (tgt := 1525) hx hb dL_law_1265 (by decide) ?_
  refine W.widen (k := ce + 15) (n := sl + 215) (by omega) (by omega) ?_
  exact kk a _ _ _ _ _ _ _ _ _ _ _ _ _ rfl hLX hLM hLR hP hD hS (lv_sub hl [0, 1, 2, 3] rfl)
set_option maxHeartbeats 4000000 in
set_option maxRecDepth 100000 in
theorem lc_25 {p : Program} {l : Launch} {e : Env} {s : State} {m : MethodId} {below : List Frame} {meth : Method} {c : Code} {b L : Nat} {xs : Nat → Int32} (C0 : lw_At p s m meth c b L xs) {D : va_G} {cy : Nat → ClassId} {kq vq : Nat} {A : Nat → Prop} (hA : ∀ q, s.heap.size ≤ q → A q) (hbA : ¬ A b) (hK : va_K D vwCl (vT cy) s) (hn : nw s) (hm0 : nm s) (hsk : vk_R RX6 101 "krsoamngcv" kq s ∧ sA kq vq A s s.heap) {a : Nat → Nat} {i : Nat → Int32} {r : Nat → Nat → Int32} {q : Nat → Option Nat} {gb : Nat → Nat → Nat} {gi : Nat → Nat → Int32} {gr : Nat → Nat → Nat → Int32} {nh : Nat} {am : Nat → Nat} {im : Nat → Int32} {rm : Nat → Nat → Int32} {lm : Nat → Int64} (hLX : LX i r q gb gi gr nh) (hLM : LM im rm) (hLR : LR i r gi gr nh im rm) {H : Heap} {locs : List Loc} (hP : va_P D vwCl (xW cy a i r q (a 20) (a 12) ++ (HL cy gb gi gr nh ++ (mW cy am im rm lm))) H) (hD : va_D A (xW cy a i r q (a 20) (a 12) ++ (HL cy gb gi gr nh ++ (mW cy am im rm lm)))) (hS : va_S A s.heap H locs) {ls : Array Slot} {x : Int32} (hl : lv_has ls 4 [(0, .ref b), (1, .ref (a 0)), (2, .ref (am 0)), (3, .int x)]) {j : Nat} (hj : 7 * j + 7 ≤ L) (hL : L ≤ 3584) (hxj : x = nI (7 * j)) {ce sl : Nat} (hce : ce + 15 ≤ 600000) (hsl : sl + 215 ≤ 7302250) (kk : ∀ (a2 : Nat → Nat) (i2 : Nat → Int32) (r2 : Nat → Nat → Int32) (q2 : Nat → Option Nat) (gb2 : Nat → Nat → Nat) (gi2 : Nat → Nat → Int32) (gr2 : Nat → Nat → Nat → Int32) (nh2 : Nat) (im2 : Nat → Int32) (rm2 : Nat → Nat → Int32) (lm2 : Nat → Int64) (H2 : Heap) (locs2 : List Loc) (ls2 : Array Slot), a2 0 = a 0 → LX i2 r2 q2 gb2 gi2 gr2 nh2 → LM im2 rm2 → LR i2 r2 gi2 gr2 nh2 im2 rm2 → va_P D vwCl (xW cy a2 i2 r2 q2 (a2 20) (a2 12) ++ (HL cy gb2 gi2 gr2 nh2 ++ (mW cy am im2 rm2 lm2))) H2 → va_D A (xW cy a2 i2 r2 q2 (a2 20) (a2 12) ++ (HL cy gb2 gi2 gr2 nh2 ++ (mW cy am im2 rm2 lm2))) → va_S A s.heap H2 locs2 → lv_has ls2 4 [(0, .ref b), (1, .ref (a 0)), (2, .ref (am 0)), (3, .int x)] → W p l e room_1 s m #[Value.ref b] below meth c H2 locs2 (ce + 15) (sl + 215) (lw_Z below #[Value.ref b] s) (F0 m 1525 ls2 [])) : W p l e room_1 s m #[Value.ref b] below meth c H locs ce sl (lw_Z below #[Value.ref b] s) (F0 m 1301 ls []) := by
  obtain ⟨hx, hb, hr, hml, hown, hts, hX, hbl, hlocks, hgv⟩ := id C0
  have hT : ∀ w ∈ gT, w.before _ s = true := fun w h => hts w (gT_in w h)
  have hx0 : x.toInt = ((7 * j : Nat) : Int) := by rw [hxj]; exact nI_toInt (by omega)
  have hLX0 := hLX
  have hLM0 := hLM
  refine lv_aload_n hx hb dL_law_1301 rfl (lv_at hl 1 rfl) ?_
  refine lv_aload_n hx hb dL_law_1302 rfl (lv_at hl 0 rfl) ?_
  refine lv_iload_n hx hb dL_law_1303 rfl (lv_at hl 3 rfl) ?_
  refine lv_iconst (v := 1) hx hb dL_law_1304 (by decide) ?_
  refine lv_iadd hx hb dL_law_1305 ?_
  refine lv_topi (fun v_1 ev_1 => ?_)
  have hv_1 : v_1.toInt = x.toInt + 1 := by rw [ev_1]; have := b_rg x; exact i_add (a := x.toInt) (b := 1) rfl rfl (by omega) (by omega)
  refine va_sld hx hb hX hbl hbA hS (vp_inI (by omega) (by omega)) dL_law_1306 ?_
  refine lv_topi (fun v_2 ev_2 => ?_)
  obtain rfl : v_2 = xs (7 * j + 1) := ev_2.trans (congrArg xs (nI_ix hxj (by omega) (by omega)))
  refine lv_aload_n hx hb dL_law_1307 rfl (lv_at hl 0 rfl) ?_
  refine lv_iload_n hx hb dL_law_1308 rfl (lv_at hl 3 rfl) ?_
  refine lv_iconst (v := 2) hx hb dL_law_1309 (by decide) ?_
  refine lv_iadd hx hb dL_law_1310 ?_
  refine lv_topi (fun v_3 ev_3 => ?_)
  have hv_3 : v_3.toInt = x.toInt + 2 := by rw [ev_3]; have := b_rg x; exact i_add (a := x.toInt) (b := 2) rfl rfl (by omega) (by omega)
  refine va_sld hx hb hX hbl hbA hS (vp_inI (by omega) (by omega)) dL_law_1311 ?_
  refine lv_topi (fun v_4 ev_4 => ?_)
  obtain rfl : v_4 = xs (7 * j + 2) := ev_4.trans (congrArg xs (nI_ix hxj (by omega) (by omega)))
  refine lv_aload_n hx hb dL_law_1312 rfl (lv_at hl 0 rfl) ?_
  refine lv_iload_n hx hb dL_law_1313 rfl (lv_at hl 3 rfl) ?_
  refine lv_iconst (v := 3) hx hb dL_law_1314 (by decide) ?_
  refine lv_iadd hx hb dL_law_1315 ?_
  refine lv_topi (fun v_5 ev_5 => ?_)
  have hv_5 : v_5.toInt = x.toInt + 3 := by rw [ev_5]; have := b_rg x; exact i_add (a := x.toInt) (b := 3) rfl rfl (by omega) (by omega)
  refine va_sld hx hb hX hbl hbA hS (vp_inI (by omega) (by omega)) dL_law_1316 ?_
  refine lv_topi (fun v_6 ev_6 => ?_)
  obtain rfl : v_6 = xs (7 * j + 3) := ev_6.trans (congrArg xs (nI_ix hxj (by omega) (by omega)))
  have hRi := hLX.1.1
  have hRr := hLX.1.2
  have hF_7 := rF hD hS hA
  refine va_calli (va_runV (As := [.int (xs (7 * j + 1)), .int (xs (7 * j + 2)), .int (xs (7 * j + 3))]) (rest := []) ⟨hx, hb, hml, hown, hT⟩ (c_X11_fact l D cy a i r q (HL cy gb gi gr nh ++ (mW cy am im rm lm)) (xs (7 * j + 1)) (xs (7 * j + 2)) (xs (7 * j + 3)) _ hRi hRr) (cwV 3 hT (gV t_1090 t_1091 t_1092 t_1093 t_2) rfl rfl rfl (by decide +kernel) ⟨Nat.le_of_ble_eq_true rfl, Nat.le_of_ble_eq_true rfl⟩) (rQ_v hP hK hD (va_recv hK hP (ci := 11) (q0 := 0) rfl rfl)) rfl rfl hl.1 rfl (lv_room (Nat.le_of_ble_eq_true rfl)) dL_law_1317 ⟨by show _ ≤ (600000 : Nat); omega, by show _ ≤ (7302250 : Nat); omega⟩) hS (fun q _ h => hF_7 q h) hF_7 (fun r_8 u_9 t H1 locs ht hvm hr_8 hB hz1 hk1 hS => ?_)
  obtain ⟨i9, r9⟩ := u_9
  obtain ⟨hP, hK1, hD1⟩ := hB
  rw [ht] at hP
  have hD := hD1.weaken (fun k q _ h => hF_7 q.1 h)
  obtain ⟨hRi, hRr, hE1, hE2, hr_8⟩ := hr_8
  have hRi : yRi i9 := hRi
  have hE1 : mEi [15, 16] i i9 := hE1
  have hRr : yRr r9 := hRr
  have hE2 : mEr [59, 60] r r9 := hE2
  have hP : va_P D vwCl (xW cy a i9 r9 q (a 20) (a 12) ++ (HL cy gb gi gr nh ++ (mW cy am im rm lm))) H1 := hP
  have hD : va_D A (xW cy a i9 r9 q (a 20) (a 12) ++ (HL cy gb gi gr nh ++ (mW cy am im rm lm))) := hD
  have hLX := LX_x hLX hRi hRr (hE1 0 (by decide))
  have hCX := CX_x (gi := gi) (gr := gr) (nh := nh) hE1 hE2
  refine lv_pop hx hb dL_law_1320 rfl ?_
  refine lv_aload_n hx hb dL_law_1321 rfl (lv_at hl 2 rfl) ?_
  refine lv_aload_n hx hb dL_law_1322 rfl (lv_at hl 0 rfl) ?_
  refine lv_iload_n hx hb dL_law_1323 rfl (lv_at hl 3 rfl) ?_
  refine lv_iconst (v := 1) hx hb dL_law_1324 (by decide) ?_
  refine lv_iadd hx hb dL_law_1325 ?_
  refine lv_topi (fun v_10 ev_10 => ?_)
  have hv_10 : v_10.toInt = x.toInt + 1 := by rw [ev_10]; have := b_rg x; exact i_add (a := x.toInt) (b := 1) rfl rfl (by omega) (by omega)
  refine va_sld hx hb hX hbl hbA hS (vp_inI (by omega) (by omega)) dL_law_1326 ?_
  refine lv_topi (fun v_11 ev_11 => ?_)
  obtain rfl : v_11 = xs (7 * j + 1) := ev_11.trans (congrArg xs (nI_ix hxj (by omega) (by omega)))
  refine lv_aload_n hx hb dL_law_1327 rfl (lv_at hl 0 rfl) ?_
  refine lv_iload_n hx hb dL_law_1328 rfl (lv_at hl 3 rfl) ?_
  refine lv_iconst (v := 2) hx hb dL_law_1329 (by decide) ?_
  refine lv_iadd hx hb dL_law_1330 ?_
  refine lv_topi (fun v_12 ev_12 => ?_)
  have hv_12 : v_12.toInt = x.toInt + 2 := by rw [ev_12]; have := b_rg x; exact i_add (a := x.toInt) (b := 2) rfl rfl (by omega) (by omega)
  refine va_sld hx hb hX hbl hbA hS (vp_inI (by omega) (by omega)) dL_law_1331 ?_
  refine lv_topi (fun v_13 ev_13 => ?_)
  obtain rfl : v_13 = xs (7 * j + 2) := ev_13.trans (congrArg xs (nI_ix hxj (by omega) (by omega)))
  refine lv_aload_n hx hb dL_law_1332 rfl (lv_at hl 0 rfl) ?_
  refine lv_iload_n hx hb dL_law_1333 rfl (lv_at hl 3 rfl) ?_
  refine lv_iconst (v := 3) hx hb dL_law_1334 (by decide) ?_
  refine lv_iadd hx hb dL_law_1335 ?_
  refine lv_topi (fun v_14 ev_14 => ?_)
  have hv_14 : v_14.toInt = x.toInt + 3 := by rw [ev_14]; have := b_rg x; exact i_add (a := x.toInt) (b := 3) rfl rfl (by omega) (by omega)
  refine va_sld hx hb hX hbl hbA hS (vp_inI (by omega) (by omega)) dL_law_1336 ?_
  refine lv_topi (fun v_15 ev_15 => ?_)
  obtain rfl : v_15 = xs (7 * j + 3) := ev_15.trans (congrArg xs (nI_ix hxj (by omega) (by omega)))
  have hPa := hP
  have hDa := hD
  have hP := vaP_r (vaP_r hPa)
  have hD := vaD_r (vaD_r hDa)
  have hRi := hLM.1
  have hRr := hLM.2.1
  have hE := hLM.2.2
  have hF_16 := rF hD hS hA
  refine va_calli (va_runV (As := [.int (xs (7 * j + 1)), .int (xs (7 * j + 2)), .int (xs (7 * j + 3))]) (rest := []) ⟨hx, hb, hml, hown, hT⟩ (c_X12_fact l D cy am im rm lm (xs (7 * j + 1)) (xs (7 * j + 2)) (xs (7 * j + 3)) _ hRi hRr) (cwV 3 hT (gV t_1094 t_1095 t_1096 t_1097 t_6) rfl rfl rfl (by decide +kernel) ⟨Nat.le_of_ble_eq_true rfl, Nat.le_of_ble_eq_true rfl⟩) (rQ_v hP hK hD (va_recv hK hP (ci := 12) (q0 := 0) rfl rfl)) rfl rfl hl.1 rfl (lv_room (Nat.le_of_ble_eq_true rfl)) dL_law_1337 ⟨by show _ ≤ (600000 : Nat); omega, by show _ ≤ (7302250 : Nat); omega⟩) hS (fun q _ h => hF_16 q h) hF_16 (fun r_17 u_18 t H1 locs ht hvm hr_17 hB hz1 hk1 hS => ?_)
  obtain ⟨i18, r18⟩ := u_18
  obtain ⟨hP, hK1, hD1⟩ := hB
  rw [ht] at hP
  have hD := hD1.weaken (fun k q _ h => hF_16 q.1 h)
  have hP : va_P D vwCl (mW cy am i18 r18 lm) H1 := hP
  have hD : va_D A (mW cy am i18 r18 lm) := hD
  obtain ⟨hRi, hRr, hE1, hE2, hr_17⟩ := hr_17
  have hRi : mRi i18 := hRi
  have hRr : mRr r18 := hRr
  obtain ⟨hP, hD⟩ := joinM hPa hDa hk1 hP rfl
  have hLM : LM i18 r18 := ⟨hRi, hRr, (mE_same hE1 hE2 (by decide) (by decide) hE)⟩
  have hMI : mEi [72] im i18 := hE1
  have hMR : mEr [58, 59, 60] rm r18 := hE2
  obtain ⟨hL1, hL2, hL3⟩ := id hLR
  obtain ⟨kH, kK, kN, kX, kY, _⟩ := id hL1
  have hLR : LR i9 r9 gi gr nh i18 r18 := ⟨LR1_same hL1 hMI hMR hCX (by decide) (by decide) (by decide) (by decide), LR2_same hL2 hMI hMR hCX (by decide) (by decide) (by decide) (by decide), LR3_same hL3 hMI hMR hCX (by decide) (by decide) (by decide) (by decide)⟩
  refine lv_pop hx hb dL_law_1340 rfl ?_
  refine lv_goto (tgt := 1525) hx hb dL_law_1341 (by decide) ?_
  refine W.widen (k := ce + 15) (n := sl + 215) (by omega) (by omega) ?_
  exact kk a _ _ _ _ _ _ _ _ _ _ _ _ _ rfl hLX hLM hLR hP hD hS (lv_sub hl [0, 1, 2, 3] rfl)
set_option maxHeartbeats 4000000 in
set_option maxRecDepth 100000 in
theorem lc_26 {p : Program} {l : Launch} {e : Env} {s : State} {m : MethodId} {below : List Frame} {meth : Method} {c : Code} {b L : Nat} {xs : Nat → Int32} (C0 : lw_At p s m meth c b L xs) {D : va_G} {cy : Nat → ClassId} {kq vq : Nat} {A : Nat → Prop} (hA : ∀ q, s.heap.size ≤ q → A q) (hbA : ¬ A b) (hK : va_K D vwCl (vT cy) s) (hn : nw s) (hm0 : nm s) (hsk : vk_R RX6 101 "krsoamngcv" kq s ∧ sA kq vq A s s.heap) {a : Nat → Nat} {i : Nat → Int32} {r : Nat → Nat → Int32} {q : Nat → Option Nat} {gb : Nat → Nat → Nat} {gi : Nat → Nat → Int32} {gr : Nat → Nat → Nat → Int32} {nh : Nat} {am : Nat → Nat} {im : Nat → Int32} {rm : Nat → Nat → Int32} {lm : Nat → Int64} (hLX : LX i r q gb gi gr nh) (hLM : LM im rm) (hLR : LR i r gi gr nh im rm) {H : Heap} {locs : List Loc} (hP : va_P D vwCl (xW cy a i r q (a 20) (a 12) ++ (HL cy gb gi gr nh ++ (mW cy am im rm lm))) H) (hD : va_D A (xW cy a i r q (a 20) (a 12) ++ (HL cy gb gi gr nh ++ (mW cy am im rm lm)))) (hS : va_S A s.heap H locs) {ls : Array Slot} {x : Int32} (hl : lv_has ls 4 [(0, .ref b), (1, .ref (a 0)), (2, .ref (am 0)), (3, .int x)]) {j : Nat} (hj : 7 * j + 7 ≤ L) (hL : L ≤ 3584) (hxj : x = nI (7 * j)) {ce sl : Nat} (hce : ce + 15 ≤ 600000) (hsl : sl + 215 ≤ 7302250) (kk : ∀ (a2 : Nat → Nat) (i2 : Nat → Int32) (r2 : Nat → Nat → Int32) (q2 : Nat → Option Nat) (gb2 : Nat → Nat → Nat) (gi2 : Nat → Nat → Int32) (gr2 : Nat → Nat → Nat → Int32) (nh2 : Nat) (im2 : Nat → Int32) (rm2 : Nat → Nat → Int32) (lm2 : Nat → Int64) (H2 : Heap) (locs2 : List Loc) (ls2 : Array Slot), a2 0 = a 0 → LX i2 r2 q2 gb2 gi2 gr2 nh2 → LM im2 rm2 → LR i2 r2 gi2 gr2 nh2 im2 rm2 → va_P D vwCl (xW cy a2 i2 r2 q2 (a2 20) (a2 12) ++ (HL cy gb2 gi2 gr2 nh2 ++ (mW cy am im2 rm2 lm2))) H2 → va_D A (xW cy a2 i2 r2 q2 (a2 20) (a2 12) ++ (HL cy gb2 gi2 gr2 nh2 ++ (mW cy am im2 rm2 lm2))) → va_S A s.heap H2 locs2 → lv_has ls2 4 [(0, .ref b), (1, .ref (a 0)), (2, .ref (am 0)), (3, .int x)] → W p l e room_1 s m #[Value.ref b] below meth c H2 locs2 (ce + 15) (sl + 215) (lw_Z below #[Value.ref b] s) (F0 m 1525 ls2 [])) : W p l e room_1 s m #[Value.ref b] below meth c H locs ce sl (lw_Z below #[Value.ref b] s) (F0 m 1344 ls []) := by
  obtain ⟨hx, hb, hr, hml, hown, hts, hX, hbl, hlocks, hgv⟩ := id C0
  have hT : ∀ w ∈ gT, w.before _ s = true := fun w h => hts w (gT_in w h)
  have hx0 : x.toInt = ((7 * j : Nat) : Int) := by rw [hxj]; exact nI_toInt (by omega)
  have hLX0 := hLX
  have hLM0 := hLM
  refine lv_aload_n hx hb dL_law_1344 rfl (lv_at hl 1 rfl) ?_
  refine lv_aload_n hx hb dL_law_1345 rfl (lv_at hl 0 rfl) ?_
  refine lv_iload_n hx hb dL_law_1346 rfl (lv_at hl 3 rfl) ?_
  refine lv_iconst (v := 1) hx hb dL_law_1347 (by decide) ?_
  refine lv_iadd hx hb dL_law_1348 ?_
  refine lv_topi (fun v_1 ev_1 => ?_)
  have hv_1 : v_1.toInt = x.toInt + 1 := by rw [ev_1]; have := b_rg x; exact i_add (a := x.toInt) (b := 1) rfl rfl (by omega) (by omega)
  refine va_sld hx hb hX hbl hbA hS (vp_inI (by omega) (by omega)) dL_law_1349 ?_
  refine lv_topi (fun v_2 ev_2 => ?_)
  obtain rfl : v_2 = xs (7 * j + 1) := ev_2.trans (congrArg xs (nI_ix hxj (by omega) (by omega)))
  refine lv_aload_n hx hb dL_law_1350 rfl (lv_at hl 0 rfl) ?_
  refine lv_iload_n hx hb dL_law_1351 rfl (lv_at hl 3 rfl) ?_
  refine lv_iconst (v := 2) hx hb dL_law_1352 (by decide) ?_
  refine lv_iadd hx hb dL_law_1353 ?_
  refine lv_topi (fun v_3 ev_3 => ?_)
  have hv_3 : v_3.toInt = x.toInt + 2 := by rw [ev_3]; have := b_rg x; exact i_add (a := x.toInt) (b := 2) rfl rfl (by omega) (by omega)
  refine va_sld hx hb hX hbl hbA hS (vp_inI (by omega) (by omega)) dL_law_1354 ?_
  refine lv_topi (fun v_4 ev_4 => ?_)
  obtain rfl : v_4 = xs (7 * j + 2) := ev_4.trans (congrArg xs (nI_ix hxj (by omega) (by omega)))
  have hRi := hLX.1.1
  have hRr := hLX.1.2
  refine vp_callSi (W.runV (As := [.int (xs (7 * j + 1)), .int (xs (7 * j + 2))]) (rest := []) ⟨hx, hb, hml, hown, hT⟩ (c_X11_dated l D cy a i r q (HL cy gb gi gr nh ++ (mW cy am im rm lm)) (xs (7 * j + 1)) (xs (7 * j + 2)) hRi hRr) (cwV 2 hT (gV t_1098 t_1099 t_1100 t_1101 t_2) rfl rfl rfl (by decide +kernel) ⟨Nat.le_of_ble_eq_true rfl, Nat.le_of_ble_eq_true rfl⟩) (rP_v hP hK (va_recv hK hP (ci := 11) (q0 := 0) rfl rfl)) rfl rfl hl.1 rfl (lv_room (Nat.le_of_ble_eq_true rfl)) dL_law_1355 ⟨by show _ ≤ (600000 : Nat); omega, by show _ ≤ (7302250 : Nat); omega⟩) (fun r_5 hr_5 => ?_)
  have hCX := CX_rf (i := i) (r := r) (gi := gi) (gr := gr) (nh := nh)
  refine lv_pop hx hb dL_law_1358 rfl ?_
  refine lv_aload_n hx hb dL_law_1359 rfl (lv_at hl 2 rfl) ?_
  refine lv_aload_n hx hb dL_law_1360 rfl (lv_at hl 0 rfl) ?_
  refine lv_iload_n hx hb dL_law_1361 rfl (lv_at hl 3 rfl) ?_
  refine lv_iconst (v := 1) hx hb dL_law_1362 (by decide) ?_
  refine lv_iadd hx hb dL_law_1363 ?_
  refine lv_topi (fun v_6 ev_6 => ?_)
  have hv_6 : v_6.toInt = x.toInt + 1 := by rw [ev_6]; have := b_rg x; exact i_add (a := x.toInt) (b := 1) rfl rfl (by omega) (by omega)
  refine va_sld hx hb hX hbl hbA hS (vp_inI (by omega) (by omega)) dL_law_1364 ?_
  refine lv_topi (fun v_7 ev_7 => ?_)
  obtain rfl : v_7 = xs (7 * j + 1) := ev_7.trans (congrArg xs (nI_ix hxj (by omega) (by omega)))
  refine lv_aload_n hx hb dL_law_1365 rfl (lv_at hl 0 rfl) ?_
  refine lv_iload_n hx hb dL_law_1366 rfl (lv_at hl 3 rfl) ?_
  refine lv_iconst (v := 2) hx hb dL_law_1367 (by decide) ?_
  refine lv_iadd hx hb dL_law_1368 ?_
  refine lv_topi (fun v_8 ev_8 => ?_)
  have hv_8 : v_8.toInt = x.toInt + 2 := by rw [ev_8]; have := b_rg x; exact i_add (a := x.toInt) (b := 2) rfl rfl (by omega) (by omega)
  refine va_sld hx hb hX hbl hbA hS (vp_inI (by omega) (by omega)) dL_law_1369 ?_
  refine lv_topi (fun v_9 ev_9 => ?_)
  obtain rfl : v_9 = xs (7 * j + 2) := ev_9.trans (congrArg xs (nI_ix hxj (by omega) (by omega)))
  have hPa := hP
  have hDa := hD
  have hP := vaP_r (vaP_r hPa)
  have hD := vaD_r (vaD_r hDa)
  have hRi := hLM.1
  have hRr := hLM.2.1
  have hE := hLM.2.2
  have hF_10 := rF hD hS hA
  refine va_calli (va_runV (As := [.int (xs (7 * j + 1)), .int (xs (7 * j + 2))]) (rest := []) ⟨hx, hb, hml, hown, hT⟩ (c_X12_dated l D cy am im rm lm (xs (7 * j + 1)) (xs (7 * j + 2)) _ hRi hRr) (cwV 2 hT (gV t_1102 t_1103 t_1104 t_1105 t_6) rfl rfl rfl (by decide +kernel) ⟨Nat.le_of_ble_eq_true rfl, Nat.le_of_ble_eq_true rfl⟩) (rQ_v hP hK hD (va_recv hK hP (ci := 12) (q0 := 0) rfl rfl)) rfl rfl hl.1 rfl (lv_room (Nat.le_of_ble_eq_true rfl)) dL_law_1370 ⟨by show _ ≤ (600000 : Nat); omega, by show _ ≤ (7302250 : Nat); omega⟩) hS (fun q _ h => hF_10 q h) hF_10 (fun r_11 u_12 t H1 locs ht hvm hr_11 hB hz1 hk1 hS => ?_)
  obtain ⟨r12, rfl⟩ : ∃ z, z = u_12 := ⟨_, rfl⟩
  obtain ⟨hP, hK1, hD1⟩ := hB
  rw [ht] at hP
  have hD := hD1.weaken (fun k q _ h => hF_10 q.1 h)
  have hP : va_P D vwCl (mW cy am im r12 lm) H1 := hP
  have hD : va_D A (mW cy am im r12 lm) := hD
  obtain ⟨hRr, hE2, hr_11⟩ := hr_11
  have hRr : mRr r12 := hRr
  obtain ⟨hP, hD⟩ := joinM hPa hDa hk1 hP rfl
  have hLM : LM im r12 := ⟨hRi, hRr, (mE_same (Ei_rf (T := [])) hE2 (by decide) (by decide) hE)⟩
  have hMI : mEi [] im im := Ei_rf
  have hMR : mEr [61, 62] rm r12 := hE2
  obtain ⟨hL1, hL2, hL3⟩ := id hLR
  obtain ⟨kH, kK, kN, kX, kY, _⟩ := id hL1
  have hLR : LR i r gi gr nh im r12 := ⟨LR1_same hL1 hMI hMR hCX (by decide) (by decide) (by decide) (by decide), LR2_same hL2 hMI hMR hCX (by decide) (by decide) (by decide) (by decide), LR3_same hL3 hMI hMR hCX (by decide) (by decide) (by decide) (by decide)⟩
  refine lv_pop hx hb dL_law_1373 rfl ?_
  refine lv_goto (tgt := 1525) hx hb dL_law_1374 (by decide) ?_
  refine W.widen (k := ce + 15) (n := sl + 215) (by omega) (by omega) ?_
  exact kk a _ _ _ _ _ _ _ _ _ _ _ _ _ rfl hLX hLM hLR hP hD hS (lv_sub hl [0, 1, 2, 3] rfl)
set_option maxHeartbeats 4000000 in
set_option maxRecDepth 100000 in
theorem lc_27 {p : Program} {l : Launch} {e : Env} {s : State} {m : MethodId} {below : List Frame} {meth : Method} {c : Code} {b L : Nat} {xs : Nat → Int32} (C0 : lw_At p s m meth c b L xs) {D : va_G} {cy : Nat → ClassId} {kq vq : Nat} {A : Nat → Prop} (hA : ∀ q, s.heap.size ≤ q → A q) (hbA : ¬ A b) (hK : va_K D vwCl (vT cy) s) (hn : nw s) (hm0 : nm s) (hsk : vk_R RX6 101 "krsoamngcv" kq s ∧ sA kq vq A s s.heap) {a : Nat → Nat} {i : Nat → Int32} {r : Nat → Nat → Int32} {q : Nat → Option Nat} {gb : Nat → Nat → Nat} {gi : Nat → Nat → Int32} {gr : Nat → Nat → Nat → Int32} {nh : Nat} {am : Nat → Nat} {im : Nat → Int32} {rm : Nat → Nat → Int32} {lm : Nat → Int64} (hLX : LX i r q gb gi gr nh) (hLM : LM im rm) (hLR : LR i r gi gr nh im rm) {H : Heap} {locs : List Loc} (hP : va_P D vwCl (xW cy a i r q (a 20) (a 12) ++ (HL cy gb gi gr nh ++ (mW cy am im rm lm))) H) (hD : va_D A (xW cy a i r q (a 20) (a 12) ++ (HL cy gb gi gr nh ++ (mW cy am im rm lm)))) (hS : va_S A s.heap H locs) {ls : Array Slot} {x : Int32} (hl : lv_has ls 4 [(0, .ref b), (1, .ref (a 0)), (2, .ref (am 0)), (3, .int x)]) {j : Nat} (hj : 7 * j + 7 ≤ L) (hL : L ≤ 3584) (hxj : x = nI (7 * j)) {ce sl : Nat} (hce : ce + 15 ≤ 600000) (hsl : sl + 215 ≤ 7302250) (kk : ∀ (a2 : Nat → Nat) (i2 : Nat → Int32) (r2 : Nat → Nat → Int32) (q2 : Nat → Option Nat) (gb2 : Nat → Nat → Nat) (gi2 : Nat → Nat → Int32) (gr2 : Nat → Nat → Nat → Int32) (nh2 : Nat) (im2 : Nat → Int32) (rm2 : Nat → Nat → Int32) (lm2 : Nat → Int64) (H2 : Heap) (locs2 : List Loc) (ls2 : Array Slot), a2 0 = a 0 → LX i2 r2 q2 gb2 gi2 gr2 nh2 → LM im2 rm2 → LR i2 r2 gi2 gr2 nh2 im2 rm2 → va_P D vwCl (xW cy a2 i2 r2 q2 (a2 20) (a2 12) ++ (HL cy gb2 gi2 gr2 nh2 ++ (mW cy am im2 rm2 lm2))) H2 → va_D A (xW cy a2 i2 r2 q2 (a2 20) (a2 12) ++ (HL cy gb2 gi2 gr2 nh2 ++ (mW cy am im2 rm2 lm2))) → va_S A s.heap H2 locs2 → lv_has ls2 4 [(0, .ref b), (1, .ref (a 0)), (2, .ref (am 0)), (3, .int x)] → W p l e room_1 s m #[Value.ref b] below meth c H2 locs2 (ce + 15) (sl + 215) (lw_Z below #[Value.ref b] s) (F0 m 1525 ls2 [])) : W p l e room_1 s m #[Value.ref b] below meth c H locs ce sl (lw_Z below #[Value.ref b] s) (F0 m 1377 ls []) := by
  obtain ⟨hx, hb, hr, hml, hown, hts, hX, hbl, hlocks, hgv⟩ := id C0
  have hT : ∀ w ∈ gT, w.before _ s = true := fun w h => hts w (gT_in w h)
  have hx0 : x.toInt = ((7 * j : Nat) : Int) := by rw [hxj]; exact nI_toInt (by omega)
  have hLX0 := hLX
  have hLM0 := hLM
  refine lv_aload_n hx hb dL_law_1377 rfl (lv_at hl 1 rfl) ?_
  refine lv_aload_n hx hb dL_law_1378 rfl (lv_at hl 0 rfl) ?_
  refine lv_iload_n hx hb dL_law_1379 rfl (lv_at hl 3 rfl) ?_
  refine lv_iconst (v := 1) hx hb dL_law_1380 (by decide) ?_
  refine lv_iadd hx hb dL_law_1381 ?_
  refine lv_topi (fun v_1 ev_1 => ?_)
  have hv_1 : v_1.toInt = x.toInt + 1 := by rw [ev_1]; have := b_rg x; exact i_add (a := x.toInt) (b := 1) rfl rfl (by omega) (by omega)
  refine va_sld hx hb hX hbl hbA hS (vp_inI (by omega) (by omega)) dL_law_1382 ?_
  refine lv_topi (fun v_2 ev_2 => ?_)
  obtain rfl : v_2 = xs (7 * j + 1) := ev_2.trans (congrArg xs (nI_ix hxj (by omega) (by omega)))
  have hRi := hLX.1.1
  have hRr := hLX.1.2
  refine vp_callSi (W.runV (As := [.int (xs (7 * j + 1))]) (rest := []) ⟨hx, hb, hml, hown, hT⟩ (c_X11_wrong l D cy a i r q (HL cy gb gi gr nh ++ (mW cy am im rm lm)) (xs (7 * j + 1)) hRi hRr) (cwV 1 hT (gV t_1106 t_1107 t_1108 t_1109 t_2) rfl rfl rfl (by decide +kernel) ⟨Nat.le_of_ble_eq_true rfl, Nat.le_of_ble_eq_true rfl⟩) (rP_v hP hK (va_recv hK hP (ci := 11) (q0 := 0) rfl rfl)) rfl rfl hl.1 rfl (lv_room (Nat.le_of_ble_eq_true rfl)) dL_law_1383 ⟨by show _ ≤ (600000 : Nat); omega, by show _ ≤ (7302250 : Nat); omega⟩) (fun r_3 hr_3 => ?_)
  have hCX := CX_rf (i := i) (r := r) (gi := gi) (gr := gr) (nh := nh)
  refine lv_pop hx hb dL_law_1386 rfl ?_
  refine lv_aload_n hx hb dL_law_1387 rfl (lv_at hl 2 rfl) ?_
  refine lv_aload_n hx hb dL_law_1388 rfl (lv_at hl 0 rfl) ?_
  refine lv_iload_n hx hb dL_law_1389 rfl (lv_at hl 3 rfl) ?_
  refine lv_iconst (v := 1) hx hb dL_law_1390 (by decide) ?_
  refine lv_iadd hx hb dL_law_1391 ?_
  refine lv_topi (fun v_4 ev_4 => ?_)
  have hv_4 : v_4.toInt = x.toInt + 1 := by rw [ev_4]; have := b_rg x; exact i_add (a := x.toInt) (b := 1) rfl rfl (by omega) (by omega)
  refine va_sld hx hb hX hbl hbA hS (vp_inI (by omega) (by omega)) dL_law_1392 ?_
  refine lv_topi (fun v_5 ev_5 => ?_)
  obtain rfl : v_5 = xs (7 * j + 1) := ev_5.trans (congrArg xs (nI_ix hxj (by omega) (by omega)))
  have hPa := hP
  have hDa := hD
  have hP := vaP_r (vaP_r hPa)
  have hD := vaD_r (vaD_r hDa)
  have hRi := hLM.1
  have hRr := hLM.2.1
  have hE := hLM.2.2
  have hF_6 := rF hD hS hA
  refine va_calli (va_runV (As := [.int (xs (7 * j + 1))]) (rest := []) ⟨hx, hb, hml, hown, hT⟩ (c_X12_wrong l D cy am im rm lm (xs (7 * j + 1)) _ hRi hRr) (cwV 1 hT (gV t_1110 t_1111 t_1112 t_1113 t_6) rfl rfl rfl (by decide +kernel) ⟨Nat.le_of_ble_eq_true rfl, Nat.le_of_ble_eq_true rfl⟩) (rQ_v hP hK hD (va_recv hK hP (ci := 12) (q0 := 0) rfl rfl)) rfl rfl hl.1 rfl (lv_room (Nat.le_of_ble_eq_true rfl)) dL_law_1393 ⟨by show _ ≤ (600000 : Nat); omega, by show _ ≤ (7302250 : Nat); omega⟩) hS (fun q _ h => hF_6 q h) hF_6 (fun r_7 u_8 t H1 locs ht hvm hr_7 hB hz1 hk1 hS => ?_)
  obtain ⟨r8, rfl⟩ : ∃ z, z = u_8 := ⟨_, rfl⟩
  obtain ⟨hP, hK1, hD1⟩ := hB
  rw [ht] at hP
  have hD := hD1.weaken (fun k q _ h => hF_6 q.1 h)
  have hP : va_P D vwCl (mW cy am im r8 lm) H1 := hP
  have hD : va_D A (mW cy am im r8 lm) := hD
  obtain ⟨hRr, hE2, hr_7⟩ := hr_7
  have hRr : mRr r8 := hRr
  obtain ⟨hP, hD⟩ := joinM hPa hDa hk1 hP rfl
  have hLM : LM im r8 := ⟨hRi, hRr, (mE_same (Ei_rf (T := [])) hE2 (by decide) (by decide) hE)⟩
  have hMI : mEi [] im im := Ei_rf
  have hMR : mEr [61, 62] rm r8 := hE2
  obtain ⟨hL1, hL2, hL3⟩ := id hLR
  obtain ⟨kH, kK, kN, kX, kY, _⟩ := id hL1
  have hLR : LR i r gi gr nh im r8 := ⟨LR1_same hL1 hMI hMR hCX (by decide) (by decide) (by decide) (by decide), LR2_same hL2 hMI hMR hCX (by decide) (by decide) (by decide) (by decide), LR3_same hL3 hMI hMR hCX (by decide) (by decide) (by decide) (by decide)⟩
  refine lv_pop hx hb dL_law_1396 rfl ?_
  refine lv_goto (tgt := 1525) hx hb dL_law_1397 (by decide) ?_
  refine W.widen (k := ce + 15) (n := sl + 215) (by omega) (by omega) ?_
  exact kk a _ _ _ _ _ _ _ _ _ _ _ _ _ rfl hLX hLM hLR hP hD hS (lv_sub hl [0, 1, 2, 3] rfl)
set_option maxHeartbeats 4000000 in
set_option maxRecDepth 100000 in
theorem lc_29 {p : Program} {l : Launch} {e : Env} {s : State} {m : MethodId} {below : List Frame} {meth : Method} {c : Code} {b L : Nat} {xs : Nat → Int32} (C0 : lw_At p s m meth c b L xs) {D : va_G} {cy : Nat → ClassId} {kq vq : Nat} {A : Nat → Prop} (hA : ∀ q, s.heap.size ≤ q → A q) (hbA : ¬ A b) (hK : va_K D vwCl (vT cy) s) (hn : nw s) (hm0 : nm s) (hsk : vk_R RX6 101 "krsoamngcv" kq s ∧ sA kq vq A s s.heap) {a : Nat → Nat} {i : Nat → Int32} {r : Nat → Nat → Int32} {q : Nat → Option Nat} {gb : Nat → Nat → Nat} {gi : Nat → Nat → Int32} {gr : Nat → Nat → Nat → Int32} {nh : Nat} {am : Nat → Nat} {im : Nat → Int32} {rm : Nat → Nat → Int32} {lm : Nat → Int64} (hLX : LX i r q gb gi gr nh) (hLM : LM im rm) (hLR : LR i r gi gr nh im rm) {H : Heap} {locs : List Loc} (hP : va_P D vwCl (xW cy a i r q (a 20) (a 12) ++ (HL cy gb gi gr nh ++ (mW cy am im rm lm))) H) (hD : va_D A (xW cy a i r q (a 20) (a 12) ++ (HL cy gb gi gr nh ++ (mW cy am im rm lm)))) (hS : va_S A s.heap H locs) {ls : Array Slot} {x : Int32} (hl : lv_has ls 4 [(0, .ref b), (1, .ref (a 0)), (2, .ref (am 0)), (3, .int x)]) {j : Nat} (hj : 7 * j + 7 ≤ L) (hL : L ≤ 3584) (hxj : x = nI (7 * j)) {ce sl : Nat} (hce : ce + 15 ≤ 600000) (hsl : sl + 215 ≤ 7302250) (kk : ∀ (a2 : Nat → Nat) (i2 : Nat → Int32) (r2 : Nat → Nat → Int32) (q2 : Nat → Option Nat) (gb2 : Nat → Nat → Nat) (gi2 : Nat → Nat → Int32) (gr2 : Nat → Nat → Nat → Int32) (nh2 : Nat) (im2 : Nat → Int32) (rm2 : Nat → Nat → Int32) (lm2 : Nat → Int64) (H2 : Heap) (locs2 : List Loc) (ls2 : Array Slot), a2 0 = a 0 → LX i2 r2 q2 gb2 gi2 gr2 nh2 → LM im2 rm2 → LR i2 r2 gi2 gr2 nh2 im2 rm2 → va_P D vwCl (xW cy a2 i2 r2 q2 (a2 20) (a2 12) ++ (HL cy gb2 gi2 gr2 nh2 ++ (mW cy am im2 rm2 lm2))) H2 → va_D A (xW cy a2 i2 r2 q2 (a2 20) (a2 12) ++ (HL cy gb2 gi2 gr2 nh2 ++ (mW cy am im2 rm2 lm2))) → va_S A s.heap H2 locs2 → lv_has ls2 4 [(0, .ref b), (1, .ref (a 0)), (2, .ref (am 0)), (3, .int x)] → W p l e room_1 s m #[Value.ref b] below meth c H2 locs2 (ce + 15) (sl + 215) (lw_Z below #[Value.ref b] s) (F0 m 1525 ls2 [])) : W p l e room_1 s m #[Value.ref b] below meth c H locs ce sl (lw_Z below #[Value.ref b] s) (F0 m 1433 ls []) := by
  obtain ⟨hx, hb, hr, hml, hown, hts, hX, hbl, hlocks, hgv⟩ := id C0
  have hT : ∀ w ∈ gT, w.before _ s = true := fun w h => hts w (gT_in w h)
  have hx0 : x.toInt = ((7 * j : Nat) : Int) := by rw [hxj]; exact nI_toInt (by omega)
  have hLX0 := hLX
  have hLM0 := hLM
  refine lv_aload_n hx hb dL_law_1433 rfl (lv_at hl 1 rfl) ?_
  have hRi := hLX.1.1
  have hRr := hLX.1.2
  have hF_1 := rF hD hS hA
  refine va_calli (va_runV (As := []) (rest := []) ⟨hx, hb, hml, hown, hT⟩ (c_X11_keep9 l D cy a i r q (HL cy gb gi gr nh ++ (mW cy am im rm lm)) _ hRi hRr) (cwV 0 hT (gV t_1114 t_1115 t_1116 t_1117 t_2) rfl rfl rfl (by decide +kernel) ⟨Nat.le_of_ble_eq_true rfl, Nat.le_of_ble_eq_true rfl⟩) (rQ_v hP hK hD (va_recv hK hP (ci := 11) (q0 := 0) rfl rfl)) rfl rfl hl.1 rfl (lv_room (Nat.le_of_ble_eq_true rfl)) dL_law_1434 ⟨by show _ ≤ (600000 : Nat); omega, by show _ ≤ (7302250 : Nat); omega⟩) hS (fun q _ h => hF_1 q h) hF_1 (fun r_2 u_3 t H1 locs ht hvm hr_2 hB hz1 hk1 hS => ?_)
  obtain ⟨i3, r3⟩ := u_3
  obtain ⟨hP, hK1, hD1⟩ := hB
  rw [ht] at hP
  have hD := hD1.weaken (fun k q _ h => hF_1 q.1 h)
  obtain ⟨hRi, hRr, hE1, hE2, hr_2⟩ := hr_2
  have hRi : yRi i3 := hRi
  have hE1 : mEi [1, 12, 13] i i3 := hE1
  have hRr : yRr r3 := hRr
  have hE2 : mEr [41, 42, 43, 44, 45, 46, 47, 48, 49, 50] r r3 := hE2
  have hP : va_P D vwCl (xW cy a i3 r3 q (a 20) (a 12) ++ (HL cy gb gi gr nh ++ (mW cy am im rm lm))) H1 := hP
  have hD : va_D A (xW cy a i3 r3 q (a 20) (a 12) ++ (HL cy gb gi gr nh ++ (mW cy am im rm lm))) := hD
  have hLX := LX_x hLX hRi hRr (hE1 0 (by decide))
  have hCX := CX_x (gi := gi) (gr := gr) (nh := nh) hE1 hE2
  refine lv_pop hx hb dL_law_1437 rfl ?_
  refine lv_aload_n hx hb dL_law_1438 rfl (lv_at hl 2 rfl) ?_
  have hPa := hP
  have hDa := hD
  have hP := vaP_r (vaP_r hPa)
  have hD := vaD_r (vaD_r hDa)
  have hRi := hLM.1
  have hRr := hLM.2.1
  have hE := hLM.2.2
  have hF_4 := rF hD hS hA
  refine va_calli (va_runV (As := []) (rest := []) ⟨hx, hb, hml, hown, hT⟩ (c_X12_keep9 l D cy am im rm lm _ hRi hRr hE) (cwV 0 hT (gV t_1118 t_1119 t_1120 t_1121 t_6) rfl rfl rfl (by decide +kernel) ⟨Nat.le_of_ble_eq_true rfl, Nat.le_of_ble_eq_true rfl⟩) (rQ_v hP hK hD (va_recv hK hP (ci := 12) (q0 := 0) rfl rfl)) rfl rfl hl.1 rfl (lv_room (Nat.le_of_ble_eq_true rfl)) dL_law_1439 ⟨by show _ ≤ (600000 : Nat); omega, by show _ ≤ (7302250 : Nat); omega⟩) hS (fun q _ h => hF_4 q h) hF_4 (fun r_5 u_6 t H1 locs ht hvm hr_5 hB hz1 hk1 hS => ?_)
  obtain ⟨i6, r6⟩ := u_6
  obtain ⟨hP, hK1, hD1⟩ := hB
  rw [ht] at hP
  have hD := hD1.weaken (fun k q _ h => hF_4 q.1 h)
  have hP : va_P D vwCl (mW cy am i6 r6 lm) H1 := hP
  have hD : va_D A (mW cy am i6 r6 lm) := hD
  obtain ⟨hRi, hRr, hE1, hE2, hr_5⟩ := hr_5
  have hRi : mRi i6 := hRi
  have hRr : mRr r6 := hRr
  obtain ⟨hP, hD⟩ := joinM hPa hDa hk1 hP rfl
  obtain ⟨hmE, hr_5⟩ := hr_5
  have hLM : LM i6 r6 := ⟨hRi, hRr, hmE⟩
  have hMI : mEi [78, 79, 80] im i6 := hE1
  have hMR : mEr [63, 64, 65, 66, 67, 68, 69, 70, 71, 72] rm r6 := hE2
  obtain ⟨hL1, hL2, hL3⟩ := id hLR
  obtain ⟨kH, kK, kN, kX, kY, _⟩ := id hL1
  have hmr : r_5 = im 51 ∧ i6 78 = 1 ∧ i6 79 = im 51 ∧ i6 80 = im 1 ∧ (∀ c, c < 30 → r6 63 c = rm 40 c) ∧ (∀ c, c < 30 → r6 64 c = rm 41 c) ∧ (∀ c, c < 30 → r6 65 c = rm 42 c) ∧ (∀ c, c < 30 → r6 66 c = rm 43 c) ∧ (∀ c, c < 30 → r6 67 c = rm 44 c) ∧ (∀ c, c < 30 → r6 68 c = rm 45 c) ∧ (∀ c, c < 30 → r6 69 c = rm 46 c) ∧ (∀ c, c < 6 → r6 70 c = rm 50 c) ∧ (∀ c, c < 6 → r6 71 c = rm 51 c) := hr_5
  have hxr : r_2 = i 10 ∧ i3 1 = 1 ∧ i3 12 = i 10 ∧ i3 13 = i 11 ∧ CP (i 10).toInt (r3 41) (r 30) ∧ CP (i 10).toInt (r3 42) (r 31) ∧ CP (i 10).toInt (r3 43) (r 32) ∧ CP (i 10).toInt (r3 44) (r 33) ∧ CP (i 10).toInt (r3 45) (r 34) ∧ CP (i 10).toInt (r3 46) (r 35) ∧ CP (i 10).toInt (r3 47) (r 36) ∧ CP 6 (r3 49) (r 38) ∧ CP 6 (r3 50) (r 39) := hr_2
  obtain ⟨m1, m2, m3, m4, n0, n1, n2, n3, n4, n5, n6, n7, n8⟩ := hmr
  obtain ⟨x1, x2, x3, x4, y0, y1, y2, y3, y4, y5, y6, y7, y8⟩ := hxr
  have h30 : (im 51).toInt ≤ 30 := (hLM0.1 51).2
  have hLR : LR i3 r3 gi gr nh i6 r6 := ⟨⟨RI1_same kH hMI (by decide) hCX (by decide) (by decide), (m2.trans x2.symm : i6 78 = i3 1), RHR_same kN hMR (by decide) hCX (by decide) (by decide), RI1_same kX hMI (by decide) hCX (by decide) (by decide), (fun _ => m4.trans ((kX : im 1 = i 11).trans x4.symm)), trivial⟩, LR2_same hL2 hMI hMR hCX (by decide) (by decide) (by decide) (by decide), LR3_same hL3 hMI hMR hCX (by decide) (by decide) (by decide) (by decide)⟩
  refine lv_pop hx hb dL_law_1442 rfl ?_
  refine lv_goto (tgt := 1525) hx hb dL_law_1443 (by decide) ?_
  refine W.widen (k := ce + 15) (n := sl + 215) (by omega) (by omega) ?_
  exact kk a _ _ _ _ _ _ _ _ _ _ _ _ _ rfl hLX hLM hLR hP hD hS (lv_sub hl [0, 1, 2, 3] rfl)
set_option maxHeartbeats 4000000 in
set_option maxRecDepth 100000 in
theorem lc_30 {p : Program} {l : Launch} {e : Env} {s : State} {m : MethodId} {below : List Frame} {meth : Method} {c : Code} {b L : Nat} {xs : Nat → Int32} (C0 : lw_At p s m meth c b L xs) {D : va_G} {cy : Nat → ClassId} {kq vq : Nat} {A : Nat → Prop} (hA : ∀ q, s.heap.size ≤ q → A q) (hbA : ¬ A b) (hK : va_K D vwCl (vT cy) s) (hn : nw s) (hm0 : nm s) (hsk : vk_R RX6 101 "krsoamngcv" kq s ∧ sA kq vq A s s.heap) {a : Nat → Nat} {i : Nat → Int32} {r : Nat → Nat → Int32} {q : Nat → Option Nat} {gb : Nat → Nat → Nat} {gi : Nat → Nat → Int32} {gr : Nat → Nat → Nat → Int32} {nh : Nat} {am : Nat → Nat} {im : Nat → Int32} {rm : Nat → Nat → Int32} {lm : Nat → Int64} (hLX : LX i r q gb gi gr nh) (hLM : LM im rm) (hLR : LR i r gi gr nh im rm) {H : Heap} {locs : List Loc} (hP : va_P D vwCl (xW cy a i r q (a 20) (a 12) ++ (HL cy gb gi gr nh ++ (mW cy am im rm lm))) H) (hD : va_D A (xW cy a i r q (a 20) (a 12) ++ (HL cy gb gi gr nh ++ (mW cy am im rm lm)))) (hS : va_S A s.heap H locs) {ls : Array Slot} {x : Int32} (hl : lv_has ls 4 [(0, .ref b), (1, .ref (a 0)), (2, .ref (am 0)), (3, .int x)]) {j : Nat} (hj : 7 * j + 7 ≤ L) (hL : L ≤ 3584) (hxj : x = nI (7 * j)) {ce sl : Nat} (hce : ce + 15 ≤ 600000) (hsl : sl + 215 ≤ 7302250) (kk : ∀ (a2 : Nat → Nat) (i2 : Nat → Int32) (r2 : Nat → Nat → Int32) (q2 : Nat → Option Nat) (gb2 : Nat → Nat → Nat) (gi2 : Nat → Nat → Int32) (gr2 : Nat → Nat → Nat → Int32) (nh2 : Nat) (im2 : Nat → Int32) (rm2 : Nat → Nat → Int32) (lm2 : Nat → Int64) (H2 : Heap) (locs2 : List Loc) (ls2 : Array Slot), a2 0 = a 0 → LX i2 r2 q2 gb2 gi2 gr2 nh2 → LM im2 rm2 → LR i2 r2 gi2 gr2 nh2 im2 rm2 → va_P D vwCl (xW cy a2 i2 r2 q2 (a2 20) (a2 12) ++ (HL cy gb2 gi2 gr2 nh2 ++ (mW cy am im2 rm2 lm2))) H2 → va_D A (xW cy a2 i2 r2 q2 (a2 20) (a2 12) ++ (HL cy gb2 gi2 gr2 nh2 ++ (mW cy am im2 rm2 lm2))) → va_S A s.heap H2 locs2 → lv_has ls2 4 [(0, .ref b), (1, .ref (a 0)), (2, .ref (am 0)), (3, .int x)] → W p l e room_1 s m #[Value.ref b] below meth c H2 locs2 (ce + 15) (sl + 215) (lw_Z below #[Value.ref b] s) (F0 m 1525 ls2 [])) : W p l e room_1 s m #[Value.ref b] below meth c H locs ce sl (lw_Z below #[Value.ref b] s) (F0 m 1446 ls []) := by
  obtain ⟨hx, hb, hr, hml, hown, hts, hX, hbl, hlocks, hgv⟩ := id C0
  have hT : ∀ w ∈ gT, w.before _ s = true := fun w h => hts w (gT_in w h)
  have hx0 : x.toInt = ((7 * j : Nat) : Int) := by rw [hxj]; exact nI_toInt (by omega)
  have hLX0 := hLX
  have hLM0 := hLM
  refine lv_aload_n hx hb dL_law_1446 rfl (lv_at hl 1 rfl) ?_
  have hRi := hLX.1.1
  have hRr := hLX.1.2
  have hF_1 := rF hD hS hA
  refine va_calli (va_runV (As := []) (rest := []) ⟨hx, hb, hml, hown, hT⟩ (c_X11_undo9 l D cy a i r q (HL cy gb gi gr nh ++ (mW cy am im rm lm)) _ hRi hRr) (cwV 0 hT (gV t_1122 t_1123 t_1124 t_1125 t_2) rfl rfl rfl (by decide +kernel) ⟨Nat.le_of_ble_eq_true rfl, Nat.le_of_ble_eq_true rfl⟩) (rQ_v hP hK hD (va_recv hK hP (ci := 11) (q0 := 0) rfl rfl)) rfl rfl hl.1 rfl (lv_room (Nat.le_of_ble_eq_true rfl)) dL_law_1447 ⟨by show _ ≤ (600000 : Nat); omega, by show _ ≤ (7302250 : Nat); omega⟩) hS (fun q _ h => hF_1 q h) hF_1 (fun r_2 u_3 t H1 locs ht hvm hr_2 hB hz1 hk1 hS => ?_)
  obtain ⟨i3, r3⟩ := u_3
  obtain ⟨hP, hK1, hD1⟩ := hB
  rw [ht] at hP
  have hD := hD1.weaken (fun k q _ h => hF_1 q.1 h)
  obtain ⟨hRi, hRr, hE1, hE2, hr_2⟩ := hr_2
  have hRi : yRi i3 := hRi
  have hE1 : mEi [10, 11] i i3 := hE1
  have hRr : yRr r3 := hRr
  have hE2 : mEr [30, 31, 32, 33, 34, 35, 36, 37, 38, 39] r r3 := hE2
  have hP : va_P D vwCl (xW cy a i3 r3 q (a 20) (a 12) ++ (HL cy gb gi gr nh ++ (mW cy am im rm lm))) H1 := hP
  have hD : va_D A (xW cy a i3 r3 q (a 20) (a 12) ++ (HL cy gb gi gr nh ++ (mW cy am im rm lm))) := hD
  have hLX := LX_x hLX hRi hRr (hE1 0 (by decide))
  have hCX := CX_x (gi := gi) (gr := gr) (nh := nh) hE1 hE2
  refine lv_pop hx hb dL_law_1450 rfl ?_
  refine lv_aload_n hx hb dL_law_1451 rfl (lv_at hl 2 rfl) ?_
  have hPa := hP
  have hDa := hD
  have hP := vaP_r (vaP_r hPa)
  have hD := vaD_r (vaD_r hDa)
  have hRi := hLM.1
  have hRr := hLM.2.1
  have hE := hLM.2.2
  have hF_4 := rF hD hS hA
  refine va_calli (va_runV (As := []) (rest := []) ⟨hx, hb, hml, hown, hT⟩ (c_X12_undo9 l D cy am im rm lm _ hRi hRr hE) (cwV 0 hT (gV t_1126 t_1127 t_1128 t_1129 t_6) rfl rfl rfl (by decide +kernel) ⟨Nat.le_of_ble_eq_true rfl, Nat.le_of_ble_eq_true rfl⟩) (rQ_v hP hK hD (va_recv hK hP (ci := 12) (q0 := 0) rfl rfl)) rfl rfl hl.1 rfl (lv_room (Nat.le_of_ble_eq_true rfl)) dL_law_1452 ⟨by show _ ≤ (600000 : Nat); omega, by show _ ≤ (7302250 : Nat); omega⟩) hS (fun q _ h => hF_4 q h) hF_4 (fun r_5 u_6 t H1 locs ht hvm hr_5 hB hz1 hk1 hS => ?_)
  obtain ⟨i6, r6⟩ := u_6
  obtain ⟨hP, hK1, hD1⟩ := hB
  rw [ht] at hP
  have hD := hD1.weaken (fun k q _ h => hF_4 q.1 h)
  have hP : va_P D vwCl (mW cy am i6 r6 lm) H1 := hP
  have hD : va_D A (mW cy am i6 r6 lm) := hD
  obtain ⟨hRi, hRr, hE1, hE2, hr_5⟩ := hr_5
  have hRi : mRi i6 := hRi
  have hRr : mRr r6 := hRr
  obtain ⟨hP, hD⟩ := joinM hPa hDa hk1 hP rfl
  obtain ⟨hmE, hr_5⟩ := hr_5
  have hLM : LM i6 r6 := ⟨hRi, hRr, hmE⟩
  have hMI : mEi [1, 51] im i6 := hE1
  have hMR : mEr [40, 41, 42, 43, 44, 45, 46, 47, 50, 51] rm r6 := hE2
  obtain ⟨hL1, hL2, hL3⟩ := id hLR
  obtain ⟨kH, kK, kN, kX, kY, _⟩ := id hL1
  have hmr : BR r_5 ((im 78).toInt ≠ 0) 1 0 ∧ ((im 78).toInt ≠ 0 → i6 51 = im 79 ∧ i6 1 = im 80 ∧ (∀ c, c < 30 → r6 40 c = rm 63 c) ∧ (∀ c, c < 30 → r6 41 c = rm 64 c) ∧ (∀ c, c < 30 → r6 42 c = rm 65 c) ∧ (∀ c, c < 30 → r6 43 c = rm 66 c) ∧ (∀ c, c < 30 → r6 44 c = rm 67 c) ∧ (∀ c, c < 30 → r6 45 c = rm 68 c) ∧ (∀ c, c < 30 → r6 46 c = rm 69 c) ∧ (∀ c, c < 6 → r6 50 c = rm 70 c) ∧ (∀ c, c < 6 → r6 51 c = rm 71 c)) ∧ (¬ (im 78).toInt ≠ 0 → mEi [] im i6 ∧ mEr [] rm r6) := hr_5
  have hxr : BR r_2 ((i 1).toInt ≠ 0) 1 0 ∧ ((i 1).toInt ≠ 0 → i3 10 = i 12 ∧ i3 11 = i 13 ∧ CP (i 12).toInt (r3 30) (r 41) ∧ CP (i 12).toInt (r3 31) (r 42) ∧ CP (i 12).toInt (r3 32) (r 43) ∧ CP (i 12).toInt (r3 33) (r 44) ∧ CP (i 12).toInt (r3 34) (r 45) ∧ CP (i 12).toInt (r3 35) (r 46) ∧ CP (i 12).toInt (r3 36) (r 47) ∧ CP 6 (r3 38) (r 49) ∧ CP 6 (r3 39) (r 50)) ∧ (¬ (i 1).toInt ≠ 0 → mEi [] i i3 ∧ mEr [] r r3) := hr_2
  have e9 : im 78 = i 1 := kK
  rw [e9] at hmr
  have hEQ : r_2 = r_5 := BR_eq hxr.1 hmr.1
  have h30 : (im 79).toInt ≤ 30 := (hLM0.1 79).2
  by_cases hC : (i 1).toInt ≠ 0
  · obtain ⟨x3, x4, y0, y1, y2, y3, y4, y5, y6, y7, y8⟩ := hxr.2.1 hC
    obtain ⟨m3, m4, n0, n1, n2, n3, n4, n5, n6, n7, n8⟩ := hmr.2.1 hC
    have hLR : LR i3 r3 gi gr nh i6 r6 := ⟨⟨RI1_same kH hMI (by decide) hCX (by decide) (by decide), RI1_same kK hMI (by decide) hCX (by decide) (by decide), RHR_same kN hMR (by decide) hCX (by decide) (by decide), (m4.trans ((kY hC).trans x4.symm) : i6 1 = i3 11), RIK_same kY hMI (by decide) hCX (by decide) (by decide), trivial⟩, LR2_same hL2 hMI hMR hCX (by decide) (by decide) (by decide) (by decide), LR3_same hL3 hMI hMR hCX (by decide) (by decide) (by decide) (by decide)⟩
    refine lv_pop hx hb dL_law_1455 rfl ?_
    refine lv_goto (tgt := 1525) hx hb dL_law_1456 (by decide) ?_
    refine W.widen (k := ce + 15) (n := sl + 215) (by omega) (by omega) ?_
    exact kk a _ _ _ _ _ _ _ _ _ _ _ _ _ rfl hLX hLM hLR hP hD hS (lv_sub hl [0, 1, 2, 3] rfl)
  · obtain ⟨a1, a2⟩ := hxr.2.2 hC
    obtain ⟨b1, b2⟩ := hmr.2.2 hC
    have hCX := CX_x (gi := gi) (gr := gr) (nh := nh) a1 a2
    have hLR : LR i3 r3 gi gr nh i6 r6 := ⟨LR1_same hL1 b1 b2 hCX (by decide) (by decide) (by decide) (by decide), LR2_same hL2 b1 b2 hCX (by decide) (by decide) (by decide) (by decide), LR3_same hL3 b1 b2 hCX (by decide) (by decide) (by decide) (by decide)⟩
    refine lv_pop hx hb dL_law_1455 rfl ?_
    refine lv_goto (tgt := 1525) hx hb dL_law_1456 (by decide) ?_
    refine W.widen (k := ce + 15) (n := sl + 215) (by omega) (by omega) ?_
    exact kk a _ _ _ _ _ _ _ _ _ _ _ _ _ rfl hLX hLM hLR hP hD hS (lv_sub hl [0, 1, 2, 3] rfl)
set_option maxHeartbeats 4000000 in
set_option maxRecDepth 100000 in
theorem lc_31 {p : Program} {l : Launch} {e : Env} {s : State} {m : MethodId} {below : List Frame} {meth : Method} {c : Code} {b L : Nat} {xs : Nat → Int32} (C0 : lw_At p s m meth c b L xs) {D : va_G} {cy : Nat → ClassId} {kq vq : Nat} {A : Nat → Prop} (hA : ∀ q, s.heap.size ≤ q → A q) (hbA : ¬ A b) (hK : va_K D vwCl (vT cy) s) (hn : nw s) (hm0 : nm s) (hsk : vk_R RX6 101 "krsoamngcv" kq s ∧ sA kq vq A s s.heap) {a : Nat → Nat} {i : Nat → Int32} {r : Nat → Nat → Int32} {q : Nat → Option Nat} {gb : Nat → Nat → Nat} {gi : Nat → Nat → Int32} {gr : Nat → Nat → Nat → Int32} {nh : Nat} {am : Nat → Nat} {im : Nat → Int32} {rm : Nat → Nat → Int32} {lm : Nat → Int64} (hLX : LX i r q gb gi gr nh) (hLM : LM im rm) (hLR : LR i r gi gr nh im rm) {H : Heap} {locs : List Loc} (hP : va_P D vwCl (xW cy a i r q (a 20) (a 12) ++ (HL cy gb gi gr nh ++ (mW cy am im rm lm))) H) (hD : va_D A (xW cy a i r q (a 20) (a 12) ++ (HL cy gb gi gr nh ++ (mW cy am im rm lm)))) (hS : va_S A s.heap H locs) {ls : Array Slot} {x : Int32} (hl : lv_has ls 4 [(0, .ref b), (1, .ref (a 0)), (2, .ref (am 0)), (3, .int x)]) {j : Nat} (hj : 7 * j + 7 ≤ L) (hL : L ≤ 3584) (hxj : x = nI (7 * j)) {ce sl : Nat} (hce : ce + 15 ≤ 600000) (hsl : sl + 215 ≤ 7302250) (kk : ∀ (a2 : Nat → Nat) (i2 : Nat → Int32) (r2 : Nat → Nat → Int32) (q2 : Nat → Option Nat) (gb2 : Nat → Nat → Nat) (gi2 : Nat → Nat → Int32) (gr2 : Nat → Nat → Nat → Int32) (nh2 : Nat) (im2 : Nat → Int32) (rm2 : Nat → Nat → Int32) (lm2 : Nat → Int64) (H2 : Heap) (locs2 : List Loc) (ls2 : Array Slot), a2 0 = a 0 → LX i2 r2 q2 gb2 gi2 gr2 nh2 → LM im2 rm2 → LR i2 r2 gi2 gr2 nh2 im2 rm2 → va_P D vwCl (xW cy a2 i2 r2 q2 (a2 20) (a2 12) ++ (HL cy gb2 gi2 gr2 nh2 ++ (mW cy am im2 rm2 lm2))) H2 → va_D A (xW cy a2 i2 r2 q2 (a2 20) (a2 12) ++ (HL cy gb2 gi2 gr2 nh2 ++ (mW cy am im2 rm2 lm2))) → va_S A s.heap H2 locs2 → lv_has ls2 4 [(0, .ref b), (1, .ref (a 0)), (2, .ref (am 0)), (3, .int x)] → W p l e room_1 s m #[Value.ref b] below meth c H2 locs2 (ce + 15) (sl + 215) (lw_Z below #[Value.ref b] s) (F0 m 1525 ls2 [])) : W p l e room_1 s m #[Value.ref b] below meth c H locs ce sl (lw_Z below #[Value.ref b] s) (F0 m 1459 ls []) := by
  obtain ⟨hx, hb, hr, hml, hown, hts, hX, hbl, hlocks, hgv⟩ := id C0
  have hT : ∀ w ∈ gT, w.before _ s = true := fun w h => hts w (gT_in w h)
  have hx0 : x.toInt = ((7 * j : Nat) : Int) := by rw [hxj]; exact nI_toInt (by omega)
  have hLX0 := hLX
  have hLM0 := hLM
  refine lv_aload_n hx hb dL_law_1459 rfl (lv_at hl 1 rfl) ?_
  refine lv_aload_n hx hb dL_law_1460 rfl (lv_at hl 0 rfl) ?_
  refine lv_iload_n hx hb dL_law_1461 rfl (lv_at hl 3 rfl) ?_
  refine lv_iconst (v := 1) hx hb dL_law_1462 (by decide) ?_
  refine lv_iadd hx hb dL_law_1463 ?_
  refine lv_topi (fun v_1 ev_1 => ?_)
  have hv_1 : v_1.toInt = x.toInt + 1 := by rw [ev_1]; have := b_rg x; exact i_add (a := x.toInt) (b := 1) rfl rfl (by omega) (by omega)
  refine va_sld hx hb hX hbl hbA hS (vp_inI (by omega) (by omega)) dL_law_1464 ?_
  refine lv_topi (fun v_2 ev_2 => ?_)
  obtain rfl : v_2 = xs (7 * j + 1) := ev_2.trans (congrArg xs (nI_ix hxj (by omega) (by omega)))
  refine lv_aload_n hx hb dL_law_1465 rfl (lv_at hl 0 rfl) ?_
  refine lv_iload_n hx hb dL_law_1466 rfl (lv_at hl 3 rfl) ?_
  refine lv_iconst (v := 2) hx hb dL_law_1467 (by decide) ?_
  refine lv_iadd hx hb dL_law_1468 ?_
  refine lv_topi (fun v_3 ev_3 => ?_)
  have hv_3 : v_3.toInt = x.toInt + 2 := by rw [ev_3]; have := b_rg x; exact i_add (a := x.toInt) (b := 2) rfl rfl (by omega) (by omega)
  refine va_sld hx hb hX hbl hbA hS (vp_inI (by omega) (by omega)) dL_law_1469 ?_
  refine lv_topi (fun v_4 ev_4 => ?_)
  obtain rfl : v_4 = xs (7 * j + 2) := ev_4.trans (congrArg xs (nI_ix hxj (by omega) (by omega)))
  refine lv_aload_n hx hb dL_law_1470 rfl (lv_at hl 0 rfl) ?_
  refine lv_iload_n hx hb dL_law_1471 rfl (lv_at hl 3 rfl) ?_
  refine lv_iconst (v := 3) hx hb dL_law_1472 (by decide) ?_
  refine lv_iadd hx hb dL_law_1473 ?_
  refine lv_topi (fun v_5 ev_5 => ?_)
  have hv_5 : v_5.toInt = x.toInt + 3 := by rw [ev_5]; have := b_rg x; exact i_add (a := x.toInt) (b := 3) rfl rfl (by omega) (by omega)
  refine va_sld hx hb hX hbl hbA hS (vp_inI (by omega) (by omega)) dL_law_1474 ?_
  refine lv_topi (fun v_6 ev_6 => ?_)
  obtain rfl : v_6 = xs (7 * j + 3) := ev_6.trans (congrArg xs (nI_ix hxj (by omega) (by omega)))
  have kx : ∀ (z9 : Int32) (i9 : Nat → Int32) (r9 : Nat → Nat → Int32) (gi9 : Nat → Nat → Int32) (gr9 : Nat → Nat → Nat → Int32) (H9 : Heap) (locs9 : List Loc), LX i9 r9 q gb gi9 gr9 nh → CX [2] [27, 28, 52, 53] nh i r gi gr i9 r9 gi9 gr9 → va_P D vwCl (xW cy a i9 r9 q (a 20) (a 12) ++ (HL cy gb gi9 gr9 nh ++ (mW cy am im rm lm))) H9 → va_D A (xW cy a i9 r9 q (a 20) (a 12) ++ (HL cy gb gi9 gr9 nh ++ (mW cy am im rm lm))) → va_S A s.heap H9 locs9 → W p l e room_1 s m #[Value.ref b] below meth c H9 locs9 ce sl (lw_Z below #[Value.ref b] s) (F0 m 1478 ls [.int z9]) := by
    intro z9 i9 r9 gi9 gr9 H locs hLX hCX hP hD hS
    refine lv_pop hx hb dL_law_1478 rfl ?_
    refine lv_aload_n hx hb dL_law_1479 rfl (lv_at hl 2 rfl) ?_
    refine lv_aload_n hx hb dL_law_1480 rfl (lv_at hl 0 rfl) ?_
    refine lv_iload_n hx hb dL_law_1481 rfl (lv_at hl 3 rfl) ?_
    refine lv_iconst (v := 1) hx hb dL_law_1482 (by decide) ?_
    refine lv_iadd hx hb dL_law_1483 ?_
    refine lv_topi (fun v_7 ev_7 => ?_)
    have hv_7 : v_7.toInt = x.toInt + 1 := by rw [ev_7]; have := b_rg x; exact i_add (a := x.toInt) (b := 1) rfl rfl (by omega) (by omega)
    refine va_sld hx hb hX hbl hbA hS (vp_inI (by omega) (by omega)) dL_law_1484 ?_
    refine lv_topi (fun v_8 ev_8 => ?_)
    obtain rfl : v_8 = xs (7 * j + 1) := ev_8.trans (congrArg xs (nI_ix hxj (by omega) (by omega)))
    refine lv_aload_n hx hb dL_law_1485 rfl (lv_at hl 0 rfl) ?_
    refine lv_iload_n hx hb dL_law_1486 rfl (lv_at hl 3 rfl) ?_
    refine lv_iconst (v := 2) hx hb dL_law_1487 (by decide) ?_
    refine lv_iadd hx hb dL_law_1488 ?_
    refine lv_topi (fun v_9 ev_9 => ?_)
    have hv_9 : v_9.toInt = x.toInt + 2 := by rw [ev_9]; have := b_rg x; exact i_add (a := x.toInt) (b := 2) rfl rfl (by omega) (by omega)
    refine va_sld hx hb hX hbl hbA hS (vp_inI (by omega) (by omega)) dL_law_1489 ?_
    refine lv_topi (fun v_10 ev_10 => ?_)
    obtain rfl : v_10 = xs (7 * j + 2) := ev_10.trans (congrArg xs (nI_ix hxj (by omega) (by omega)))
    refine lv_aload_n hx hb dL_law_1490 rfl (lv_at hl 0 rfl) ?_
    refine lv_iload_n hx hb dL_law_1491 rfl (lv_at hl 3 rfl) ?_
    refine lv_iconst (v := 3) hx hb dL_law_1492 (by decide) ?_
    refine lv_iadd hx hb dL_law_1493 ?_
    refine lv_topi (fun v_11 ev_11 => ?_)
    have hv_11 : v_11.toInt = x.toInt + 3 := by rw [ev_11]; have := b_rg x; exact i_add (a := x.toInt) (b := 3) rfl rfl (by omega) (by omega)
    refine va_sld hx hb hX hbl hbA hS (vp_inI (by omega) (by omega)) dL_law_1494 ?_
    refine lv_topi (fun v_12 ev_12 => ?_)
    obtain rfl : v_12 = xs (7 * j + 3) := ev_12.trans (congrArg xs (nI_ix hxj (by omega) (by omega)))
    have hPa := hP
    have hDa := hD
    have hP := vaP_r (vaP_r hPa)
    have hD := vaD_r (vaD_r hDa)
    have hRi := hLM.1
    have hRr := hLM.2.1
    have hE := hLM.2.2
    have hF_13 := rF hD hS hA
    refine va_calli (va_runV (As := [.int (xs (7 * j + 1)), .int (xs (7 * j + 2)), .int (xs (7 * j + 3))]) (rest := []) ⟨hx, hb, hml, hown, hT⟩ (c_X12_check l D cy am im rm lm (xs (7 * j + 1)) (xs (7 * j + 2)) (xs (7 * j + 3)) _ hRi hRr hE) (cwV 3 hT (gV t_1130 t_1131 t_1132 t_1133 t_6) rfl rfl rfl (by decide +kernel) ⟨Nat.le_of_ble_eq_true rfl, Nat.le_of_ble_eq_true rfl⟩) (rQ_v hP hK hD (va_recv hK hP (ci := 12) (q0 := 0) rfl rfl)) rfl rfl hl.1 rfl (lv_room (Nat.le_of_ble_eq_true rfl)) dL_law_1495 ⟨by show _ ≤ (600000 : Nat); omega, by show _ ≤ (7302250 : Nat); omega⟩) hS (fun q _ h => hF_13 q h) hF_13 (fun r_14 u_15 t H1 locs ht hvm hr_14 hB hz1 hk1 hS => ?_)
    obtain ⟨i15, r15, l15⟩ := u_15
    obtain ⟨hP, hK1, hD1⟩ := hB
    rw [ht] at hP
    have hD := hD1.weaken (fun k q _ h => hF_13 q.1 h)
    have hP : va_P D vwCl (mW cy am i15 r15 l15) H1 := hP
    have hD : va_D A (mW cy am i15 r15 l15) := hD
    obtain ⟨hRi, hRr, hE1, hE2, hr_14⟩ := hr_14
    have hRi : mRi i15 := hRi
    have hRr : mRr r15 := hRr
    obtain ⟨hP, hD⟩ := joinM hPa hDa hk1 hP rfl
    have hLM : LM i15 r15 := ⟨hRi, hRr, (mE_same hE1 hE2 (by decide) (by decide) hE)⟩
    have hMI : mEi [22, 23, 24, 25, 26, 27, 28, 29, 30, 60] im i15 := hE1
    have hMR : mEr [32, 33, 34, 35, 36, 37, 38, 39, 49] rm r15 := hE2
    obtain ⟨hL1, hL2, hL3⟩ := id hLR
    obtain ⟨kH, kK, kN, kX, kY, _⟩ := id hL1
    have hLR : LR i9 r9 gi9 gr9 nh i15 r15 := ⟨LR1_same hL1 hMI hMR hCX (by decide) (by decide) (by decide) (by decide), LR2_same hL2 hMI hMR hCX (by decide) (by decide) (by decide) (by decide), LR3_same hL3 hMI hMR hCX (by decide) (by decide) (by decide) (by decide)⟩
    refine lv_pop hx hb dL_law_1498 rfl ?_
    refine lv_goto (tgt := 1525) hx hb dL_law_1499 (by decide) ?_
    refine W.widen (k := ce + 15) (n := sl + 215) (by omega) (by omega) ?_
    exact kk a _ _ _ _ _ _ _ _ _ _ _ _ _ rfl hLX hLM hLR hP hD hS (lv_sub hl [0, 1, 2, 3] rfl)
  by_cases hv : 0 ≤ (xs (7 * j + 1)).toInt ∧ (xs (7 * j + 1)).toInt < (i 0).toInt
  · have hlt : (xs (7 * j + 1)).toNatClampNeg < nh := by have h9 : (xs (7 * j + 1)).toNatClampNeg = (xs (7 * j + 1)).toInt.toNat := rfl; have h8 := hLX.2.1; omega
    have hP0 := hP
    have hD0 := hD
    have hn6 : nh ≤ 6 := by have h8 := hLX.2.1; have h7 : (i 0).toInt ≤ 6 := (hLX.1.1 0).2; omega
    have hz := zoom (cy := cy) (a := a) (i := i) (r := r) (q := q) (hb := gb) (hi := gi) (hr := gr) (tl := (mW cy am im rm lm)) hlt
    have hP := vaP_perm hz hP
    have hD := vaD_perm hz hD
    have hRi := mix_Ri hLX.1.1 (hLX.2.2 _ hlt).2.1
    have hRr := mix_Rr hLX.1.2 (hLX.2.2 _ hlt).2.2
    obtain ⟨A2, hA2⟩ : ∃ z, z = mixA a (gb ((xs (7 * j + 1)).toNatClampNeg)) := ⟨_, rfl⟩
    obtain ⟨I2, hI2⟩ : ∃ z, z = mixI i (gi ((xs (7 * j + 1)).toNatClampNeg)) := ⟨_, rfl⟩
    obtain ⟨R2, hR2⟩ : ∃ z, z = mixR r (gr ((xs (7 * j + 1)).toNatClampNeg)) := ⟨_, rfl⟩
    rw [← hA2, ← hI2, ← hR2] at hP hD
    rw [← hI2] at hRi
    rw [← hR2] at hRr
    have h0 : I2 0 = i 0 := by rw [hI2]; rfl
    have h61 : A2 61 = gb ((xs (7 * j + 1)).toNatClampNeg) 61 := by rw [hA2]; rfl
    have ha0 : A2 0 = a 0 := by rw [hA2]; rfl
    rw [← ha0]
    have hnw := hm0
    have hF_16 := rF hD hS hA
    refine va_calli (va_runV (As := [.int (xs (7 * j + 1)), .int (xs (7 * j + 2)), .int (xs (7 * j + 3))]) (rest := []) ⟨hx, hb, hml, hown, hT⟩ (c_X11_check.y l D cy A2 I2 R2 q (HX cy gb gi gr ((xs (7 * j + 1)).toNatClampNeg) nh ++ (mW cy am im rm lm)) (xs (7 * j + 1)) (xs (7 * j + 2)) (xs (7 * j + 3)) _ hRi hRr (by rw [h0]; exact hv) (by rw [h61]; exact (hLX.2.2 _ hlt).1)) (cwV 3 hT (gV t_1134 t_1135 t_1136 t_1137 t_2) rfl rfl rfl (by decide +kernel) ⟨Nat.le_of_ble_eq_true rfl, Nat.le_of_ble_eq_true rfl⟩) (rM_v hnw hP hK hD (va_recv hK hP (ci := 11) (q0 := 0) rfl rfl)) rfl rfl hl.1 rfl (lv_room (Nat.le_of_ble_eq_true rfl)) dL_law_1475 ⟨by show _ ≤ (600000 : Nat); omega, by show _ ≤ (7302250 : Nat); omega⟩) hS (fun q _ h => hF_16 q h) hF_16 (fun r_17 u_18 t H1 locs ht hvm hr_17 hB hz1 hk1 hS => ?_)
    obtain ⟨i18, r18⟩ := u_18
    obtain ⟨hP, hK1, hD1⟩ := hB
    rw [ht] at hP
    have hD := hD1.weaken (fun k q _ h => hF_16 q.1 h)
    obtain ⟨hRi, hRr, hE1, hE2, hr_17⟩ := hr_17
    have hRi : yRi i18 := hRi
    have hE1 : mEi [2] I2 i18 := hE1
    have hRr : yRr r18 := hRr
    have hE2 : mEr [27, 28, 52, 53] R2 r18 := hE2
    have hP : va_P D vwCl (xW cy A2 i18 r18 q (A2 20) (A2 12) ++ (hW cy A2 i18 r18 ++ (HX cy gb gi gr ((xs (7 * j + 1)).toNatClampNeg) nh ++ (mW cy am im rm lm)))) H1 := hP
    have hD : va_D A (xW cy A2 i18 r18 q (A2 20) (A2 12) ++ (hW cy A2 i18 r18 ++ (HX cy gb gi gr ((xs (7 * j + 1)).toNatClampNeg) nh ++ (mW cy am im rm lm)))) := hD
    rw [hA2] at hP hD
    have hP := vaP_perm (unzoom (i := I2) (r := R2) hlt) hP
    have hD := vaD_perm (unzoom (i := I2) (r := R2) hlt) hD
    have hLX := LX_y (K := (xs (7 * j + 1)).toNatClampNeg) hLX hRi hRr ((hE1 0 (by decide)).trans h0)
    have hE2x := hE2
    have hCX := CX_y (nh := nh) (i := i) (r := r) (gi := gi) (gr := gr) (K := (xs (7 * j + 1)).toNatClampNeg) hI2 hR2 hE1 hE2
    exact kx _ _ _ _ _ _ _ hLX hCX hP hD hS
  · skip
    have hRi := hLX.1.1
    have hRr := hLX.1.2
    refine vp_callSi (W.runV (As := [.int (xs (7 * j + 1)), .int (xs (7 * j + 2)), .int (xs (7 * j + 3))]) (rest := []) ⟨hx, hb, hml, hown, hT⟩ (c_X11_check.b l D cy a i r q (HL cy gb gi gr nh ++ (mW cy am im rm lm)) (xs (7 * j + 1)) (xs (7 * j + 2)) (xs (7 * j + 3)) hRi hRr hv) (cwV 3 hT (gV t_1134 t_1135 t_1136 t_1137 t_2) rfl rfl rfl (by decide +kernel) ⟨Nat.le_of_ble_eq_true rfl, Nat.le_of_ble_eq_true rfl⟩) (rP_v hP hK (va_recv hK hP (ci := 11) (q0 := 0) rfl rfl)) rfl rfl hl.1 rfl (lv_room (Nat.le_of_ble_eq_true rfl)) dL_law_1475 ⟨by show _ ≤ (600000 : Nat); omega, by show _ ≤ (7302250 : Nat); omega⟩) (fun r_19 hr_19 => ?_)
    have hCX := CX_rf (i := i) (r := r) (gi := gi) (gr := gr) (nh := nh)
    exact kx _ _ _ _ _ _ _ hLX CX_rfT hP hD hS
