set_option maxRecDepth 20000 in
theorem gkL_law_X1_beatsUntilCadence_1 : GoodIn wsL_law wsX1_beatsUntilCadence_r2 := goodIn_r _ [124, 125, 126, 127, 128, 129, 130, 131, 132, 133, 134, 135, 136, 137, 138, 139, 140, 141, 142, 143, 144, 145, 2, 146] (by decide +kernel) (by decide +kernel)
set_option maxRecDepth 20000 in
theorem gkL_law_X1_beatsUntilCadence_2 : GoodIn wsL_law wsX1_beatsUntilCadence_r3 := goodIn_r _ [147, 6, 8, 148, 149, 150, 151, 152, 95, 96] (by decide +kernel) (by decide +kernel)
set_option maxRecDepth 20000 in
theorem gkL_law_X1_beatsUntilCadence_3 : GoodIn wsL_law wsX10 := goodIn_r _ [400, 401] (by decide +kernel) (by decide +kernel)
set_option maxRecDepth 20000 in
theorem gkL_law_X1_beatsUntilCadence_4 : GoodIn wsL_law wsX00 := goodIn_r _ [402, 403, 404, 405, 406, 407, 408, 409, 410, 411] (by decide +kernel) (by decide +kernel)
set_option maxRecDepth 20000 in
theorem gkL_law_X1_beatsUntilCadence_c : GoodIn wsL_law [Cond.code yX1_beatsUntilCadence cX1_beatsUntilCadence 2 (some .int)] := goodIn_r _ [261] (by decide +kernel) (by decide +kernel)
set_option maxRecDepth 20000 in
theorem ggL_law_X1_beatsUntilCadence : GoodIn wsL_law wsX1_beatsUntilCadence := goodIn_cs gkL_law_X1_beatsUntilCadence_c (goodIn_app (goodIn_app (goodIn_app gkL_law_X1_beatsUntilCadence_0 (goodIn_app gkL_law_X1_beatsUntilCadence_1 gkL_law_X1_beatsUntilCadence_2)) gkL_law_X1_beatsUntilCadence_3) gkL_law_X1_beatsUntilCadence_4)
set_option maxRecDepth 20000 in
theorem gL_law_X1_beatsUntilCadence : GoodIn wsL_law (wsV RL 134 RX1 yX1_beatsUntilCadence wsX1_beatsUntilCadence) := goodIn_app (goodIn_of _ (by decide +kernel)) ggL_law_X1_beatsUntilCadence
set_option maxRecDepth 20000 in
theorem gkL_law_X1_harmonyIn_0 : GoodIn wsL_law wsX1_harmonyIn_r1 := goodIn_r _ [19, 18, 60, 61, 2, 62, 63, 64, 253, 254, 255, 17, 256, 23, 24, 25, 26, 27, 69, 121, 120, 119, 111, 112] (by decide +kernel) (by decide +kernel)
set_option maxRecDepth 20000 in
theorem gkL_law_X1_harmonyIn_1 : GoodIn wsL_law wsX1_harmonyIn_r2 := goodIn_r _ [113, 114, 115, 116, 117, 118, 122, 123, 7, 124, 125, 126, 127, 128, 129, 130, 131, 132, 133, 134, 135, 136, 137, 138] (by decide +kernel) (by decide +kernel)
set_option maxRecDepth 20000 in
theorem gkL_law_X1_harmonyIn_2 : GoodIn wsL_law wsX1_harmonyIn_r3 := goodIn_r _ [139, 140, 141, 142, 143, 144, 145, 146, 147, 6, 8, 148, 149, 150, 151, 152, 95, 96, 211, 212, 213, 214] (by decide +kernel) (by decide +kernel)
set_option maxRecDepth 20000 in
theorem gkL_law_X1_harmonyIn_3 : GoodIn wsL_law wsX10 := goodIn_r _ [400, 401] (by decide +kernel) (by decide +kernel)
