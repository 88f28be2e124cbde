set_option maxRecDepth 20000 in
theorem gL_law_X1_tune : GoodIn wsL_law (wsV RL 31 RX1 yX1_tune wsX1_tune) := goodIn_app (goodIn_of _ (by decide +kernel)) ggL_law_X1_tune
set_option maxRecDepth 20000 in
theorem gkL_law_X1_beatsUntilSilence_0 : GoodIn wsL_law wsX1_beatsUntilSilence_r1 := goodIn_r _ [19, 18, 253, 254, 255, 17, 256, 23, 24, 25, 26, 27, 69, 121, 120, 119, 206, 130, 131, 132, 133, 134, 135, 136] (by decide +kernel) (by decide +kernel)
set_option maxRecDepth 20000 in
theorem gkL_law_X1_beatsUntilSilence_1 : GoodIn wsL_law wsX1_beatsUntilSilence_r2 := goodIn_r _ [257, 116, 117, 118, 122, 123, 7, 124, 125, 126, 127, 128, 129, 137, 138, 139, 140, 141, 142, 143, 144, 145, 2, 146] (by decide +kernel) (by decide +kernel)
set_option maxRecDepth 20000 in
theorem gkL_law_X1_beatsUntilSilence_2 : GoodIn wsL_law wsX1_beatsUntilSilence_r3 := goodIn_r _ [147, 6, 8, 148, 149, 150, 151, 152, 95, 96] (by decide +kernel) (by decide +kernel)
set_option maxRecDepth 20000 in
theorem gkL_law_X1_beatsUntilSilence_3 : GoodIn wsL_law wsX10 := goodIn_r _ [400, 401] (by decide +kernel) (by decide +kernel)
set_option maxRecDepth 20000 in
theorem gkL_law_X1_beatsUntilSilence_4 : GoodIn wsL_law wsX00 := goodIn_r _ [402, 403, 404, 405, 406, 407, 408, 409, 410, 411] (by decide +kernel) (by decide +kernel)
set_option maxRecDepth 20000 in
theorem gkL_law_X1_beatsUntilSilence_c : GoodIn wsL_law [Cond.code yX1_beatsUntilSilence cX1_beatsUntilSilence 2 (some .int)] := goodIn_r _ [252] (by decide +kernel) (by decide +kernel)
set_option maxRecDepth 20000 in
theorem ggL_law_X1_beatsUntilSilence : GoodIn wsL_law wsX1_beatsUntilSilence := goodIn_cs gkL_law_X1_beatsUntilSilence_c (goodIn_app (goodIn_app (goodIn_app gkL_law_X1_beatsUntilSilence_0 (goodIn_app gkL_law_X1_beatsUntilSilence_1 gkL_law_X1_beatsUntilSilence_2)) gkL_law_X1_beatsUntilSilence_3) gkL_law_X1_beatsUntilSilence_4)
set_option maxRecDepth 20000 in
theorem gL_law_X1_beatsUntilSilence : GoodIn wsL_law (wsV RL 131 RX1 yX1_beatsUntilSilence wsX1_beatsUntilSilence) := goodIn_app (goodIn_of _ (by decide +kernel)) ggL_law_X1_beatsUntilSilence
set_option maxRecDepth 20000 in
theorem gkL_law_X1_beatsUntilCadence_0 : GoodIn wsL_law wsX1_beatsUntilCadence_r1 := goodIn_r _ [19, 18, 110, 253, 254, 255, 17, 256, 23, 24, 25, 26, 27, 69, 121, 120, 119, 257, 116, 117, 118, 122, 123, 7] (by decide +kernel) (by decide +kernel)
