set_option maxRecDepth 20000 in
theorem gL_law_X1_beatsUntilSilence : GoodIn wsL_law (wsV RL 131 RX1 yX1_beatsUntilSilence wsX1_beatsUntilSilence) := goodIn_app (goodIn_of _ (by decide +kernel)) ggL_law_X1_beatsUntilSilence
set_option maxRecDepth 20000 in
theorem ggL_law_X1_beatsUntilCadence : GoodIn wsL_law wsX1_beatsUntilCadence := goodIn_r _ [261, 19, 18, 110, 253, 254, 255, 17, 256, 23, 24, 25, 26, 27, 69, 121, 120, 119, 257, 116, 117, 118, 122, 123, 7, 124, 125, 126, 127, 128, 129, 130, 131, 132, 133, 134, 135, 136, 137, 138, 139, 140, 141, 142, 143, 144, 145, 2, 146, 147, 6, 8, 148, 149, 150, 151, 152, 95, 96, 400, 401, 402, 403, 404, 405, 406, 407, 408, 409, 410, 411] (by decide +kernel) (by decide +kernel)
set_option maxRecDepth 20000 in
theorem gL_law_X1_beatsUntilCadence : GoodIn wsL_law (wsV RL 134 RX1 yX1_beatsUntilCadence wsX1_beatsUntilCadence) := goodIn_app (goodIn_of _ (by decide +kernel)) ggL_law_X1_beatsUntilCadence
set_option maxRecDepth 20000 in
theorem ggL_law_X1_harmonyIn : GoodIn wsL_law wsX1_harmonyIn := goodIn_ca (goodIn_r _ [362, 19, 18, 60, 61, 2, 62, 63, 64, 253, 254, 255, 17, 256, 23, 24, 25, 26, 27, 69, 121, 120, 119, 111, 112, 113, 114, 115, 116, 117, 118, 122, 123, 7, 124, 125, 126, 127, 128, 129, 130, 131, 132, 133, 134, 135, 136, 137, 138, 139, 140, 141, 142, 143, 144, 145, 146, 147, 6, 8, 148, 149, 150, 151, 152, 95, 96, 211, 212, 213, 214, 400, 401, 402, 403, 404, 405, 406, 407, 408, 409, 410, 411] (by decide +kernel) (by decide +kernel)) (goodIn_sub (fun _ h => List.mem_append_left _ (List.mem_append_right _ h)) (by decide +kernel))
set_option maxRecDepth 20000 in
theorem gL_law_X1_harmonyIn : GoodIn wsL_law (wsV RL 137 RX1 yX1_harmonyIn wsX1_harmonyIn) := goodIn_app (goodIn_of _ (by decide +kernel)) ggL_law_X1_harmonyIn
set_option maxRecDepth 20000 in
theorem ggL_law_X1_sing : GoodIn wsL_law wsX1_sing := goodIn_ca (goodIn_r _ [109, 18, 110, 60, 61, 2, 62, 63, 64, 111, 112, 113, 17, 114, 115, 116, 117, 118, 119, 120, 69, 27, 121, 26, 122, 123, 7, 124, 125, 126, 127, 128, 129, 130, 131, 132, 133, 134, 135, 136, 25, 137, 138, 139, 140, 24, 141, 142, 143, 144, 145, 146, 147, 6, 8, 148, 149, 150, 151, 152, 95, 96, 400, 401, 402, 403, 404, 405, 406, 407, 408, 409, 410, 411] (by decide +kernel) (by decide +kernel)) (goodIn_sub (fun _ h => List.mem_append_left _ (List.mem_append_right _ h)) (by decide +kernel))
set_option maxRecDepth 20000 in
theorem gL_law_X1_sing : GoodIn wsL_law (wsV RL 48 RX1 yX1_sing wsX1_sing) := goodIn_app (goodIn_of _ (by decide +kernel)) ggL_law_X1_sing
