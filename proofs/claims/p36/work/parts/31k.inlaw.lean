set_option maxRecDepth 20000 in
theorem gkL_law_X1_harmonyIn_4 : GoodIn wsL_law wsX00 := goodIn_r _ [402, 403, 404, 405, 406, 407, 408, 409, 410, 411] (by decide +kernel) (by decide +kernel)
set_option maxRecDepth 20000 in
theorem gkL_law_X1_harmonyIn_c : GoodIn wsL_law [Cond.code yX1_harmonyIn cX1_harmonyIn 2 (some .int)] := goodIn_r _ [362] (by decide +kernel) (by decide +kernel)
set_option maxRecDepth 20000 in
theorem ggL_law_X1_harmonyIn : GoodIn wsL_law wsX1_harmonyIn := goodIn_ca (goodIn_cs gkL_law_X1_harmonyIn_c (goodIn_app (goodIn_app (goodIn_app gkL_law_X1_harmonyIn_0 (goodIn_app gkL_law_X1_harmonyIn_1 gkL_law_X1_harmonyIn_2)) gkL_law_X1_harmonyIn_3) gkL_law_X1_harmonyIn_4)) (goodIn_sub (fun _ h => List.mem_append_left _ (List.mem_append_right _ h)) (by decide +kernel))
set_option maxRecDepth 20000 in
theorem gL_law_X1_harmonyIn : GoodIn wsL_law (wsV RL 137 RX1 yX1_harmonyIn wsX1_harmonyIn) := goodIn_app (goodIn_of _ (by decide +kernel)) ggL_law_X1_harmonyIn
set_option maxRecDepth 20000 in
theorem gkL_law_X1_sing_0 : GoodIn wsL_law wsX1_sing_r1 := goodIn_r _ [18, 110, 60, 61, 2, 62, 63, 64, 111, 112, 113, 17, 114, 115, 116, 117, 118, 119, 120, 69, 27, 121, 26, 122] (by decide +kernel) (by decide +kernel)
set_option maxRecDepth 20000 in
theorem gkL_law_X1_sing_1 : GoodIn wsL_law wsX1_sing_r2 := goodIn_r _ [123, 7, 124, 125, 126, 127, 128, 129, 130, 131, 132, 133, 134, 135, 136, 25, 137, 138, 139, 140, 24, 141, 142, 143] (by decide +kernel) (by decide +kernel)
set_option maxRecDepth 20000 in
theorem gkL_law_X1_sing_2 : GoodIn wsL_law wsX1_sing_r3 := goodIn_r _ [144, 145, 146, 147, 6, 8, 148, 149, 150, 151, 152, 95, 96] (by decide +kernel) (by decide +kernel)
set_option maxRecDepth 20000 in
theorem gkL_law_X1_sing_3 : GoodIn wsL_law wsX10 := goodIn_r _ [400, 401] (by decide +kernel) (by decide +kernel)
set_option maxRecDepth 20000 in
theorem gkL_law_X1_sing_4 : GoodIn wsL_law wsX00 := goodIn_r _ [402, 403, 404, 405, 406, 407, 408, 409, 410, 411] (by decide +kernel) (by decide +kernel)
set_option maxRecDepth 20000 in
theorem gkL_law_X1_sing_c : GoodIn wsL_law [Cond.code yX1_sing cX1_sing 3 (some .int)] := goodIn_r _ [109] (by decide +kernel) (by decide +kernel)
set_option maxRecDepth 20000 in
theorem ggL_law_X1_sing : GoodIn wsL_law wsX1_sing := goodIn_ca (goodIn_cs gkL_law_X1_sing_c (goodIn_app (goodIn_app (goodIn_app gkL_law_X1_sing_0 (goodIn_app gkL_law_X1_sing_1 gkL_law_X1_sing_2)) gkL_law_X1_sing_3) gkL_law_X1_sing_4)) (goodIn_sub (fun _ h => List.mem_append_left _ (List.mem_append_right _ h)) (by decide +kernel))
