set_option maxRecDepth 20000 in
theorem ggL_law_X1_greatestAccord : GoodIn wsL_law wsX1_greatestAccord := goodIn_r _ [265, 18, 266, 267, 268, 17, 269, 69, 28, 270, 271, 272, 273, 24, 133, 134, 135, 136, 25, 27, 145, 2, 146, 147, 6, 7, 8, 274, 275, 276, 277, 278, 279, 280, 281, 282, 283, 284, 400, 401, 402, 403, 404, 405, 406, 407, 408, 409, 410, 411] (by decide +kernel) (by decide +kernel)
set_option maxRecDepth 20000 in
theorem gL_law_X1_greatestAccord : GoodIn wsL_law (wsV RL 122 RX1 yX1_greatestAccord wsX1_greatestAccord) := goodIn_app (goodIn_of _ (by decide +kernel)) ggL_law_X1_greatestAccord
set_option maxRecDepth 20000 in
theorem ggL_law_X1_bestToMute : GoodIn wsL_law wsX1_bestToMute := goodIn_r _ [248, 18, 224, 225, 226, 17, 227, 69, 24, 133, 134, 135, 136, 25, 27, 141, 142, 143, 144, 145, 2, 146, 147, 6, 7, 8, 400, 401, 402, 403, 404, 405, 406, 407, 408, 409, 410, 411] (by decide +kernel) (by decide +kernel)
set_option maxRecDepth 20000 in
theorem gL_law_X1_bestToMute : GoodIn wsL_law (wsV RL 125 RX1 yX1_bestToMute wsX1_bestToMute) := goodIn_app (goodIn_of _ (by decide +kernel)) ggL_law_X1_bestToMute
set_option maxRecDepth 20000 in
theorem ggL_law_L_below : GoodIn wsL_law wsL_below := goodIn_r _ [48, 49] (by decide +kernel) (by decide +kernel)
set_option maxRecDepth 20000 in
theorem gL_law_L_below : GoodIn wsL_law (va_wsS RL 15 yL_below wsL_below) := goodIn_app (goodIn_of _ (by decide +kernel)) ggL_law_L_below
set_option maxRecDepth 20000 in
theorem ggL_law_X1_bestTuning : GoodIn wsL_law wsX1_bestTuning := goodIn_ca (goodIn_r _ [319, 18, 78, 79, 80, 2, 81, 82, 83, 59, 310, 134, 135, 17, 136, 25, 27, 320, 321, 322, 323, 24, 324, 6, 7, 8, 141, 142, 143, 144, 69, 133, 145, 146, 147, 400, 401, 402, 403, 404, 405, 406, 407, 408, 409, 410, 411] (by decide +kernel) (by decide +kernel)) (goodIn_sub (fun _ h => List.mem_append_right _ h) (by decide +kernel))
set_option maxRecDepth 20000 in
theorem gL_law_X1_bestTuning : GoodIn wsL_law (wsV RL 128 RX1 yX1_bestTuning wsX1_bestTuning) := goodIn_app (goodIn_of _ (by decide +kernel)) ggL_law_X1_bestTuning
set_option maxRecDepth 20000 in
theorem ggL_law_X1_tune : GoodIn wsL_law wsX1_tune := goodIn_ca (goodIn_ca (goodIn_r _ [76, 18, 77, 78, 79, 80, 2, 81, 82, 83, 59, 60, 61, 62, 63, 64, 400, 401, 402, 403, 404, 405, 406, 407, 408, 409, 410, 411] (by decide +kernel) (by decide +kernel)) (goodIn_sub (fun _ h => List.mem_append_right _ h) (by decide +kernel))) (goodIn_sub (fun _ h => List.mem_append_left _ (List.mem_append_right _ h)) (by decide +kernel))
