set_option maxRecDepth 20000 in
theorem ggL_law_X1_sounding : GoodIn wsL_law wsX1_sounding := goodIn_r _ [205, 18, 206, 130, 131, 17, 132, 69, 133, 134, 135, 136, 25, 27, 400, 401, 402, 403, 404, 405, 406, 407, 408, 409, 410, 411] (by decide +kernel) (by decide +kernel)
set_option maxRecDepth 20000 in
theorem gL_law_X1_sounding : GoodIn wsL_law (wsV RL 106 RX1 yX1_sounding wsX1_sounding) := goodIn_app (goodIn_of _ (by decide +kernel)) ggL_law_X1_sounding
set_option maxRecDepth 20000 in
theorem ggL_law_X1_clashes : GoodIn wsL_law wsX1_clashes := goodIn_r _ [218, 18, 219, 138, 139, 17, 140, 69, 24, 133, 134, 135, 136, 25, 27, 141, 142, 143, 144, 145, 2, 146, 147, 6, 7, 8, 400, 401, 402, 403, 404, 405, 406, 407, 408, 409, 410, 411] (by decide +kernel) (by decide +kernel)
set_option maxRecDepth 20000 in
theorem gL_law_X1_clashes : GoodIn wsL_law (wsV RL 109 RX1 yX1_clashes wsX1_clashes) := goodIn_app (goodIn_of _ (by decide +kernel)) ggL_law_X1_clashes
set_option maxRecDepth 20000 in
theorem ggL_law_X1_harmony : GoodIn wsL_law wsX1_harmony := goodIn_r _ [210, 18, 211, 212, 213, 17, 214, 129, 130, 131, 132, 69, 133, 134, 135, 136, 25, 27, 137, 138, 139, 140, 24, 141, 142, 143, 144, 145, 2, 146, 147, 6, 7, 8, 400, 401, 402, 403, 404, 405, 406, 407, 408, 409, 410, 411] (by decide +kernel) (by decide +kernel)
set_option maxRecDepth 20000 in
theorem gL_law_X1_harmony : GoodIn wsL_law (wsV RL 112 RX1 yX1_harmony wsX1_harmony) := goodIn_app (goodIn_of _ (by decide +kernel)) ggL_law_X1_harmony
set_option maxRecDepth 20000 in
theorem ggL_law_X1_isClear : GoodIn wsL_law wsX1_isClear := goodIn_r _ [239, 18, 240, 126, 127, 17, 128, 129, 130, 131, 132, 69, 133, 134, 135, 136, 25, 27, 137, 138, 139, 140, 24, 141, 142, 143, 144, 145, 2, 146, 147, 6, 7, 8, 400, 401, 402, 403, 404, 405, 406, 407, 408, 409, 410, 411] (by decide +kernel) (by decide +kernel)
set_option maxRecDepth 20000 in
theorem gL_law_X1_isClear : GoodIn wsL_law (wsV RL 115 RX1 yX1_isClear wsX1_isClear) := goodIn_app (goodIn_of _ (by decide +kernel)) ggL_law_X1_isClear
set_option maxRecDepth 20000 in
theorem ggL_law_X1_lowest : GoodIn wsL_law wsX1_lowest := goodIn_r _ [231, 18, 232, 233, 234, 17, 235, 69, 24, 133, 134, 135, 136, 25, 27, 400, 401, 402, 403, 404, 405, 406, 407, 408, 409, 410, 411] (by decide +kernel) (by decide +kernel)
set_option maxRecDepth 20000 in
theorem gL_law_X1_lowest : GoodIn wsL_law (wsV RL 119 RX1 yX1_lowest wsX1_lowest) := goodIn_app (goodIn_of _ (by decide +kernel)) ggL_law_X1_lowest
