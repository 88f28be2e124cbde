set_option maxRecDepth 20000 in
theorem gL_law_X1_crackOf : GoodIn wsL_law (wsV RL 85 RX1 yX1_crackOf wsX1_crackOf) := goodIn_app (goodIn_of _ (by decide +kernel)) ggL_law_X1_crackOf
set_option maxRecDepth 20000 in
theorem ggL_law_X1_areInAccord : GoodIn wsL_law wsX1_areInAccord := goodIn_ca (goodIn_r _ [334, 18, 77, 78, 79, 80, 2, 81, 82, 83, 59, 335, 145, 146, 147, 6, 7, 8, 400, 401, 402, 403, 404, 405, 406, 407, 408, 409, 410, 411] (by decide +kernel) (by decide +kernel)) (goodIn_sub (fun _ h => List.mem_append_right _ h) (by decide +kernel))
set_option maxRecDepth 20000 in
theorem gL_law_X1_areInAccord : GoodIn wsL_law (wsV RL 88 RX1 yX1_areInAccord wsX1_areInAccord) := goodIn_app (goodIn_of _ (by decide +kernel)) ggL_law_X1_areInAccord
set_option maxRecDepth 20000 in
theorem ggL_law_X1_interval : GoodIn wsL_law wsX1_interval := goodIn_ca (goodIn_r _ [339, 18, 77, 147, 6, 7, 8, 78, 79, 80, 2, 81, 82, 83, 59, 400, 401, 402, 403, 404, 405, 406, 407, 408, 409, 410, 411] (by decide +kernel) (by decide +kernel)) (goodIn_sub (fun _ h => List.mem_append_right _ h) (by decide +kernel))
set_option maxRecDepth 20000 in
theorem gL_law_X1_interval : GoodIn wsL_law (wsV RL 92 RX1 yX1_interval wsX1_interval) := goodIn_app (goodIn_of _ (by decide +kernel)) ggL_law_X1_interval
set_option maxRecDepth 20000 in
theorem ggL_law_X1_soundingOf : GoodIn wsL_law wsX1_soundingOf := goodIn_ca (goodIn_r _ [343, 82, 83, 18, 344, 345, 346, 17, 347, 69, 23, 133, 134, 135, 136, 25, 27, 400, 401, 402, 403, 404, 405, 406, 407, 408, 409, 410, 411] (by decide +kernel) (by decide +kernel)) (goodIn_sub (fun _ h => List.mem_append_right _ h) (by decide +kernel))
set_option maxRecDepth 20000 in
theorem gL_law_X1_soundingOf : GoodIn wsL_law (wsV RL 100 RX1 yX1_soundingOf wsX1_soundingOf) := goodIn_app (goodIn_of _ (by decide +kernel)) ggL_law_X1_soundingOf
set_option maxRecDepth 20000 in
theorem ggL_law_X1_harshest : GoodIn wsL_law wsX1_harshest := goodIn_r _ [223, 18, 219, 138, 139, 17, 140, 69, 24, 133, 134, 135, 136, 25, 27, 141, 142, 143, 144, 145, 2, 146, 147, 6, 7, 8, 224, 225, 226, 227, 400, 401, 402, 403, 404, 405, 406, 407, 408, 409, 410, 411] (by decide +kernel) (by decide +kernel)
set_option maxRecDepth 20000 in
theorem gL_law_X1_harshest : GoodIn wsL_law (wsV RL 103 RX1 yX1_harshest wsX1_harshest) := goodIn_app (goodIn_of _ (by decide +kernel)) ggL_law_X1_harshest
