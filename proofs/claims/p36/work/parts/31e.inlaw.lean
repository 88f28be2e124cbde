set_option maxRecDepth 20000 in
theorem ggL_law_X1_teaOf : GoodIn wsL_law wsX1_teaOf := goodIn_ca (goodIn_r _ [301, 18, 93, 78, 79, 80, 2, 81, 82, 83, 59, 400, 401, 402, 403, 404, 405, 406, 407, 408, 409, 410, 411] (by decide +kernel) (by decide +kernel)) (goodIn_sub (fun _ h => List.mem_append_right _ h) (by decide +kernel))
set_option maxRecDepth 20000 in
theorem gL_law_X1_teaOf : GoodIn wsL_law (wsV RL 73 RX1 yX1_teaOf wsX1_teaOf) := goodIn_app (goodIn_of _ (by decide +kernel)) ggL_law_X1_teaOf
set_option maxRecDepth 20000 in
theorem ggL_law_X1_pitchOf : GoodIn wsL_law wsX1_pitchOf := goodIn_ca (goodIn_r _ [297, 18, 77, 78, 79, 80, 2, 81, 82, 83, 59, 400, 401, 402, 403, 404, 405, 406, 407, 408, 409, 410, 411] (by decide +kernel) (by decide +kernel)) (goodIn_sub (fun _ h => List.mem_append_right _ h) (by decide +kernel))
set_option maxRecDepth 20000 in
theorem gL_law_X1_pitchOf : GoodIn wsL_law (wsV RL 76 RX1 yX1_pitchOf wsX1_pitchOf) := goodIn_app (goodIn_of _ (by decide +kernel)) ggL_law_X1_pitchOf
set_option maxRecDepth 20000 in
theorem ggL_law_X1_sounds : GoodIn wsL_law wsX1_sounds := goodIn_ca (goodIn_r _ [309, 18, 78, 79, 80, 2, 81, 82, 83, 59, 310, 134, 135, 17, 136, 25, 27, 400, 401, 402, 403, 404, 405, 406, 407, 408, 409, 410, 411] (by decide +kernel) (by decide +kernel)) (goodIn_sub (fun _ h => List.mem_append_right _ h) (by decide +kernel))
set_option maxRecDepth 20000 in
theorem gL_law_X1_sounds : GoodIn wsL_law (wsV RL 79 RX1 yX1_sounds wsX1_sounds) := goodIn_app (goodIn_of _ (by decide +kernel)) ggL_law_X1_sounds
set_option maxRecDepth 20000 in
theorem ggL_law_X1_clashesOf : GoodIn wsL_law wsX1_clashesOf := goodIn_ca (goodIn_r _ [314, 18, 77, 78, 79, 80, 2, 81, 82, 83, 59, 310, 134, 135, 17, 136, 25, 27, 315, 142, 143, 144, 69, 24, 133, 145, 146, 147, 6, 7, 8, 400, 401, 402, 403, 404, 405, 406, 407, 408, 409, 410, 411] (by decide +kernel) (by decide +kernel)) (goodIn_sub (fun _ h => List.mem_append_right _ h) (by decide +kernel))
set_option maxRecDepth 20000 in
theorem gL_law_X1_clashesOf : GoodIn wsL_law (wsV RL 82 RX1 yX1_clashesOf wsX1_clashesOf) := goodIn_app (goodIn_of _ (by decide +kernel)) ggL_law_X1_clashesOf
set_option maxRecDepth 20000 in
theorem ggL_law_X1_crackOf : GoodIn wsL_law wsX1_crackOf := goodIn_ca (goodIn_r _ [305, 18, 105, 78, 79, 80, 2, 81, 82, 83, 59, 400, 401, 402, 403, 404, 405, 406, 407, 408, 409, 410, 411] (by decide +kernel) (by decide +kernel)) (goodIn_sub (fun _ h => List.mem_append_right _ h) (by decide +kernel))
