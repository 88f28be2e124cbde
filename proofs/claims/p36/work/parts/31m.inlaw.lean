set_option maxRecDepth 20000 in
theorem gkL_law_X2_isSame_7 : GoodIn wsL_law wsX2_isSame_r8 := goodIn_r _ [393, 394, 395, 396, 397, 398, 399] (by decide +kernel) (by decide +kernel)
set_option maxRecDepth 20000 in
theorem gkL_law_X2_isSame_8 : GoodIn wsL_law wsX20 := goodIn_r _ [412, 413, 414, 415] (by decide +kernel) (by decide +kernel)
set_option maxRecDepth 20000 in
theorem gkL_law_X2_isSame_9 : GoodIn wsL_law wsX10 := goodIn_r _ [400, 401] (by decide +kernel) (by decide +kernel)
set_option maxRecDepth 20000 in
theorem gkL_law_X2_isSame_10 : GoodIn wsL_law wsX00 := goodIn_r _ [402, 403, 404, 405, 406, 407, 408, 409, 410, 411] (by decide +kernel) (by decide +kernel)
set_option maxRecDepth 20000 in
theorem gkL_law_X2_isSame_c : GoodIn wsL_law [Cond.code yX2_isSame cX2_isSame 10 (some .boolean)] := goodIn_r _ [367] (by decide +kernel) (by decide +kernel)
set_option maxRecDepth 20000 in
theorem ggL_law_X2_isSame : GoodIn wsL_law wsX2_isSame := goodIn_ca (goodIn_cs gkL_law_X2_isSame_c (goodIn_app (goodIn_app (goodIn_app (goodIn_app gkL_law_X2_isSame_0 (goodIn_app gkL_law_X2_isSame_1 (goodIn_app gkL_law_X2_isSame_2 (goodIn_app gkL_law_X2_isSame_3 (goodIn_app gkL_law_X2_isSame_4 (goodIn_app gkL_law_X2_isSame_5 (goodIn_app gkL_law_X2_isSame_6 gkL_law_X2_isSame_7))))))) gkL_law_X2_isSame_8) gkL_law_X2_isSame_9) gkL_law_X2_isSame_10)) (goodIn_sub (fun _ h => List.mem_append_right _ h) (by decide +kernel))
set_option maxRecDepth 20000 in
theorem gL_law_X2_isSame : GoodIn wsL_law (wsV RL 142 RX2 yX2_isSame wsX2_isSame) := goodIn_app (goodIn_of _ (by decide +kernel)) ggL_law_X2_isSame
