set_option maxRecDepth 20000 in
theorem gkL_law_X1_digest_6 : GoodIn wsL_law wsX1_digest_r7 := goodIn_r _ [280, 281, 282, 283, 284, 285, 286, 287, 288, 289, 290, 291, 292, 293, 78, 79, 80, 81, 82, 83, 294, 295, 296, 297] (by decide +kernel) (by decide +kernel)
set_option maxRecDepth 20000 in
theorem gkL_law_X1_digest_7 : GoodIn wsL_law wsX1_digest_r8 := goodIn_r _ [77, 298, 299, 300, 301, 93, 302, 303, 304, 305, 105, 306, 307, 308, 309, 310, 311, 312, 313, 314, 315, 316, 317, 318] (by decide +kernel) (by decide +kernel)
set_option maxRecDepth 20000 in
theorem gkL_law_X1_digest_8 : GoodIn wsL_law wsX1_digest_r9 := goodIn_r _ [319, 320, 321, 322, 323, 324] (by decide +kernel) (by decide +kernel)
set_option maxRecDepth 20000 in
theorem gkL_law_X1_digest_9 : GoodIn wsL_law wsX10 := goodIn_r _ [400, 401] (by decide +kernel) (by decide +kernel)
set_option maxRecDepth 20000 in
theorem gkL_law_X1_digest_10 : GoodIn wsL_law wsX00 := goodIn_r _ [402, 403, 404, 405, 406, 407, 408, 409, 410, 411] (by decide +kernel) (by decide +kernel)
set_option maxRecDepth 20000 in
theorem gkL_law_X1_digest_c : GoodIn wsL_law [Cond.code yX1_digest cX1_digest 4 (some .long)] := goodIn_r _ [190] (by decide +kernel) (by decide +kernel)
set_option maxRecDepth 20000 in
theorem ggL_law_X1_digest : GoodIn wsL_law wsX1_digest := goodIn_ca (goodIn_cs gkL_law_X1_digest_c (goodIn_app (goodIn_app (goodIn_app gkL_law_X1_digest_0 (goodIn_app gkL_law_X1_digest_1 (goodIn_app gkL_law_X1_digest_2 (goodIn_app gkL_law_X1_digest_3 (goodIn_app gkL_law_X1_digest_4 (goodIn_app gkL_law_X1_digest_5 (goodIn_app gkL_law_X1_digest_6 (goodIn_app gkL_law_X1_digest_7 gkL_law_X1_digest_8)))))))) gkL_law_X1_digest_9) gkL_law_X1_digest_10)) (goodIn_sub (fun _ h => List.mem_append_right _ h) (by decide +kernel))
set_option maxRecDepth 20000 in
theorem gL_law_X1_digest : GoodIn wsL_law (wsV RL 66 RX1 yX1_digest wsX1_digest) := goodIn_app (goodIn_of _ (by decide +kernel)) ggL_law_X1_digest
set_option maxRecDepth 20000 in
theorem ggL_law_X1_pots : GoodIn wsL_law wsX1_pots := goodIn_r _ [196, 18, 59, 400, 401, 402, 403, 404, 405, 406, 407, 408, 409, 410, 411] (by decide +kernel) (by decide +kernel)
set_option maxRecDepth 20000 in
theorem gL_law_X1_pots : GoodIn wsL_law (wsV RL 70 RX1 yX1_pots wsX1_pots) := goodIn_app (goodIn_of _ (by decide +kernel)) ggL_law_X1_pots
