set_option maxRecDepth 20000 in
theorem gL_law_X1_sing : GoodIn wsL_law (wsV RL 48 RX1 yX1_sing wsX1_sing) := goodIn_app (goodIn_of _ (by decide +kernel)) ggL_law_X1_sing
set_option maxRecDepth 20000 in
theorem ggL_law_X2_sing : GoodIn wsL_law wsX2_sing := goodIn_r _ [160, 161, 41, 162, 163, 164, 165, 166, 35, 167, 168, 169, 170, 171, 172, 173, 174, 175, 176, 177, 178, 179, 180, 181, 182, 183, 184, 185, 186, 412, 413, 414, 415] (by decide +kernel) (by decide +kernel)
set_option maxRecDepth 20000 in
theorem gL_law_X2_sing : GoodIn wsL_law (wsV RL 140 RX2 yX2_sing wsX2_sing) := goodIn_app (goodIn_of _ (by decide +kernel)) ggL_law_X2_sing
set_option maxRecDepth 20000 in
theorem gkL_law_X2_isSame_0 : GoodIn wsL_law wsX2_isSame_r1 := goodIn_r _ [41, 3, 162, 163, 368, 369, 370, 35, 371, 168, 169, 170, 171, 172, 173, 174, 175, 176, 177, 178, 372, 290, 291, 2] (by decide +kernel) (by decide +kernel)
set_option maxRecDepth 20000 in
theorem gkL_law_X2_isSame_1 : GoodIn wsL_law wsX2_isSame_r2 := goodIn_r _ [292, 18, 293, 78, 79, 80, 81, 82, 83, 59, 373, 295, 296, 297, 77, 374, 299, 300, 301, 93, 375, 303, 304, 305] (by decide +kernel) (by decide +kernel)
set_option maxRecDepth 20000 in
theorem gkL_law_X2_isSame_2 : GoodIn wsL_law wsX2_isSame_r3 := goodIn_r _ [105, 376, 307, 308, 309, 310, 134, 135, 17, 136, 25, 27, 377, 312, 313, 314, 315, 142, 143, 144, 69, 24, 133, 145] (by decide +kernel) (by decide +kernel)
set_option maxRecDepth 20000 in
theorem gkL_law_X2_isSame_3 : GoodIn wsL_law wsX2_isSame_r4 := goodIn_r _ [146, 147, 6, 7, 8, 378, 341, 342, 343, 344, 345, 346, 347, 23, 379, 194, 195, 196, 380, 198, 199, 200, 201, 381] (by decide +kernel) (by decide +kernel)
set_option maxRecDepth 20000 in
theorem gkL_law_X2_isSame_4 : GoodIn wsL_law wsX2_isSame_r5 := goodIn_r _ [203, 204, 205, 206, 130, 131, 132, 183, 184, 185, 186, 382, 208, 209, 210, 211, 212, 213, 214, 129, 137, 138, 139, 140] (by decide +kernel) (by decide +kernel)
set_option maxRecDepth 20000 in
theorem gkL_law_X2_isSame_5 : GoodIn wsL_law wsX2_isSame_r6 := goodIn_r _ [141, 383, 384, 385, 386, 387, 216, 217, 218, 219, 164, 165, 166, 167, 388, 221, 222, 223, 224, 225, 226, 227, 389, 229] (by decide +kernel) (by decide +kernel)
set_option maxRecDepth 20000 in
theorem gkL_law_X2_isSame_6 : GoodIn wsL_law wsX2_isSame_r7 := goodIn_r _ [230, 231, 232, 233, 234, 235, 390, 237, 238, 239, 240, 126, 127, 128, 179, 180, 181, 182, 391, 242, 243, 244, 110, 392] (by decide +kernel) (by decide +kernel)
