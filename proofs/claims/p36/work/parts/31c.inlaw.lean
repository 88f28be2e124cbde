set_option maxRecDepth 20000 in
theorem ggL_law_L_act : GoodIn wsL_law wsL_act := goodIn_ca (goodIn_ca (goodIn_ca (goodIn_cs gkL_law_L_act_c (goodIn_app (goodIn_app (goodIn_app (goodIn_app gkL_law_L_act_0 (goodIn_app gkL_law_L_act_1 (goodIn_app gkL_law_L_act_2 (goodIn_app gkL_law_L_act_3 (goodIn_app gkL_law_L_act_4 (goodIn_app gkL_law_L_act_5 gkL_law_L_act_6)))))) gkL_law_L_act_7) gkL_law_L_act_8) gkL_law_L_act_9)) (goodIn_sub (fun _ h => List.mem_append_left _ (List.mem_append_left _ (List.mem_append_right _ h))) (by decide +kernel))) (goodIn_sub (fun _ h => List.mem_append_left _ (List.mem_append_right _ h)) (by decide +kernel))) (goodIn_sub (fun _ h => List.mem_append_right _ h) (by decide +kernel))
set_option maxRecDepth 20000 in
theorem gL_law_L_act : GoodIn wsL_law (va_wsS RL 62 yL_act wsL_act) := goodIn_app (goodIn_of _ (by decide +kernel)) ggL_law_L_act
set_option maxRecDepth 20000 in
theorem gkL_law_X1_digest_0 : GoodIn wsL_law wsX1_digest_r1 := goodIn_r _ [191, 192, 18, 59, 193, 194, 195, 2, 196, 197, 198, 199, 200, 201, 202, 203, 204, 205, 206, 130, 131, 17, 132, 69] (by decide +kernel) (by decide +kernel)
set_option maxRecDepth 20000 in
theorem gkL_law_X1_digest_1 : GoodIn wsL_law wsX1_digest_r2 := goodIn_r _ [133, 134, 135, 136, 25, 27, 207, 208, 209, 210, 211, 212, 213, 214, 129, 137, 138, 139, 140, 24, 141, 142, 143, 144] (by decide +kernel) (by decide +kernel)
set_option maxRecDepth 20000 in
theorem gkL_law_X1_digest_2 : GoodIn wsL_law wsX1_digest_r3 := goodIn_r _ [145, 146, 147, 6, 7, 8, 215, 216, 217, 218, 219, 220, 221, 222, 223, 224, 225, 226, 227, 228, 229, 230, 231, 232] (by decide +kernel) (by decide +kernel)
set_option maxRecDepth 20000 in
theorem gkL_law_X1_digest_3 : GoodIn wsL_law wsX1_digest_r4 := goodIn_r _ [233, 234, 235, 236, 237, 238, 239, 240, 126, 127, 128, 241, 242, 243, 244, 110, 245, 246, 247, 248, 249, 250, 251, 252] (by decide +kernel) (by decide +kernel)
set_option maxRecDepth 20000 in
theorem gkL_law_X1_digest_4 : GoodIn wsL_law wsX1_digest_r5 := goodIn_r _ [19, 253, 254, 255, 256, 23, 26, 121, 120, 119, 257, 116, 117, 118, 122, 123, 124, 125, 148, 149, 150, 151, 152, 95] (by decide +kernel) (by decide +kernel)
set_option maxRecDepth 20000 in
theorem gkL_law_X1_digest_5 : GoodIn wsL_law wsX1_digest_r6 := goodIn_r _ [96, 258, 259, 260, 261, 262, 263, 264, 265, 266, 267, 268, 269, 28, 270, 271, 272, 273, 274, 275, 276, 277, 278, 279] (by decide +kernel) (by decide +kernel)
