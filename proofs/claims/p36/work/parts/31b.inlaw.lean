set_option maxRecDepth 20000 in
theorem gkL_law_L_act_0 : GoodIn wsL_law wsL_act_r1 := goodIn_r _ [36, 3, 46, 47, 31, 48, 49, 50, 51, 35, 52, 40, 53, 54, 55, 2, 56, 57, 58, 18, 59, 60, 61, 62] (by decide +kernel) (by decide +kernel)
set_option maxRecDepth 20000 in
theorem gkL_law_L_act_1 : GoodIn wsL_law wsL_act_r2 := goodIn_r _ [63, 64, 65, 66, 67, 17, 68, 69, 23, 24, 25, 73, 74, 75, 76, 77, 78, 79, 80, 81, 82, 83, 84, 85] (by decide +kernel) (by decide +kernel)
set_option maxRecDepth 20000 in
theorem gkL_law_L_act_2 : GoodIn wsL_law wsL_act_r3 := goodIn_r _ [86, 87, 88, 89, 90, 91, 92, 93, 94, 95, 7, 96, 97, 98, 99, 100, 101, 102, 103, 104, 105, 106, 107, 108] (by decide +kernel) (by decide +kernel)
set_option maxRecDepth 20000 in
theorem gkL_law_L_act_3 : GoodIn wsL_law wsL_act_r4 := goodIn_r _ [109, 110, 111, 112, 113, 114, 115, 116, 117, 118, 119, 120, 27, 121, 26, 122, 123, 124, 125, 126, 127, 128, 129, 130] (by decide +kernel) (by decide +kernel)
set_option maxRecDepth 20000 in
theorem gkL_law_L_act_4 : GoodIn wsL_law wsL_act_r5 := goodIn_r _ [131, 132, 133, 134, 135, 136, 137, 138, 139, 140, 141, 142, 143, 144, 145, 146, 147, 6, 8, 148, 149, 150, 151, 152] (by decide +kernel) (by decide +kernel)
set_option maxRecDepth 20000 in
theorem gkL_law_L_act_5 : GoodIn wsL_law wsL_act_r6 := goodIn_r _ [153, 154, 155, 156, 157, 158, 159, 160, 161, 41, 162, 163, 164, 165, 166, 167, 168, 169, 170, 171, 172, 173, 174, 175] (by decide +kernel) (by decide +kernel)
set_option maxRecDepth 20000 in
theorem gkL_law_L_act_6 : GoodIn wsL_law wsL_act_r7 := goodIn_r _ [176, 177, 178, 179, 180, 181, 182, 183, 184, 185, 186] (by decide +kernel) (by decide +kernel)
set_option maxRecDepth 20000 in
theorem gkL_law_L_act_7 : GoodIn wsL_law wsX20 := goodIn_r _ [412, 413, 414, 415] (by decide +kernel) (by decide +kernel)
set_option maxRecDepth 20000 in
theorem gkL_law_L_act_8 : GoodIn wsL_law wsX10 := goodIn_r _ [400, 401] (by decide +kernel) (by decide +kernel)
set_option maxRecDepth 20000 in
theorem gkL_law_L_act_9 : GoodIn wsL_law wsX00 := goodIn_r _ [402, 403, 404, 405, 406, 407, 408, 409, 410, 411] (by decide +kernel) (by decide +kernel)
set_option maxRecDepth 20000 in
theorem gkL_law_L_act_c : GoodIn wsL_law [Cond.code yL_act cL_act 9 (some .boolean)] := goodIn_r _ [72] (by decide +kernel) (by decide +kernel)
