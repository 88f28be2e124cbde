set_option maxRecDepth 20000 in
theorem ggL_law_X1_init : GoodIn wsL_law wsX1_init := goodIn_r _ [9, 10, 11, 12, 13, 14, 15, 16, 17, 18, 19, 20, 21, 22, 23, 24, 25, 26, 27, 28, 641, 642, 643, 644, 645, 646, 647, 648, 649, 650, 633, 634] (by decide +kernel) (by decide +kernel)
set_option maxRecDepth 20000 in
theorem gL_law_X1_init : GoodIn wsL_law (wsX1_init) := ggL_law_X1_init
set_option maxRecDepth 20000 in
theorem ggL_law_X2_init : GoodIn wsL_law wsX2_init := goodIn_r _ [31, 32, 11, 12, 21, 33, 34, 35, 635, 636, 637, 638, 639, 640] (by decide +kernel) (by decide +kernel)
set_option maxRecDepth 20000 in
theorem gL_law_X2_init : GoodIn wsL_law (wsX2_init) := ggL_law_X2_init
set_option maxRecDepth 20000 in
theorem ggL_law_L_addPot : GoodIn wsL_law wsL_addPot := goodIn_ca (goodIn_ca (goodIn_r _ [39, 40, 41, 42, 43, 44, 2, 45, 46, 47, 16, 48, 49, 50, 51, 52, 53, 54, 55, 56, 15, 57, 58, 22, 23, 24, 633, 634, 641, 642, 643, 644, 645, 646, 647, 648, 649, 650] (by decide +kernel) (by decide +kernel)) (goodIn_sub (fun _ h => List.mem_append_left _ (List.mem_append_left _ (List.mem_append_right _ h))) (by decide +kernel))) (goodIn_sub (fun _ h => List.mem_append_left _ (List.mem_append_right _ h)) (by decide +kernel))
set_option maxRecDepth 20000 in
theorem gL_law_L_addPot : GoodIn wsL_law (va_wsS RL 78 yL_addPot wsL_addPot) := goodIn_app (goodIn_of _ (by decide +kernel)) ggL_law_L_addPot
set_option maxRecDepth 20000 in
theorem ggL_law_X2_addPot : GoodIn wsL_law wsX2_addPot := goodIn_r _ [62, 63, 64, 33, 34, 65, 66, 5, 67, 68, 69, 70, 71, 635, 636, 637, 638, 639, 640] (by decide +kernel) (by decide +kernel)
set_option maxRecDepth 20000 in
theorem gL_law_X2_addPot : GoodIn wsL_law (wsV RL 83 RX2 yX2_addPot wsX2_addPot) := goodIn_app (goodIn_of _ (by decide +kernel)) ggL_law_X2_addPot
set_option maxRecDepth 20000 in
theorem ggL_law_X2_thrown : GoodIn wsL_law wsX2_thrown := goodIn_r _ [75, 63, 635, 636, 637, 638, 639, 640] (by decide +kernel) (by decide +kernel)
set_option maxRecDepth 20000 in
theorem gL_law_X2_thrown : GoodIn wsL_law (wsV RL 84 RX2 yX2_thrown wsX2_thrown) := goodIn_app (goodIn_of _ (by decide +kernel)) ggL_law_X2_thrown
set_option maxRecDepth 20000 in
theorem ggL_law_L_tune : GoodIn wsL_law wsL_tune := goodIn_ca (goodIn_ca (goodIn_r _ [78, 79, 40, 80, 81, 82, 2, 83, 16, 84, 85, 86, 87, 88, 89, 90, 48, 49, 50, 51, 52, 53, 633, 634, 641, 642, 643, 644, 645, 646, 647, 648, 649, 650] (by decide +kernel) (by decide +kernel)) (goodIn_sub (fun _ h => List.mem_append_right _ h) (by decide +kernel))) (goodIn_sub (fun _ h => List.mem_append_left _ (List.mem_append_right _ h)) (by decide +kernel))
set_option maxRecDepth 20000 in
theorem gL_law_L_tune : GoodIn wsL_law (va_wsS RL 88 yL_tune wsL_tune) := goodIn_app (goodIn_of _ (by decide +kernel)) ggL_law_L_tune
set_option maxRecDepth 20000 in
theorem ggL_law_X2_tune : GoodIn wsL_law wsX2_tune := goodIn_r _ [94, 63, 34, 95, 96, 97, 5, 98, 64, 65, 66, 67, 68, 69, 70, 71, 635, 636, 637, 638, 639, 640] (by decide +kernel) (by decide +kernel)
set_option maxRecDepth 20000 in
theorem gL_law_X2_tune : GoodIn wsL_law (wsV RL 91 RX2 yX2_tune wsX2_tune) := goodIn_app (goodIn_of _ (by decide +kernel)) ggL_law_X2_tune
set_option maxRecDepth 20000 in
theorem ggL_law_L_turnCosy : GoodIn wsL_law wsL_turnCosy := goodIn_ca (goodIn_r _ [101, 79, 102, 103, 104, 2, 105, 16, 106, 85, 86, 87, 88, 89, 90, 48, 633, 634, 641, 642, 643, 644, 645, 646, 647, 648, 649, 650] (by decide +kernel) (by decide +kernel)) (goodIn_sub (fun _ h => List.mem_append_right _ h) (by decide +kernel))
set_option maxRecDepth 20000 in
theorem gL_law_L_turnCosy : GoodIn wsL_law (va_wsS RL 92 yL_turnCosy wsL_turnCosy) := goodIn_app (goodIn_of _ (by decide +kernel)) ggL_law_L_turnCosy
set_option maxRecDepth 20000 in
theorem ggL_law_X2_turnCosy : GoodIn wsL_law wsX2_turnCosy := goodIn_r _ [110, 63, 111, 95, 96, 97, 5, 98, 64, 65, 66, 67, 112, 113, 114, 115, 635, 636, 637, 638, 639, 640] (by decide +kernel) (by decide +kernel)
set_option maxRecDepth 20000 in
theorem gL_law_X2_turnCosy : GoodIn wsL_law (wsV RL 95 RX2 yX2_turnCosy wsX2_turnCosy) := goodIn_app (goodIn_of _ (by decide +kernel)) ggL_law_X2_turnCosy
set_option maxRecDepth 20000 in
theorem ggL_law_L_pour : GoodIn wsL_law wsL_pour := goodIn_ca (goodIn_ca (goodIn_r _ [118, 79, 40, 119, 120, 121, 2, 122, 52, 53, 16, 123, 124, 125, 126, 127, 85, 86, 87, 88, 89, 90, 48, 49, 50, 51, 633, 634, 641, 642, 643, 644, 645, 646, 647, 648, 649, 650] (by decide +kernel) (by decide +kernel)) (goodIn_sub (fun _ h => List.mem_append_left _ (List.mem_append_right _ h)) (by decide +kernel))) (goodIn_sub (fun _ h => List.mem_append_right _ h) (by decide +kernel))
set_option maxRecDepth 20000 in
theorem gL_law_L_pour : GoodIn wsL_law (va_wsS RL 96 yL_pour wsL_pour) := goodIn_app (goodIn_of _ (by decide +kernel)) ggL_law_L_pour
set_option maxRecDepth 20000 in
theorem ggL_law_X2_pour : GoodIn wsL_law wsX2_pour := goodIn_r _ [131, 63, 34, 132, 125, 126, 127, 95, 96, 97, 5, 98, 64, 65, 66, 67, 68, 69, 70, 71, 635, 636, 637, 638, 639, 640] (by decide +kernel) (by decide +kernel)
set_option maxRecDepth 20000 in
theorem gL_law_X2_pour : GoodIn wsL_law (wsV RL 98 RX2 yX2_pour wsX2_pour) := goodIn_app (goodIn_of _ (by decide +kernel)) ggL_law_X2_pour
set_option maxRecDepth 20000 in
theorem ggL_law_L_fill : GoodIn wsL_law wsL_fill := goodIn_ca (goodIn_r _ [135, 79, 136, 137, 138, 2, 139, 16, 123, 85, 86, 87, 88, 89, 90, 48, 633, 634, 641, 642, 643, 644, 645, 646, 647, 648, 649, 650] (by decide +kernel) (by decide +kernel)) (goodIn_sub (fun _ h => List.mem_append_right _ h) (by decide +kernel))
set_option maxRecDepth 20000 in
theorem gL_law_L_fill : GoodIn wsL_law (va_wsS RL 99 yL_fill wsL_fill) := goodIn_app (goodIn_of _ (by decide +kernel)) ggL_law_L_fill
set_option maxRecDepth 20000 in
theorem ggL_law_X2_fill : GoodIn wsL_law wsX2_fill := goodIn_r _ [143, 63, 34, 95, 96, 97, 5, 98, 64, 65, 66, 67, 68, 69, 70, 71, 635, 636, 637, 638, 639, 640] (by decide +kernel) (by decide +kernel)
set_option maxRecDepth 20000 in
theorem gL_law_X2_fill : GoodIn wsL_law (wsV RL 101 RX2 yX2_fill wsX2_fill) := goodIn_app (goodIn_of _ (by decide +kernel)) ggL_law_X2_fill
set_option maxRecDepth 20000 in
theorem ggL_law_L_mend : GoodIn wsL_law wsL_mend := goodIn_ca (goodIn_r _ [146, 79, 147, 148, 149, 2, 150, 16, 151, 123, 85, 86, 87, 88, 89, 90, 48, 633, 634, 641, 642, 643, 644, 645, 646, 647, 648, 649, 650] (by decide +kernel) (by decide +kernel)) (goodIn_sub (fun _ h => List.mem_append_right _ h) (by decide +kernel))
set_option maxRecDepth 20000 in
theorem gL_law_L_mend : GoodIn wsL_law (va_wsS RL 102 yL_mend wsL_mend) := goodIn_app (goodIn_of _ (by decide +kernel)) ggL_law_L_mend
set_option maxRecDepth 20000 in
theorem ggL_law_X2_mend : GoodIn wsL_law wsX2_mend := goodIn_r _ [155, 63, 34, 95, 96, 97, 5, 98, 64, 65, 66, 67, 68, 69, 70, 71, 635, 636, 637, 638, 639, 640] (by decide +kernel) (by decide +kernel)
set_option maxRecDepth 20000 in
theorem gL_law_X2_mend : GoodIn wsL_law (wsV RL 104 RX2 yX2_mend wsX2_mend) := goodIn_app (goodIn_of _ (by decide +kernel)) ggL_law_X2_mend
set_option maxRecDepth 20000 in
theorem ggL_law_L_sing : GoodIn wsL_law wsL_sing := goodIn_ca (goodIn_r _ [158, 40, 159, 160, 161, 2, 162, 16, 163, 49, 50, 51, 52, 53, 164, 165, 166, 15, 167, 168, 169, 170, 171, 172, 173, 58, 27, 174, 25, 175, 176, 126, 177, 178, 179, 180, 181, 182, 183, 184, 185, 186, 187, 188, 189, 24, 190, 191, 192, 193, 23, 194, 195, 196, 197, 198, 199, 200, 201, 202, 203, 204, 205, 206, 207, 125, 127, 633, 634, 641, 642, 643, 644, 645, 646, 647, 648, 649, 650] (by decide +kernel) (by decide +kernel)) (goodIn_sub (fun _ h => List.mem_append_left _ (List.mem_append_right _ h)) (by decide +kernel))
set_option maxRecDepth 20000 in
theorem gL_law_L_sing : GoodIn wsL_law (va_wsS RL 105 yL_sing wsL_sing) := goodIn_app (goodIn_of _ (by decide +kernel)) ggL_law_L_sing
set_option maxRecDepth 20000 in
theorem ggL_law_X2_sing : GoodIn wsL_law wsX2_sing := goodIn_r _ [211, 63, 65, 66, 5, 67, 212, 213, 214, 215, 216, 217, 218, 219, 34, 64, 220, 176, 126, 177, 132, 125, 127, 111, 221, 222, 223, 224, 225, 226, 227, 228, 229, 230, 231, 232, 233, 234, 235, 236, 237, 238, 239, 240, 241, 242, 243, 244, 245, 201, 202, 246, 247, 248, 249, 250, 251, 252, 253, 254, 255, 256, 68, 69, 70, 71, 635, 636, 637, 638, 639, 640] (by decide +kernel) (by decide +kernel)
set_option maxRecDepth 20000 in
theorem gL_law_X2_sing : GoodIn wsL_law (wsV RL 107 RX2 yX2_sing wsX2_sing) := goodIn_app (goodIn_of _ (by decide +kernel)) ggL_law_X2_sing
set_option maxRecDepth 20000 in
theorem ggL_law_X1_pots : GoodIn wsL_law wsX1_pots := goodIn_r _ [260, 16, 48, 633, 634, 641, 642, 643, 644, 645, 646, 647, 648, 649, 650] (by decide +kernel) (by decide +kernel)
