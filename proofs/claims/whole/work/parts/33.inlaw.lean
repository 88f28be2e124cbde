set_option maxRecDepth 20000 in
theorem ggL_law_L_interval : GoodIn wsL_law wsL_interval := goodIn_ca (goodIn_r _ [365, 79, 366, 367, 368, 2, 369, 16, 84, 200, 201, 126, 202, 85, 86, 87, 88, 89, 90, 48, 633, 634, 641, 642, 643, 644, 645, 646, 647, 648, 649, 650] (by decide +kernel) (by decide +kernel)) (goodIn_sub (fun _ h => List.mem_append_right _ h) (by decide +kernel))
set_option maxRecDepth 20000 in
theorem gL_law_L_interval : GoodIn wsL_law (va_wsS RL 138 yL_interval wsL_interval) := goodIn_app (goodIn_of _ (by decide +kernel)) ggL_law_L_interval
set_option maxRecDepth 20000 in
theorem ggL_law_X2_interval : GoodIn wsL_law wsX2_interval := goodIn_r _ [373, 63, 95, 96, 97, 5, 98, 64, 65, 66, 67, 241, 242, 243, 244, 34, 245, 201, 126, 202, 68, 69, 70, 71, 635, 636, 637, 638, 639, 640] (by decide +kernel) (by decide +kernel)
set_option maxRecDepth 20000 in
theorem gL_law_X2_interval : GoodIn wsL_law (wsV RL 140 RX2 yX2_interval wsX2_interval) := goodIn_app (goodIn_of _ (by decide +kernel)) ggL_law_X2_interval
set_option maxRecDepth 20000 in
theorem ggL_law_L_areInAccord : GoodIn wsL_law wsL_areInAccord := goodIn_ca (goodIn_r _ [376, 79, 377, 378, 379, 2, 380, 16, 84, 85, 86, 87, 88, 89, 90, 48, 381, 198, 199, 200, 201, 126, 202, 633, 634, 641, 642, 643, 644, 645, 646, 647, 648, 649, 650] (by decide +kernel) (by decide +kernel)) (goodIn_sub (fun _ h => List.mem_append_right _ h) (by decide +kernel))
set_option maxRecDepth 20000 in
theorem gL_law_L_areInAccord : GoodIn wsL_law (va_wsS RL 141 yL_areInAccord wsL_areInAccord) := goodIn_app (goodIn_of _ (by decide +kernel)) ggL_law_L_areInAccord
set_option maxRecDepth 20000 in
theorem ggL_law_X2_areInAccord : GoodIn wsL_law wsX2_areInAccord := goodIn_r _ [385, 63, 95, 96, 97, 5, 98, 64, 65, 66, 67, 237, 238, 239, 240, 241, 242, 243, 244, 34, 245, 201, 126, 202, 112, 113, 114, 115, 635, 636, 637, 638, 639, 640] (by decide +kernel) (by decide +kernel)
set_option maxRecDepth 20000 in
theorem gL_law_X2_areInAccord : GoodIn wsL_law (wsV RL 143 RX2 yX2_areInAccord wsX2_areInAccord) := goodIn_app (goodIn_of _ (by decide +kernel)) ggL_law_X2_areInAccord
set_option maxRecDepth 20000 in
theorem ggL_law_X1_harmony : GoodIn wsL_law wsX1_harmony := goodIn_r _ [389, 16, 390, 391, 392, 15, 393, 182, 183, 184, 185, 58, 186, 187, 188, 189, 24, 27, 190, 191, 192, 193, 23, 194, 195, 196, 197, 198, 2, 199, 200, 201, 126, 202, 633, 634, 641, 642, 643, 644, 645, 646, 647, 648, 649, 650] (by decide +kernel) (by decide +kernel)
set_option maxRecDepth 20000 in
theorem gL_law_X1_harmony : GoodIn wsL_law (wsV RL 144 RX1 yX1_harmony wsX1_harmony) := goodIn_app (goodIn_of _ (by decide +kernel)) ggL_law_X1_harmony
set_option maxRecDepth 20000 in
theorem ggL_law_X2_harmony : GoodIn wsL_law wsX2_harmony := goodIn_r _ [397, 221, 222, 223, 5, 224, 64, 225, 226, 227, 228, 34, 111, 398, 399, 400, 401, 250, 251, 252, 253, 254, 255, 256, 229, 230, 231, 232, 233, 234, 235, 236, 237, 238, 239, 240, 241, 242, 243, 244, 245, 201, 126, 202, 265, 266, 267, 268, 63, 635, 636, 637, 638, 639, 640] (by decide +kernel) (by decide +kernel)
set_option maxRecDepth 20000 in
theorem gL_law_X2_harmony : GoodIn wsL_law (wsV RL 147 RX2 yX2_harmony wsX2_harmony) := goodIn_app (goodIn_of _ (by decide +kernel)) ggL_law_X2_harmony
set_option maxRecDepth 20000 in
theorem ggL_law_X1_clashes : GoodIn wsL_law wsX1_clashes := goodIn_r _ [405, 16, 406, 191, 192, 15, 193, 58, 23, 186, 187, 188, 189, 24, 27, 194, 195, 196, 197, 198, 2, 199, 200, 201, 126, 202, 633, 634, 641, 642, 643, 644, 645, 646, 647, 648, 649, 650] (by decide +kernel) (by decide +kernel)
set_option maxRecDepth 20000 in
theorem gL_law_X1_clashes : GoodIn wsL_law (wsV RL 148 RX1 yX1_clashes wsX1_clashes) := goodIn_app (goodIn_of _ (by decide +kernel)) ggL_law_X1_clashes
set_option maxRecDepth 20000 in
theorem ggL_law_X2_clashes : GoodIn wsL_law wsX2_clashes := goodIn_r _ [410, 221, 222, 223, 5, 224, 64, 225, 226, 227, 228, 34, 111, 229, 230, 231, 232, 233, 234, 235, 236, 237, 238, 239, 240, 241, 242, 243, 244, 245, 201, 126, 202, 265, 266, 267, 268, 63, 635, 636, 637, 638, 639, 640] (by decide +kernel) (by decide +kernel)
set_option maxRecDepth 20000 in
theorem gL_law_X2_clashes : GoodIn wsL_law (wsV RL 151 RX2 yX2_clashes wsX2_clashes) := goodIn_app (goodIn_of _ (by decide +kernel)) ggL_law_X2_clashes
set_option maxRecDepth 20000 in
theorem ggL_law_L_clashesOf : GoodIn wsL_law wsL_clashesOf := goodIn_ca (goodIn_r _ [413, 79, 414, 415, 416, 2, 417, 16, 84, 85, 86, 87, 88, 89, 90, 48, 325, 187, 188, 15, 189, 24, 27, 418, 195, 196, 197, 58, 23, 186, 198, 199, 200, 201, 126, 202, 633, 634, 641, 642, 643, 644, 645, 646, 647, 648, 649, 650] (by decide +kernel) (by decide +kernel)) (goodIn_sub (fun _ h => List.mem_append_right _ h) (by decide +kernel))
set_option maxRecDepth 20000 in
theorem gL_law_L_clashesOf : GoodIn wsL_law (va_wsS RL 152 yL_clashesOf wsL_clashesOf) := goodIn_app (goodIn_of _ (by decide +kernel)) ggL_law_L_clashesOf
set_option maxRecDepth 20000 in
theorem ggL_law_X2_clashesOf : GoodIn wsL_law wsX2_clashesOf := goodIn_r _ [422, 63, 95, 96, 97, 5, 98, 64, 65, 66, 67, 423, 424, 425, 426, 225, 226, 227, 228, 34, 111, 221, 222, 223, 224, 233, 234, 235, 236, 237, 238, 239, 240, 241, 242, 243, 244, 245, 201, 126, 202, 68, 69, 70, 71, 635, 636, 637, 638, 639, 640] (by decide +kernel) (by decide +kernel)
set_option maxRecDepth 20000 in
theorem gL_law_X2_clashesOf : GoodIn wsL_law (wsV RL 154 RX2 yX2_clashesOf wsX2_clashesOf) := goodIn_app (goodIn_of _ (by decide +kernel)) ggL_law_X2_clashesOf
set_option maxRecDepth 20000 in
theorem ggL_law_X1_harshest : GoodIn wsL_law wsX1_harshest := goodIn_r _ [430, 16, 406, 191, 192, 15, 193, 58, 23, 186, 187, 188, 189, 24, 27, 194, 195, 196, 197, 198, 2, 199, 200, 201, 126, 202, 431, 432, 433, 434, 633, 634, 641, 642, 643, 644, 645, 646, 647, 648, 649, 650] (by decide +kernel) (by decide +kernel)
set_option maxRecDepth 20000 in
theorem gL_law_X1_harshest : GoodIn wsL_law (wsV RL 155 RX1 yX1_harshest wsX1_harshest) := goodIn_app (goodIn_of _ (by decide +kernel)) ggL_law_X1_harshest
set_option maxRecDepth 20000 in
theorem ggL_law_X2_harshest : GoodIn wsL_law wsX2_harshest := goodIn_r _ [438, 439, 440, 441, 5, 442, 64, 423, 424, 425, 426, 225, 226, 227, 228, 34, 111, 221, 222, 223, 224, 233, 234, 235, 236, 237, 238, 239, 240, 241, 242, 243, 244, 245, 201, 126, 202, 265, 266, 267, 268, 63, 635, 636, 637, 638, 639, 640] (by decide +kernel) (by decide +kernel)
set_option maxRecDepth 20000 in
theorem gL_law_X2_harshest : GoodIn wsL_law (wsV RL 158 RX2 yX2_harshest wsX2_harshest) := goodIn_app (goodIn_of _ (by decide +kernel)) ggL_law_X2_harshest
set_option maxRecDepth 20000 in
theorem ggL_law_X1_lowest : GoodIn wsL_law wsX1_lowest := goodIn_r _ [446, 16, 447, 448, 449, 15, 450, 58, 23, 186, 187, 188, 189, 24, 27, 633, 634, 641, 642, 643, 644, 645, 646, 647, 648, 649, 650] (by decide +kernel) (by decide +kernel)
set_option maxRecDepth 20000 in
theorem gL_law_X1_lowest : GoodIn wsL_law (wsV RL 159 RX1 yX1_lowest wsX1_lowest) := goodIn_app (goodIn_of _ (by decide +kernel)) ggL_law_X1_lowest
set_option maxRecDepth 20000 in
theorem ggL_law_X2_lowest : GoodIn wsL_law wsX2_lowest := goodIn_r _ [454, 455, 456, 457, 5, 458, 64, 34, 225, 226, 227, 228, 111, 265, 266, 267, 268, 63, 635, 636, 637, 638, 639, 640] (by decide +kernel) (by decide +kernel)
set_option maxRecDepth 20000 in
theorem gL_law_X2_lowest : GoodIn wsL_law (wsV RL 162 RX2 yX2_lowest wsX2_lowest) := goodIn_app (goodIn_of _ (by decide +kernel)) ggL_law_X2_lowest
set_option maxRecDepth 20000 in
theorem ggL_law_X1_isClear : GoodIn wsL_law wsX1_isClear := goodIn_r _ [462, 16, 463, 179, 180, 15, 181, 182, 183, 184, 185, 58, 186, 187, 188, 189, 24, 27, 190, 191, 192, 193, 23, 194, 195, 196, 197, 198, 2, 199, 200, 201, 126, 202, 633, 634, 641, 642, 643, 644, 645, 646, 647, 648, 649, 650] (by decide +kernel) (by decide +kernel)
set_option maxRecDepth 20000 in
theorem gL_law_X1_isClear : GoodIn wsL_law (wsV RL 163 RX1 yX1_isClear wsX1_isClear) := goodIn_app (goodIn_of _ (by decide +kernel)) ggL_law_X1_isClear
set_option maxRecDepth 20000 in
theorem ggL_law_X2_isClear : GoodIn wsL_law wsX2_isClear := goodIn_r _ [467, 63, 246, 247, 248, 5, 249, 221, 222, 223, 224, 64, 225, 226, 227, 228, 34, 111, 250, 251, 252, 253, 254, 255, 256, 229, 230, 231, 232, 233, 234, 235, 236, 237, 238, 239, 240, 241, 242, 243, 244, 245, 201, 126, 202, 635, 636, 637, 638, 639, 640] (by decide +kernel) (by decide +kernel)
set_option maxRecDepth 20000 in
theorem gL_law_X2_isClear : GoodIn wsL_law (wsV RL 167 RX2 yX2_isClear wsX2_isClear) := goodIn_app (goodIn_of _ (by decide +kernel)) ggL_law_X2_isClear
set_option maxRecDepth 20000 in
theorem ggL_law_X1_cadences : GoodIn wsL_law wsX1_cadences := goodIn_r _ [471, 16, 163, 633, 634, 641, 642, 643, 644, 645, 646, 647, 648, 649, 650] (by decide +kernel) (by decide +kernel)
set_option maxRecDepth 20000 in
theorem gL_law_X1_cadences : GoodIn wsL_law (wsV RL 168 RX1 yX1_cadences wsX1_cadences) := goodIn_app (goodIn_of _ (by decide +kernel)) ggL_law_X1_cadences
set_option maxRecDepth 20000 in
theorem ggL_law_X2_cadences : GoodIn wsL_law wsX2_cadences := goodIn_r _ [475, 34, 265, 266, 267, 5, 268, 63, 635, 636, 637, 638, 639, 640] (by decide +kernel) (by decide +kernel)
