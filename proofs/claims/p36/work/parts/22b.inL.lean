set_option maxRecDepth 20000 in
theorem ggL_act_L_below : GoodIn wsL_act wsL_below := goodIn_r _ [6, 7] (by decide +kernel) (by decide +kernel)
set_option maxRecDepth 20000 in
theorem gL_act_L_below : GoodIn wsL_act (va_wsS RL 15 yL_below wsL_below) := goodIn_app (goodIn_of _ (by decide +kernel)) ggL_act_L_below
set_option maxRecDepth 20000 in
theorem ggL_act_X2_with : GoodIn wsL_act wsX2_with := goodIn_r _ [11, 12] (by decide +kernel) (by decide +kernel)
set_option maxRecDepth 20000 in
theorem gL_act_X2_with : GoodIn wsL_act (va_wsS RL 21 yX2_with wsX2_with) := goodIn_app (goodIn_of _ (by decide +kernel)) ggL_act_X2_with
set_option maxRecDepth 20000 in
theorem ggL_act_X1_addPot : GoodIn wsL_act wsX1_addPot := goodIn_ca (goodIn_ca (goodIn_r _ [17, 18, 19, 20, 21, 22, 23, 16, 24, 25, 26, 27, 28, 29, 30, 31, 32, 33, 34, 35, 160, 161, 162, 163, 164, 165, 166, 167, 168, 169, 170, 171] (by decide +kernel) (by decide +kernel)) (goodIn_sub (fun _ h => List.mem_cons_of_mem _ (List.mem_append_left _ (List.mem_append_left _ (List.mem_append_right _ h)))) (by decide +kernel))) (goodIn_sub (fun _ h => List.mem_cons_of_mem _ (List.mem_append_left _ (List.mem_append_right _ h))) (by decide +kernel))
set_option maxRecDepth 20000 in
theorem gL_act_X1_addPot : GoodIn wsL_act (wsV RL 25 RX1 yX1_addPot wsX1_addPot) := goodIn_app (goodIn_of _ (by decide +kernel)) ggL_act_X1_addPot
set_option maxRecDepth 20000 in
theorem ggL_act_X1_tune : GoodIn wsL_act wsX1_tune := goodIn_ca (goodIn_ca (goodIn_r _ [39, 20, 40, 41, 42, 43, 16, 44, 45, 46, 21, 22, 23, 24, 25, 26, 160, 161, 162, 163, 164, 165, 166, 167, 168, 169, 170, 171] (by decide +kernel) (by decide +kernel)) (goodIn_sub (fun _ h => List.mem_cons_of_mem _ (List.mem_append_right _ h)) (by decide +kernel))) (goodIn_sub (fun _ h => List.mem_cons_of_mem _ (List.mem_append_left _ (List.mem_append_right _ h))) (by decide +kernel))
set_option maxRecDepth 20000 in
theorem gL_act_X1_tune : GoodIn wsL_act (wsV RL 31 RX1 yX1_tune wsX1_tune) := goodIn_app (goodIn_of _ (by decide +kernel)) ggL_act_X1_tune
set_option maxRecDepth 20000 in
theorem ggL_act_X1_turnCosy : GoodIn wsL_act wsX1_turnCosy := goodIn_ca (goodIn_r _ [50, 20, 51, 41, 42, 43, 16, 44, 45, 46, 21, 160, 161, 162, 163, 164, 165, 166, 167, 168, 169, 170, 171] (by decide +kernel) (by decide +kernel)) (goodIn_sub (fun _ h => List.mem_cons_of_mem _ (List.mem_append_right _ h)) (by decide +kernel))
set_option maxRecDepth 20000 in
theorem gL_act_X1_turnCosy : GoodIn wsL_act (wsV RL 34 RX1 yX1_turnCosy wsX1_turnCosy) := goodIn_app (goodIn_of _ (by decide +kernel)) ggL_act_X1_turnCosy
set_option maxRecDepth 20000 in
theorem ggL_act_X1_pour : GoodIn wsL_act wsX1_pour := goodIn_ca (goodIn_ca (goodIn_r _ [55, 25, 26, 20, 56, 57, 58, 59, 60, 41, 42, 43, 16, 44, 45, 46, 21, 22, 23, 24, 160, 161, 162, 163, 164, 165, 166, 167, 168, 169, 170, 171] (by decide +kernel) (by decide +kernel)) (goodIn_sub (fun _ h => List.mem_cons_of_mem _ (List.mem_append_left _ (List.mem_append_right _ h))) (by decide +kernel))) (goodIn_sub (fun _ h => List.mem_cons_of_mem _ (List.mem_append_right _ h)) (by decide +kernel))
set_option maxRecDepth 20000 in
theorem gL_act_X1_pour : GoodIn wsL_act (wsV RL 38 RX1 yX1_pour wsX1_pour) := goodIn_app (goodIn_of _ (by decide +kernel)) ggL_act_X1_pour
set_option maxRecDepth 20000 in
theorem ggL_act_X1_fill : GoodIn wsL_act wsX1_fill := goodIn_ca (goodIn_r _ [64, 20, 56, 41, 42, 43, 16, 44, 45, 46, 21, 160, 161, 162, 163, 164, 165, 166, 167, 168, 169, 170, 171] (by decide +kernel) (by decide +kernel)) (goodIn_sub (fun _ h => List.mem_cons_of_mem _ (List.mem_append_right _ h)) (by decide +kernel))
set_option maxRecDepth 20000 in
theorem gL_act_X1_fill : GoodIn wsL_act (wsV RL 41 RX1 yX1_fill wsX1_fill) := goodIn_app (goodIn_of _ (by decide +kernel)) ggL_act_X1_fill
set_option maxRecDepth 20000 in
theorem ggL_act_X1_mend : GoodIn wsL_act wsX1_mend := goodIn_ca (goodIn_r _ [68, 20, 69, 56, 41, 42, 43, 16, 44, 45, 46, 21, 160, 161, 162, 163, 164, 165, 166, 167, 168, 169, 170, 171] (by decide +kernel) (by decide +kernel)) (goodIn_sub (fun _ h => List.mem_cons_of_mem _ (List.mem_append_right _ h)) (by decide +kernel))
set_option maxRecDepth 20000 in
theorem gL_act_X1_mend : GoodIn wsL_act (wsV RL 45 RX1 yX1_mend wsX1_mend) := goodIn_app (goodIn_of _ (by decide +kernel)) ggL_act_X1_mend
set_option maxRecDepth 20000 in
theorem ggL_act_X1_sing : GoodIn wsL_act wsX1_sing := goodIn_ca (goodIn_r _ [73, 20, 74, 22, 23, 16, 24, 25, 26, 75, 76, 77, 30, 78, 79, 80, 81, 82, 83, 84, 32, 85, 86, 87, 88, 89, 59, 90, 91, 92, 93, 94, 95, 96, 97, 98, 99, 100, 101, 102, 35, 103, 104, 105, 106, 34, 107, 108, 109, 110, 111, 112, 113, 114, 115, 116, 117, 118, 119, 120, 58, 60, 160, 161, 162, 163, 164, 165, 166, 167, 168, 169, 170, 171] (by decide +kernel) (by decide +kernel)) (goodIn_sub (fun _ h => List.mem_cons_of_mem _ (List.mem_append_left _ (List.mem_append_right _ h))) (by decide +kernel))
set_option maxRecDepth 20000 in
theorem gL_act_X1_sing : GoodIn wsL_act (wsV RL 48 RX1 yX1_sing wsX1_sing) := goodIn_app (goodIn_of _ (by decide +kernel)) ggL_act_X1_sing
set_option maxRecDepth 20000 in
theorem ggL_act_X2_sing_ : GoodIn wsL_act wsX2_sing_ := goodIn_r _ [124, 125, 126, 127, 10, 128, 129, 130, 131, 132, 133, 134, 135, 136, 137, 138, 139, 140, 141, 142, 143, 144, 145, 146, 147, 148, 149, 150, 151, 152, 153, 154, 155, 156, 157, 158, 159] (by decide +kernel) (by decide +kernel)
set_option maxRecDepth 20000 in
theorem gL_act_X2_sing_ : GoodIn wsL_act (wsV RL 51 RX2 yX2_sing_ wsX2_sing_) := goodIn_app (goodIn_of _ (by decide +kernel)) ggL_act_X2_sing_
set_option maxRecDepth 20000 in
theorem ggL_build_X2_init : GoodIn wsL_build wsX2_init := goodIn_r _ [7, 8, 9, 10, 11, 12, 48, 49, 50, 51] (by decide +kernel) (by decide +kernel)
set_option maxRecDepth 20000 in
theorem gL_build_X2_init_n52 : GoodIn wsL_build (wsX2_init) := ggL_build_X2_init
set_option maxRecDepth 20000 in
theorem ggL_build_L_cell : GoodIn wsL_build wsL_cell := goodIn_r _ [16, 17] (by decide +kernel) (by decide +kernel)
set_option maxRecDepth 20000 in
theorem gL_build_L_cell : GoodIn wsL_build (va_wsS RL 53 yL_cell wsL_cell) := goodIn_app (goodIn_of _ (by decide +kernel)) ggL_build_L_cell
set_option maxRecDepth 20000 in
theorem ggL_build_L_below : GoodIn wsL_build wsL_below := goodIn_r _ [20, 21] (by decide +kernel) (by decide +kernel)
set_option maxRecDepth 20000 in
theorem gL_build_L_below : GoodIn wsL_build (va_wsS RL 15 yL_below wsL_below) := goodIn_app (goodIn_of _ (by decide +kernel)) ggL_build_L_below
set_option maxRecDepth 20000 in
theorem ggL_build_X2_with : GoodIn wsL_build wsX2_with := goodIn_r _ [24, 11] (by decide +kernel) (by decide +kernel)
set_option maxRecDepth 20000 in
theorem gL_build_X2_with : GoodIn wsL_build (va_wsS RL 21 yX2_with wsX2_with) := goodIn_app (goodIn_of _ (by decide +kernel)) ggL_build_X2_with
set_option maxRecDepth 20000 in
theorem ggL_build_X1_addPot : GoodIn wsL_build wsX1_addPot := goodIn_ca (goodIn_ca (goodIn_r _ [29, 30, 31, 32, 33, 34, 35, 28, 36, 37, 38, 39, 40, 41, 42, 43, 44, 45, 46, 47, 52, 53, 54, 55, 56, 57, 58, 59, 60, 61, 62, 63] (by decide +kernel) (by decide +kernel)) (goodIn_sub (fun _ h => List.mem_cons_of_mem _ (List.mem_append_left _ (List.mem_append_right _ h))) (by decide +kernel))) (goodIn_sub (fun _ h => List.mem_cons_of_mem _ (List.mem_append_right _ h)) (by decide +kernel))
set_option maxRecDepth 20000 in
theorem gL_build_X1_addPot : GoodIn wsL_build (wsV RL 25 RX1 yX1_addPot wsX1_addPot) := goodIn_app (goodIn_of _ (by decide +kernel)) ggL_build_X1_addPot
