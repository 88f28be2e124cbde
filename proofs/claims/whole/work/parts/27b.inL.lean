set_option maxRecDepth 20000 in
theorem ggL_addPot_X1_addPot : GoodIn wsL_addPot wsX1_addPot := goodIn_ca (goodIn_ca (goodIn_r _ [7, 8, 9, 10, 11, 12, 13, 6, 14, 15, 16, 17, 18, 19, 20, 21, 22, 23, 24, 25, 26, 27, 28, 29, 30, 31, 32, 33, 34, 35, 36, 37] (by decide +kernel) (by decide +kernel)) (goodIn_sub (fun _ h => List.mem_cons_of_mem _ (List.mem_append_left _ (List.mem_append_right _ h))) (by decide +kernel))) (goodIn_sub (fun _ h => List.mem_cons_of_mem _ (List.mem_append_right _ h)) (by decide +kernel))
set_option maxRecDepth 20000 in
theorem gL_addPot_X1_addPot : GoodIn wsL_addPot (wsV RL 7 RX1 yX1_addPot wsX1_addPot) := goodIn_app (goodIn_of _ (by decide +kernel)) ggL_addPot_X1_addPot
set_option maxRecDepth 20000 in
theorem ggL_tune_X1_tune : GoodIn wsL_tune wsX1_tune := goodIn_ca (goodIn_ca (goodIn_r _ [7, 8, 9, 10, 11, 12, 6, 13, 14, 15, 16, 17, 18, 19, 20, 21, 22, 23, 24, 25, 26, 27, 28, 29, 30, 31, 32, 33] (by decide +kernel) (by decide +kernel)) (goodIn_sub (fun _ h => List.mem_cons_of_mem _ (List.mem_append_left _ (List.mem_append_right _ h))) (by decide +kernel))) (goodIn_sub (fun _ h => List.mem_cons_of_mem _ (List.mem_append_right _ h)) (by decide +kernel))
set_option maxRecDepth 20000 in
theorem gL_tune_X1_tune : GoodIn wsL_tune (wsV RL 17 RX1 yX1_tune wsX1_tune) := goodIn_app (goodIn_of _ (by decide +kernel)) ggL_tune_X1_tune
set_option maxRecDepth 20000 in
theorem ggL_turnCosy_X1_turnCosy : GoodIn wsL_turnCosy wsX1_turnCosy := goodIn_ca (goodIn_r _ [6, 7, 8, 9, 10, 11, 5, 12, 13, 14, 15, 16, 17, 18, 19, 20, 21, 22, 23, 24, 25, 26, 27] (by decide +kernel) (by decide +kernel)) (goodIn_sub (fun _ h => List.mem_cons_of_mem _ (List.mem_append_right _ h)) (by decide +kernel))
set_option maxRecDepth 20000 in
theorem gL_turnCosy_X1_turnCosy : GoodIn wsL_turnCosy (wsV RL 23 RX1 yX1_turnCosy wsX1_turnCosy) := goodIn_app (goodIn_of _ (by decide +kernel)) ggL_turnCosy_X1_turnCosy
set_option maxRecDepth 20000 in
theorem ggL_pour_X1_pour : GoodIn wsL_pour wsX1_pour := goodIn_ca (goodIn_ca (goodIn_r _ [7, 8, 9, 10, 11, 12, 13, 14, 15, 16, 17, 18, 6, 19, 20, 21, 22, 23, 24, 25, 26, 27, 28, 29, 30, 31, 32, 33, 34, 35, 36, 37] (by decide +kernel) (by decide +kernel)) (goodIn_sub (fun _ h => List.mem_cons_of_mem _ (List.mem_append_left _ (List.mem_append_right _ h))) (by decide +kernel))) (goodIn_sub (fun _ h => List.mem_cons_of_mem _ (List.mem_append_right _ h)) (by decide +kernel))
set_option maxRecDepth 20000 in
theorem gL_pour_X1_pour : GoodIn wsL_pour (wsV RL 27 RX1 yX1_pour wsX1_pour) := goodIn_app (goodIn_of _ (by decide +kernel)) ggL_pour_X1_pour
set_option maxRecDepth 20000 in
theorem ggL_fill_X1_fill : GoodIn wsL_fill wsX1_fill := goodIn_ca (goodIn_r _ [6, 7, 8, 9, 10, 11, 5, 12, 13, 14, 15, 16, 17, 18, 19, 20, 21, 22, 23, 24, 25, 26, 27] (by decide +kernel) (by decide +kernel)) (goodIn_sub (fun _ h => List.mem_cons_of_mem _ (List.mem_append_right _ h)) (by decide +kernel))
set_option maxRecDepth 20000 in
theorem gL_fill_X1_fill : GoodIn wsL_fill (wsV RL 30 RX1 yX1_fill wsX1_fill) := goodIn_app (goodIn_of _ (by decide +kernel)) ggL_fill_X1_fill
set_option maxRecDepth 20000 in
theorem ggL_mend_X1_mend : GoodIn wsL_mend wsX1_mend := goodIn_ca (goodIn_r _ [6, 7, 8, 9, 10, 11, 12, 5, 13, 14, 15, 16, 17, 18, 19, 20, 21, 22, 23, 24, 25, 26, 27, 28] (by decide +kernel) (by decide +kernel)) (goodIn_sub (fun _ h => List.mem_cons_of_mem _ (List.mem_append_right _ h)) (by decide +kernel))
set_option maxRecDepth 20000 in
theorem gL_mend_X1_mend : GoodIn wsL_mend (wsV RL 34 RX1 yX1_mend wsX1_mend) := goodIn_app (goodIn_of _ (by decide +kernel)) ggL_mend_X1_mend
set_option maxRecDepth 20000 in
theorem ggL_sing_X1_sing : GoodIn wsL_sing wsX1_sing := goodIn_ca (goodIn_r _ [6, 7, 8, 9, 10, 5, 11, 12, 13, 14, 15, 16, 17, 18, 19, 20, 21, 22, 23, 24, 25, 26, 27, 28, 29, 30, 31, 32, 33, 34, 35, 36, 37, 38, 39, 40, 41, 42, 43, 44, 45, 46, 47, 48, 49, 50, 51, 52, 53, 54, 55, 56, 57, 58, 59, 60, 61, 62, 63, 64, 65, 66, 67, 68, 69, 70, 71, 72, 73, 74, 75, 76, 77, 78] (by decide +kernel) (by decide +kernel)) (goodIn_sub (fun _ h => List.mem_cons_of_mem _ (List.mem_append_right _ h)) (by decide +kernel))
set_option maxRecDepth 20000 in
theorem gL_sing_X1_sing : GoodIn wsL_sing (wsV RL 37 RX1 yX1_sing wsX1_sing) := goodIn_app (goodIn_of _ (by decide +kernel)) ggL_sing_X1_sing
set_option maxRecDepth 20000 in
theorem ggL_partOf_X1_partOf : GoodIn wsL_partOf wsX1_partOf := goodIn_ca (goodIn_r _ [6, 7, 8, 9, 10, 11, 5, 12, 13, 14, 15, 16, 17, 18, 19, 20, 21, 22, 23, 24, 25, 26, 27] (by decide +kernel) (by decide +kernel)) (goodIn_sub (fun _ h => List.mem_cons_of_mem _ (List.mem_append_right _ h)) (by decide +kernel))
set_option maxRecDepth 20000 in
theorem gL_partOf_X1_partOf : GoodIn wsL_partOf (wsV RL 40 RX1 yX1_partOf wsX1_partOf) := goodIn_app (goodIn_of _ (by decide +kernel)) ggL_partOf_X1_partOf
set_option maxRecDepth 20000 in
theorem ggL_pitchOf_X1_pitchOf : GoodIn wsL_pitchOf wsX1_pitchOf := goodIn_ca (goodIn_r _ [6, 7, 8, 9, 10, 11, 5, 12, 13, 14, 15, 16, 17, 18, 19, 20, 21, 22, 23, 24, 25, 26, 27] (by decide +kernel) (by decide +kernel)) (goodIn_sub (fun _ h => List.mem_cons_of_mem _ (List.mem_append_right _ h)) (by decide +kernel))
set_option maxRecDepth 20000 in
theorem gL_pitchOf_X1_pitchOf : GoodIn wsL_pitchOf (wsV RL 43 RX1 yX1_pitchOf wsX1_pitchOf) := goodIn_app (goodIn_of _ (by decide +kernel)) ggL_pitchOf_X1_pitchOf
set_option maxRecDepth 20000 in
theorem ggL_teaOf_X1_teaOf : GoodIn wsL_teaOf wsX1_teaOf := goodIn_ca (goodIn_r _ [6, 7, 8, 9, 10, 11, 5, 12, 13, 14, 15, 16, 17, 18, 19, 20, 21, 22, 23, 24, 25, 26, 27] (by decide +kernel) (by decide +kernel)) (goodIn_sub (fun _ h => List.mem_cons_of_mem _ (List.mem_append_right _ h)) (by decide +kernel))
set_option maxRecDepth 20000 in
theorem gL_teaOf_X1_teaOf : GoodIn wsL_teaOf (wsV RL 46 RX1 yX1_teaOf wsX1_teaOf) := goodIn_app (goodIn_of _ (by decide +kernel)) ggL_teaOf_X1_teaOf
set_option maxRecDepth 20000 in
theorem ggL_crackOf_X1_crackOf : GoodIn wsL_crackOf wsX1_crackOf := goodIn_ca (goodIn_r _ [6, 7, 8, 9, 10, 11, 5, 12, 13, 14, 15, 16, 17, 18, 19, 20, 21, 22, 23, 24, 25, 26, 27] (by decide +kernel) (by decide +kernel)) (goodIn_sub (fun _ h => List.mem_cons_of_mem _ (List.mem_append_right _ h)) (by decide +kernel))
set_option maxRecDepth 20000 in
theorem gL_crackOf_X1_crackOf : GoodIn wsL_crackOf (wsV RL 49 RX1 yX1_crackOf wsX1_crackOf) := goodIn_app (goodIn_of _ (by decide +kernel)) ggL_crackOf_X1_crackOf
set_option maxRecDepth 20000 in
theorem ggL_sounds_X1_sounds : GoodIn wsL_sounds wsX1_sounds := goodIn_ca (goodIn_r _ [6, 7, 8, 9, 10, 5, 11, 12, 13, 14, 15, 16, 17, 18, 19, 20, 21, 22, 23, 24, 25, 26, 27, 28, 29, 30, 31, 32, 33] (by decide +kernel) (by decide +kernel)) (goodIn_sub (fun _ h => List.mem_cons_of_mem _ (List.mem_append_right _ h)) (by decide +kernel))
set_option maxRecDepth 20000 in
theorem gL_sounds_X1_sounds : GoodIn wsL_sounds (wsV RL 52 RX1 yX1_sounds wsX1_sounds) := goodIn_app (goodIn_of _ (by decide +kernel)) ggL_sounds_X1_sounds
set_option maxRecDepth 20000 in
theorem ggL_soundingOf_X1_soundingOf : GoodIn wsL_soundingOf wsX1_soundingOf := goodIn_ca (goodIn_r _ [6, 7, 8, 9, 10, 11, 12, 13, 14, 15, 16, 17, 18, 19, 20, 21, 22, 23, 24, 25, 26, 27, 28, 29, 30, 31, 32, 33, 34] (by decide +kernel) (by decide +kernel)) (goodIn_sub (fun _ h => List.mem_cons_of_mem _ (List.mem_append_right _ h)) (by decide +kernel))
set_option maxRecDepth 20000 in
theorem gL_soundingOf_X1_soundingOf : GoodIn wsL_soundingOf (wsV RL 55 RX1 yX1_soundingOf wsX1_soundingOf) := goodIn_app (goodIn_of _ (by decide +kernel)) ggL_soundingOf_X1_soundingOf
set_option maxRecDepth 20000 in
theorem ggL_interval_X1_interval : GoodIn wsL_interval wsX1_interval := goodIn_ca (goodIn_r _ [6, 7, 8, 9, 10, 11, 12, 13, 14, 15, 5, 16, 17, 18, 19, 20, 21, 22, 23, 24, 25, 26, 27, 28, 29, 30, 31] (by decide +kernel) (by decide +kernel)) (goodIn_sub (fun _ h => List.mem_cons_of_mem _ (List.mem_append_right _ h)) (by decide +kernel))
set_option maxRecDepth 20000 in
theorem gL_interval_X1_interval : GoodIn wsL_interval (wsV RL 58 RX1 yX1_interval wsX1_interval) := goodIn_app (goodIn_of _ (by decide +kernel)) ggL_interval_X1_interval
set_option maxRecDepth 20000 in
theorem ggL_areInAccord_X1_areInAccord : GoodIn wsL_areInAccord wsX1_areInAccord := goodIn_ca (goodIn_r _ [6, 7, 8, 9, 10, 11, 5, 12, 13, 14, 15, 16, 17, 18, 19, 20, 21, 22, 23, 24, 25, 26, 27, 28, 29, 30, 31, 32, 33, 34] (by decide +kernel) (by decide +kernel)) (goodIn_sub (fun _ h => List.mem_cons_of_mem _ (List.mem_append_right _ h)) (by decide +kernel))
set_option maxRecDepth 20000 in
theorem gL_areInAccord_X1_areInAccord : GoodIn wsL_areInAccord (wsV RL 61 RX1 yX1_areInAccord wsX1_areInAccord) := goodIn_app (goodIn_of _ (by decide +kernel)) ggL_areInAccord_X1_areInAccord
set_option maxRecDepth 20000 in
theorem ggL_clashesOf_X1_clashesOf : GoodIn wsL_clashesOf wsX1_clashesOf := goodIn_ca (goodIn_r _ [6, 7, 8, 9, 10, 11, 5, 12, 13, 14, 15, 16, 17, 18, 19, 20, 21, 22, 23, 24, 25, 26, 27, 28, 29, 30, 31, 32, 33, 34, 35, 36, 37, 38, 39, 40, 41, 42, 43, 44, 45, 46, 47] (by decide +kernel) (by decide +kernel)) (goodIn_sub (fun _ h => List.mem_cons_of_mem _ (List.mem_append_right _ h)) (by decide +kernel))
set_option maxRecDepth 20000 in
theorem gL_clashesOf_X1_clashesOf : GoodIn wsL_clashesOf (wsV RL 65 RX1 yX1_clashesOf wsX1_clashesOf) := goodIn_app (goodIn_of _ (by decide +kernel)) ggL_clashesOf_X1_clashesOf
set_option maxRecDepth 20000 in
theorem ggL_bestTuning_X1_bestTuning : GoodIn wsL_bestTuning wsX1_bestTuning := goodIn_ca (goodIn_r _ [6, 7, 8, 9, 10, 5, 11, 12, 13, 14, 15, 16, 17, 18, 19, 20, 21, 22, 23, 24, 25, 26, 27, 28, 29, 30, 31, 32, 33, 34, 35, 36, 37, 38, 39, 40, 41, 42, 43, 44, 45, 46, 47, 48, 49, 50, 51] (by decide +kernel) (by decide +kernel)) (goodIn_sub (fun _ h => List.mem_cons_of_mem _ (List.mem_append_right _ h)) (by decide +kernel))
set_option maxRecDepth 20000 in
theorem gL_bestTuning_X1_bestTuning : GoodIn wsL_bestTuning (wsV RL 68 RX1 yX1_bestTuning wsX1_bestTuning) := goodIn_app (goodIn_of _ (by decide +kernel)) ggL_bestTuning_X1_bestTuning
set_option maxRecDepth 20000 in
theorem ggL_harmonyIn_X1_harmonyIn : GoodIn wsL_harmonyIn wsX1_harmonyIn := goodIn_ca (goodIn_r _ [6, 7, 8, 9, 10, 5, 11, 12, 13, 14, 15, 16, 17, 18, 19, 20, 21, 22, 23, 24, 25, 26, 27, 28, 29, 30, 31, 32, 33, 34, 35, 36, 37, 38, 39, 40, 41, 42, 43, 44, 45, 46, 47, 48, 49, 50, 51, 52, 53, 54, 55, 56, 57, 58, 59, 60, 61, 62, 63, 64, 65, 66, 67, 68, 69, 70, 71, 72, 73, 74, 75, 76, 77, 78, 79, 80, 81, 82, 83, 84, 85, 86, 87] (by decide +kernel) (by decide +kernel)) (goodIn_sub (fun _ h => List.mem_cons_of_mem _ (List.mem_append_right _ h)) (by decide +kernel))
set_option maxRecDepth 20000 in
theorem gL_harmonyIn_X1_harmonyIn : GoodIn wsL_harmonyIn (wsV RL 71 RX1 yX1_harmonyIn wsX1_harmonyIn) := goodIn_app (goodIn_of _ (by decide +kernel)) ggL_harmonyIn_X1_harmonyIn
