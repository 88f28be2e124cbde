set_option maxRecDepth 20000 in
theorem ggX0_passBeats_X0_passBeat : GoodIn wsX0_passBeats wsX0_passBeat := goodIn_r _ [5, 6, 7, 8, 9, 10, 11, 12, 13, 14, 15, 16, 17, 18, 4, 19, 20, 21, 22, 23, 24, 25, 26, 27, 28, 29, 30, 31, 32, 33, 34, 35, 36, 37, 38, 39, 40, 41, 42, 43, 44, 45, 46, 47, 48, 49, 50, 51, 52, 53, 54, 55, 56, 57, 58, 59, 60] (by decide +kernel) (by decide +kernel)
set_option maxRecDepth 20000 in
theorem gX0_passBeats_X0_passBeat : GoodIn wsX0_passBeats (wsV RX0 45 RX0 yX0_passBeat wsX0_passBeat) := goodIn_app (goodIn_of _ (by decide +kernel)) ggX0_passBeats_X0_passBeat
set_option maxRecDepth 20000 in
theorem ggX0_passBeat_X0_isChordClear : GoodIn wsX0_passBeat wsX0_isChordClear := goodIn_r _ [15, 16, 17, 18, 14, 19, 3, 20, 21, 22, 23, 24, 4, 25, 26, 27, 28, 29, 30, 31, 32, 33, 34, 35, 36, 37, 38, 9, 39, 47, 48, 49, 50, 51, 52, 53, 54, 55, 56] (by decide +kernel) (by decide +kernel)
set_option maxRecDepth 20000 in
theorem gX0_passBeat_X0_isChordClear : GoodIn wsX0_passBeat (wsV RX0 48 RX0 yX0_isChordClear wsX0_isChordClear) := goodIn_app (goodIn_of _ (by decide +kernel)) ggX0_passBeat_X0_isChordClear
set_option maxRecDepth 20000 in
theorem ggX0_passBeat_X0_countClashes : GoodIn wsX0_passBeat wsX0_countClashes := goodIn_r _ [28, 3, 29, 20, 21, 22, 14, 23, 24, 4, 30, 31, 32, 33, 34, 35, 36, 37, 38, 9, 39, 47, 48, 49, 50, 51, 52, 53, 54, 55, 56] (by decide +kernel) (by decide +kernel)
set_option maxRecDepth 20000 in
theorem gX0_passBeat_X0_countClashes : GoodIn wsX0_passBeat (wsV RX0 52 RX0 yX0_countClashes wsX0_countClashes) := goodIn_app (goodIn_of _ (by decide +kernel)) ggX0_passBeat_X0_countClashes
set_option maxRecDepth 20000 in
theorem ggX0_passBeat_X0_isSounding : GoodIn wsX0_passBeat wsX0_isSounding := goodIn_r _ [23, 24, 4, 47, 48, 49, 50, 51, 52, 53, 54, 55, 56] (by decide +kernel) (by decide +kernel)
set_option maxRecDepth 20000 in
theorem gX0_passBeat_X0_isSounding : GoodIn wsX0_passBeat (wsV RX0 56 RX0 yX0_isSounding wsX0_isSounding) := goodIn_app (goodIn_of _ (by decide +kernel)) ggX0_passBeat_X0_isSounding
set_option maxRecDepth 20000 in
theorem ggX0_passBeat_X0_wear : GoodIn wsX0_passBeat wsX0_wear := goodIn_r _ [43, 24, 6, 7, 8, 9, 10, 29, 5, 44, 45, 46, 47, 48, 49, 50, 51, 52, 53, 54, 55, 56] (by decide +kernel) (by decide +kernel)
set_option maxRecDepth 20000 in
theorem gX0_passBeat_X0_wear : GoodIn wsX0_passBeat (wsV RX0 60 RX0 yX0_wear wsX0_wear) := goodIn_app (goodIn_of _ (by decide +kernel)) ggX0_passBeat_X0_wear
set_option maxRecDepth 20000 in
theorem ggX0_countSounding_X0_isSounding : GoodIn wsX0_countSounding wsX0_isSounding := goodIn_r _ [6, 7, 8, 9, 10, 11, 12, 13, 14, 15, 16, 17, 18] (by decide +kernel) (by decide +kernel)
set_option maxRecDepth 20000 in
theorem gX0_countSounding_X0_isSounding : GoodIn wsX0_countSounding (wsV RX0 56 RX0 yX0_isSounding wsX0_isSounding) := goodIn_app (goodIn_of _ (by decide +kernel)) ggX0_countSounding_X0_isSounding
set_option maxRecDepth 20000 in
theorem ggX0_countSoundingIn_X0_isSounding : GoodIn wsX0_countSoundingIn wsX0_isSounding := goodIn_r _ [7, 8, 9, 10, 11, 12, 13, 14, 15, 16, 17, 18, 19] (by decide +kernel) (by decide +kernel)
set_option maxRecDepth 20000 in
theorem gX0_countSoundingIn_X0_isSounding : GoodIn wsX0_countSoundingIn (wsV RX0 56 RX0 yX0_isSounding wsX0_isSounding) := goodIn_app (goodIn_of _ (by decide +kernel)) ggX0_countSoundingIn_X0_isSounding
set_option maxRecDepth 20000 in
theorem ggX0_countClashesAt_X0_isSounding : GoodIn wsX0_countClashesAt wsX0_isSounding := goodIn_r _ [7, 8, 9, 17, 18, 19, 20, 21, 22, 23, 24, 25, 26] (by decide +kernel) (by decide +kernel)
set_option maxRecDepth 20000 in
theorem gX0_countClashesAt_X0_isSounding : GoodIn wsX0_countClashesAt (wsV RX0 56 RX0 yX0_isSounding wsX0_isSounding) := goodIn_app (goodIn_of _ (by decide +kernel)) ggX0_countClashesAt_X0_isSounding
set_option maxRecDepth 20000 in
theorem ggX0_countClashesAt_X1_isAccord : GoodIn wsX0_countClashesAt wsX1_isAccord := goodIn_r _ [12, 13, 14, 15, 16] (by decide +kernel) (by decide +kernel)
set_option maxRecDepth 20000 in
theorem gX0_countClashesAt_X1_isAccord_n73 : GoodIn wsX0_countClashesAt (wsX1_isAccord) := ggX0_countClashesAt_X1_isAccord
set_option maxRecDepth 20000 in
theorem ggX0_countClashes_X0_isSounding : GoodIn wsX0_countClashes wsX0_isSounding := goodIn_r _ [7, 8, 9, 21, 22, 23, 24, 25, 26, 27, 28, 29, 30] (by decide +kernel) (by decide +kernel)
set_option maxRecDepth 20000 in
theorem gX0_countClashes_X0_isSounding : GoodIn wsX0_countClashes (wsV RX0 56 RX0 yX0_isSounding wsX0_isSounding) := goodIn_app (goodIn_of _ (by decide +kernel)) ggX0_countClashes_X0_isSounding
set_option maxRecDepth 20000 in
theorem ggX0_countClashes_X0_countClashesAt : GoodIn wsX0_countClashes wsX0_countClashesAt := goodIn_r _ [13, 1, 2, 3, 4, 5, 6, 7, 8, 9, 14, 15, 16, 17, 18, 19, 20, 21, 22, 23, 24, 25, 26, 27, 28, 29, 30] (by decide +kernel) (by decide +kernel)
set_option maxRecDepth 20000 in
theorem gX0_countClashes_X0_countClashesAt : GoodIn wsX0_countClashes (wsV RX0 77 RX0 yX0_countClashesAt wsX0_countClashesAt) := goodIn_app (goodIn_of _ (by decide +kernel)) ggX0_countClashes_X0_countClashesAt
set_option maxRecDepth 20000 in
theorem ggX0_harmonyNow_X0_countSounding : GoodIn wsX0_harmonyNow wsX0_countSounding := goodIn_r _ [5, 6, 7, 8, 9, 4, 10, 11, 12, 29, 30, 31, 32, 33, 34, 35, 36, 37, 38] (by decide +kernel) (by decide +kernel)
set_option maxRecDepth 20000 in
theorem gX0_harmonyNow_X0_countSounding : GoodIn wsX0_harmonyNow (wsV RX0 80 RX0 yX0_countSounding wsX0_countSounding) := goodIn_app (goodIn_of _ (by decide +kernel)) ggX0_harmonyNow_X0_countSounding
set_option maxRecDepth 20000 in
theorem ggX0_harmonyNow_X0_countClashes : GoodIn wsX0_harmonyNow wsX0_countClashes := goodIn_r _ [16, 6, 17, 7, 8, 9, 4, 10, 11, 12, 18, 19, 20, 21, 22, 23, 24, 25, 26, 27, 28, 29, 30, 31, 32, 33, 34, 35, 36, 37, 38] (by decide +kernel) (by decide +kernel)
set_option maxRecDepth 20000 in
theorem gX0_harmonyNow_X0_countClashes : GoodIn wsX0_harmonyNow (wsV RX0 52 RX0 yX0_countClashes wsX0_countClashes) := goodIn_app (goodIn_of _ (by decide +kernel)) ggX0_harmonyNow_X0_countClashes
set_option maxRecDepth 20000 in
theorem ggX0_isChordClear_X0_countSounding : GoodIn wsX0_isChordClear wsX0_countSounding := goodIn_r _ [5, 6, 7, 8, 9, 4, 10, 11, 12, 29, 30, 31, 32, 33, 34, 35, 36, 37, 38] (by decide +kernel) (by decide +kernel)
set_option maxRecDepth 20000 in
theorem gX0_isChordClear_X0_countSounding : GoodIn wsX0_isChordClear (wsV RX0 80 RX0 yX0_countSounding wsX0_countSounding) := goodIn_app (goodIn_of _ (by decide +kernel)) ggX0_isChordClear_X0_countSounding
set_option maxRecDepth 20000 in
theorem ggX0_isChordClear_X0_countClashes : GoodIn wsX0_isChordClear wsX0_countClashes := goodIn_r _ [16, 6, 17, 7, 8, 9, 4, 10, 11, 12, 18, 19, 20, 21, 22, 23, 24, 25, 26, 27, 28, 29, 30, 31, 32, 33, 34, 35, 36, 37, 38] (by decide +kernel) (by decide +kernel)
set_option maxRecDepth 20000 in
theorem gX0_isChordClear_X0_countClashes : GoodIn wsX0_isChordClear (wsV RX0 52 RX0 yX0_countClashes wsX0_countClashes) := goodIn_app (goodIn_of _ (by decide +kernel)) ggX0_isChordClear_X0_countClashes
set_option maxRecDepth 20000 in
theorem ggX0_findMostClashing_X0_isSounding : GoodIn wsX0_findMostClashing wsX0_isSounding := goodIn_r _ [7, 8, 9, 21, 22, 23, 24, 25, 26, 27, 28, 29, 30] (by decide +kernel) (by decide +kernel)
set_option maxRecDepth 20000 in
theorem gX0_findMostClashing_X0_isSounding : GoodIn wsX0_findMostClashing (wsV RX0 56 RX0 yX0_isSounding wsX0_isSounding) := goodIn_app (goodIn_of _ (by decide +kernel)) ggX0_findMostClashing_X0_isSounding
set_option maxRecDepth 20000 in
theorem ggX0_findMostClashing_X0_countClashesAt : GoodIn wsX0_findMostClashing wsX0_countClashesAt := goodIn_r _ [13, 1, 2, 3, 4, 5, 6, 7, 8, 9, 14, 15, 16, 17, 18, 19, 20, 21, 22, 23, 24, 25, 26, 27, 28, 29, 30] (by decide +kernel) (by decide +kernel)
set_option maxRecDepth 20000 in
theorem gX0_findMostClashing_X0_countClashesAt : GoodIn wsX0_findMostClashing (wsV RX0 77 RX0 yX0_countClashesAt wsX0_countClashesAt) := goodIn_app (goodIn_of _ (by decide +kernel)) ggX0_findMostClashing_X0_countClashesAt
set_option maxRecDepth 20000 in
theorem ggX0_findLowest_X0_isSounding : GoodIn wsX0_findLowest wsX0_isSounding := goodIn_r _ [7, 8, 9, 10, 11, 12, 13, 14, 15, 16, 17, 18, 19] (by decide +kernel) (by decide +kernel)
set_option maxRecDepth 20000 in
theorem gX0_findLowest_X0_isSounding : GoodIn wsX0_findLowest (wsV RX0 56 RX0 yX0_isSounding wsX0_isSounding) := goodIn_app (goodIn_of _ (by decide +kernel)) ggX0_findLowest_X0_isSounding
set_option maxRecDepth 20000 in
theorem ggX0_findBestTuning_X0_countClashesAt : GoodIn wsX0_findBestTuning wsX0_countClashesAt := goodIn_r _ [10, 11, 1, 12, 13, 14, 9, 15, 16, 17, 18, 19, 20, 21, 3, 4, 5, 22, 23, 24, 25, 26, 27, 28, 29, 30, 31] (by decide +kernel) (by decide +kernel)
set_option maxRecDepth 20000 in
theorem gX0_findBestTuning_X0_countClashesAt : GoodIn wsX0_findBestTuning (wsV RX0 77 RX0 yX0_countClashesAt wsX0_countClashesAt) := goodIn_app (goodIn_of _ (by decide +kernel)) ggX0_findBestTuning_X0_countClashesAt
set_option maxRecDepth 20000 in
theorem ggX0_sizeOfGreatestAccord_X0_findBarred : GoodIn wsX0_sizeOfGreatestAccord wsX0_findBarred := goodIn_r _ [7, 1, 8, 9, 10, 11, 6, 12, 13, 14, 15, 16, 17, 18, 19, 20, 21, 33, 34, 35, 36, 37, 38, 39, 40, 41, 42] (by decide +kernel) (by decide +kernel)
set_option maxRecDepth 20000 in
theorem gX0_sizeOfGreatestAccord_X0_findBarred : GoodIn wsX0_sizeOfGreatestAccord (wsV RX0 87 RX0 yX0_findBarred wsX0_findBarred) := goodIn_app (goodIn_of _ (by decide +kernel)) ggX0_sizeOfGreatestAccord_X0_findBarred
set_option maxRecDepth 20000 in
theorem ggX0_sizeOfGreatestAccord_J6_bitCount_0f7a4 : GoodIn wsX0_sizeOfGreatestAccord wsJ6_bitCount_0f7a4 := goodIn_r _ [25, 26, 27, 28] (by decide +kernel) (by decide +kernel)
set_option maxRecDepth 20000 in
theorem gX0_sizeOfGreatestAccord_J6_bitCount_0f7a4 : GoodIn wsX0_sizeOfGreatestAccord (va_wsS RX0 90 yJ6_bitCount_0f7a4 wsJ6_bitCount_0f7a4) := goodIn_app (goodIn_of _ (by decide +kernel)) ggX0_sizeOfGreatestAccord_J6_bitCount_0f7a4
set_option maxRecDepth 20000 in
theorem ggX0_sizeOfGreatestAccord_X0_isGroupInAccord : GoodIn wsX0_sizeOfGreatestAccord wsX0_isGroupInAccord := goodIn_r _ [32, 1, 2, 33, 34, 35, 36, 37, 38, 39, 40, 41, 42] (by decide +kernel) (by decide +kernel)
set_option maxRecDepth 20000 in
theorem gX0_sizeOfGreatestAccord_X0_isGroupInAccord : GoodIn wsX0_sizeOfGreatestAccord (wsV RX0 95 RX0 yX0_isGroupInAccord wsX0_isGroupInAccord) := goodIn_app (goodIn_of _ (by decide +kernel)) ggX0_sizeOfGreatestAccord_X0_isGroupInAccord
set_option maxRecDepth 20000 in
theorem ggX0_findBarred_X0_isSounding : GoodIn wsX0_findBarred wsX0_isSounding := goodIn_r _ [7, 8, 9, 17, 18, 19, 20, 21, 22, 23, 24, 25, 26] (by decide +kernel) (by decide +kernel)
set_option maxRecDepth 20000 in
theorem gX0_findBarred_X0_isSounding : GoodIn wsX0_findBarred (wsV RX0 56 RX0 yX0_isSounding wsX0_isSounding) := goodIn_app (goodIn_of _ (by decide +kernel)) ggX0_findBarred_X0_isSounding
set_option maxRecDepth 20000 in
theorem ggX0_findBarred_X1_isAccord : GoodIn wsX0_findBarred wsX1_isAccord := goodIn_r _ [12, 13, 14, 15, 16] (by decide +kernel) (by decide +kernel)
set_option maxRecDepth 20000 in
theorem gX0_findBarred_X1_isAccord_n73 : GoodIn wsX0_findBarred (wsX1_isAccord) := ggX0_findBarred_X1_isAccord
set_option maxRecDepth 20000 in
theorem ggX0_meanOfPitches_X0_countSounding : GoodIn wsX0_meanOfPitches wsX0_countSounding := goodIn_r _ [7, 1, 8, 9, 10, 6, 11, 12, 13, 14, 15, 16, 17, 18, 19, 20, 21, 22, 23] (by decide +kernel) (by decide +kernel)
set_option maxRecDepth 20000 in
theorem gX0_meanOfPitches_X0_countSounding : GoodIn wsX0_meanOfPitches (wsV RX0 80 RX0 yX0_countSounding wsX0_countSounding) := goodIn_app (goodIn_of _ (by decide +kernel)) ggX0_meanOfPitches_X0_countSounding
set_option maxRecDepth 20000 in
theorem ggX0_meanOfPitches_X0_isSounding : GoodIn wsX0_meanOfPitches wsX0_isSounding := goodIn_r _ [11, 12, 13, 14, 15, 16, 17, 18, 19, 20, 21, 22, 23] (by decide +kernel) (by decide +kernel)
set_option maxRecDepth 20000 in
theorem gX0_meanOfPitches_X0_isSounding : GoodIn wsX0_meanOfPitches (wsV RX0 56 RX0 yX0_isSounding wsX0_isSounding) := goodIn_app (goodIn_of _ (by decide +kernel)) ggX0_meanOfPitches_X0_isSounding
set_option maxRecDepth 20000 in
theorem ggX1_init_X0_init : GoodIn wsX1_init wsX0_init := goodIn_r _ [10, 11, 2, 3, 12, 13, 14, 15, 16, 17, 18, 19, 20, 21, 22, 23, 24, 25, 26, 27, 28, 29] (by decide +kernel) (by decide +kernel)
set_option maxRecDepth 20000 in
theorem gX1_init_X0_init_n9 : GoodIn wsX1_init (wsX0_init) := ggX1_init_X0_init
set_option maxRecDepth 20000 in
theorem ggX1_addPot_X1_requireWithin : GoodIn wsX1_addPot wsX1_requireWithin := goodIn_ca (goodIn_r _ [8, 9, 10] (by decide +kernel) (by decide +kernel)) (goodIn_sub (fun _ h => List.mem_cons_of_mem _ (List.mem_append_right _ h)) (by decide +kernel))
set_option maxRecDepth 20000 in
theorem gX1_addPot_X1_requireWithin : GoodIn wsX1_addPot (va_wsS RX1 19 yX1_requireWithin wsX1_requireWithin) := goodIn_app (goodIn_of _ (by decide +kernel)) ggX1_addPot_X1_requireWithin
set_option maxRecDepth 20000 in
theorem ggX1_addPot_X0_admit : GoodIn wsX1_addPot wsX0_admit := goodIn_r _ [15, 16, 17, 18, 19, 22, 23, 24, 25, 26, 27, 28, 29, 30, 31] (by decide +kernel) (by decide +kernel)
set_option maxRecDepth 20000 in
theorem gX1_addPot_X0_admit : GoodIn wsX1_addPot (wsV RX1 34 RX0 yX0_admit wsX0_admit) := goodIn_app (goodIn_of _ (by decide +kernel)) ggX1_addPot_X0_admit
set_option maxRecDepth 20000 in
theorem ggX1_tune_X1_requirePot : GoodIn wsX1_tune wsX1_requirePot := goodIn_ca (goodIn_r _ [7, 8, 9, 1, 10, 16, 17, 18, 19, 20, 21, 22, 23, 24, 25, 26, 27] (by decide +kernel) (by decide +kernel)) (goodIn_sub (fun _ h => List.mem_cons_of_mem _ (List.mem_append_left _ (List.mem_append_right _ h))) (by decide +kernel))
set_option maxRecDepth 20000 in
theorem gX1_tune_X1_requirePot : GoodIn wsX1_tune (wsV RX1 38 RX1 yX1_requirePot wsX1_requirePot) := goodIn_app (goodIn_of _ (by decide +kernel)) ggX1_tune_X1_requirePot
set_option maxRecDepth 20000 in
theorem ggX1_tune_X1_requireWithin : GoodIn wsX1_tune wsX1_requireWithin := goodIn_ca (goodIn_r _ [13, 14, 15] (by decide +kernel) (by decide +kernel)) (goodIn_sub (fun _ h => List.mem_cons_of_mem _ (List.mem_append_right _ h)) (by decide +kernel))
set_option maxRecDepth 20000 in
theorem gX1_tune_X1_requireWithin : GoodIn wsX1_tune (va_wsS RX1 19 yX1_requireWithin wsX1_requireWithin) := goodIn_app (goodIn_of _ (by decide +kernel)) ggX1_tune_X1_requireWithin
set_option maxRecDepth 20000 in
theorem ggX1_turnCosy_X1_requirePot : GoodIn wsX1_turnCosy wsX1_requirePot := goodIn_ca (goodIn_r _ [7, 8, 9, 1, 10, 11, 12, 13, 14, 15, 16, 17, 18, 19, 20, 21, 22] (by decide +kernel) (by decide +kernel)) (goodIn_sub (fun _ h => List.mem_cons_of_mem _ (List.mem_append_right _ h)) (by decide +kernel))
set_option maxRecDepth 20000 in
theorem gX1_turnCosy_X1_requirePot : GoodIn wsX1_turnCosy (wsV RX1 38 RX1 yX1_requirePot wsX1_requirePot) := goodIn_app (goodIn_of _ (by decide +kernel)) ggX1_turnCosy_X1_requirePot
set_option maxRecDepth 20000 in
theorem ggX1_pour_X1_requirePot : GoodIn wsX1_pour wsX1_requirePot := goodIn_ca (goodIn_r _ [13, 14, 15, 3, 16, 20, 21, 22, 23, 24, 25, 26, 27, 28, 29, 30, 31] (by decide +kernel) (by decide +kernel)) (goodIn_sub (fun _ h => List.mem_cons_of_mem _ (List.mem_append_right _ h)) (by decide +kernel))
set_option maxRecDepth 20000 in
theorem gX1_pour_X1_requirePot : GoodIn wsX1_pour (wsV RX1 38 RX1 yX1_requirePot wsX1_requirePot) := goodIn_app (goodIn_of _ (by decide +kernel)) ggX1_pour_X1_requirePot
set_option maxRecDepth 20000 in
theorem ggX1_pour_X1_requireWithin : GoodIn wsX1_pour wsX1_requireWithin := goodIn_ca (goodIn_r _ [19, 1, 2] (by decide +kernel) (by decide +kernel)) (goodIn_sub (fun _ h => List.mem_cons_of_mem _ (List.mem_append_left _ (List.mem_append_right _ h))) (by decide +kernel))
set_option maxRecDepth 20000 in
theorem gX1_pour_X1_requireWithin : GoodIn wsX1_pour (va_wsS RX1 19 yX1_requireWithin wsX1_requireWithin) := goodIn_app (goodIn_of _ (by decide +kernel)) ggX1_pour_X1_requireWithin
set_option maxRecDepth 20000 in
theorem ggX1_fill_X1_requirePot : GoodIn wsX1_fill wsX1_requirePot := goodIn_ca (goodIn_r _ [7, 8, 9, 1, 10, 11, 12, 13, 14, 15, 16, 17, 18, 19, 20, 21, 22] (by decide +kernel) (by decide +kernel)) (goodIn_sub (fun _ h => List.mem_cons_of_mem _ (List.mem_append_right _ h)) (by decide +kernel))
set_option maxRecDepth 20000 in
theorem gX1_fill_X1_requirePot : GoodIn wsX1_fill (wsV RX1 38 RX1 yX1_requirePot wsX1_requirePot) := goodIn_app (goodIn_of _ (by decide +kernel)) ggX1_fill_X1_requirePot
set_option maxRecDepth 20000 in
theorem ggX1_mend_X1_requirePot : GoodIn wsX1_mend wsX1_requirePot := goodIn_ca (goodIn_r _ [8, 9, 10, 1, 11, 12, 13, 14, 15, 16, 17, 18, 19, 20, 21, 22, 23] (by decide +kernel) (by decide +kernel)) (goodIn_sub (fun _ h => List.mem_cons_of_mem _ (List.mem_append_right _ h)) (by decide +kernel))
set_option maxRecDepth 20000 in
theorem gX1_mend_X1_requirePot : GoodIn wsX1_mend (wsV RX1 38 RX1 yX1_requirePot wsX1_requirePot) := goodIn_app (goodIn_of _ (by decide +kernel)) ggX1_mend_X1_requirePot
set_option maxRecDepth 20000 in
theorem ggX1_sing_X1_requireWithin : GoodIn wsX1_sing wsX1_requireWithin := goodIn_ca (goodIn_r _ [6, 7, 8] (by decide +kernel) (by decide +kernel)) (goodIn_sub (fun _ h => List.mem_cons_of_mem _ (List.mem_append_right _ h)) (by decide +kernel))
set_option maxRecDepth 20000 in
theorem gX1_sing_X1_requireWithin : GoodIn wsX1_sing (va_wsS RX1 19 yX1_requireWithin wsX1_requireWithin) := goodIn_app (goodIn_of _ (by decide +kernel)) ggX1_sing_X1_requireWithin
set_option maxRecDepth 20000 in
theorem ggX1_sing_X0_passBeats : GoodIn wsX1_sing wsX0_passBeats := goodIn_r _ [13, 14, 15, 16, 12, 17, 18, 19, 20, 21, 22, 23, 24, 25, 26, 27, 28, 29, 30, 31, 32, 33, 34, 35, 36, 37, 38, 39, 40, 41, 42, 43, 44, 45, 46, 47, 48, 49, 50, 5, 51, 52, 53, 54, 55, 56, 57, 58, 59, 60, 61, 64, 65, 66, 67, 68, 69, 70, 71, 72, 73] (by decide +kernel) (by decide +kernel)
set_option maxRecDepth 20000 in
theorem gX1_sing_X0_passBeats : GoodIn wsX1_sing (wsV RX1 70 RX0 yX0_passBeats wsX0_passBeats) := goodIn_app (goodIn_of _ (by decide +kernel)) ggX1_sing_X0_passBeats
set_option maxRecDepth 20000 in
theorem ggX1_partOf_X1_requirePot : GoodIn wsX1_partOf wsX1_requirePot := goodIn_ca (goodIn_r _ [7, 8, 9, 1, 10, 11, 12, 13, 14, 15, 16, 17, 18, 19, 20, 21, 22] (by decide +kernel) (by decide +kernel)) (goodIn_sub (fun _ h => List.mem_cons_of_mem _ (List.mem_append_right _ h)) (by decide +kernel))
set_option maxRecDepth 20000 in
theorem gX1_partOf_X1_requirePot : GoodIn wsX1_partOf (wsV RX1 38 RX1 yX1_requirePot wsX1_requirePot) := goodIn_app (goodIn_of _ (by decide +kernel)) ggX1_partOf_X1_requirePot
set_option maxRecDepth 20000 in
theorem ggX1_pitchOf_X1_requirePot : GoodIn wsX1_pitchOf wsX1_requirePot := goodIn_ca (goodIn_r _ [7, 8, 9, 1, 10, 11, 12, 13, 14, 15, 16, 17, 18, 19, 20, 21, 22] (by decide +kernel) (by decide +kernel)) (goodIn_sub (fun _ h => List.mem_cons_of_mem _ (List.mem_append_right _ h)) (by decide +kernel))
set_option maxRecDepth 20000 in
theorem gX1_pitchOf_X1_requirePot : GoodIn wsX1_pitchOf (wsV RX1 38 RX1 yX1_requirePot wsX1_requirePot) := goodIn_app (goodIn_of _ (by decide +kernel)) ggX1_pitchOf_X1_requirePot
set_option maxRecDepth 20000 in
theorem ggX1_teaOf_X1_requirePot : GoodIn wsX1_teaOf wsX1_requirePot := goodIn_ca (goodIn_r _ [7, 8, 9, 1, 10, 11, 12, 13, 14, 15, 16, 17, 18, 19, 20, 21, 22] (by decide +kernel) (by decide +kernel)) (goodIn_sub (fun _ h => List.mem_cons_of_mem _ (List.mem_append_right _ h)) (by decide +kernel))
set_option maxRecDepth 20000 in
theorem gX1_teaOf_X1_requirePot : GoodIn wsX1_teaOf (wsV RX1 38 RX1 yX1_requirePot wsX1_requirePot) := goodIn_app (goodIn_of _ (by decide +kernel)) ggX1_teaOf_X1_requirePot
set_option maxRecDepth 20000 in
theorem ggX1_crackOf_X1_requirePot : GoodIn wsX1_crackOf wsX1_requirePot := goodIn_ca (goodIn_r _ [7, 8, 9, 1, 10, 11, 12, 13, 14, 15, 16, 17, 18, 19, 20, 21, 22] (by decide +kernel) (by decide +kernel)) (goodIn_sub (fun _ h => List.mem_cons_of_mem _ (List.mem_append_right _ h)) (by decide +kernel))
set_option maxRecDepth 20000 in
theorem gX1_crackOf_X1_requirePot : GoodIn wsX1_crackOf (wsV RX1 38 RX1 yX1_requirePot wsX1_requirePot) := goodIn_app (goodIn_of _ (by decide +kernel)) ggX1_crackOf_X1_requirePot
set_option maxRecDepth 20000 in
theorem ggX1_sounds_X1_requirePot : GoodIn wsX1_sounds wsX1_requirePot := goodIn_ca (goodIn_r _ [6, 7, 8, 1, 9, 17, 18, 19, 20, 21, 22, 23, 24, 25, 26, 27, 28] (by decide +kernel) (by decide +kernel)) (goodIn_sub (fun _ h => List.mem_cons_of_mem _ (List.mem_append_right _ h)) (by decide +kernel))
set_option maxRecDepth 20000 in
theorem gX1_sounds_X1_requirePot : GoodIn wsX1_sounds (wsV RX1 38 RX1 yX1_requirePot wsX1_requirePot) := goodIn_app (goodIn_of _ (by decide +kernel)) ggX1_sounds_X1_requirePot
set_option maxRecDepth 20000 in
theorem ggX1_sounds_X0_isSounding : GoodIn wsX1_sounds wsX0_isSounding := goodIn_r _ [14, 15, 16, 19, 20, 21, 22, 23, 24, 25, 26, 27, 28] (by decide +kernel) (by decide +kernel)
set_option maxRecDepth 20000 in
theorem gX1_sounds_X0_isSounding : GoodIn wsX1_sounds (wsV RX1 76 RX0 yX0_isSounding wsX0_isSounding) := goodIn_app (goodIn_of _ (by decide +kernel)) ggX1_sounds_X0_isSounding
set_option maxRecDepth 20000 in
theorem ggX1_soundingOf_X0_countSoundingIn : GoodIn wsX1_soundingOf wsX0_countSoundingIn := goodIn_r _ [8, 9, 10, 11, 12, 13, 7, 14, 15, 16, 19, 20, 21, 22, 23, 24, 25, 26, 27, 28] (by decide +kernel) (by decide +kernel)
set_option maxRecDepth 20000 in
theorem gX1_soundingOf_X0_countSoundingIn : GoodIn wsX1_soundingOf (wsV RX1 85 RX0 yX0_countSoundingIn wsX0_countSoundingIn) := goodIn_app (goodIn_of _ (by decide +kernel)) ggX1_soundingOf_X0_countSoundingIn
set_option maxRecDepth 20000 in
theorem ggX1_sounding_X0_countSounding : GoodIn wsX1_sounding wsX0_countSounding := goodIn_r _ [6, 7, 8, 9, 10, 5, 11, 12, 13, 16, 17, 18, 19, 20, 21, 22, 23, 24, 25] (by decide +kernel) (by decide +kernel)
set_option maxRecDepth 20000 in
theorem gX1_sounding_X0_countSounding : GoodIn wsX1_sounding (wsV RX1 92 RX0 yX0_countSounding wsX0_countSounding) := goodIn_app (goodIn_of _ (by decide +kernel)) ggX1_sounding_X0_countSounding
set_option maxRecDepth 20000 in
theorem ggX1_interval_X1_requirePot : GoodIn wsX1_interval wsX1_requirePot := goodIn_ca (goodIn_r _ [11, 12, 13, 1, 14, 15, 16, 17, 18, 19, 20, 21, 22, 23, 24, 25, 26] (by decide +kernel) (by decide +kernel)) (goodIn_sub (fun _ h => List.mem_cons_of_mem _ (List.mem_append_right _ h)) (by decide +kernel))
set_option maxRecDepth 20000 in
theorem gX1_interval_X1_requirePot : GoodIn wsX1_interval (wsV RX1 38 RX1 yX1_requirePot wsX1_requirePot) := goodIn_app (goodIn_of _ (by decide +kernel)) ggX1_interval_X1_requirePot
set_option maxRecDepth 20000 in
theorem ggX1_areInAccord_X1_requirePot : GoodIn wsX1_areInAccord wsX1_requirePot := goodIn_ca (goodIn_r _ [7, 8, 9, 1, 10, 18, 19, 20, 21, 22, 23, 24, 25, 26, 27, 28, 29] (by decide +kernel) (by decide +kernel)) (goodIn_sub (fun _ h => List.mem_cons_of_mem _ (List.mem_append_right _ h)) (by decide +kernel))
set_option maxRecDepth 20000 in
theorem gX1_areInAccord_X1_requirePot : GoodIn wsX1_areInAccord (wsV RX1 38 RX1 yX1_requirePot wsX1_requirePot) := goodIn_app (goodIn_of _ (by decide +kernel)) ggX1_areInAccord_X1_requirePot
set_option maxRecDepth 20000 in
theorem ggX1_areInAccord_X1_isAccord : GoodIn wsX1_areInAccord wsX1_isAccord := goodIn_r _ [13, 14, 15, 16, 17] (by decide +kernel) (by decide +kernel)
set_option maxRecDepth 20000 in
theorem gX1_areInAccord_X1_isAccord : GoodIn wsX1_areInAccord (va_wsS RX1 99 yX1_isAccord wsX1_isAccord) := goodIn_app (goodIn_of _ (by decide +kernel)) ggX1_areInAccord_X1_isAccord
set_option maxRecDepth 20000 in
theorem ggX1_harmony_X0_harmonyNow : GoodIn wsX1_harmony wsX0_harmonyNow := goodIn_r _ [6, 7, 8, 9, 5, 10, 11, 12, 13, 14, 15, 16, 17, 18, 19, 20, 21, 22, 23, 24, 25, 26, 27, 28, 29, 30, 31, 32, 33, 36, 37, 38, 39, 40, 41, 42, 43, 44, 45] (by decide +kernel) (by decide +kernel)
set_option maxRecDepth 20000 in
theorem gX1_harmony_X0_harmonyNow : GoodIn wsX1_harmony (wsV RX1 103 RX0 yX0_harmonyNow wsX0_harmonyNow) := goodIn_app (goodIn_of _ (by decide +kernel)) ggX1_harmony_X0_harmonyNow
set_option maxRecDepth 20000 in
theorem ggX1_clashes_X0_countClashes : GoodIn wsX1_clashes wsX0_countClashes := goodIn_r _ [6, 7, 8, 9, 10, 11, 5, 12, 13, 14, 15, 16, 17, 18, 19, 20, 21, 22, 23, 24, 25, 28, 29, 30, 31, 32, 33, 34, 35, 36, 37] (by decide +kernel) (by decide +kernel)
set_option maxRecDepth 20000 in
theorem gX1_clashes_X0_countClashes : GoodIn wsX1_clashes (wsV RX1 106 RX0 yX0_countClashes wsX0_countClashes) := goodIn_app (goodIn_of _ (by decide +kernel)) ggX1_clashes_X0_countClashes
set_option maxRecDepth 20000 in
theorem ggX1_clashesOf_X1_requirePot : GoodIn wsX1_clashesOf wsX1_requirePot := goodIn_ca (goodIn_r _ [7, 8, 9, 1, 10, 31, 32, 33, 34, 35, 36, 37, 38, 39, 40, 41, 42] (by decide +kernel) (by decide +kernel)) (goodIn_sub (fun _ h => List.mem_cons_of_mem _ (List.mem_append_right _ h)) (by decide +kernel))
set_option maxRecDepth 20000 in
theorem gX1_clashesOf_X1_requirePot : GoodIn wsX1_clashesOf (wsV RX1 38 RX1 yX1_requirePot wsX1_requirePot) := goodIn_app (goodIn_of _ (by decide +kernel)) ggX1_clashesOf_X1_requirePot
set_option maxRecDepth 20000 in
theorem ggX1_clashesOf_X0_isSounding : GoodIn wsX1_clashesOf wsX0_isSounding := goodIn_r _ [15, 16, 17, 33, 34, 35, 36, 37, 38, 39, 40, 41, 42] (by decide +kernel) (by decide +kernel)
set_option maxRecDepth 20000 in
theorem gX1_clashesOf_X0_isSounding : GoodIn wsX1_clashesOf (wsV RX1 76 RX0 yX0_isSounding wsX0_isSounding) := goodIn_app (goodIn_of _ (by decide +kernel)) ggX1_clashesOf_X0_isSounding
set_option maxRecDepth 20000 in
theorem ggX1_clashesOf_X0_countClashesAt : GoodIn wsX1_clashesOf wsX0_countClashesAt := goodIn_r _ [21, 22, 23, 24, 12, 13, 14, 15, 16, 17, 25, 6, 26, 27, 28, 29, 30, 33, 34, 35, 36, 37, 38, 39, 40, 41, 42] (by decide +kernel) (by decide +kernel)
set_option maxRecDepth 20000 in
theorem gX1_clashesOf_X0_countClashesAt : GoodIn wsX1_clashesOf (wsV RX1 109 RX0 yX0_countClashesAt wsX0_countClashesAt) := goodIn_app (goodIn_of _ (by decide +kernel)) ggX1_clashesOf_X0_countClashesAt
set_option maxRecDepth 20000 in
theorem ggX1_harshest_X0_countClashes : GoodIn wsX1_harshest wsX0_countClashes := goodIn_r _ [6, 7, 8, 9, 10, 11, 5, 12, 13, 14, 15, 16, 17, 18, 19, 20, 21, 22, 23, 24, 25, 32, 33, 34, 35, 36, 37, 38, 39, 40, 41] (by decide +kernel) (by decide +kernel)
set_option maxRecDepth 20000 in
theorem gX1_harshest_X0_countClashes : GoodIn wsX1_harshest (wsV RX1 106 RX0 yX0_countClashes wsX0_countClashes) := goodIn_app (goodIn_of _ (by decide +kernel)) ggX1_harshest_X0_countClashes
set_option maxRecDepth 20000 in
theorem ggX1_harshest_X0_findMostClashing : GoodIn wsX1_harshest wsX0_findMostClashing := goodIn_r _ [29, 7, 8, 9, 10, 11, 5, 12, 13, 14, 15, 16, 17, 18, 19, 20, 21, 22, 23, 24, 25, 32, 33, 34, 35, 36, 37, 38, 39, 40, 41] (by decide +kernel) (by decide +kernel)
set_option maxRecDepth 20000 in
theorem gX1_harshest_X0_findMostClashing : GoodIn wsX1_harshest (wsV RX1 112 RX0 yX0_findMostClashing wsX0_findMostClashing) := goodIn_app (goodIn_of _ (by decide +kernel)) ggX1_harshest_X0_findMostClashing
set_option maxRecDepth 20000 in
theorem ggX1_lowest_X0_findLowest : GoodIn wsX1_lowest wsX0_findLowest := goodIn_r _ [6, 7, 8, 9, 10, 11, 5, 12, 13, 14, 17, 18, 19, 20, 21, 22, 23, 24, 25, 26] (by decide +kernel) (by decide +kernel)
set_option maxRecDepth 20000 in
theorem gX1_lowest_X0_findLowest : GoodIn wsX1_lowest (wsV RX1 115 RX0 yX0_findLowest wsX0_findLowest) := goodIn_app (goodIn_of _ (by decide +kernel)) ggX1_lowest_X0_findLowest
set_option maxRecDepth 20000 in
theorem ggX1_isClear_X0_isChordClear : GoodIn wsX1_isClear wsX0_isChordClear := goodIn_r _ [6, 7, 8, 9, 5, 10, 11, 12, 13, 14, 15, 16, 17, 18, 19, 20, 21, 22, 23, 24, 25, 26, 27, 28, 29, 30, 31, 32, 33, 36, 37, 38, 39, 40, 41, 42, 43, 44, 45] (by decide +kernel) (by decide +kernel)
set_option maxRecDepth 20000 in
theorem gX1_isClear_X0_isChordClear : GoodIn wsX1_isClear (wsV RX1 118 RX0 yX0_isChordClear wsX0_isChordClear) := goodIn_app (goodIn_of _ (by decide +kernel)) ggX1_isClear_X0_isChordClear
set_option maxRecDepth 20000 in
theorem ggX1_bestTuning_X1_requirePot : GoodIn wsX1_bestTuning wsX1_requirePot := goodIn_ca (goodIn_r _ [6, 7, 8, 1, 9, 35, 36, 37, 38, 39, 40, 41, 42, 43, 44, 45, 46] (by decide +kernel) (by decide +kernel)) (goodIn_sub (fun _ h => List.mem_cons_of_mem _ (List.mem_append_right _ h)) (by decide +kernel))
set_option maxRecDepth 20000 in
theorem gX1_bestTuning_X1_requirePot : GoodIn wsX1_bestTuning (wsV RX1 38 RX1 yX1_requirePot wsX1_requirePot) := goodIn_app (goodIn_of _ (by decide +kernel)) ggX1_bestTuning_X1_requirePot
set_option maxRecDepth 20000 in
theorem ggX1_bestTuning_X0_isSounding : GoodIn wsX1_bestTuning wsX0_isSounding := goodIn_r _ [14, 15, 16, 37, 38, 39, 40, 41, 42, 43, 44, 45, 46] (by decide +kernel) (by decide +kernel)
set_option maxRecDepth 20000 in
theorem gX1_bestTuning_X0_isSounding : GoodIn wsX1_bestTuning (wsV RX1 76 RX0 yX0_isSounding wsX0_isSounding) := goodIn_app (goodIn_of _ (by decide +kernel)) ggX1_bestTuning_X0_isSounding
set_option maxRecDepth 20000 in
theorem ggX1_bestTuning_X0_findBestTuning : GoodIn wsX1_bestTuning wsX0_findBestTuning := goodIn_r _ [20, 21, 22, 23, 24, 25, 26, 27, 28, 13, 29, 30, 31, 11, 12, 14, 15, 16, 32, 5, 33, 34, 37, 38, 39, 40, 41, 42, 43, 44, 45, 46] (by decide +kernel) (by decide +kernel)
set_option maxRecDepth 20000 in
theorem gX1_bestTuning_X0_findBestTuning : GoodIn wsX1_bestTuning (wsV RX1 122 RX0 yX0_findBestTuning wsX0_findBestTuning) := goodIn_app (goodIn_of _ (by decide +kernel)) ggX1_bestTuning_X0_findBestTuning
set_option maxRecDepth 20000 in
theorem ggX1_bestToMute_X0_findMostClashing : GoodIn wsX1_bestToMute wsX0_findMostClashing := goodIn_r _ [6, 7, 8, 9, 10, 11, 5, 12, 13, 14, 15, 16, 17, 18, 19, 20, 21, 22, 23, 24, 25, 28, 29, 30, 31, 32, 33, 34, 35, 36, 37] (by decide +kernel) (by decide +kernel)
set_option maxRecDepth 20000 in
theorem gX1_bestToMute_X0_findMostClashing : GoodIn wsX1_bestToMute (wsV RX1 112 RX0 yX0_findMostClashing wsX0_findMostClashing) := goodIn_app (goodIn_of _ (by decide +kernel)) ggX1_bestToMute_X0_findMostClashing
set_option maxRecDepth 20000 in
theorem ggX1_harmonyIn_X1_requireWithin : GoodIn wsX1_harmonyIn wsX1_requireWithin := goodIn_ca (goodIn_r _ [6, 7, 8] (by decide +kernel) (by decide +kernel)) (goodIn_sub (fun _ h => List.mem_cons_of_mem _ (List.mem_append_right _ h)) (by decide +kernel))
set_option maxRecDepth 20000 in
theorem gX1_harmonyIn_X1_requireWithin : GoodIn wsX1_harmonyIn (va_wsS RX1 19 yX1_requireWithin wsX1_requireWithin) := goodIn_app (goodIn_of _ (by decide +kernel)) ggX1_harmonyIn_X1_requireWithin
set_option maxRecDepth 20000 in
theorem ggX1_harmonyIn_X0_becomeLike : GoodIn wsX1_harmonyIn wsX0_becomeLike := goodIn_r _ [13, 14, 15, 16, 17, 18, 19, 20, 21, 22, 73, 74, 75, 76, 77, 78, 79, 80, 81, 82] (by decide +kernel) (by decide +kernel)
set_option maxRecDepth 20000 in
theorem gX1_harmonyIn_X0_becomeLike : GoodIn wsX1_harmonyIn (wsV RX1 125 RX0 yX0_becomeLike wsX0_becomeLike) := goodIn_app (goodIn_of _ (by decide +kernel)) ggX1_harmonyIn_X0_becomeLike
set_option maxRecDepth 20000 in
theorem ggX1_harmonyIn_X0_passBeats : GoodIn wsX1_harmonyIn wsX0_passBeats := goodIn_r _ [26, 27, 28, 29, 12, 30, 22, 21, 19, 18, 20, 17, 31, 32, 33, 34, 35, 36, 37, 38, 39, 40, 41, 42, 43, 44, 45, 46, 16, 47, 48, 49, 50, 15, 51, 52, 53, 54, 55, 5, 56, 57, 58, 59, 60, 61, 62, 63, 64, 65, 66, 73, 74, 75, 76, 77, 78, 79, 80, 81, 82] (by decide +kernel) (by decide +kernel)
set_option maxRecDepth 20000 in
theorem gX1_harmonyIn_X0_passBeats : GoodIn wsX1_harmonyIn (wsV RX1 70 RX0 yX0_passBeats wsX0_passBeats) := goodIn_app (goodIn_of _ (by decide +kernel)) ggX1_harmonyIn_X0_passBeats
set_option maxRecDepth 20000 in
theorem ggX1_harmonyIn_X0_harmonyNow : GoodIn wsX1_harmonyIn wsX0_harmonyNow := goodIn_r _ [70, 39, 40, 41, 12, 42, 19, 43, 44, 45, 46, 16, 18, 47, 48, 49, 50, 15, 51, 52, 53, 54, 55, 5, 56, 57, 58, 33, 59, 73, 74, 75, 76, 77, 78, 79, 80, 81, 82] (by decide +kernel) (by decide +kernel)
set_option maxRecDepth 20000 in
theorem gX1_harmonyIn_X0_harmonyNow : GoodIn wsX1_harmonyIn (wsV RX1 103 RX0 yX0_harmonyNow wsX0_harmonyNow) := goodIn_app (goodIn_of _ (by decide +kernel)) ggX1_harmonyIn_X0_harmonyNow
set_option maxRecDepth 20000 in
theorem ggX1_beatsUntilSilence_X0_becomeLike : GoodIn wsX1_beatsUntilSilence wsX0_becomeLike := goodIn_r _ [7, 8, 9, 10, 11, 12, 13, 14, 15, 16, 61, 62, 63, 64, 65, 66, 67, 68, 69, 70] (by decide +kernel) (by decide +kernel)
set_option maxRecDepth 20000 in
theorem gX1_beatsUntilSilence_X0_becomeLike : GoodIn wsX1_beatsUntilSilence (wsV RX1 125 RX0 yX0_becomeLike wsX0_becomeLike) := goodIn_app (goodIn_of _ (by decide +kernel)) ggX1_beatsUntilSilence_X0_becomeLike
set_option maxRecDepth 20000 in
theorem ggX1_beatsUntilSilence_X0_countSounding : GoodIn wsX1_beatsUntilSilence wsX0_countSounding := goodIn_r _ [20, 13, 21, 22, 23, 6, 24, 10, 12, 61, 62, 63, 64, 65, 66, 67, 68, 69, 70] (by decide +kernel) (by decide +kernel)
set_option maxRecDepth 20000 in
theorem gX1_beatsUntilSilence_X0_countSounding : GoodIn wsX1_beatsUntilSilence (wsV RX1 92 RX0 yX0_countSounding wsX0_countSounding) := goodIn_app (goodIn_of _ (by decide +kernel)) ggX1_beatsUntilSilence_X0_countSounding
set_option maxRecDepth 20000 in
theorem ggX1_beatsUntilSilence_X0_passBeat : GoodIn wsX1_beatsUntilSilence wsX0_passBeat := goodIn_r _ [28, 16, 15, 13, 12, 14, 11, 29, 30, 31, 32, 33, 34, 35, 6, 36, 37, 18, 19, 20, 21, 22, 23, 24, 10, 38, 39, 40, 41, 9, 42, 43, 44, 45, 46, 47, 48, 49, 50, 51, 52, 53, 54, 55, 56, 57, 58, 61, 62, 63, 64, 65, 66, 67, 68, 69, 70] (by decide +kernel) (by decide +kernel)
set_option maxRecDepth 20000 in
theorem gX1_beatsUntilSilence_X0_passBeat : GoodIn wsX1_beatsUntilSilence (wsV RX1 129 RX0 yX0_passBeat wsX0_passBeat) := goodIn_app (goodIn_of _ (by decide +kernel)) ggX1_beatsUntilSilence_X0_passBeat
set_option maxRecDepth 20000 in
theorem ggX1_beatsUntilCadence_X0_becomeLike : GoodIn wsX1_beatsUntilCadence wsX0_becomeLike := goodIn_r _ [8, 9, 10, 11, 12, 13, 14, 15, 16, 17, 61, 62, 63, 64, 65, 66, 67, 68, 69, 70] (by decide +kernel) (by decide +kernel)
set_option maxRecDepth 20000 in
theorem gX1_beatsUntilCadence_X0_becomeLike : GoodIn wsX1_beatsUntilCadence (wsV RX1 125 RX0 yX0_becomeLike wsX0_becomeLike) := goodIn_app (goodIn_of _ (by decide +kernel)) ggX1_beatsUntilCadence_X0_becomeLike
set_option maxRecDepth 20000 in
theorem ggX1_beatsUntilCadence_X0_passBeat : GoodIn wsX1_beatsUntilCadence wsX0_passBeat := goodIn_r _ [21, 17, 16, 14, 13, 15, 12, 22, 23, 24, 25, 26, 27, 28, 7, 29, 30, 31, 32, 33, 34, 35, 36, 37, 11, 38, 39, 40, 41, 10, 42, 43, 44, 45, 46, 47, 48, 49, 50, 51, 52, 53, 54, 55, 56, 57, 58, 61, 62, 63, 64, 65, 66, 67, 68, 69, 70] (by decide +kernel) (by decide +kernel)
set_option maxRecDepth 20000 in
theorem gX1_beatsUntilCadence_X0_passBeat : GoodIn wsX1_beatsUntilCadence (wsV RX1 129 RX0 yX0_passBeat wsX0_passBeat) := goodIn_app (goodIn_of _ (by decide +kernel)) ggX1_beatsUntilCadence_X0_passBeat
set_option maxRecDepth 20000 in
theorem ggX1_greatestAccord_X0_sizeOfGreatestAccord : GoodIn wsX1_greatestAccord wsX0_sizeOfGreatestAccord := goodIn_r _ [6, 7, 8, 9, 10, 11, 5, 12, 13, 14, 15, 16, 17, 18, 19, 20, 21, 22, 23, 24, 25, 26, 27, 28, 29, 30, 31, 32, 33, 34, 35, 36, 37, 40, 41, 42, 43, 44, 45, 46, 47, 48, 49] (by decide +kernel) (by decide +kernel)
set_option maxRecDepth 20000 in
theorem gX1_greatestAccord_X0_sizeOfGreatestAccord : GoodIn wsX1_greatestAccord (wsV RX1 132 RX0 yX0_sizeOfGreatestAccord wsX0_sizeOfGreatestAccord) := goodIn_app (goodIn_of _ (by decide +kernel)) ggX1_greatestAccord_X0_sizeOfGreatestAccord
set_option maxRecDepth 20000 in
theorem ggX1_meanPitch_X0_meanOfPitches : GoodIn wsX1_meanPitch wsX0_meanOfPitches := goodIn_r _ [6, 7, 8, 9, 10, 11, 5, 12, 13, 14, 15, 16, 17, 18, 21, 22, 23, 24, 25, 26, 27, 28, 29, 30] (by decide +kernel) (by decide +kernel)
set_option maxRecDepth 20000 in
theorem gX1_meanPitch_X0_meanOfPitches : GoodIn wsX1_meanPitch (wsV RX1 135 RX0 yX0_meanOfPitches wsX0_meanOfPitches) := goodIn_app (goodIn_of _ (by decide +kernel)) ggX1_meanPitch_X0_meanOfPitches
set_option maxRecDepth 20000 in
theorem ggX1_digest_X1_pots : GoodIn wsX1_digest wsX1_pots := goodIn_r _ [9, 3, 4, 199, 200, 201, 202, 203, 204, 205, 206, 207, 208, 209, 210] (by decide +kernel) (by decide +kernel)
set_option maxRecDepth 20000 in
theorem gX1_digest_X1_pots : GoodIn wsX1_digest (wsV RX1 143 RX1 yX1_pots wsX1_pots) := goodIn_app (goodIn_of _ (by decide +kernel)) ggX1_digest_X1_pots
set_option maxRecDepth 20000 in
theorem ggX1_digest_X1_beats : GoodIn wsX1_digest wsX1_beats := goodIn_r _ [13, 3, 14, 199, 200, 201, 202, 203, 204, 205, 206, 207, 208, 209, 210] (by decide +kernel) (by decide +kernel)
set_option maxRecDepth 20000 in
theorem gX1_digest_X1_beats : GoodIn wsX1_digest (wsV RX1 146 RX1 yX1_beats wsX1_beats) := goodIn_app (goodIn_of _ (by decide +kernel)) ggX1_digest_X1_beats
set_option maxRecDepth 20000 in
theorem ggX1_digest_X1_sounding : GoodIn wsX1_digest wsX1_sounding := goodIn_r _ [18, 3, 19, 20, 21, 22, 23, 24, 25, 26, 27, 28, 29, 30, 199, 200, 201, 202, 203, 204, 205, 206, 207, 208, 209, 210] (by decide +kernel) (by decide +kernel)
set_option maxRecDepth 20000 in
theorem gX1_digest_X1_sounding : GoodIn wsX1_digest (wsV RX1 149 RX1 yX1_sounding wsX1_sounding) := goodIn_app (goodIn_of _ (by decide +kernel)) ggX1_digest_X1_sounding
set_option maxRecDepth 20000 in
theorem ggX1_digest_X1_harmony : GoodIn wsX1_digest wsX1_harmony := goodIn_r _ [34, 3, 35, 36, 37, 22, 38, 39, 20, 21, 23, 24, 25, 26, 27, 28, 29, 30, 40, 41, 42, 43, 44, 45, 46, 47, 48, 49, 8, 50, 51, 52, 53, 54, 199, 200, 201, 202, 203, 204, 205, 206, 207, 208, 209, 210] (by decide +kernel) (by decide +kernel)
set_option maxRecDepth 20000 in
theorem gX1_digest_X1_harmony : GoodIn wsX1_digest (wsV RX1 152 RX1 yX1_harmony wsX1_harmony) := goodIn_app (goodIn_of _ (by decide +kernel)) ggX1_digest_X1_harmony
set_option maxRecDepth 20000 in
theorem ggX1_digest_X1_clashes : GoodIn wsX1_digest wsX1_clashes := goodIn_r _ [58, 3, 59, 41, 42, 22, 43, 24, 44, 25, 26, 27, 28, 29, 30, 45, 46, 47, 48, 49, 8, 50, 51, 52, 53, 54, 199, 200, 201, 202, 203, 204, 205, 206, 207, 208, 209, 210] (by decide +kernel) (by decide +kernel)
set_option maxRecDepth 20000 in
theorem gX1_digest_X1_clashes : GoodIn wsX1_digest (wsV RX1 155 RX1 yX1_clashes wsX1_clashes) := goodIn_app (goodIn_of _ (by decide +kernel)) ggX1_digest_X1_clashes
set_option maxRecDepth 20000 in
theorem ggX1_digest_X1_harshest : GoodIn wsX1_digest wsX1_harshest := goodIn_r _ [63, 3, 59, 41, 42, 22, 43, 24, 44, 25, 26, 27, 28, 29, 30, 45, 46, 47, 48, 49, 8, 50, 51, 52, 53, 54, 64, 65, 66, 67, 199, 200, 201, 202, 203, 204, 205, 206, 207, 208, 209, 210] (by decide +kernel) (by decide +kernel)
set_option maxRecDepth 20000 in
theorem gX1_digest_X1_harshest : GoodIn wsX1_digest (wsV RX1 158 RX1 yX1_harshest wsX1_harshest) := goodIn_app (goodIn_of _ (by decide +kernel)) ggX1_digest_X1_harshest
set_option maxRecDepth 20000 in
theorem ggX1_digest_X1_lowest : GoodIn wsX1_digest wsX1_lowest := goodIn_r _ [71, 3, 72, 73, 74, 22, 75, 24, 44, 25, 26, 27, 28, 29, 30, 199, 200, 201, 202, 203, 204, 205, 206, 207, 208, 209, 210] (by decide +kernel) (by decide +kernel)
set_option maxRecDepth 20000 in
theorem gX1_digest_X1_lowest : GoodIn wsX1_digest (wsV RX1 161 RX1 yX1_lowest wsX1_lowest) := goodIn_app (goodIn_of _ (by decide +kernel)) ggX1_digest_X1_lowest
set_option maxRecDepth 20000 in
theorem ggX1_digest_X1_isClear : GoodIn wsX1_digest wsX1_isClear := goodIn_r _ [79, 3, 80, 81, 82, 22, 83, 39, 20, 21, 23, 24, 25, 26, 27, 28, 29, 30, 40, 41, 42, 43, 44, 45, 46, 47, 48, 49, 8, 50, 51, 52, 53, 54, 199, 200, 201, 202, 203, 204, 205, 206, 207, 208, 209, 210] (by decide +kernel) (by decide +kernel)
set_option maxRecDepth 20000 in
theorem gX1_digest_X1_isClear : GoodIn wsX1_digest (wsV RX1 164 RX1 yX1_isClear wsX1_isClear) := goodIn_app (goodIn_of _ (by decide +kernel)) ggX1_digest_X1_isClear
set_option maxRecDepth 20000 in
theorem ggX1_digest_X1_cadences : GoodIn wsX1_digest wsX1_cadences := goodIn_r _ [87, 3, 88, 199, 200, 201, 202, 203, 204, 205, 206, 207, 208, 209, 210] (by decide +kernel) (by decide +kernel)
set_option maxRecDepth 20000 in
theorem gX1_digest_X1_cadences : GoodIn wsX1_digest (wsV RX1 167 RX1 yX1_cadences wsX1_cadences) := goodIn_app (goodIn_of _ (by decide +kernel)) ggX1_digest_X1_cadences
set_option maxRecDepth 20000 in
theorem ggX1_digest_X1_bestToMute : GoodIn wsX1_digest wsX1_bestToMute := goodIn_r _ [92, 3, 64, 65, 66, 22, 67, 24, 44, 25, 26, 27, 28, 29, 30, 45, 46, 47, 48, 49, 8, 50, 51, 52, 53, 54, 199, 200, 201, 202, 203, 204, 205, 206, 207, 208, 209, 210] (by decide +kernel) (by decide +kernel)
set_option maxRecDepth 20000 in
theorem gX1_digest_X1_bestToMute : GoodIn wsX1_digest (wsV RX1 170 RX1 yX1_bestToMute wsX1_bestToMute) := goodIn_app (goodIn_of _ (by decide +kernel)) ggX1_digest_X1_bestToMute
set_option maxRecDepth 20000 in
theorem ggX1_digest_X1_beatsUntilSilence : GoodIn wsX1_digest wsX1_beatsUntilSilence := goodIn_r _ [96, 97, 3, 98, 99, 100, 22, 101, 102, 44, 29, 103, 30, 24, 104, 105, 106, 19, 20, 21, 23, 25, 26, 27, 28, 107, 108, 109, 110, 111, 112, 53, 113, 114, 81, 82, 83, 39, 40, 41, 42, 43, 45, 46, 47, 48, 49, 8, 50, 51, 52, 54, 115, 116, 117, 118, 119, 120, 121, 199, 200, 201, 202, 203, 204, 205, 206, 207, 208, 209, 210] (by decide +kernel) (by decide +kernel)
set_option maxRecDepth 20000 in
theorem gX1_digest_X1_beatsUntilSilence : GoodIn wsX1_digest (wsV RX1 173 RX1 yX1_beatsUntilSilence wsX1_beatsUntilSilence) := goodIn_app (goodIn_of _ (by decide +kernel)) ggX1_digest_X1_beatsUntilSilence
set_option maxRecDepth 20000 in
theorem ggX1_digest_X1_beatsUntilCadence : GoodIn wsX1_digest wsX1_beatsUntilCadence := goodIn_r _ [125, 97, 3, 88, 98, 99, 100, 22, 101, 102, 44, 29, 103, 30, 24, 104, 105, 106, 107, 108, 109, 110, 111, 112, 53, 113, 114, 81, 82, 83, 39, 20, 21, 23, 25, 26, 27, 28, 40, 41, 42, 43, 45, 46, 47, 48, 49, 8, 50, 51, 52, 54, 115, 116, 117, 118, 119, 120, 121, 199, 200, 201, 202, 203, 204, 205, 206, 207, 208, 209, 210] (by decide +kernel) (by decide +kernel)
set_option maxRecDepth 20000 in
theorem gX1_digest_X1_beatsUntilCadence : GoodIn wsX1_digest (wsV RX1 176 RX1 yX1_beatsUntilCadence wsX1_beatsUntilCadence) := goodIn_app (goodIn_of _ (by decide +kernel)) ggX1_digest_X1_beatsUntilCadence
set_option maxRecDepth 20000 in
theorem ggX1_digest_X1_greatestAccord : GoodIn wsX1_digest wsX1_greatestAccord := goodIn_r _ [129, 3, 130, 131, 132, 22, 133, 24, 134, 135, 136, 137, 138, 44, 25, 26, 27, 28, 29, 30, 49, 8, 50, 51, 52, 53, 54, 139, 140, 141, 142, 143, 144, 145, 146, 147, 148, 149, 199, 200, 201, 202, 203, 204, 205, 206, 207, 208, 209, 210] (by decide +kernel) (by decide +kernel)
set_option maxRecDepth 20000 in
theorem gX1_digest_X1_greatestAccord : GoodIn wsX1_digest (wsV RX1 179 RX1 yX1_greatestAccord wsX1_greatestAccord) := goodIn_app (goodIn_of _ (by decide +kernel)) ggX1_digest_X1_greatestAccord
set_option maxRecDepth 20000 in
theorem ggX1_digest_X1_digestPot : GoodIn wsX1_digest wsX1_digestPot := goodIn_ca (goodIn_r _ [153, 2, 154, 155, 156, 8, 157, 3, 158, 159, 160, 161, 162, 163, 164, 4, 165, 166, 167, 168, 169, 170, 171, 172, 173, 174, 175, 176, 177, 178, 179, 180, 181, 182, 183, 184, 26, 27, 22, 28, 29, 30, 185, 186, 187, 188, 189, 46, 47, 48, 24, 44, 25, 49, 50, 51, 52, 53, 54, 190, 191, 192, 193, 194, 195, 196, 197, 198, 45, 199, 200, 201, 202, 203, 204, 205, 206, 207, 208, 209, 210] (by decide +kernel) (by decide +kernel)) (goodIn_sub (fun _ h => List.mem_cons_of_mem _ (List.mem_append_right _ h)) (by decide +kernel))
set_option maxRecDepth 20000 in
theorem gX1_digest_X1_digestPot : GoodIn wsX1_digest (wsV RX1 182 RX1 yX1_digestPot wsX1_digestPot) := goodIn_app (goodIn_of _ (by decide +kernel)) ggX1_digest_X1_digestPot
set_option maxRecDepth 20000 in
theorem ggX1_digestPot_X1_partOf : GoodIn wsX1_digestPot wsX1_partOf := goodIn_ca (goodIn_r _ [6, 7, 8, 9, 10, 11, 5, 12, 13, 14, 15, 69, 70, 71, 72, 73, 74, 75, 76, 77, 78, 79, 80] (by decide +kernel) (by decide +kernel)) (goodIn_sub (fun _ h => List.mem_cons_of_mem _ (List.mem_append_right _ h)) (by decide +kernel))
set_option maxRecDepth 20000 in
theorem gX1_digestPot_X1_partOf : GoodIn wsX1_digestPot (wsV RX1 186 RX1 yX1_partOf wsX1_partOf) := goodIn_app (goodIn_of _ (by decide +kernel)) ggX1_digestPot_X1_partOf
set_option maxRecDepth 20000 in
theorem ggX1_digestPot_X1_pitchOf : GoodIn wsX1_digestPot wsX1_pitchOf := goodIn_ca (goodIn_r _ [19, 7, 20, 9, 10, 11, 5, 12, 13, 14, 15, 69, 70, 71, 72, 73, 74, 75, 76, 77, 78, 79, 80] (by decide +kernel) (by decide +kernel)) (goodIn_sub (fun _ h => List.mem_cons_of_mem _ (List.mem_append_right _ h)) (by decide +kernel))
set_option maxRecDepth 20000 in
theorem gX1_digestPot_X1_pitchOf : GoodIn wsX1_digestPot (wsV RX1 189 RX1 yX1_pitchOf wsX1_pitchOf) := goodIn_app (goodIn_of _ (by decide +kernel)) ggX1_digestPot_X1_pitchOf
set_option maxRecDepth 20000 in
theorem ggX1_digestPot_X1_teaOf : GoodIn wsX1_digestPot wsX1_teaOf := goodIn_ca (goodIn_r _ [24, 7, 25, 9, 10, 11, 5, 12, 13, 14, 15, 69, 70, 71, 72, 73, 74, 75, 76, 77, 78, 79, 80] (by decide +kernel) (by decide +kernel)) (goodIn_sub (fun _ h => List.mem_cons_of_mem _ (List.mem_append_right _ h)) (by decide +kernel))
set_option maxRecDepth 20000 in
theorem gX1_digestPot_X1_teaOf : GoodIn wsX1_digestPot (wsV RX1 192 RX1 yX1_teaOf wsX1_teaOf) := goodIn_app (goodIn_of _ (by decide +kernel)) ggX1_digestPot_X1_teaOf
set_option maxRecDepth 20000 in
theorem ggX1_digestPot_X1_crackOf : GoodIn wsX1_digestPot wsX1_crackOf := goodIn_ca (goodIn_r _ [29, 7, 30, 9, 10, 11, 5, 12, 13, 14, 15, 69, 70, 71, 72, 73, 74, 75, 76, 77, 78, 79, 80] (by decide +kernel) (by decide +kernel)) (goodIn_sub (fun _ h => List.mem_cons_of_mem _ (List.mem_append_right _ h)) (by decide +kernel))
set_option maxRecDepth 20000 in
theorem gX1_digestPot_X1_crackOf : GoodIn wsX1_digestPot (wsV RX1 195 RX1 yX1_crackOf wsX1_crackOf) := goodIn_app (goodIn_of _ (by decide +kernel)) ggX1_digestPot_X1_crackOf
set_option maxRecDepth 20000 in
theorem ggX1_digestPot_X1_sounds : GoodIn wsX1_digestPot wsX1_sounds := goodIn_ca (goodIn_r _ [34, 7, 9, 10, 11, 5, 12, 13, 14, 15, 35, 36, 37, 38, 39, 40, 41, 69, 70, 71, 72, 73, 74, 75, 76, 77, 78, 79, 80] (by decide +kernel) (by decide +kernel)) (goodIn_sub (fun _ h => List.mem_cons_of_mem _ (List.mem_append_right _ h)) (by decide +kernel))
set_option maxRecDepth 20000 in
theorem gX1_digestPot_X1_sounds : GoodIn wsX1_digestPot (wsV RX1 198 RX1 yX1_sounds wsX1_sounds) := goodIn_app (goodIn_of _ (by decide +kernel)) ggX1_digestPot_X1_sounds
set_option maxRecDepth 20000 in
theorem ggX1_digestPot_X1_clashesOf : GoodIn wsX1_digestPot wsX1_clashesOf := goodIn_ca (goodIn_r _ [45, 7, 20, 9, 10, 11, 5, 12, 13, 14, 15, 35, 36, 37, 38, 39, 40, 41, 46, 47, 48, 49, 50, 51, 52, 53, 54, 55, 56, 57, 58, 69, 70, 71, 72, 73, 74, 75, 76, 77, 78, 79, 80] (by decide +kernel) (by decide +kernel)) (goodIn_sub (fun _ h => List.mem_cons_of_mem _ (List.mem_append_right _ h)) (by decide +kernel))
set_option maxRecDepth 20000 in
theorem gX1_digestPot_X1_clashesOf : GoodIn wsX1_digestPot (wsV RX1 201 RX1 yX1_clashesOf wsX1_clashesOf) := goodIn_app (goodIn_of _ (by decide +kernel)) ggX1_digestPot_X1_clashesOf
set_option maxRecDepth 20000 in
theorem ggX1_digestPot_X1_bestTuning : GoodIn wsX1_digestPot wsX1_bestTuning := goodIn_ca (goodIn_r _ [62, 7, 9, 10, 11, 5, 12, 13, 14, 15, 35, 36, 37, 38, 39, 40, 41, 63, 64, 65, 66, 51, 67, 56, 57, 58, 68, 47, 48, 49, 50, 52, 53, 54, 55, 69, 70, 71, 72, 73, 74, 75, 76, 77, 78, 79, 80] (by decide +kernel) (by decide +kernel)) (goodIn_sub (fun _ h => List.mem_cons_of_mem _ (List.mem_append_right _ h)) (by decide +kernel))
set_option maxRecDepth 20000 in
theorem gX1_digestPot_X1_bestTuning : GoodIn wsX1_digestPot (wsV RX1 204 RX1 yX1_bestTuning wsX1_bestTuning) := goodIn_app (goodIn_of _ (by decide +kernel)) ggX1_digestPot_X1_bestTuning
