set_option maxRecDepth 20000 in
theorem ggX2_isAccordOf_X2_isAccord : GoodIn wsX2_isAccordOf wsX2_isAccord := goodIn_r _ [5] (by decide +kernel) (by decide +kernel)
set_option maxRecDepth 20000 in
theorem gX2_isAccordOf_X2_isAccord : GoodIn wsX2_isAccordOf (va_wsS RX2 35 yX2_isAccord wsX2_isAccord) := goodIn_app (goodIn_of _ (by decide +kernel)) ggX2_isAccordOf_X2_isAccord
set_option maxRecDepth 20000 in
theorem ggX2_clashesOf_X2_sounds : GoodIn wsX2_clashesOf wsX2_sounds := goodIn_r _ [6, 1, 14, 15, 16, 17] (by decide +kernel) (by decide +kernel)
set_option maxRecDepth 20000 in
theorem gX2_clashesOf_X2_sounds : GoodIn wsX2_clashesOf (wsV RX2 39 RX2 yX2_sounds wsX2_sounds) := goodIn_app (goodIn_of _ (by decide +kernel)) ggX2_clashesOf_X2_sounds
set_option maxRecDepth 20000 in
theorem ggX2_clashesOf_X2_isAccordOf : GoodIn wsX2_clashesOf wsX2_isAccordOf := goodIn_r _ [10, 1, 11, 12, 5, 13, 14, 15, 16, 17] (by decide +kernel) (by decide +kernel)
set_option maxRecDepth 20000 in
theorem gX2_clashesOf_X2_isAccordOf : GoodIn wsX2_clashesOf (wsV RX2 43 RX2 yX2_isAccordOf wsX2_isAccordOf) := goodIn_app (goodIn_of _ (by decide +kernel)) ggX2_clashesOf_X2_isAccordOf
set_option maxRecDepth 20000 in
theorem ggX2_clashes_X2_sounds : GoodIn wsX2_clashes wsX2_sounds := goodIn_r _ [6, 1, 14, 15, 16, 17] (by decide +kernel) (by decide +kernel)
set_option maxRecDepth 20000 in
theorem gX2_clashes_X2_sounds : GoodIn wsX2_clashes (wsV RX2 39 RX2 yX2_sounds wsX2_sounds) := goodIn_app (goodIn_of _ (by decide +kernel)) ggX2_clashes_X2_sounds
set_option maxRecDepth 20000 in
theorem ggX2_clashes_X2_isAccordOf : GoodIn wsX2_clashes wsX2_isAccordOf := goodIn_r _ [10, 1, 11, 12, 5, 13, 14, 15, 16, 17] (by decide +kernel) (by decide +kernel)
set_option maxRecDepth 20000 in
theorem gX2_clashes_X2_isAccordOf : GoodIn wsX2_clashes (wsV RX2 43 RX2 yX2_isAccordOf wsX2_isAccordOf) := goodIn_app (goodIn_of _ (by decide +kernel)) ggX2_clashes_X2_isAccordOf
set_option maxRecDepth 20000 in
theorem ggX2_harmony_X2_sounds : GoodIn wsX2_harmony wsX2_sounds := goodIn_r _ [6, 1, 14, 15, 16, 17] (by decide +kernel) (by decide +kernel)
set_option maxRecDepth 20000 in
theorem gX2_harmony_X2_sounds : GoodIn wsX2_harmony (wsV RX2 39 RX2 yX2_sounds wsX2_sounds) := goodIn_app (goodIn_of _ (by decide +kernel)) ggX2_harmony_X2_sounds
set_option maxRecDepth 20000 in
theorem ggX2_harmony_X2_isAccordOf : GoodIn wsX2_harmony wsX2_isAccordOf := goodIn_r _ [10, 1, 11, 12, 5, 13, 14, 15, 16, 17] (by decide +kernel) (by decide +kernel)
set_option maxRecDepth 20000 in
theorem gX2_harmony_X2_isAccordOf : GoodIn wsX2_harmony (wsV RX2 43 RX2 yX2_isAccordOf wsX2_isAccordOf) := goodIn_app (goodIn_of _ (by decide +kernel)) ggX2_harmony_X2_isAccordOf
set_option maxRecDepth 20000 in
theorem ggX2_sounding_X2_sounds : GoodIn wsX2_sounding wsX2_sounds := goodIn_r _ [6, 1, 7, 8, 9, 10] (by decide +kernel) (by decide +kernel)
set_option maxRecDepth 20000 in
theorem gX2_sounding_X2_sounds : GoodIn wsX2_sounding (wsV RX2 39 RX2 yX2_sounds wsX2_sounds) := goodIn_app (goodIn_of _ (by decide +kernel)) ggX2_sounding_X2_sounds
set_option maxRecDepth 20000 in
theorem ggX2_isClear_X2_sounding : GoodIn wsX2_isClear wsX2_sounding := goodIn_r _ [5, 6, 7, 8, 9, 4, 10, 22, 23, 24, 25] (by decide +kernel) (by decide +kernel)
set_option maxRecDepth 20000 in
theorem gX2_isClear_X2_sounding : GoodIn wsX2_isClear (wsV RX2 46 RX2 yX2_sounding wsX2_sounding) := goodIn_app (goodIn_of _ (by decide +kernel)) ggX2_isClear_X2_sounding
set_option maxRecDepth 20000 in
theorem ggX2_isClear_X2_clashes : GoodIn wsX2_isClear wsX2_clashes := goodIn_r _ [14, 6, 7, 8, 9, 4, 10, 15, 16, 17, 18, 19, 20, 21, 22, 23, 24, 25] (by decide +kernel) (by decide +kernel)
set_option maxRecDepth 20000 in
theorem gX2_isClear_X2_clashes : GoodIn wsX2_isClear (wsV RX2 50 RX2 yX2_clashes wsX2_clashes) := goodIn_app (goodIn_of _ (by decide +kernel)) ggX2_isClear_X2_clashes
set_option maxRecDepth 20000 in
theorem ggX2_sing_X2_clashes : GoodIn wsX2_sing wsX2_clashes := goodIn_r _ [9, 2, 10, 11, 12, 8, 13, 14, 15, 16, 17, 18, 19, 20, 29, 30, 31, 32] (by decide +kernel) (by decide +kernel)
set_option maxRecDepth 20000 in
theorem gX2_sing_X2_clashes : GoodIn wsX2_sing (wsV RX2 50 RX2 yX2_clashes wsX2_clashes) := goodIn_app (goodIn_of _ (by decide +kernel)) ggX2_sing_X2_clashes
set_option maxRecDepth 20000 in
theorem ggX2_sing_X2_isClear : GoodIn wsX2_sing wsX2_isClear := goodIn_r _ [24, 25, 26, 27, 8, 28, 2, 10, 11, 12, 13, 5, 6, 7, 9, 14, 15, 16, 17, 18, 19, 20, 29, 30, 31, 32] (by decide +kernel) (by decide +kernel)
set_option maxRecDepth 20000 in
theorem gX2_sing_X2_isClear : GoodIn wsX2_sing (wsV RX2 53 RX2 yX2_isClear wsX2_isClear) := goodIn_app (goodIn_of _ (by decide +kernel)) ggX2_sing_X2_isClear
set_option maxRecDepth 20000 in
theorem ggX2_sing_X2_sounds : GoodIn wsX2_sing wsX2_sounds := goodIn_r _ [13, 2, 29, 30, 31, 32] (by decide +kernel) (by decide +kernel)
set_option maxRecDepth 20000 in
theorem gX2_sing_X2_sounds : GoodIn wsX2_sing (wsV RX2 39 RX2 yX2_sounds wsX2_sounds) := goodIn_app (goodIn_of _ (by decide +kernel)) ggX2_sing_X2_sounds
set_option maxRecDepth 20000 in
theorem ggX2_sing__X2_sing : GoodIn wsX2_sing_ wsX2_sing := goodIn_r _ [5, 6, 7, 8, 9, 10, 11, 12, 4, 13, 14, 15, 16, 17, 18, 19, 20, 21, 22, 23, 24, 25, 26, 27, 28, 29, 30, 31, 32, 33, 34, 35, 36] (by decide +kernel) (by decide +kernel)
set_option maxRecDepth 20000 in
theorem gX2_sing__X2_sing : GoodIn wsX2_sing_ (wsV RX2 57 RX2 yX2_sing wsX2_sing) := goodIn_app (goodIn_of _ (by decide +kernel)) ggX2_sing__X2_sing
set_option maxRecDepth 20000 in
theorem ggX2_isSame_X2_clashesOf : GoodIn wsX2_isSame wsX2_clashesOf := goodIn_r _ [9, 1, 10, 11, 12, 8, 13, 14, 15, 16, 17, 18, 19, 20, 176, 177, 178, 179] (by decide +kernel) (by decide +kernel)
set_option maxRecDepth 20000 in
theorem gX2_isSame_X2_clashesOf : GoodIn wsX2_isSame (wsV RX2 60 RX2 yX2_clashesOf wsX2_clashesOf) := goodIn_app (goodIn_of _ (by decide +kernel)) ggX2_isSame_X2_clashesOf
set_option maxRecDepth 20000 in
theorem ggX2_isSame_X1_partOf : GoodIn wsX2_isSame wsX1_partOf := goodIn_ca (goodIn_r _ [25, 26, 27, 28, 29, 30, 24, 31, 32, 33, 34, 180, 181, 182, 183, 184, 185, 186, 187, 188, 189, 190, 191] (by decide +kernel) (by decide +kernel)) (goodIn_sub (fun _ h => List.mem_cons_of_mem _ (List.mem_append_right _ h)) (by decide +kernel))
set_option maxRecDepth 20000 in
theorem gX2_isSame_X1_partOf : GoodIn wsX2_isSame (wsV RX2 64 RX1 yX1_partOf wsX1_partOf) := goodIn_app (goodIn_of _ (by decide +kernel)) ggX2_isSame_X1_partOf
set_option maxRecDepth 20000 in
theorem ggX2_isSame_X1_pitchOf : GoodIn wsX2_isSame wsX1_pitchOf := goodIn_ca (goodIn_r _ [38, 26, 39, 28, 29, 30, 24, 31, 32, 33, 34, 180, 181, 182, 183, 184, 185, 186, 187, 188, 189, 190, 191] (by decide +kernel) (by decide +kernel)) (goodIn_sub (fun _ h => List.mem_cons_of_mem _ (List.mem_append_right _ h)) (by decide +kernel))
set_option maxRecDepth 20000 in
theorem gX2_isSame_X1_pitchOf : GoodIn wsX2_isSame (wsV RX2 69 RX1 yX1_pitchOf wsX1_pitchOf) := goodIn_app (goodIn_of _ (by decide +kernel)) ggX2_isSame_X1_pitchOf
set_option maxRecDepth 20000 in
theorem ggX2_isSame_X1_teaOf : GoodIn wsX2_isSame wsX1_teaOf := goodIn_ca (goodIn_r _ [43, 26, 44, 28, 29, 30, 24, 31, 32, 33, 34, 180, 181, 182, 183, 184, 185, 186, 187, 188, 189, 190, 191] (by decide +kernel) (by decide +kernel)) (goodIn_sub (fun _ h => List.mem_cons_of_mem _ (List.mem_append_right _ h)) (by decide +kernel))
set_option maxRecDepth 20000 in
theorem gX2_isSame_X1_teaOf : GoodIn wsX2_isSame (wsV RX2 72 RX1 yX1_teaOf wsX1_teaOf) := goodIn_app (goodIn_of _ (by decide +kernel)) ggX2_isSame_X1_teaOf
set_option maxRecDepth 20000 in
theorem ggX2_isSame_X1_crackOf : GoodIn wsX2_isSame wsX1_crackOf := goodIn_ca (goodIn_r _ [48, 26, 49, 28, 29, 30, 24, 31, 32, 33, 34, 180, 181, 182, 183, 184, 185, 186, 187, 188, 189, 190, 191] (by decide +kernel) (by decide +kernel)) (goodIn_sub (fun _ h => List.mem_cons_of_mem _ (List.mem_append_right _ h)) (by decide +kernel))
set_option maxRecDepth 20000 in
theorem gX2_isSame_X1_crackOf : GoodIn wsX2_isSame (wsV RX2 75 RX1 yX1_crackOf wsX1_crackOf) := goodIn_app (goodIn_of _ (by decide +kernel)) ggX2_isSame_X1_crackOf
set_option maxRecDepth 20000 in
theorem ggX2_isSame_X1_sounds : GoodIn wsX2_isSame wsX1_sounds := goodIn_ca (goodIn_r _ [53, 26, 28, 29, 30, 24, 31, 32, 33, 34, 54, 55, 56, 57, 58, 59, 60, 180, 181, 182, 183, 184, 185, 186, 187, 188, 189, 190, 191] (by decide +kernel) (by decide +kernel)) (goodIn_sub (fun _ h => List.mem_cons_of_mem _ (List.mem_append_right _ h)) (by decide +kernel))
set_option maxRecDepth 20000 in
theorem gX2_isSame_X1_sounds : GoodIn wsX2_isSame (wsV RX2 78 RX1 yX1_sounds wsX1_sounds) := goodIn_app (goodIn_of _ (by decide +kernel)) ggX2_isSame_X1_sounds
set_option maxRecDepth 20000 in
theorem ggX2_isSame_X2_sounds : GoodIn wsX2_isSame wsX2_sounds := goodIn_r _ [13, 1, 176, 177, 178, 179] (by decide +kernel) (by decide +kernel)
set_option maxRecDepth 20000 in
theorem gX2_isSame_X2_sounds : GoodIn wsX2_isSame (wsV RX2 39 RX2 yX2_sounds wsX2_sounds) := goodIn_app (goodIn_of _ (by decide +kernel)) ggX2_isSame_X2_sounds
set_option maxRecDepth 20000 in
theorem ggX2_isSame_X1_clashesOf : GoodIn wsX2_isSame wsX1_clashesOf := goodIn_ca (goodIn_r _ [64, 26, 39, 28, 29, 30, 24, 31, 32, 33, 34, 54, 55, 56, 57, 58, 59, 60, 65, 66, 67, 68, 69, 70, 71, 72, 73, 74, 75, 76, 77, 180, 181, 182, 183, 184, 185, 186, 187, 188, 189, 190, 191] (by decide +kernel) (by decide +kernel)) (goodIn_sub (fun _ h => List.mem_cons_of_mem _ (List.mem_append_right _ h)) (by decide +kernel))
set_option maxRecDepth 20000 in
theorem gX2_isSame_X1_clashesOf : GoodIn wsX2_isSame (wsV RX2 79 RX1 yX1_clashesOf wsX1_clashesOf) := goodIn_app (goodIn_of _ (by decide +kernel)) ggX2_isSame_X1_clashesOf
set_option maxRecDepth 20000 in
theorem ggX2_isSame_X1_soundingOf : GoodIn wsX2_isSame wsX1_soundingOf := goodIn_ca (goodIn_r _ [81, 32, 33, 26, 82, 83, 84, 57, 85, 69, 86, 71, 55, 56, 58, 59, 60, 180, 181, 182, 183, 184, 185, 186, 187, 188, 189, 190, 191] (by decide +kernel) (by decide +kernel)) (goodIn_sub (fun _ h => List.mem_cons_of_mem _ (List.mem_append_right _ h)) (by decide +kernel))
set_option maxRecDepth 20000 in
theorem gX2_isSame_X1_soundingOf : GoodIn wsX2_isSame (wsV RX2 80 RX1 yX1_soundingOf wsX1_soundingOf) := goodIn_app (goodIn_of _ (by decide +kernel)) ggX2_isSame_X1_soundingOf
set_option maxRecDepth 20000 in
theorem ggX2_isSame_X1_pots : GoodIn wsX2_isSame wsX1_pots := goodIn_r _ [90, 26, 34, 180, 181, 182, 183, 184, 185, 186, 187, 188, 189, 190, 191] (by decide +kernel) (by decide +kernel)
set_option maxRecDepth 20000 in
theorem gX2_isSame_X1_pots : GoodIn wsX2_isSame (wsV RX2 83 RX1 yX1_pots wsX1_pots) := goodIn_app (goodIn_of _ (by decide +kernel)) ggX2_isSame_X1_pots
set_option maxRecDepth 20000 in
theorem ggX2_isSame_X1_beats : GoodIn wsX2_isSame wsX1_beats := goodIn_r _ [94, 26, 95, 180, 181, 182, 183, 184, 185, 186, 187, 188, 189, 190, 191] (by decide +kernel) (by decide +kernel)
set_option maxRecDepth 20000 in
theorem gX2_isSame_X1_beats : GoodIn wsX2_isSame (wsV RX2 85 RX1 yX1_beats wsX1_beats) := goodIn_app (goodIn_of _ (by decide +kernel)) ggX2_isSame_X1_beats
set_option maxRecDepth 20000 in
theorem ggX2_isSame_X1_sounding : GoodIn wsX2_isSame wsX1_sounding := goodIn_r _ [99, 26, 100, 101, 102, 57, 103, 69, 71, 55, 56, 58, 59, 60, 180, 181, 182, 183, 184, 185, 186, 187, 188, 189, 190, 191] (by decide +kernel) (by decide +kernel)
set_option maxRecDepth 20000 in
theorem gX2_isSame_X1_sounding : GoodIn wsX2_isSame (wsV RX2 88 RX1 yX1_sounding wsX1_sounding) := goodIn_app (goodIn_of _ (by decide +kernel)) ggX2_isSame_X1_sounding
set_option maxRecDepth 20000 in
theorem ggX2_isSame_X2_sounding : GoodIn wsX2_isSame wsX2_sounding := goodIn_r _ [107, 1, 10, 11, 12, 8, 13, 176, 177, 178, 179] (by decide +kernel) (by decide +kernel)
set_option maxRecDepth 20000 in
theorem gX2_isSame_X2_sounding : GoodIn wsX2_isSame (wsV RX2 46 RX2 yX2_sounding wsX2_sounding) := goodIn_app (goodIn_of _ (by decide +kernel)) ggX2_isSame_X2_sounding
set_option maxRecDepth 20000 in
theorem ggX2_isSame_X1_harmony : GoodIn wsX2_isSame wsX1_harmony := goodIn_r _ [111, 26, 112, 113, 114, 57, 115, 116, 101, 102, 103, 69, 71, 55, 56, 58, 59, 60, 117, 118, 119, 120, 70, 121, 66, 67, 68, 72, 24, 73, 74, 75, 76, 77, 180, 181, 182, 183, 184, 185, 186, 187, 188, 189, 190, 191] (by decide +kernel) (by decide +kernel)
set_option maxRecDepth 20000 in
theorem gX2_isSame_X1_harmony : GoodIn wsX2_isSame (wsV RX2 89 RX1 yX1_harmony wsX1_harmony) := goodIn_app (goodIn_of _ (by decide +kernel)) ggX2_isSame_X1_harmony
set_option maxRecDepth 20000 in
theorem ggX2_isSame_X2_harmony : GoodIn wsX2_isSame wsX2_harmony := goodIn_r _ [125, 1, 10, 11, 12, 8, 13, 14, 15, 16, 17, 18, 19, 20, 176, 177, 178, 179] (by decide +kernel) (by decide +kernel)
set_option maxRecDepth 20000 in
theorem gX2_isSame_X2_harmony : GoodIn wsX2_isSame (wsV RX2 92 RX2 yX2_harmony wsX2_harmony) := goodIn_app (goodIn_of _ (by decide +kernel)) ggX2_isSame_X2_harmony
set_option maxRecDepth 20000 in
theorem ggX2_isSame_X1_clashes : GoodIn wsX2_isSame wsX1_clashes := goodIn_r _ [129, 26, 130, 118, 119, 57, 120, 69, 70, 71, 55, 56, 58, 59, 60, 121, 66, 67, 68, 72, 24, 73, 74, 75, 76, 77, 180, 181, 182, 183, 184, 185, 186, 187, 188, 189, 190, 191] (by decide +kernel) (by decide +kernel)
set_option maxRecDepth 20000 in
theorem gX2_isSame_X1_clashes : GoodIn wsX2_isSame (wsV RX2 93 RX1 yX1_clashes wsX1_clashes) := goodIn_app (goodIn_of _ (by decide +kernel)) ggX2_isSame_X1_clashes
set_option maxRecDepth 20000 in
theorem ggX2_isSame_X2_clashes : GoodIn wsX2_isSame wsX2_clashes := goodIn_r _ [134, 1, 10, 11, 12, 8, 13, 14, 15, 16, 17, 18, 19, 20, 176, 177, 178, 179] (by decide +kernel) (by decide +kernel)
set_option maxRecDepth 20000 in
theorem gX2_isSame_X2_clashes : GoodIn wsX2_isSame (wsV RX2 50 RX2 yX2_clashes wsX2_clashes) := goodIn_app (goodIn_of _ (by decide +kernel)) ggX2_isSame_X2_clashes
set_option maxRecDepth 20000 in
theorem ggX2_isSame_X1_harshest : GoodIn wsX2_isSame wsX1_harshest := goodIn_r _ [138, 26, 130, 118, 119, 57, 120, 69, 70, 71, 55, 56, 58, 59, 60, 121, 66, 67, 68, 72, 24, 73, 74, 75, 76, 77, 139, 140, 141, 142, 180, 181, 182, 183, 184, 185, 186, 187, 188, 189, 190, 191] (by decide +kernel) (by decide +kernel)
set_option maxRecDepth 20000 in
theorem gX2_isSame_X1_harshest : GoodIn wsX2_isSame (wsV RX2 94 RX1 yX1_harshest wsX1_harshest) := goodIn_app (goodIn_of _ (by decide +kernel)) ggX2_isSame_X1_harshest
set_option maxRecDepth 20000 in
theorem ggX2_isSame_X1_lowest : GoodIn wsX2_isSame wsX1_lowest := goodIn_r _ [146, 26, 147, 148, 149, 57, 150, 69, 70, 71, 55, 56, 58, 59, 60, 180, 181, 182, 183, 184, 185, 186, 187, 188, 189, 190, 191] (by decide +kernel) (by decide +kernel)
set_option maxRecDepth 20000 in
theorem gX2_isSame_X1_lowest : GoodIn wsX2_isSame (wsV RX2 97 RX1 yX1_lowest wsX1_lowest) := goodIn_app (goodIn_of _ (by decide +kernel)) ggX2_isSame_X1_lowest
set_option maxRecDepth 20000 in
theorem ggX2_isSame_X1_isClear : GoodIn wsX2_isSame wsX1_isClear := goodIn_r _ [154, 26, 155, 156, 157, 57, 158, 116, 101, 102, 103, 69, 71, 55, 56, 58, 59, 60, 117, 118, 119, 120, 70, 121, 66, 67, 68, 72, 24, 73, 74, 75, 76, 77, 180, 181, 182, 183, 184, 185, 186, 187, 188, 189, 190, 191] (by decide +kernel) (by decide +kernel)
set_option maxRecDepth 20000 in
theorem gX2_isSame_X1_isClear : GoodIn wsX2_isSame (wsV RX2 100 RX1 yX1_isClear wsX1_isClear) := goodIn_app (goodIn_of _ (by decide +kernel)) ggX2_isSame_X1_isClear
set_option maxRecDepth 20000 in
theorem ggX2_isSame_X2_isClear : GoodIn wsX2_isSame wsX2_isClear := goodIn_r _ [162, 104, 105, 106, 8, 107, 1, 10, 11, 12, 13, 131, 132, 133, 134, 14, 15, 16, 17, 18, 19, 20, 176, 177, 178, 179] (by decide +kernel) (by decide +kernel)
set_option maxRecDepth 20000 in
theorem gX2_isSame_X2_isClear : GoodIn wsX2_isSame (wsV RX2 53 RX2 yX2_isClear wsX2_isClear) := goodIn_app (goodIn_of _ (by decide +kernel)) ggX2_isSame_X2_isClear
set_option maxRecDepth 20000 in
theorem ggX2_isSame_X1_cadences : GoodIn wsX2_isSame wsX1_cadences := goodIn_r _ [166, 26, 167, 180, 181, 182, 183, 184, 185, 186, 187, 188, 189, 190, 191] (by decide +kernel) (by decide +kernel)
set_option maxRecDepth 20000 in
theorem gX2_isSame_X1_cadences : GoodIn wsX2_isSame (wsV RX2 101 RX1 yX1_cadences wsX1_cadences) := goodIn_app (goodIn_of _ (by decide +kernel)) ggX2_isSame_X1_cadences
set_option maxRecDepth 20000 in
theorem ggX2_isSame_X1_meanPitch : GoodIn wsX2_isSame wsX1_meanPitch := goodIn_r _ [171, 26, 172, 173, 174, 57, 175, 69, 70, 116, 101, 102, 103, 71, 55, 56, 58, 59, 60, 180, 181, 182, 183, 184, 185, 186, 187, 188, 189, 190, 191] (by decide +kernel) (by decide +kernel)
set_option maxRecDepth 20000 in
theorem gX2_isSame_X1_meanPitch : GoodIn wsX2_isSame (wsV RX2 103 RX1 yX1_meanPitch wsX1_meanPitch) := goodIn_app (goodIn_of _ (by decide +kernel)) ggX2_isSame_X1_meanPitch
