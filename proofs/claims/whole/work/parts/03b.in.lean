set_option maxRecDepth 20000 in
theorem ggX2_isPot_X2_isIn : GoodIn wsX2_isPot wsX2_isIn := goodIn_r _ [5] (by decide +kernel) (by decide +kernel)
set_option maxRecDepth 20000 in
theorem gX2_isPot_X2_isIn : GoodIn wsX2_isPot (va_wsS RX2 26 yX2_isIn wsX2_isIn) := goodIn_app (goodIn_of _ (by decide +kernel)) ggX2_isPot_X2_isIn
set_option maxRecDepth 20000 in
theorem ggX2_set_X2_heard : GoodIn wsX2_set wsX2_heard := goodIn_r _ [6, 7, 8, 9, 10, 11, 12, 13, 14] (by decide +kernel) (by decide +kernel)
set_option maxRecDepth 20000 in
theorem gX2_set_X2_heard : GoodIn wsX2_set (wsV RX2 39 RX2 yX2_heard wsX2_heard) := goodIn_app (goodIn_of _ (by decide +kernel)) ggX2_set_X2_heard
set_option maxRecDepth 20000 in
theorem ggX2_accord_X2_apart : GoodIn wsX2_accord wsX2_apart := goodIn_r _ [5, 6, 7, 8, 9, 10, 11, 12, 13, 14, 15, 16] (by decide +kernel) (by decide +kernel)
set_option maxRecDepth 20000 in
theorem gX2_accord_X2_apart : GoodIn wsX2_accord (wsV RX2 49 RX2 yX2_apart wsX2_apart) := goodIn_app (goodIn_of _ (by decide +kernel)) ggX2_accord_X2_apart
set_option maxRecDepth 20000 in
theorem ggX2_against_X2_accord : GoodIn wsX2_against wsX2_accord := goodIn_r _ [6, 7, 8, 9, 5, 10, 11, 12, 13, 14, 15, 16, 17, 18, 19, 20, 21] (by decide +kernel) (by decide +kernel)
set_option maxRecDepth 20000 in
theorem gX2_against_X2_accord : GoodIn wsX2_against (wsV RX2 53 RX2 yX2_accord wsX2_accord) := goodIn_app (goodIn_of _ (by decide +kernel)) ggX2_against_X2_accord
set_option maxRecDepth 20000 in
theorem ggX2_allClashes_X2_against : GoodIn wsX2_allClashes wsX2_against := goodIn_r _ [6, 1, 7, 8, 9, 5, 10, 11, 12, 13, 14, 15, 16, 17, 18, 19, 20, 21, 22, 23, 24, 25] (by decide +kernel) (by decide +kernel)
set_option maxRecDepth 20000 in
theorem gX2_allClashes_X2_against : GoodIn wsX2_allClashes (wsV RX2 57 RX2 yX2_against wsX2_against) := goodIn_app (goodIn_of _ (by decide +kernel)) ggX2_allClashes_X2_against
set_option maxRecDepth 20000 in
theorem ggX2_harmonyOf_J6_bitCount_0f7a4 : GoodIn wsX2_harmonyOf wsJ6_bitCount_0f7a4 := goodIn_r _ [4, 5, 6, 7] (by decide +kernel) (by decide +kernel)
set_option maxRecDepth 20000 in
theorem gX2_harmonyOf_J6_bitCount_0f7a4 : GoodIn wsX2_harmonyOf (va_wsS RX2 60 yJ6_bitCount_0f7a4 wsJ6_bitCount_0f7a4) := goodIn_app (goodIn_of _ (by decide +kernel)) ggX2_harmonyOf_J6_bitCount_0f7a4
set_option maxRecDepth 20000 in
theorem ggX2_harmonyOf_X2_allClashes : GoodIn wsX2_harmonyOf wsX2_allClashes := goodIn_r _ [12, 13, 14, 15, 16, 11, 17, 18, 19, 20, 21, 22, 23, 24, 25, 26, 27, 28, 29, 30, 31, 32, 33, 34, 35, 36] (by decide +kernel) (by decide +kernel)
set_option maxRecDepth 20000 in
theorem gX2_harmonyOf_X2_allClashes : GoodIn wsX2_harmonyOf (wsV RX2 65 RX2 yX2_allClashes wsX2_allClashes) := goodIn_app (goodIn_of _ (by decide +kernel)) ggX2_harmonyOf_X2_allClashes
set_option maxRecDepth 20000 in
theorem ggX2_clear_X2_set : GoodIn wsX2_clear wsX2_set := goodIn_r _ [5, 6, 7, 8, 9, 4, 10, 11, 12, 40, 41, 42, 43, 44, 45] (by decide +kernel) (by decide +kernel)
set_option maxRecDepth 20000 in
theorem gX2_clear_X2_set : GoodIn wsX2_clear (wsV RX2 68 RX2 yX2_set wsX2_set) := goodIn_app (goodIn_of _ (by decide +kernel)) ggX2_clear_X2_set
set_option maxRecDepth 20000 in
theorem ggX2_clear_J6_bitCount_0f7a4 : GoodIn wsX2_clear wsJ6_bitCount_0f7a4 := goodIn_r _ [16, 17, 18, 19] (by decide +kernel) (by decide +kernel)
set_option maxRecDepth 20000 in
theorem gX2_clear_J6_bitCount_0f7a4 : GoodIn wsX2_clear (va_wsS RX2 60 yJ6_bitCount_0f7a4 wsJ6_bitCount_0f7a4) := goodIn_app (goodIn_of _ (by decide +kernel)) ggX2_clear_J6_bitCount_0f7a4
set_option maxRecDepth 20000 in
theorem ggX2_clear_X2_allClashes : GoodIn wsX2_clear wsX2_allClashes := goodIn_r _ [23, 6, 24, 25, 26, 4, 27, 28, 29, 30, 31, 32, 33, 34, 35, 11, 36, 37, 38, 39, 40, 41, 42, 43, 44, 45] (by decide +kernel) (by decide +kernel)
set_option maxRecDepth 20000 in
theorem gX2_clear_X2_allClashes : GoodIn wsX2_clear (wsV RX2 65 RX2 yX2_allClashes wsX2_allClashes) := goodIn_app (goodIn_of _ (by decide +kernel)) ggX2_clear_X2_allClashes
set_option maxRecDepth 20000 in
theorem ggX2_beat_X2_set : GoodIn wsX2_beat wsX2_set := goodIn_r _ [15, 2, 16, 17, 18, 14, 19, 1, 10, 50, 51, 52, 53, 54, 55] (by decide +kernel) (by decide +kernel)
set_option maxRecDepth 20000 in
theorem gX2_beat_X2_set : GoodIn wsX2_beat (wsV RX2 68 RX2 yX2_set wsX2_set) := goodIn_app (goodIn_of _ (by decide +kernel)) ggX2_beat_X2_set
set_option maxRecDepth 20000 in
theorem ggX2_beat_X2_allClashes : GoodIn wsX2_beat wsX2_allClashes := goodIn_r _ [23, 2, 24, 25, 26, 14, 27, 28, 29, 30, 31, 32, 33, 34, 35, 1, 36, 37, 5, 38, 50, 51, 52, 53, 54, 55] (by decide +kernel) (by decide +kernel)
set_option maxRecDepth 20000 in
theorem gX2_beat_X2_allClashes : GoodIn wsX2_beat (wsV RX2 65 RX2 yX2_allClashes wsX2_allClashes) := goodIn_app (goodIn_of _ (by decide +kernel)) ggX2_beat_X2_allClashes
set_option maxRecDepth 20000 in
theorem ggX2_beat_X2_clear : GoodIn wsX2_beat wsX2_clear := goodIn_r _ [42, 11, 12, 13, 14, 15, 2, 16, 17, 18, 19, 1, 10, 43, 44, 45, 46, 47, 48, 49, 20, 21, 22, 23, 24, 25, 26, 27, 28, 29, 30, 31, 32, 33, 34, 35, 36, 37, 5, 38, 50, 51, 52, 53, 54, 55] (by decide +kernel) (by decide +kernel)
set_option maxRecDepth 20000 in
theorem gX2_beat_X2_clear : GoodIn wsX2_beat (wsV RX2 72 RX2 yX2_clear wsX2_clear) := goodIn_app (goodIn_of _ (by decide +kernel)) ggX2_beat_X2_clear
set_option maxRecDepth 20000 in
theorem ggX2_beats_X2_beat : GoodIn wsX2_beats wsX2_beat := goodIn_r _ [5, 6, 7, 8, 9, 10, 11, 12, 13, 14, 15, 16, 17, 18, 4, 19, 20, 21, 22, 23, 24, 25, 26, 27, 28, 29, 30, 31, 32, 33, 34, 35, 36, 37, 38, 39, 40, 41, 42, 43, 44, 45, 46, 47, 48, 49, 50, 51, 52, 53, 54, 55, 56, 57, 58, 59] (by decide +kernel) (by decide +kernel)
set_option maxRecDepth 20000 in
theorem gX2_beats_X2_beat : GoodIn wsX2_beats (wsV RX2 82 RX2 yX2_beat wsX2_beat) := goodIn_app (goodIn_of _ (by decide +kernel)) ggX2_beats_X2_beat
set_option maxRecDepth 20000 in
theorem ggX2_addPot_X2_isIn : GoodIn wsX2_addPot wsX2_isIn := goodIn_r _ [8] (by decide +kernel) (by decide +kernel)
set_option maxRecDepth 20000 in
theorem gX2_addPot_X2_isIn : GoodIn wsX2_addPot (va_wsS RX2 26 yX2_isIn wsX2_isIn) := goodIn_app (goodIn_of _ (by decide +kernel)) ggX2_addPot_X2_isIn
set_option maxRecDepth 20000 in
theorem ggX2_addPot_X2_no : GoodIn wsX2_addPot wsX2_no := goodIn_r _ [12, 1, 13, 14, 15, 16, 17, 18] (by decide +kernel) (by decide +kernel)
set_option maxRecDepth 20000 in
theorem gX2_addPot_X2_no : GoodIn wsX2_addPot (wsV RX2 85 RX2 yX2_no wsX2_no) := goodIn_app (goodIn_of _ (by decide +kernel)) ggX2_addPot_X2_no
set_option maxRecDepth 20000 in
theorem ggX2_tune_X2_isPot : GoodIn wsX2_tune wsX2_isPot := goodIn_r _ [7, 8, 9, 10, 6, 11, 16, 17, 18, 19, 20, 21] (by decide +kernel) (by decide +kernel)
set_option maxRecDepth 20000 in
theorem gX2_tune_X2_isPot : GoodIn wsX2_tune (wsV RX2 88 RX2 yX2_isPot wsX2_isPot) := goodIn_app (goodIn_of _ (by decide +kernel)) ggX2_tune_X2_isPot
set_option maxRecDepth 20000 in
theorem ggX2_tune_X2_no : GoodIn wsX2_tune wsX2_no := goodIn_r _ [15, 1, 16, 17, 18, 19, 20, 21] (by decide +kernel) (by decide +kernel)
set_option maxRecDepth 20000 in
theorem gX2_tune_X2_no : GoodIn wsX2_tune (wsV RX2 85 RX2 yX2_no wsX2_no) := goodIn_app (goodIn_of _ (by decide +kernel)) ggX2_tune_X2_no
set_option maxRecDepth 20000 in
theorem ggX2_tune_X2_isIn : GoodIn wsX2_tune wsX2_isIn := goodIn_r _ [11] (by decide +kernel) (by decide +kernel)
set_option maxRecDepth 20000 in
theorem gX2_tune_X2_isIn : GoodIn wsX2_tune (va_wsS RX2 26 yX2_isIn wsX2_isIn) := goodIn_app (goodIn_of _ (by decide +kernel)) ggX2_tune_X2_isIn
set_option maxRecDepth 20000 in
theorem ggX2_turnCosy_X2_isPot : GoodIn wsX2_turnCosy wsX2_isPot := goodIn_r _ [7, 8, 9, 10, 6, 11, 16, 17, 18, 19, 20, 21] (by decide +kernel) (by decide +kernel)
set_option maxRecDepth 20000 in
theorem gX2_turnCosy_X2_isPot : GoodIn wsX2_turnCosy (wsV RX2 88 RX2 yX2_isPot wsX2_isPot) := goodIn_app (goodIn_of _ (by decide +kernel)) ggX2_turnCosy_X2_isPot
set_option maxRecDepth 20000 in
theorem ggX2_turnCosy_X2_isNot : GoodIn wsX2_turnCosy wsX2_isNot := goodIn_r _ [15, 1, 16, 17, 18, 19, 20, 21] (by decide +kernel) (by decide +kernel)
set_option maxRecDepth 20000 in
theorem gX2_turnCosy_X2_isNot : GoodIn wsX2_turnCosy (wsV RX2 91 RX2 yX2_isNot wsX2_isNot) := goodIn_app (goodIn_of _ (by decide +kernel)) ggX2_turnCosy_X2_isNot
set_option maxRecDepth 20000 in
theorem ggX2_pour_X2_isPot : GoodIn wsX2_pour wsX2_isPot := goodIn_r _ [11, 12, 13, 14, 10, 15, 20, 21, 22, 23, 24, 25] (by decide +kernel) (by decide +kernel)
set_option maxRecDepth 20000 in
theorem gX2_pour_X2_isPot : GoodIn wsX2_pour (wsV RX2 88 RX2 yX2_isPot wsX2_isPot) := goodIn_app (goodIn_of _ (by decide +kernel)) ggX2_pour_X2_isPot
set_option maxRecDepth 20000 in
theorem ggX2_pour_X2_no : GoodIn wsX2_pour wsX2_no := goodIn_r _ [19, 1, 20, 21, 22, 23, 24, 25] (by decide +kernel) (by decide +kernel)
set_option maxRecDepth 20000 in
theorem gX2_pour_X2_no : GoodIn wsX2_pour (wsV RX2 85 RX2 yX2_no wsX2_no) := goodIn_app (goodIn_of _ (by decide +kernel)) ggX2_pour_X2_no
set_option maxRecDepth 20000 in
theorem ggX2_pour_X2_isIn : GoodIn wsX2_pour wsX2_isIn := goodIn_r _ [15] (by decide +kernel) (by decide +kernel)
set_option maxRecDepth 20000 in
theorem gX2_pour_X2_isIn : GoodIn wsX2_pour (va_wsS RX2 26 yX2_isIn wsX2_isIn) := goodIn_app (goodIn_of _ (by decide +kernel)) ggX2_pour_X2_isIn
set_option maxRecDepth 20000 in
theorem ggX2_fill_X2_isPot : GoodIn wsX2_fill wsX2_isPot := goodIn_r _ [7, 8, 9, 10, 6, 11, 16, 17, 18, 19, 20, 21] (by decide +kernel) (by decide +kernel)
set_option maxRecDepth 20000 in
theorem gX2_fill_X2_isPot : GoodIn wsX2_fill (wsV RX2 88 RX2 yX2_isPot wsX2_isPot) := goodIn_app (goodIn_of _ (by decide +kernel)) ggX2_fill_X2_isPot
set_option maxRecDepth 20000 in
theorem ggX2_fill_X2_no : GoodIn wsX2_fill wsX2_no := goodIn_r _ [15, 1, 16, 17, 18, 19, 20, 21] (by decide +kernel) (by decide +kernel)
set_option maxRecDepth 20000 in
theorem gX2_fill_X2_no : GoodIn wsX2_fill (wsV RX2 85 RX2 yX2_no wsX2_no) := goodIn_app (goodIn_of _ (by decide +kernel)) ggX2_fill_X2_no
set_option maxRecDepth 20000 in
theorem ggX2_mend_X2_isPot : GoodIn wsX2_mend wsX2_isPot := goodIn_r _ [7, 8, 9, 10, 6, 11, 16, 17, 18, 19, 20, 21] (by decide +kernel) (by decide +kernel)
set_option maxRecDepth 20000 in
theorem gX2_mend_X2_isPot : GoodIn wsX2_mend (wsV RX2 88 RX2 yX2_isPot wsX2_isPot) := goodIn_app (goodIn_of _ (by decide +kernel)) ggX2_mend_X2_isPot
set_option maxRecDepth 20000 in
theorem ggX2_mend_X2_no : GoodIn wsX2_mend wsX2_no := goodIn_r _ [15, 1, 16, 17, 18, 19, 20, 21] (by decide +kernel) (by decide +kernel)
set_option maxRecDepth 20000 in
theorem gX2_mend_X2_no : GoodIn wsX2_mend (wsV RX2 85 RX2 yX2_no wsX2_no) := goodIn_app (goodIn_of _ (by decide +kernel)) ggX2_mend_X2_no
set_option maxRecDepth 20000 in
theorem ggX2_sing_X2_isIn : GoodIn wsX2_sing wsX2_isIn := goodIn_r _ [5] (by decide +kernel) (by decide +kernel)
set_option maxRecDepth 20000 in
theorem gX2_sing_X2_isIn : GoodIn wsX2_sing (va_wsS RX2 26 yX2_isIn wsX2_isIn) := goodIn_app (goodIn_of _ (by decide +kernel)) ggX2_sing_X2_isIn
set_option maxRecDepth 20000 in
theorem ggX2_sing_X2_beats : GoodIn wsX2_sing wsX2_beats := goodIn_r _ [9, 10, 11, 12, 4, 13, 14, 15, 16, 17, 18, 19, 20, 21, 22, 23, 24, 25, 26, 27, 28, 29, 30, 31, 32, 33, 34, 35, 36, 37, 38, 39, 40, 41, 42, 43, 44, 45, 46, 47, 48, 49, 50, 51, 52, 53, 54, 55, 56, 57, 58, 59, 60, 61, 66, 67, 68, 69, 70, 71] (by decide +kernel) (by decide +kernel)
set_option maxRecDepth 20000 in
theorem gX2_sing_X2_beats : GoodIn wsX2_sing (wsV RX2 94 RX2 yX2_beats wsX2_beats) := goodIn_app (goodIn_of _ (by decide +kernel)) ggX2_sing_X2_beats
set_option maxRecDepth 20000 in
theorem ggX2_sing_X2_no : GoodIn wsX2_sing wsX2_no := goodIn_r _ [65, 1, 66, 67, 68, 69, 70, 71] (by decide +kernel) (by decide +kernel)
set_option maxRecDepth 20000 in
theorem gX2_sing_X2_no : GoodIn wsX2_sing (wsV RX2 85 RX2 yX2_no wsX2_no) := goodIn_app (goodIn_of _ (by decide +kernel)) ggX2_sing_X2_no
set_option maxRecDepth 20000 in
theorem ggX2_pots_X2_ok : GoodIn wsX2_pots wsX2_ok := goodIn_r _ [6, 7, 8, 9, 10, 11, 12, 13] (by decide +kernel) (by decide +kernel)
set_option maxRecDepth 20000 in
theorem gX2_pots_X2_ok : GoodIn wsX2_pots (wsV RX2 97 RX2 yX2_ok wsX2_ok) := goodIn_app (goodIn_of _ (by decide +kernel)) ggX2_pots_X2_ok
set_option maxRecDepth 20000 in
theorem ggX2_partOf_X2_isPot : GoodIn wsX2_partOf wsX2_isPot := goodIn_r _ [7, 8, 9, 10, 6, 11, 16, 17, 18, 19, 20, 21] (by decide +kernel) (by decide +kernel)
set_option maxRecDepth 20000 in
theorem gX2_partOf_X2_isPot : GoodIn wsX2_partOf (wsV RX2 88 RX2 yX2_isPot wsX2_isPot) := goodIn_app (goodIn_of _ (by decide +kernel)) ggX2_partOf_X2_isPot
set_option maxRecDepth 20000 in
theorem ggX2_partOf_X2_no : GoodIn wsX2_partOf wsX2_no := goodIn_r _ [15, 1, 16, 17, 18, 19, 20, 21] (by decide +kernel) (by decide +kernel)
set_option maxRecDepth 20000 in
theorem gX2_partOf_X2_no : GoodIn wsX2_partOf (wsV RX2 85 RX2 yX2_no wsX2_no) := goodIn_app (goodIn_of _ (by decide +kernel)) ggX2_partOf_X2_no
set_option maxRecDepth 20000 in
theorem ggX2_of_X2_isPot : GoodIn wsX2_of wsX2_isPot := goodIn_r _ [7, 8, 9, 10, 6, 11, 16, 17, 18, 19, 20, 21] (by decide +kernel) (by decide +kernel)
set_option maxRecDepth 20000 in
theorem gX2_of_X2_isPot : GoodIn wsX2_of (wsV RX2 88 RX2 yX2_isPot wsX2_isPot) := goodIn_app (goodIn_of _ (by decide +kernel)) ggX2_of_X2_isPot
set_option maxRecDepth 20000 in
theorem ggX2_of_X2_no : GoodIn wsX2_of wsX2_no := goodIn_r _ [15, 1, 16, 17, 18, 19, 20, 21] (by decide +kernel) (by decide +kernel)
set_option maxRecDepth 20000 in
theorem gX2_of_X2_no : GoodIn wsX2_of (wsV RX2 85 RX2 yX2_no wsX2_no) := goodIn_app (goodIn_of _ (by decide +kernel)) ggX2_of_X2_no
set_option maxRecDepth 20000 in
theorem ggX2_pitchOf_X2_of : GoodIn wsX2_pitchOf wsX2_of := goodIn_r _ [5, 6, 7, 8, 9, 10, 4, 11, 12, 13, 14, 15, 16, 17, 18, 19, 20, 21, 22, 23, 24, 25] (by decide +kernel) (by decide +kernel)
set_option maxRecDepth 20000 in
theorem gX2_pitchOf_X2_of : GoodIn wsX2_pitchOf (wsV RX2 100 RX2 yX2_of wsX2_of) := goodIn_app (goodIn_of _ (by decide +kernel)) ggX2_pitchOf_X2_of
set_option maxRecDepth 20000 in
theorem ggX2_teaOf_X2_of : GoodIn wsX2_teaOf wsX2_of := goodIn_r _ [5, 6, 7, 8, 9, 10, 4, 11, 12, 13, 14, 15, 16, 17, 18, 19, 20, 21, 22, 23, 24, 25] (by decide +kernel) (by decide +kernel)
set_option maxRecDepth 20000 in
theorem gX2_teaOf_X2_of : GoodIn wsX2_teaOf (wsV RX2 100 RX2 yX2_of wsX2_of) := goodIn_app (goodIn_of _ (by decide +kernel)) ggX2_teaOf_X2_of
set_option maxRecDepth 20000 in
theorem ggX2_crackOf_X2_of : GoodIn wsX2_crackOf wsX2_of := goodIn_r _ [5, 6, 7, 8, 9, 10, 4, 11, 12, 13, 14, 15, 16, 17, 18, 19, 20, 21, 22, 23, 24, 25] (by decide +kernel) (by decide +kernel)
set_option maxRecDepth 20000 in
theorem gX2_crackOf_X2_of : GoodIn wsX2_crackOf (wsV RX2 100 RX2 yX2_of wsX2_of) := goodIn_app (goodIn_of _ (by decide +kernel)) ggX2_crackOf_X2_of
set_option maxRecDepth 20000 in
theorem ggX2_sounds_X2_isPot : GoodIn wsX2_sounds wsX2_isPot := goodIn_r _ [6, 7, 8, 9, 5, 10, 21, 22, 23, 24, 25, 26] (by decide +kernel) (by decide +kernel)
set_option maxRecDepth 20000 in
theorem gX2_sounds_X2_isPot : GoodIn wsX2_sounds (wsV RX2 88 RX2 yX2_isPot wsX2_isPot) := goodIn_app (goodIn_of _ (by decide +kernel)) ggX2_sounds_X2_isPot
set_option maxRecDepth 20000 in
theorem ggX2_sounds_X2_heard : GoodIn wsX2_sounds wsX2_heard := goodIn_r _ [14, 15, 16, 21, 22, 23, 24, 25, 26] (by decide +kernel) (by decide +kernel)
set_option maxRecDepth 20000 in
theorem gX2_sounds_X2_heard : GoodIn wsX2_sounds (wsV RX2 39 RX2 yX2_heard wsX2_heard) := goodIn_app (goodIn_of _ (by decide +kernel)) ggX2_sounds_X2_heard
set_option maxRecDepth 20000 in
theorem ggX2_sounds_X2_isNot : GoodIn wsX2_sounds wsX2_isNot := goodIn_r _ [20, 1, 21, 22, 23, 24, 25, 26] (by decide +kernel) (by decide +kernel)
set_option maxRecDepth 20000 in
theorem gX2_sounds_X2_isNot : GoodIn wsX2_sounds (wsV RX2 91 RX2 yX2_isNot wsX2_isNot) := goodIn_app (goodIn_of _ (by decide +kernel)) ggX2_sounds_X2_isNot
set_option maxRecDepth 20000 in
theorem ggX2_soundingOf_X2_isIn : GoodIn wsX2_soundingOf wsX2_isIn := goodIn_r _ [7] (by decide +kernel) (by decide +kernel)
set_option maxRecDepth 20000 in
theorem gX2_soundingOf_X2_isIn : GoodIn wsX2_soundingOf (va_wsS RX2 26 yX2_isIn wsX2_isIn) := goodIn_app (goodIn_of _ (by decide +kernel)) ggX2_soundingOf_X2_isIn
set_option maxRecDepth 20000 in
theorem ggX2_soundingOf_X2_no : GoodIn wsX2_soundingOf wsX2_no := goodIn_r _ [11, 1, 18, 19, 20, 21, 22, 23] (by decide +kernel) (by decide +kernel)
set_option maxRecDepth 20000 in
theorem gX2_soundingOf_X2_no : GoodIn wsX2_soundingOf (wsV RX2 85 RX2 yX2_no wsX2_no) := goodIn_app (goodIn_of _ (by decide +kernel)) ggX2_soundingOf_X2_no
set_option maxRecDepth 20000 in
theorem ggX2_soundingOf_X2_heard : GoodIn wsX2_soundingOf wsX2_heard := goodIn_r _ [15, 16, 17, 18, 19, 20, 21, 22, 23] (by decide +kernel) (by decide +kernel)
set_option maxRecDepth 20000 in
theorem gX2_soundingOf_X2_heard : GoodIn wsX2_soundingOf (wsV RX2 39 RX2 yX2_heard wsX2_heard) := goodIn_app (goodIn_of _ (by decide +kernel)) ggX2_soundingOf_X2_heard
set_option maxRecDepth 20000 in
theorem ggX2_beats__X2_ok : GoodIn wsX2_beats_ wsX2_ok := goodIn_r _ [6, 7, 8, 9, 10, 11, 12, 13] (by decide +kernel) (by decide +kernel)
set_option maxRecDepth 20000 in
theorem gX2_beats__X2_ok : GoodIn wsX2_beats_ (wsV RX2 97 RX2 yX2_ok wsX2_ok) := goodIn_app (goodIn_of _ (by decide +kernel)) ggX2_beats__X2_ok
set_option maxRecDepth 20000 in
theorem ggX2_sounding_X2_set : GoodIn wsX2_sounding wsX2_set := goodIn_r _ [5, 6, 7, 8, 9, 4, 10, 11, 12, 25, 26, 27, 28, 29, 30] (by decide +kernel) (by decide +kernel)
set_option maxRecDepth 20000 in
theorem gX2_sounding_X2_set : GoodIn wsX2_sounding (wsV RX2 68 RX2 yX2_set wsX2_set) := goodIn_app (goodIn_of _ (by decide +kernel)) ggX2_sounding_X2_set
set_option maxRecDepth 20000 in
theorem ggX2_sounding_J6_bitCount_0f7a4 : GoodIn wsX2_sounding wsJ6_bitCount_0f7a4 := goodIn_r _ [16, 17, 18, 19] (by decide +kernel) (by decide +kernel)
set_option maxRecDepth 20000 in
theorem gX2_sounding_J6_bitCount_0f7a4 : GoodIn wsX2_sounding (va_wsS RX2 60 yJ6_bitCount_0f7a4 wsJ6_bitCount_0f7a4) := goodIn_app (goodIn_of _ (by decide +kernel)) ggX2_sounding_J6_bitCount_0f7a4
set_option maxRecDepth 20000 in
theorem ggX2_sounding_X2_ok : GoodIn wsX2_sounding wsX2_ok := goodIn_r _ [23, 24, 25, 26, 27, 28, 29, 30] (by decide +kernel) (by decide +kernel)
set_option maxRecDepth 20000 in
theorem gX2_sounding_X2_ok : GoodIn wsX2_sounding (wsV RX2 97 RX2 yX2_ok wsX2_ok) := goodIn_app (goodIn_of _ (by decide +kernel)) ggX2_sounding_X2_ok
set_option maxRecDepth 20000 in
theorem ggX2_interval_X2_isPot : GoodIn wsX2_interval wsX2_isPot := goodIn_r _ [6, 7, 8, 9, 5, 10, 24, 25, 26, 27, 28, 29] (by decide +kernel) (by decide +kernel)
set_option maxRecDepth 20000 in
theorem gX2_interval_X2_isPot : GoodIn wsX2_interval (wsV RX2 88 RX2 yX2_isPot wsX2_isPot) := goodIn_app (goodIn_of _ (by decide +kernel)) ggX2_interval_X2_isPot
set_option maxRecDepth 20000 in
theorem ggX2_interval_X2_apart : GoodIn wsX2_interval wsX2_apart := goodIn_r _ [14, 15, 16, 17, 18, 19, 24, 25, 26, 27, 28, 29] (by decide +kernel) (by decide +kernel)
set_option maxRecDepth 20000 in
theorem gX2_interval_X2_apart : GoodIn wsX2_interval (wsV RX2 49 RX2 yX2_apart wsX2_apart) := goodIn_app (goodIn_of _ (by decide +kernel)) ggX2_interval_X2_apart
set_option maxRecDepth 20000 in
theorem ggX2_interval_X2_no : GoodIn wsX2_interval wsX2_no := goodIn_r _ [23, 1, 24, 25, 26, 27, 28, 29] (by decide +kernel) (by decide +kernel)
set_option maxRecDepth 20000 in
theorem gX2_interval_X2_no : GoodIn wsX2_interval (wsV RX2 85 RX2 yX2_no wsX2_no) := goodIn_app (goodIn_of _ (by decide +kernel)) ggX2_interval_X2_no
set_option maxRecDepth 20000 in
theorem ggX2_areInAccord_X2_isPot : GoodIn wsX2_areInAccord wsX2_isPot := goodIn_r _ [6, 7, 8, 9, 5, 10, 28, 29, 30, 31, 32, 33] (by decide +kernel) (by decide +kernel)
set_option maxRecDepth 20000 in
theorem gX2_areInAccord_X2_isPot : GoodIn wsX2_areInAccord (wsV RX2 88 RX2 yX2_isPot wsX2_isPot) := goodIn_app (goodIn_of _ (by decide +kernel)) ggX2_areInAccord_X2_isPot
set_option maxRecDepth 20000 in
theorem ggX2_areInAccord_X2_accord : GoodIn wsX2_areInAccord wsX2_accord := goodIn_r _ [14, 15, 16, 17, 5, 18, 19, 20, 21, 22, 23, 28, 29, 30, 31, 32, 33] (by decide +kernel) (by decide +kernel)
set_option maxRecDepth 20000 in
theorem gX2_areInAccord_X2_accord : GoodIn wsX2_areInAccord (wsV RX2 53 RX2 yX2_accord wsX2_accord) := goodIn_app (goodIn_of _ (by decide +kernel)) ggX2_areInAccord_X2_accord
set_option maxRecDepth 20000 in
theorem ggX2_areInAccord_X2_isNot : GoodIn wsX2_areInAccord wsX2_isNot := goodIn_r _ [27, 1, 28, 29, 30, 31, 32, 33] (by decide +kernel) (by decide +kernel)
set_option maxRecDepth 20000 in
theorem gX2_areInAccord_X2_isNot : GoodIn wsX2_areInAccord (wsV RX2 91 RX2 yX2_isNot wsX2_isNot) := goodIn_app (goodIn_of _ (by decide +kernel)) ggX2_areInAccord_X2_isNot
set_option maxRecDepth 20000 in
theorem ggX2_harmony_X2_set : GoodIn wsX2_harmony wsX2_set := goodIn_r _ [5, 6, 7, 8, 9, 4, 10, 11, 12, 49, 50, 51, 52, 53, 54] (by decide +kernel) (by decide +kernel)
set_option maxRecDepth 20000 in
theorem gX2_harmony_X2_set : GoodIn wsX2_harmony (wsV RX2 68 RX2 yX2_set wsX2_set) := goodIn_app (goodIn_of _ (by decide +kernel)) ggX2_harmony_X2_set
set_option maxRecDepth 20000 in
theorem ggX2_harmony_X2_harmonyOf : GoodIn wsX2_harmony wsX2_harmonyOf := goodIn_r _ [16, 17, 18, 19, 20, 21, 22, 23, 24, 25, 26, 4, 27, 6, 28, 29, 30, 31, 32, 33, 34, 35, 36, 37, 38, 39, 11, 40, 41, 42, 43, 49, 50, 51, 52, 53, 54] (by decide +kernel) (by decide +kernel)
set_option maxRecDepth 20000 in
theorem gX2_harmony_X2_harmonyOf : GoodIn wsX2_harmony (wsV RX2 103 RX2 yX2_harmonyOf wsX2_harmonyOf) := goodIn_app (goodIn_of _ (by decide +kernel)) ggX2_harmony_X2_harmonyOf
set_option maxRecDepth 20000 in
theorem ggX2_harmony_X2_ok : GoodIn wsX2_harmony wsX2_ok := goodIn_r _ [47, 48, 49, 50, 51, 52, 53, 54] (by decide +kernel) (by decide +kernel)
set_option maxRecDepth 20000 in
theorem gX2_harmony_X2_ok : GoodIn wsX2_harmony (wsV RX2 97 RX2 yX2_ok wsX2_ok) := goodIn_app (goodIn_of _ (by decide +kernel)) ggX2_harmony_X2_ok
set_option maxRecDepth 20000 in
theorem ggX2_clashes_X2_set : GoodIn wsX2_clashes wsX2_set := goodIn_r _ [5, 6, 7, 8, 9, 4, 10, 11, 12, 38, 39, 40, 41, 42, 43] (by decide +kernel) (by decide +kernel)
set_option maxRecDepth 20000 in
theorem gX2_clashes_X2_set : GoodIn wsX2_clashes (wsV RX2 68 RX2 yX2_set wsX2_set) := goodIn_app (goodIn_of _ (by decide +kernel)) ggX2_clashes_X2_set
set_option maxRecDepth 20000 in
theorem ggX2_clashes_X2_allClashes : GoodIn wsX2_clashes wsX2_allClashes := goodIn_r _ [16, 6, 17, 18, 19, 4, 20, 21, 22, 23, 24, 25, 26, 27, 28, 11, 29, 30, 31, 32, 38, 39, 40, 41, 42, 43] (by decide +kernel) (by decide +kernel)
set_option maxRecDepth 20000 in
theorem gX2_clashes_X2_allClashes : GoodIn wsX2_clashes (wsV RX2 65 RX2 yX2_allClashes wsX2_allClashes) := goodIn_app (goodIn_of _ (by decide +kernel)) ggX2_clashes_X2_allClashes
set_option maxRecDepth 20000 in
theorem ggX2_clashes_X2_ok : GoodIn wsX2_clashes wsX2_ok := goodIn_r _ [36, 37, 38, 39, 40, 41, 42, 43] (by decide +kernel) (by decide +kernel)
set_option maxRecDepth 20000 in
theorem gX2_clashes_X2_ok : GoodIn wsX2_clashes (wsV RX2 97 RX2 yX2_ok wsX2_ok) := goodIn_app (goodIn_of _ (by decide +kernel)) ggX2_clashes_X2_ok
set_option maxRecDepth 20000 in
theorem ggX2_clashing_X2_heard : GoodIn wsX2_clashing wsX2_heard := goodIn_r _ [5, 6, 7, 29, 30, 31, 32, 33, 34] (by decide +kernel) (by decide +kernel)
set_option maxRecDepth 20000 in
theorem gX2_clashing_X2_heard : GoodIn wsX2_clashing (wsV RX2 39 RX2 yX2_heard wsX2_heard) := goodIn_app (goodIn_of _ (by decide +kernel)) ggX2_clashing_X2_heard
set_option maxRecDepth 20000 in
theorem ggX2_clashing_X2_set : GoodIn wsX2_clashing wsX2_set := goodIn_r _ [11, 12, 1, 2, 3, 4, 5, 6, 7, 29, 30, 31, 32, 33, 34] (by decide +kernel) (by decide +kernel)
set_option maxRecDepth 20000 in
theorem gX2_clashing_X2_set : GoodIn wsX2_clashing (wsV RX2 68 RX2 yX2_set wsX2_set) := goodIn_app (goodIn_of _ (by decide +kernel)) ggX2_clashing_X2_set
set_option maxRecDepth 20000 in
theorem ggX2_clashing_X2_against : GoodIn wsX2_clashing wsX2_against := goodIn_r _ [16, 12, 17, 18, 19, 4, 20, 21, 22, 23, 24, 6, 25, 26, 27, 28, 29, 30, 31, 32, 33, 34] (by decide +kernel) (by decide +kernel)
set_option maxRecDepth 20000 in
theorem gX2_clashing_X2_against : GoodIn wsX2_clashing (wsV RX2 57 RX2 yX2_against wsX2_against) := goodIn_app (goodIn_of _ (by decide +kernel)) ggX2_clashing_X2_against
set_option maxRecDepth 20000 in
theorem ggX2_clashesOf_X2_isPot : GoodIn wsX2_clashesOf wsX2_isPot := goodIn_r _ [6, 7, 8, 9, 5, 10, 45, 46, 47, 48, 49, 50] (by decide +kernel) (by decide +kernel)
set_option maxRecDepth 20000 in
theorem gX2_clashesOf_X2_isPot : GoodIn wsX2_clashesOf (wsV RX2 88 RX2 yX2_isPot wsX2_isPot) := goodIn_app (goodIn_of _ (by decide +kernel)) ggX2_clashesOf_X2_isPot
set_option maxRecDepth 20000 in
theorem ggX2_clashesOf_X2_clashing : GoodIn wsX2_clashesOf wsX2_clashing := goodIn_r _ [14, 15, 16, 17, 5, 18, 19, 20, 21, 22, 23, 24, 7, 25, 26, 27, 28, 29, 30, 31, 32, 33, 34, 35, 36, 37, 38, 39, 40, 45, 46, 47, 48, 49, 50] (by decide +kernel) (by decide +kernel)
set_option maxRecDepth 20000 in
theorem gX2_clashesOf_X2_clashing : GoodIn wsX2_clashesOf (wsV RX2 106 RX2 yX2_clashing wsX2_clashing) := goodIn_app (goodIn_of _ (by decide +kernel)) ggX2_clashesOf_X2_clashing
set_option maxRecDepth 20000 in
theorem ggX2_clashesOf_X2_no : GoodIn wsX2_clashesOf wsX2_no := goodIn_r _ [44, 1, 45, 46, 47, 48, 49, 50] (by decide +kernel) (by decide +kernel)
set_option maxRecDepth 20000 in
theorem gX2_clashesOf_X2_no : GoodIn wsX2_clashesOf (wsV RX2 85 RX2 yX2_no wsX2_no) := goodIn_app (goodIn_of _ (by decide +kernel)) ggX2_clashesOf_X2_no
set_option maxRecDepth 20000 in
theorem ggX2_harsh_X2_clashing : GoodIn wsX2_harsh wsX2_clashing := goodIn_r _ [6, 7, 8, 9, 5, 10, 11, 12, 13, 14, 15, 16, 1, 17, 18, 19, 20, 21, 22, 23, 24, 25, 26, 27, 28, 29, 30, 31, 32, 33, 34, 35, 36, 37, 38] (by decide +kernel) (by decide +kernel)
set_option maxRecDepth 20000 in
theorem gX2_harsh_X2_clashing : GoodIn wsX2_harsh (wsV RX2 106 RX2 yX2_clashing wsX2_clashing) := goodIn_app (goodIn_of _ (by decide +kernel)) ggX2_harsh_X2_clashing
set_option maxRecDepth 20000 in
theorem ggX2_harshest_X2_harsh : GoodIn wsX2_harshest wsX2_harsh := goodIn_r _ [5, 6, 7, 8, 9, 4, 10, 11, 12, 13, 14, 15, 16, 17, 18, 19, 20, 21, 22, 23, 24, 25, 26, 27, 28, 29, 30, 31, 32, 33, 34, 35, 36, 42, 43, 44, 45, 46, 47] (by decide +kernel) (by decide +kernel)
set_option maxRecDepth 20000 in
theorem gX2_harshest_X2_harsh : GoodIn wsX2_harshest (wsV RX2 109 RX2 yX2_harsh wsX2_harsh) := goodIn_app (goodIn_of _ (by decide +kernel)) ggX2_harshest_X2_harsh
set_option maxRecDepth 20000 in
theorem ggX2_harshest_X2_ok : GoodIn wsX2_harshest wsX2_ok := goodIn_r _ [40, 41, 42, 43, 44, 45, 46, 47] (by decide +kernel) (by decide +kernel)
set_option maxRecDepth 20000 in
theorem gX2_harshest_X2_ok : GoodIn wsX2_harshest (wsV RX2 97 RX2 yX2_ok wsX2_ok) := goodIn_app (goodIn_of _ (by decide +kernel)) ggX2_harshest_X2_ok
set_option maxRecDepth 20000 in
theorem ggX2_low_X2_heard : GoodIn wsX2_low wsX2_heard := goodIn_r _ [7, 2, 8, 9, 10, 11, 12, 13, 14] (by decide +kernel) (by decide +kernel)
set_option maxRecDepth 20000 in
theorem gX2_low_X2_heard : GoodIn wsX2_low (wsV RX2 39 RX2 yX2_heard wsX2_heard) := goodIn_app (goodIn_of _ (by decide +kernel)) ggX2_low_X2_heard
set_option maxRecDepth 20000 in
theorem ggX2_lowest_X2_low : GoodIn wsX2_lowest wsX2_low := goodIn_r _ [5, 6, 7, 8, 9, 10, 4, 11, 12, 18, 19, 20, 21, 22, 23] (by decide +kernel) (by decide +kernel)
set_option maxRecDepth 20000 in
theorem gX2_lowest_X2_low : GoodIn wsX2_lowest (wsV RX2 112 RX2 yX2_low wsX2_low) := goodIn_app (goodIn_of _ (by decide +kernel)) ggX2_lowest_X2_low
set_option maxRecDepth 20000 in
theorem ggX2_lowest_X2_ok : GoodIn wsX2_lowest wsX2_ok := goodIn_r _ [16, 17, 18, 19, 20, 21, 22, 23] (by decide +kernel) (by decide +kernel)
set_option maxRecDepth 20000 in
theorem gX2_lowest_X2_ok : GoodIn wsX2_lowest (wsV RX2 97 RX2 yX2_ok wsX2_ok) := goodIn_app (goodIn_of _ (by decide +kernel)) ggX2_lowest_X2_ok
set_option maxRecDepth 20000 in
theorem ggX2_isClear_X2_clear : GoodIn wsX2_isClear wsX2_clear := goodIn_r _ [6, 7, 8, 9, 5, 10, 11, 12, 13, 14, 15, 16, 17, 18, 19, 20, 21, 22, 23, 24, 25, 26, 27, 28, 29, 30, 31, 32, 33, 34, 35, 36, 37, 38, 39, 40, 41, 42, 43, 44, 45, 46, 47, 48, 49, 50] (by decide +kernel) (by decide +kernel)
set_option maxRecDepth 20000 in
theorem gX2_isClear_X2_clear : GoodIn wsX2_isClear (wsV RX2 72 RX2 yX2_clear wsX2_clear) := goodIn_app (goodIn_of _ (by decide +kernel)) ggX2_isClear_X2_clear
set_option maxRecDepth 20000 in
theorem ggX2_cadences_X2_ok : GoodIn wsX2_cadences wsX2_ok := goodIn_r _ [6, 7, 8, 9, 10, 11, 12, 13] (by decide +kernel) (by decide +kernel)
set_option maxRecDepth 20000 in
theorem gX2_cadences_X2_ok : GoodIn wsX2_cadences (wsV RX2 97 RX2 yX2_ok wsX2_ok) := goodIn_app (goodIn_of _ (by decide +kernel)) ggX2_cadences_X2_ok
set_option maxRecDepth 20000 in
theorem ggX2_tuning_X2_set : GoodIn wsX2_tuning wsX2_set := goodIn_r _ [6, 7, 8, 9, 10, 5, 11, 1, 12, 47, 48, 49, 50, 51, 52] (by decide +kernel) (by decide +kernel)
set_option maxRecDepth 20000 in
theorem gX2_tuning_X2_set : GoodIn wsX2_tuning (wsV RX2 68 RX2 yX2_set wsX2_set) := goodIn_app (goodIn_of _ (by decide +kernel)) ggX2_tuning_X2_set
set_option maxRecDepth 20000 in
theorem ggX2_tuning_X2_harmonyOf : GoodIn wsX2_tuning wsX2_harmonyOf := goodIn_r _ [16, 17, 18, 19, 20, 21, 22, 23, 24, 25, 26, 5, 27, 7, 28, 29, 30, 31, 32, 33, 34, 35, 36, 37, 38, 39, 1, 40, 41, 42, 43, 47, 48, 49, 50, 51, 52] (by decide +kernel) (by decide +kernel)
set_option maxRecDepth 20000 in
theorem gX2_tuning_X2_harmonyOf : GoodIn wsX2_tuning (wsV RX2 103 RX2 yX2_harmonyOf wsX2_harmonyOf) := goodIn_app (goodIn_of _ (by decide +kernel)) ggX2_tuning_X2_harmonyOf
set_option maxRecDepth 20000 in
theorem ggX2_tuning_X2_isIn : GoodIn wsX2_tuning wsX2_isIn := goodIn_r _ [46] (by decide +kernel) (by decide +kernel)
set_option maxRecDepth 20000 in
theorem gX2_tuning_X2_isIn : GoodIn wsX2_tuning (va_wsS RX2 26 yX2_isIn wsX2_isIn) := goodIn_app (goodIn_of _ (by decide +kernel)) ggX2_tuning_X2_isIn
set_option maxRecDepth 20000 in
theorem ggX2_bestTuning_X2_isPot : GoodIn wsX2_bestTuning wsX2_isPot := goodIn_r _ [6, 7, 8, 9, 5, 10, 60, 61, 62, 63, 64, 65] (by decide +kernel) (by decide +kernel)
set_option maxRecDepth 20000 in
theorem gX2_bestTuning_X2_isPot : GoodIn wsX2_bestTuning (wsV RX2 88 RX2 yX2_isPot wsX2_isPot) := goodIn_app (goodIn_of _ (by decide +kernel)) ggX2_bestTuning_X2_isPot
set_option maxRecDepth 20000 in
theorem ggX2_bestTuning_X2_tuning : GoodIn wsX2_bestTuning wsX2_tuning := goodIn_r _ [14, 15, 16, 17, 18, 5, 19, 7, 20, 21, 22, 23, 24, 25, 26, 27, 28, 29, 30, 31, 32, 33, 34, 35, 36, 37, 38, 39, 40, 41, 42, 43, 44, 45, 46, 47, 48, 49, 50, 51, 52, 53, 54, 55, 8, 9, 10, 60, 61, 62, 63, 64, 65] (by decide +kernel) (by decide +kernel)
set_option maxRecDepth 20000 in
theorem gX2_bestTuning_X2_tuning : GoodIn wsX2_bestTuning (wsV RX2 115 RX2 yX2_tuning wsX2_tuning) := goodIn_app (goodIn_of _ (by decide +kernel)) ggX2_bestTuning_X2_tuning
set_option maxRecDepth 20000 in
theorem ggX2_bestTuning_X2_no : GoodIn wsX2_bestTuning wsX2_no := goodIn_r _ [59, 1, 60, 61, 62, 63, 64, 65] (by decide +kernel) (by decide +kernel)
set_option maxRecDepth 20000 in
theorem gX2_bestTuning_X2_no : GoodIn wsX2_bestTuning (wsV RX2 85 RX2 yX2_no wsX2_no) := goodIn_app (goodIn_of _ (by decide +kernel)) ggX2_bestTuning_X2_no
set_option maxRecDepth 20000 in
theorem ggX2_mute_X2_set : GoodIn wsX2_mute wsX2_set := goodIn_r _ [6, 1, 7, 8, 9, 5, 10, 11, 12, 44, 45, 46, 47, 48, 49] (by decide +kernel) (by decide +kernel)
set_option maxRecDepth 20000 in
theorem gX2_mute_X2_set : GoodIn wsX2_mute (wsV RX2 68 RX2 yX2_set wsX2_set) := goodIn_app (goodIn_of _ (by decide +kernel)) ggX2_mute_X2_set
set_option maxRecDepth 20000 in
theorem ggX2_mute_X2_harmonyOf : GoodIn wsX2_mute wsX2_harmonyOf := goodIn_r _ [16, 17, 18, 19, 20, 21, 22, 23, 24, 25, 26, 5, 27, 1, 28, 29, 30, 31, 32, 33, 34, 35, 36, 37, 38, 39, 11, 40, 41, 42, 43, 44, 45, 46, 47, 48, 49] (by decide +kernel) (by decide +kernel)
set_option maxRecDepth 20000 in
theorem gX2_mute_X2_harmonyOf : GoodIn wsX2_mute (wsV RX2 103 RX2 yX2_harmonyOf wsX2_harmonyOf) := goodIn_app (goodIn_of _ (by decide +kernel)) ggX2_mute_X2_harmonyOf
set_option maxRecDepth 20000 in
theorem ggX2_bestToMute_X2_mute : GoodIn wsX2_bestToMute wsX2_mute := goodIn_r _ [5, 6, 7, 8, 9, 4, 10, 11, 12, 13, 14, 15, 16, 17, 18, 19, 20, 21, 22, 23, 24, 25, 26, 27, 28, 29, 30, 31, 32, 33, 34, 35, 36, 37, 38, 39, 40, 41, 42, 43, 44, 45, 46, 47, 53, 54, 55, 56, 57, 58] (by decide +kernel) (by decide +kernel)
set_option maxRecDepth 20000 in
theorem gX2_bestToMute_X2_mute : GoodIn wsX2_bestToMute (wsV RX2 118 RX2 yX2_mute wsX2_mute) := goodIn_app (goodIn_of _ (by decide +kernel)) ggX2_bestToMute_X2_mute
set_option maxRecDepth 20000 in
theorem ggX2_bestToMute_X2_ok : GoodIn wsX2_bestToMute wsX2_ok := goodIn_r _ [51, 52, 53, 54, 55, 56, 57, 58] (by decide +kernel) (by decide +kernel)
set_option maxRecDepth 20000 in
theorem gX2_bestToMute_X2_ok : GoodIn wsX2_bestToMute (wsV RX2 97 RX2 yX2_ok wsX2_ok) := goodIn_app (goodIn_of _ (by decide +kernel)) ggX2_bestToMute_X2_ok
set_option maxRecDepth 20000 in
theorem ggX2_harmonyIn_X2_isIn : GoodIn wsX2_harmonyIn wsX2_isIn := goodIn_r _ [5] (by decide +kernel) (by decide +kernel)
set_option maxRecDepth 20000 in
theorem gX2_harmonyIn_X2_isIn : GoodIn wsX2_harmonyIn (va_wsS RX2 26 yX2_isIn wsX2_isIn) := goodIn_app (goodIn_of _ (by decide +kernel)) ggX2_harmonyIn_X2_isIn
set_option maxRecDepth 20000 in
theorem ggX2_harmonyIn_X2_no : GoodIn wsX2_harmonyIn wsX2_no := goodIn_r _ [9, 1, 83, 84, 85, 86, 87, 88] (by decide +kernel) (by decide +kernel)
set_option maxRecDepth 20000 in
theorem gX2_harmonyIn_X2_no : GoodIn wsX2_harmonyIn (wsV RX2 85 RX2 yX2_no wsX2_no) := goodIn_app (goodIn_of _ (by decide +kernel)) ggX2_harmonyIn_X2_no
set_option maxRecDepth 20000 in
theorem ggX2_harmonyIn_X2_keep : GoodIn wsX2_harmonyIn wsX2_keep := goodIn_r _ [13, 14, 15, 16, 17, 18, 19, 83, 84, 85, 86, 87, 88] (by decide +kernel) (by decide +kernel)
set_option maxRecDepth 20000 in
theorem gX2_harmonyIn_X2_keep : GoodIn wsX2_harmonyIn (wsV RX2 121 RX2 yX2_keep wsX2_keep) := goodIn_app (goodIn_of _ (by decide +kernel)) ggX2_harmonyIn_X2_keep
set_option maxRecDepth 20000 in
theorem ggX2_harmonyIn_X2_beats : GoodIn wsX2_harmonyIn wsX2_beats := goodIn_r _ [23, 24, 25, 26, 4, 27, 14, 28, 29, 30, 31, 32, 33, 34, 35, 36, 37, 38, 39, 40, 41, 42, 43, 44, 45, 46, 47, 48, 49, 50, 51, 52, 53, 54, 55, 56, 57, 58, 59, 60, 61, 62, 63, 64, 65, 66, 67, 68, 69, 70, 71, 72, 73, 74, 83, 84, 85, 86, 87, 88] (by decide +kernel) (by decide +kernel)
set_option maxRecDepth 20000 in
theorem gX2_harmonyIn_X2_beats : GoodIn wsX2_harmonyIn (wsV RX2 94 RX2 yX2_beats wsX2_beats) := goodIn_app (goodIn_of _ (by decide +kernel)) ggX2_harmonyIn_X2_beats
set_option maxRecDepth 20000 in
theorem ggX2_harmonyIn_X2_set : GoodIn wsX2_harmonyIn wsX2_set := goodIn_r _ [40, 28, 41, 42, 43, 4, 44, 14, 36, 83, 84, 85, 86, 87, 88] (by decide +kernel) (by decide +kernel)
set_option maxRecDepth 20000 in
theorem gX2_harmonyIn_X2_set : GoodIn wsX2_harmonyIn (wsV RX2 68 RX2 yX2_set wsX2_set) := goodIn_app (goodIn_of _ (by decide +kernel)) ggX2_harmonyIn_X2_set
set_option maxRecDepth 20000 in
theorem ggX2_harmonyIn_X2_harmonyOf : GoodIn wsX2_harmonyIn wsX2_harmonyOf := goodIn_r _ [78, 68, 69, 70, 71, 72, 73, 74, 45, 46, 47, 4, 48, 28, 49, 50, 51, 52, 53, 54, 55, 56, 57, 58, 59, 60, 14, 61, 62, 31, 63, 83, 84, 85, 86, 87, 88] (by decide +kernel) (by decide +kernel)
set_option maxRecDepth 20000 in
theorem gX2_harmonyIn_X2_harmonyOf : GoodIn wsX2_harmonyIn (wsV RX2 103 RX2 yX2_harmonyOf wsX2_harmonyOf) := goodIn_app (goodIn_of _ (by decide +kernel)) ggX2_harmonyIn_X2_harmonyOf
set_option maxRecDepth 20000 in
theorem ggX2_harmonyIn_X2_bringBack : GoodIn wsX2_harmonyIn wsX2_bringBack := goodIn_r _ [82, 15, 14, 16, 17, 18, 19, 83, 84, 85, 86, 87, 88] (by decide +kernel) (by decide +kernel)
set_option maxRecDepth 20000 in
theorem gX2_harmonyIn_X2_bringBack : GoodIn wsX2_harmonyIn (wsV RX2 124 RX2 yX2_bringBack wsX2_bringBack) := goodIn_app (goodIn_of _ (by decide +kernel)) ggX2_harmonyIn_X2_bringBack
set_option maxRecDepth 20000 in
theorem ggX2_silence_X2_keep : GoodIn wsX2_silence wsX2_keep := goodIn_r _ [5, 6, 7, 8, 9, 10, 11, 67, 68, 69, 70, 71, 72] (by decide +kernel) (by decide +kernel)
set_option maxRecDepth 20000 in
theorem gX2_silence_X2_keep : GoodIn wsX2_silence (wsV RX2 121 RX2 yX2_keep wsX2_keep) := goodIn_app (goodIn_of _ (by decide +kernel)) ggX2_silence_X2_keep
set_option maxRecDepth 20000 in
theorem ggX2_silence_X2_set : GoodIn wsX2_silence wsX2_set := goodIn_r _ [15, 16, 17, 18, 19, 4, 20, 6, 21, 67, 68, 69, 70, 71, 72] (by decide +kernel) (by decide +kernel)
set_option maxRecDepth 20000 in
theorem gX2_silence_X2_set : GoodIn wsX2_silence (wsV RX2 68 RX2 yX2_set wsX2_set) := goodIn_app (goodIn_of _ (by decide +kernel)) ggX2_silence_X2_set
set_option maxRecDepth 20000 in
theorem ggX2_silence_X2_beat : GoodIn wsX2_silence wsX2_beat := goodIn_r _ [25, 6, 16, 26, 27, 28, 29, 30, 31, 32, 21, 12, 13, 14, 4, 15, 17, 18, 19, 20, 33, 34, 35, 36, 37, 38, 39, 40, 41, 42, 43, 44, 45, 46, 47, 48, 49, 50, 51, 52, 53, 54, 55, 56, 57, 58, 59, 60, 61, 62, 67, 68, 69, 70, 71, 72] (by decide +kernel) (by decide +kernel)
set_option maxRecDepth 20000 in
theorem gX2_silence_X2_beat : GoodIn wsX2_silence (wsV RX2 82 RX2 yX2_beat wsX2_beat) := goodIn_app (goodIn_of _ (by decide +kernel)) ggX2_silence_X2_beat
set_option maxRecDepth 20000 in
theorem ggX2_silence_X2_bringBack : GoodIn wsX2_silence wsX2_bringBack := goodIn_r _ [66, 7, 6, 8, 9, 10, 11, 67, 68, 69, 70, 71, 72] (by decide +kernel) (by decide +kernel)
set_option maxRecDepth 20000 in
theorem gX2_silence_X2_bringBack : GoodIn wsX2_silence (wsV RX2 124 RX2 yX2_bringBack wsX2_bringBack) := goodIn_app (goodIn_of _ (by decide +kernel)) ggX2_silence_X2_bringBack
set_option maxRecDepth 20000 in
theorem ggX2_beatsUntilSilence_X2_silence : GoodIn wsX2_beatsUntilSilence wsX2_silence := goodIn_r _ [5, 6, 7, 8, 4, 9, 10, 11, 12, 13, 14, 15, 16, 17, 18, 19, 20, 21, 22, 23, 24, 25, 26, 27, 28, 29, 30, 31, 32, 33, 34, 35, 36, 37, 38, 39, 40, 41, 42, 43, 44, 45, 46, 47, 48, 49, 50, 51, 52, 53, 54, 55, 56, 57, 58, 59, 60, 61, 62, 63, 64, 65, 66, 67, 68, 69, 70, 76, 77, 78, 79, 80, 81] (by decide +kernel) (by decide +kernel)
set_option maxRecDepth 20000 in
theorem gX2_beatsUntilSilence_X2_silence : GoodIn wsX2_beatsUntilSilence (wsV RX2 127 RX2 yX2_silence wsX2_silence) := goodIn_app (goodIn_of _ (by decide +kernel)) ggX2_beatsUntilSilence_X2_silence
set_option maxRecDepth 20000 in
theorem ggX2_beatsUntilSilence_X2_ok : GoodIn wsX2_beatsUntilSilence wsX2_ok := goodIn_r _ [74, 75, 76, 77, 78, 79, 80, 81] (by decide +kernel) (by decide +kernel)
set_option maxRecDepth 20000 in
theorem gX2_beatsUntilSilence_X2_ok : GoodIn wsX2_beatsUntilSilence (wsV RX2 97 RX2 yX2_ok wsX2_ok) := goodIn_app (goodIn_of _ (by decide +kernel)) ggX2_beatsUntilSilence_X2_ok
set_option maxRecDepth 20000 in
theorem ggX2_untilCadence_X2_keep : GoodIn wsX2_untilCadence wsX2_keep := goodIn_r _ [5, 6, 7, 8, 9, 10, 11, 67, 68, 69, 70, 71, 72] (by decide +kernel) (by decide +kernel)
set_option maxRecDepth 20000 in
theorem gX2_untilCadence_X2_keep : GoodIn wsX2_untilCadence (wsV RX2 121 RX2 yX2_keep wsX2_keep) := goodIn_app (goodIn_of _ (by decide +kernel)) ggX2_untilCadence_X2_keep
set_option maxRecDepth 20000 in
theorem ggX2_untilCadence_X2_beat : GoodIn wsX2_untilCadence wsX2_beat := goodIn_r _ [15, 6, 16, 17, 18, 19, 20, 21, 22, 23, 24, 25, 26, 27, 4, 28, 29, 30, 31, 32, 33, 34, 35, 36, 37, 38, 39, 40, 41, 42, 43, 44, 45, 46, 47, 48, 49, 50, 51, 52, 53, 54, 55, 56, 57, 58, 59, 60, 61, 62, 67, 68, 69, 70, 71, 72] (by decide +kernel) (by decide +kernel)
set_option maxRecDepth 20000 in
theorem gX2_untilCadence_X2_beat : GoodIn wsX2_untilCadence (wsV RX2 82 RX2 yX2_beat wsX2_beat) := goodIn_app (goodIn_of _ (by decide +kernel)) ggX2_untilCadence_X2_beat
set_option maxRecDepth 20000 in
theorem ggX2_untilCadence_X2_bringBack : GoodIn wsX2_untilCadence wsX2_bringBack := goodIn_r _ [66, 7, 6, 8, 9, 10, 11, 67, 68, 69, 70, 71, 72] (by decide +kernel) (by decide +kernel)
set_option maxRecDepth 20000 in
theorem gX2_untilCadence_X2_bringBack : GoodIn wsX2_untilCadence (wsV RX2 124 RX2 yX2_bringBack wsX2_bringBack) := goodIn_app (goodIn_of _ (by decide +kernel)) ggX2_untilCadence_X2_bringBack
set_option maxRecDepth 20000 in
theorem ggX2_beatsUntilCadence_X2_untilCadence : GoodIn wsX2_beatsUntilCadence wsX2_untilCadence := goodIn_r _ [5, 6, 7, 8, 4, 9, 10, 11, 12, 13, 14, 15, 16, 17, 18, 19, 20, 21, 22, 23, 24, 25, 26, 27, 28, 29, 30, 31, 32, 33, 34, 35, 36, 37, 38, 39, 40, 41, 42, 43, 44, 45, 46, 47, 48, 49, 50, 51, 52, 53, 54, 55, 56, 57, 58, 59, 60, 61, 62, 63, 64, 65, 66, 67, 68, 69, 70, 76, 77, 78, 79, 80, 81] (by decide +kernel) (by decide +kernel)
set_option maxRecDepth 20000 in
theorem gX2_beatsUntilCadence_X2_untilCadence : GoodIn wsX2_beatsUntilCadence (wsV RX2 130 RX2 yX2_untilCadence wsX2_untilCadence) := goodIn_app (goodIn_of _ (by decide +kernel)) ggX2_beatsUntilCadence_X2_untilCadence
set_option maxRecDepth 20000 in
theorem ggX2_beatsUntilCadence_X2_ok : GoodIn wsX2_beatsUntilCadence wsX2_ok := goodIn_r _ [74, 75, 76, 77, 78, 79, 80, 81] (by decide +kernel) (by decide +kernel)
set_option maxRecDepth 20000 in
theorem gX2_beatsUntilCadence_X2_ok : GoodIn wsX2_beatsUntilCadence (wsV RX2 97 RX2 yX2_ok wsX2_ok) := goodIn_app (goodIn_of _ (by decide +kernel)) ggX2_beatsUntilCadence_X2_ok
set_option maxRecDepth 20000 in
theorem ggX2_greatest_X2_set : GoodIn wsX2_greatest wsX2_set := goodIn_r _ [5, 6, 7, 8, 9, 4, 10, 11, 12, 40, 41, 42, 43, 44, 45] (by decide +kernel) (by decide +kernel)
set_option maxRecDepth 20000 in
theorem gX2_greatest_X2_set : GoodIn wsX2_greatest (wsV RX2 68 RX2 yX2_set wsX2_set) := goodIn_app (goodIn_of _ (by decide +kernel)) ggX2_greatest_X2_set
set_option maxRecDepth 20000 in
theorem ggX2_greatest_J6_bitCount_0f7a4 : GoodIn wsX2_greatest wsJ6_bitCount_0f7a4 := goodIn_r _ [16, 17, 18, 19] (by decide +kernel) (by decide +kernel)
set_option maxRecDepth 20000 in
theorem gX2_greatest_J6_bitCount_0f7a4 : GoodIn wsX2_greatest (va_wsS RX2 60 yJ6_bitCount_0f7a4 wsJ6_bitCount_0f7a4) := goodIn_app (goodIn_of _ (by decide +kernel)) ggX2_greatest_J6_bitCount_0f7a4
set_option maxRecDepth 20000 in
theorem ggX2_greatest_X2_allClashes : GoodIn wsX2_greatest wsX2_allClashes := goodIn_r _ [23, 6, 24, 25, 26, 4, 27, 28, 29, 30, 31, 32, 33, 34, 35, 11, 36, 37, 38, 39, 40, 41, 42, 43, 44, 45] (by decide +kernel) (by decide +kernel)
set_option maxRecDepth 20000 in
theorem gX2_greatest_X2_allClashes : GoodIn wsX2_greatest (wsV RX2 65 RX2 yX2_allClashes wsX2_allClashes) := goodIn_app (goodIn_of _ (by decide +kernel)) ggX2_greatest_X2_allClashes
set_option maxRecDepth 20000 in
theorem ggX2_greatestAccord_X2_greatest : GoodIn wsX2_greatestAccord wsX2_greatest := goodIn_r _ [5, 6, 7, 8, 4, 9, 10, 11, 12, 13, 14, 15, 16, 17, 18, 19, 20, 21, 22, 23, 24, 25, 26, 27, 28, 29, 30, 31, 32, 33, 34, 35, 36, 37, 38, 39, 40, 41, 42, 43, 49, 50, 51, 52, 53, 54] (by decide +kernel) (by decide +kernel)
set_option maxRecDepth 20000 in
theorem gX2_greatestAccord_X2_greatest : GoodIn wsX2_greatestAccord (wsV RX2 133 RX2 yX2_greatest wsX2_greatest) := goodIn_app (goodIn_of _ (by decide +kernel)) ggX2_greatestAccord_X2_greatest
set_option maxRecDepth 20000 in
theorem ggX2_greatestAccord_X2_ok : GoodIn wsX2_greatestAccord wsX2_ok := goodIn_r _ [47, 48, 49, 50, 51, 52, 53, 54] (by decide +kernel) (by decide +kernel)
set_option maxRecDepth 20000 in
theorem gX2_greatestAccord_X2_ok : GoodIn wsX2_greatestAccord (wsV RX2 97 RX2 yX2_ok wsX2_ok) := goodIn_app (goodIn_of _ (by decide +kernel)) ggX2_greatestAccord_X2_ok
set_option maxRecDepth 20000 in
theorem ggX2_meanPitch_X2_heard : GoodIn wsX2_meanPitch wsX2_heard := goodIn_r _ [8, 3, 9, 21, 22, 23, 24, 25, 26] (by decide +kernel) (by decide +kernel)
set_option maxRecDepth 20000 in
theorem gX2_meanPitch_X2_heard : GoodIn wsX2_meanPitch (wsV RX2 39 RX2 yX2_heard wsX2_heard) := goodIn_app (goodIn_of _ (by decide +kernel)) ggX2_meanPitch_X2_heard
set_option maxRecDepth 20000 in
theorem ggX2_meanPitch_X2_set : GoodIn wsX2_meanPitch wsX2_set := goodIn_r _ [13, 2, 4, 5, 6, 7, 8, 3, 9, 21, 22, 23, 24, 25, 26] (by decide +kernel) (by decide +kernel)
set_option maxRecDepth 20000 in
theorem gX2_meanPitch_X2_set : GoodIn wsX2_meanPitch (wsV RX2 68 RX2 yX2_set wsX2_set) := goodIn_app (goodIn_of _ (by decide +kernel)) ggX2_meanPitch_X2_set
set_option maxRecDepth 20000 in
theorem ggX2_meanPitch_J6_bitCount_0f7a4 : GoodIn wsX2_meanPitch wsJ6_bitCount_0f7a4 := goodIn_r _ [17, 18, 19, 20] (by decide +kernel) (by decide +kernel)
set_option maxRecDepth 20000 in
theorem gX2_meanPitch_J6_bitCount_0f7a4 : GoodIn wsX2_meanPitch (va_wsS RX2 60 yJ6_bitCount_0f7a4 wsJ6_bitCount_0f7a4) := goodIn_app (goodIn_of _ (by decide +kernel)) ggX2_meanPitch_J6_bitCount_0f7a4
set_option maxRecDepth 20000 in
theorem ggX2_digest_X2_set : GoodIn wsX2_digest wsX2_set := goodIn_r _ [12, 3, 13, 14, 15, 11, 16, 4, 17, 111, 112, 113, 114, 115, 116] (by decide +kernel) (by decide +kernel)
set_option maxRecDepth 20000 in
theorem gX2_digest_X2_set : GoodIn wsX2_digest (wsV RX2 68 RX2 yX2_set wsX2_set) := goodIn_app (goodIn_of _ (by decide +kernel)) ggX2_digest_X2_set
set_option maxRecDepth 20000 in
theorem ggX2_digest_J6_bitCount_0f7a4 : GoodIn wsX2_digest wsJ6_bitCount_0f7a4 := goodIn_r _ [21, 22, 23, 24] (by decide +kernel) (by decide +kernel)
set_option maxRecDepth 20000 in
theorem gX2_digest_J6_bitCount_0f7a4 : GoodIn wsX2_digest (va_wsS RX2 60 yJ6_bitCount_0f7a4 wsJ6_bitCount_0f7a4) := goodIn_app (goodIn_of _ (by decide +kernel)) ggX2_digest_J6_bitCount_0f7a4
set_option maxRecDepth 20000 in
theorem ggX2_digest_X2_harmonyOf : GoodIn wsX2_digest wsX2_harmonyOf := goodIn_r _ [28, 18, 19, 20, 21, 22, 23, 24, 29, 30, 31, 11, 32, 3, 33, 34, 35, 36, 37, 38, 39, 40, 41, 42, 43, 44, 4, 45, 46, 47, 48, 111, 112, 113, 114, 115, 116] (by decide +kernel) (by decide +kernel)
set_option maxRecDepth 20000 in
theorem gX2_digest_X2_harmonyOf : GoodIn wsX2_digest (wsV RX2 103 RX2 yX2_harmonyOf wsX2_harmonyOf) := goodIn_app (goodIn_of _ (by decide +kernel)) ggX2_digest_X2_harmonyOf
set_option maxRecDepth 20000 in
theorem ggX2_digest_X2_allClashes : GoodIn wsX2_digest wsX2_allClashes := goodIn_r _ [32, 3, 33, 34, 35, 11, 36, 37, 38, 39, 40, 41, 42, 43, 44, 4, 45, 46, 47, 48, 111, 112, 113, 114, 115, 116] (by decide +kernel) (by decide +kernel)
set_option maxRecDepth 20000 in
theorem gX2_digest_X2_allClashes : GoodIn wsX2_digest (wsV RX2 65 RX2 yX2_allClashes wsX2_allClashes) := goodIn_app (goodIn_of _ (by decide +kernel)) ggX2_digest_X2_allClashes
set_option maxRecDepth 20000 in
theorem ggX2_digest_X2_harsh : GoodIn wsX2_digest wsX2_harsh := goodIn_r _ [52, 3, 53, 54, 55, 11, 56, 13, 14, 15, 16, 4, 17, 8, 9, 10, 12, 33, 34, 35, 36, 37, 38, 39, 40, 41, 42, 43, 44, 45, 46, 47, 48, 111, 112, 113, 114, 115, 116] (by decide +kernel) (by decide +kernel)
set_option maxRecDepth 20000 in
theorem gX2_digest_X2_harsh : GoodIn wsX2_digest (wsV RX2 109 RX2 yX2_harsh wsX2_harsh) := goodIn_app (goodIn_of _ (by decide +kernel)) ggX2_digest_X2_harsh
set_option maxRecDepth 20000 in
theorem ggX2_digest_X2_low : GoodIn wsX2_digest wsX2_low := goodIn_r _ [60, 3, 4, 13, 14, 15, 11, 16, 17, 111, 112, 113, 114, 115, 116] (by decide +kernel) (by decide +kernel)
set_option maxRecDepth 20000 in
theorem gX2_digest_X2_low : GoodIn wsX2_digest (wsV RX2 112 RX2 yX2_low wsX2_low) := goodIn_app (goodIn_of _ (by decide +kernel)) ggX2_digest_X2_low
set_option maxRecDepth 20000 in
theorem ggX2_digest_X2_clear : GoodIn wsX2_digest wsX2_clear := goodIn_r _ [64, 8, 9, 10, 11, 12, 3, 13, 14, 15, 16, 4, 17, 18, 19, 20, 21, 22, 23, 24, 29, 30, 31, 32, 33, 34, 35, 36, 37, 38, 39, 40, 41, 42, 43, 44, 45, 46, 47, 48, 111, 112, 113, 114, 115, 116] (by decide +kernel) (by decide +kernel)
set_option maxRecDepth 20000 in
theorem gX2_digest_X2_clear : GoodIn wsX2_digest (wsV RX2 72 RX2 yX2_clear wsX2_clear) := goodIn_app (goodIn_of _ (by decide +kernel)) ggX2_digest_X2_clear
set_option maxRecDepth 20000 in
theorem ggX2_digest_X2_mute : GoodIn wsX2_digest wsX2_mute := goodIn_r _ [68, 3, 8, 9, 10, 11, 12, 13, 14, 15, 16, 4, 17, 25, 26, 27, 28, 18, 19, 20, 21, 22, 23, 24, 29, 30, 31, 32, 33, 34, 35, 36, 37, 38, 39, 40, 41, 42, 43, 44, 45, 46, 47, 48, 111, 112, 113, 114, 115, 116] (by decide +kernel) (by decide +kernel)
set_option maxRecDepth 20000 in
theorem gX2_digest_X2_mute : GoodIn wsX2_digest (wsV RX2 118 RX2 yX2_mute wsX2_mute) := goodIn_app (goodIn_of _ (by decide +kernel)) ggX2_digest_X2_mute
set_option maxRecDepth 20000 in
theorem ggX2_digest_X2_silence : GoodIn wsX2_digest wsX2_silence := goodIn_r _ [72, 73, 74, 75, 11, 76, 4, 77, 78, 79, 80, 81, 8, 9, 10, 12, 3, 13, 14, 15, 16, 17, 82, 83, 84, 85, 86, 87, 47, 88, 89, 90, 91, 29, 30, 31, 32, 33, 34, 35, 36, 37, 38, 39, 40, 41, 42, 43, 44, 45, 46, 48, 61, 62, 63, 64, 18, 19, 20, 21, 22, 23, 24, 92, 93, 94, 95, 111, 112, 113, 114, 115, 116] (by decide +kernel) (by decide +kernel)
set_option maxRecDepth 20000 in
theorem gX2_digest_X2_silence : GoodIn wsX2_digest (wsV RX2 127 RX2 yX2_silence wsX2_silence) := goodIn_app (goodIn_of _ (by decide +kernel)) ggX2_digest_X2_silence
set_option maxRecDepth 20000 in
theorem ggX2_digest_X2_untilCadence : GoodIn wsX2_digest wsX2_untilCadence := goodIn_r _ [99, 73, 74, 75, 11, 76, 4, 77, 78, 79, 80, 81, 82, 83, 84, 85, 3, 86, 87, 47, 88, 89, 90, 91, 17, 8, 9, 10, 12, 13, 14, 15, 16, 29, 30, 31, 32, 33, 34, 35, 36, 37, 38, 39, 40, 41, 42, 43, 44, 45, 46, 48, 61, 62, 63, 64, 18, 19, 20, 21, 22, 23, 24, 92, 93, 94, 95, 111, 112, 113, 114, 115, 116] (by decide +kernel) (by decide +kernel)
set_option maxRecDepth 20000 in
theorem gX2_digest_X2_untilCadence : GoodIn wsX2_digest (wsV RX2 130 RX2 yX2_untilCadence wsX2_untilCadence) := goodIn_app (goodIn_of _ (by decide +kernel)) ggX2_digest_X2_untilCadence
set_option maxRecDepth 20000 in
theorem ggX2_digest_X2_greatest : GoodIn wsX2_digest wsX2_greatest := goodIn_r _ [103, 8, 9, 10, 11, 12, 3, 13, 14, 15, 16, 4, 17, 18, 19, 20, 21, 22, 23, 24, 29, 30, 31, 32, 33, 34, 35, 36, 37, 38, 39, 40, 41, 42, 43, 44, 45, 46, 47, 48, 111, 112, 113, 114, 115, 116] (by decide +kernel) (by decide +kernel)
set_option maxRecDepth 20000 in
theorem gX2_digest_X2_greatest : GoodIn wsX2_digest (wsV RX2 133 RX2 yX2_greatest wsX2_greatest) := goodIn_app (goodIn_of _ (by decide +kernel)) ggX2_digest_X2_greatest
set_option maxRecDepth 20000 in
theorem ggX2_digest_X2_heard : GoodIn wsX2_digest wsX2_heard := goodIn_r _ [16, 4, 17, 111, 112, 113, 114, 115, 116] (by decide +kernel) (by decide +kernel)
set_option maxRecDepth 20000 in
theorem gX2_digest_X2_heard : GoodIn wsX2_digest (wsV RX2 39 RX2 yX2_heard wsX2_heard) := goodIn_app (goodIn_of _ (by decide +kernel)) ggX2_digest_X2_heard
set_option maxRecDepth 20000 in
theorem ggX2_digest_X2_clashing : GoodIn wsX2_digest wsX2_clashing := goodIn_r _ [56, 13, 14, 15, 11, 16, 4, 17, 8, 9, 10, 12, 3, 33, 34, 35, 36, 37, 38, 39, 40, 41, 42, 43, 44, 45, 46, 47, 48, 111, 112, 113, 114, 115, 116] (by decide +kernel) (by decide +kernel)
set_option maxRecDepth 20000 in
theorem gX2_digest_X2_clashing : GoodIn wsX2_digest (wsV RX2 106 RX2 yX2_clashing wsX2_clashing) := goodIn_app (goodIn_of _ (by decide +kernel)) ggX2_digest_X2_clashing
set_option maxRecDepth 20000 in
theorem ggX2_digest_X2_tuning : GoodIn wsX2_digest wsX2_tuning := goodIn_r _ [107, 4, 8, 9, 10, 11, 12, 3, 13, 14, 15, 16, 17, 25, 26, 27, 28, 18, 19, 20, 21, 22, 23, 24, 29, 30, 31, 32, 33, 34, 35, 36, 37, 38, 39, 40, 41, 42, 43, 44, 45, 46, 47, 48, 108, 109, 110, 111, 112, 113, 114, 115, 116] (by decide +kernel) (by decide +kernel)
set_option maxRecDepth 20000 in
theorem gX2_digest_X2_tuning : GoodIn wsX2_digest (wsV RX2 115 RX2 yX2_tuning wsX2_tuning) := goodIn_app (goodIn_of _ (by decide +kernel)) ggX2_digest_X2_tuning
