set_option maxRecDepth 20000 in
theorem gL_law_X1_pots : GoodIn wsL_law (wsV RL 108 RX1 yX1_pots wsX1_pots) := goodIn_app (goodIn_of _ (by decide +kernel)) ggL_law_X1_pots
set_option maxRecDepth 20000 in
theorem ggL_law_X2_pots : GoodIn wsL_law wsX2_pots := goodIn_r _ [264, 64, 265, 266, 267, 5, 268, 63, 635, 636, 637, 638, 639, 640] (by decide +kernel) (by decide +kernel)
set_option maxRecDepth 20000 in
theorem gL_law_X2_pots : GoodIn wsL_law (wsV RL 111 RX2 yX2_pots wsX2_pots) := goodIn_app (goodIn_of _ (by decide +kernel)) ggL_law_X2_pots
set_option maxRecDepth 20000 in
theorem ggL_law_L_partOf : GoodIn wsL_law wsL_partOf := goodIn_ca (goodIn_r _ [271, 79, 272, 273, 274, 2, 275, 16, 276, 85, 86, 87, 88, 89, 90, 48, 633, 634, 641, 642, 643, 644, 645, 646, 647, 648, 649, 650] (by decide +kernel) (by decide +kernel)) (goodIn_sub (fun _ h => List.mem_append_right _ h) (by decide +kernel))
set_option maxRecDepth 20000 in
theorem gL_law_L_partOf : GoodIn wsL_law (va_wsS RL 112 yL_partOf wsL_partOf) := goodIn_app (goodIn_of _ (by decide +kernel)) ggL_law_L_partOf
set_option maxRecDepth 20000 in
theorem ggL_law_X2_partOf : GoodIn wsL_law wsX2_partOf := goodIn_r _ [280, 63, 33, 95, 96, 97, 5, 98, 64, 65, 66, 67, 68, 69, 70, 71, 635, 636, 637, 638, 639, 640] (by decide +kernel) (by decide +kernel)
set_option maxRecDepth 20000 in
theorem gL_law_X2_partOf : GoodIn wsL_law (wsV RL 114 RX2 yX2_partOf wsX2_partOf) := goodIn_app (goodIn_of _ (by decide +kernel)) ggL_law_X2_partOf
set_option maxRecDepth 20000 in
theorem ggL_law_L_pitchOf : GoodIn wsL_law wsL_pitchOf := goodIn_ca (goodIn_r _ [283, 79, 284, 285, 286, 2, 287, 16, 84, 85, 86, 87, 88, 89, 90, 48, 633, 634, 641, 642, 643, 644, 645, 646, 647, 648, 649, 650] (by decide +kernel) (by decide +kernel)) (goodIn_sub (fun _ h => List.mem_append_right _ h) (by decide +kernel))
set_option maxRecDepth 20000 in
theorem gL_law_L_pitchOf : GoodIn wsL_law (va_wsS RL 115 yL_pitchOf wsL_pitchOf) := goodIn_app (goodIn_of _ (by decide +kernel)) ggL_law_L_pitchOf
set_option maxRecDepth 20000 in
theorem ggL_law_X2_pitchOf : GoodIn wsL_law wsX2_pitchOf := goodIn_r _ [291, 292, 293, 294, 5, 295, 63, 34, 95, 96, 97, 98, 64, 65, 66, 67, 68, 69, 70, 71, 635, 636, 637, 638, 639, 640] (by decide +kernel) (by decide +kernel)
set_option maxRecDepth 20000 in
theorem gL_law_X2_pitchOf : GoodIn wsL_law (wsV RL 117 RX2 yX2_pitchOf wsX2_pitchOf) := goodIn_app (goodIn_of _ (by decide +kernel)) ggL_law_X2_pitchOf
set_option maxRecDepth 20000 in
theorem ggL_law_L_teaOf : GoodIn wsL_law wsL_teaOf := goodIn_ca (goodIn_r _ [298, 79, 299, 300, 301, 2, 302, 16, 123, 85, 86, 87, 88, 89, 90, 48, 633, 634, 641, 642, 643, 644, 645, 646, 647, 648, 649, 650] (by decide +kernel) (by decide +kernel)) (goodIn_sub (fun _ h => List.mem_append_right _ h) (by decide +kernel))
set_option maxRecDepth 20000 in
theorem gL_law_L_teaOf : GoodIn wsL_law (va_wsS RL 118 yL_teaOf wsL_teaOf) := goodIn_app (goodIn_of _ (by decide +kernel)) ggL_law_L_teaOf
set_option maxRecDepth 20000 in
theorem ggL_law_X2_teaOf : GoodIn wsL_law wsX2_teaOf := goodIn_r _ [306, 292, 293, 294, 5, 295, 63, 34, 95, 96, 97, 98, 64, 65, 66, 67, 68, 69, 70, 71, 635, 636, 637, 638, 639, 640] (by decide +kernel) (by decide +kernel)
set_option maxRecDepth 20000 in
theorem gL_law_X2_teaOf : GoodIn wsL_law (wsV RL 120 RX2 yX2_teaOf wsX2_teaOf) := goodIn_app (goodIn_of _ (by decide +kernel)) ggL_law_X2_teaOf
set_option maxRecDepth 20000 in
theorem ggL_law_L_crackOf : GoodIn wsL_law wsL_crackOf := goodIn_ca (goodIn_r _ [309, 79, 310, 311, 312, 2, 313, 16, 151, 85, 86, 87, 88, 89, 90, 48, 633, 634, 641, 642, 643, 644, 645, 646, 647, 648, 649, 650] (by decide +kernel) (by decide +kernel)) (goodIn_sub (fun _ h => List.mem_append_right _ h) (by decide +kernel))
set_option maxRecDepth 20000 in
theorem gL_law_L_crackOf : GoodIn wsL_law (va_wsS RL 121 yL_crackOf wsL_crackOf) := goodIn_app (goodIn_of _ (by decide +kernel)) ggL_law_L_crackOf
set_option maxRecDepth 20000 in
theorem ggL_law_X2_crackOf : GoodIn wsL_law wsX2_crackOf := goodIn_r _ [317, 292, 293, 294, 5, 295, 63, 34, 95, 96, 97, 98, 64, 65, 66, 67, 68, 69, 70, 71, 635, 636, 637, 638, 639, 640] (by decide +kernel) (by decide +kernel)
set_option maxRecDepth 20000 in
theorem gL_law_X2_crackOf : GoodIn wsL_law (wsV RL 123 RX2 yX2_crackOf wsX2_crackOf) := goodIn_app (goodIn_of _ (by decide +kernel)) ggL_law_X2_crackOf
set_option maxRecDepth 20000 in
theorem ggL_law_L_sounds : GoodIn wsL_law wsL_sounds := goodIn_ca (goodIn_r _ [320, 79, 321, 322, 323, 2, 324, 16, 85, 86, 87, 88, 89, 90, 48, 325, 187, 188, 15, 189, 24, 27, 633, 634, 641, 642, 643, 644, 645, 646, 647, 648, 649, 650] (by decide +kernel) (by decide +kernel)) (goodIn_sub (fun _ h => List.mem_append_right _ h) (by decide +kernel))
set_option maxRecDepth 20000 in
theorem gL_law_L_sounds : GoodIn wsL_law (va_wsS RL 124 yL_sounds wsL_sounds) := goodIn_app (goodIn_of _ (by decide +kernel)) ggL_law_L_sounds
set_option maxRecDepth 20000 in
theorem ggL_law_X2_sounds : GoodIn wsL_law wsX2_sounds := goodIn_r _ [329, 63, 95, 96, 97, 5, 98, 64, 65, 66, 67, 225, 226, 227, 228, 34, 111, 112, 113, 114, 115, 635, 636, 637, 638, 639, 640] (by decide +kernel) (by decide +kernel)
set_option maxRecDepth 20000 in
theorem gL_law_X2_sounds : GoodIn wsL_law (wsV RL 126 RX2 yX2_sounds wsX2_sounds) := goodIn_app (goodIn_of _ (by decide +kernel)) ggL_law_X2_sounds
set_option maxRecDepth 20000 in
theorem ggL_law_L_soundingOf : GoodIn wsL_law wsL_soundingOf := goodIn_ca (goodIn_r _ [332, 79, 333, 334, 335, 2, 336, 89, 90, 16, 337, 338, 339, 15, 340, 58, 22, 186, 187, 188, 189, 24, 27, 633, 634, 641, 642, 643, 644, 645, 646, 647, 648, 649, 650] (by decide +kernel) (by decide +kernel)) (goodIn_sub (fun _ h => List.mem_append_right _ h) (by decide +kernel))
set_option maxRecDepth 20000 in
theorem gL_law_L_soundingOf : GoodIn wsL_law (va_wsS RL 127 yL_soundingOf wsL_soundingOf) := goodIn_app (goodIn_of _ (by decide +kernel)) ggL_law_L_soundingOf
set_option maxRecDepth 20000 in
theorem ggL_law_X2_soundingOf : GoodIn wsL_law wsX2_soundingOf := goodIn_r _ [344, 63, 64, 33, 65, 66, 5, 67, 68, 69, 70, 71, 225, 226, 227, 228, 34, 111, 635, 636, 637, 638, 639, 640] (by decide +kernel) (by decide +kernel)
set_option maxRecDepth 20000 in
theorem gL_law_X2_soundingOf : GoodIn wsL_law (wsV RL 129 RX2 yX2_soundingOf wsX2_soundingOf) := goodIn_app (goodIn_of _ (by decide +kernel)) ggL_law_X2_soundingOf
set_option maxRecDepth 20000 in
theorem ggL_law_X1_beats : GoodIn wsL_law wsX1_beats := goodIn_r _ [348, 16, 349, 633, 634, 641, 642, 643, 644, 645, 646, 647, 648, 649, 650] (by decide +kernel) (by decide +kernel)
set_option maxRecDepth 20000 in
theorem gL_law_X1_beats : GoodIn wsL_law (wsV RL 130 RX1 yX1_beats wsX1_beats) := goodIn_app (goodIn_of _ (by decide +kernel)) ggL_law_X1_beats
set_option maxRecDepth 20000 in
theorem ggL_law_X2_beats_ : GoodIn wsL_law wsX2_beats_ := goodIn_r _ [353, 34, 265, 266, 267, 5, 268, 63, 635, 636, 637, 638, 639, 640] (by decide +kernel) (by decide +kernel)
set_option maxRecDepth 20000 in
theorem gL_law_X2_beats_ : GoodIn wsL_law (wsV RL 133 RX2 yX2_beats_ wsX2_beats_) := goodIn_app (goodIn_of _ (by decide +kernel)) ggL_law_X2_beats_
set_option maxRecDepth 20000 in
theorem ggL_law_X1_sounding : GoodIn wsL_law wsX1_sounding := goodIn_r _ [357, 16, 358, 183, 184, 15, 185, 58, 186, 187, 188, 189, 24, 27, 633, 634, 641, 642, 643, 644, 645, 646, 647, 648, 649, 650] (by decide +kernel) (by decide +kernel)
set_option maxRecDepth 20000 in
theorem gL_law_X1_sounding : GoodIn wsL_law (wsV RL 134 RX1 yX1_sounding wsX1_sounding) := goodIn_app (goodIn_of _ (by decide +kernel)) ggL_law_X1_sounding
set_option maxRecDepth 20000 in
theorem ggL_law_X2_sounding : GoodIn wsL_law wsX2_sounding := goodIn_r _ [362, 221, 222, 223, 5, 224, 64, 225, 226, 227, 228, 34, 111, 250, 251, 252, 253, 254, 255, 256, 265, 266, 267, 268, 63, 635, 636, 637, 638, 639, 640] (by decide +kernel) (by decide +kernel)
set_option maxRecDepth 20000 in
theorem gL_law_X2_sounding : GoodIn wsL_law (wsV RL 137 RX2 yX2_sounding wsX2_sounding) := goodIn_app (goodIn_of _ (by decide +kernel)) ggL_law_X2_sounding
