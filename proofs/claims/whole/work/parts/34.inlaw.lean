set_option maxRecDepth 20000 in
theorem gL_law_X2_cadences : GoodIn wsL_law (wsV RL 171 RX2 yX2_cadences wsX2_cadences) := goodIn_app (goodIn_of _ (by decide +kernel)) ggL_law_X2_cadences
set_option maxRecDepth 20000 in
theorem ggL_law_L_bestTuning : GoodIn wsL_law wsL_bestTuning := goodIn_ca (goodIn_r _ [478, 79, 479, 480, 481, 2, 482, 16, 85, 86, 87, 88, 89, 90, 48, 325, 187, 188, 15, 189, 24, 27, 483, 484, 485, 486, 23, 487, 201, 126, 202, 194, 195, 196, 197, 58, 186, 198, 199, 200, 633, 634, 641, 642, 643, 644, 645, 646, 647, 648, 649, 650] (by decide +kernel) (by decide +kernel)) (goodIn_sub (fun _ h => List.mem_append_right _ h) (by decide +kernel))
set_option maxRecDepth 20000 in
theorem gL_law_L_bestTuning : GoodIn wsL_law (va_wsS RL 172 yL_bestTuning wsL_bestTuning) := goodIn_app (goodIn_of _ (by decide +kernel)) ggL_law_L_bestTuning
set_option maxRecDepth 20000 in
theorem ggL_law_X2_bestTuning : GoodIn wsL_law wsX2_bestTuning := goodIn_r _ [491, 63, 95, 96, 97, 5, 98, 64, 65, 66, 67, 492, 493, 494, 495, 34, 221, 222, 223, 224, 225, 226, 227, 228, 111, 398, 399, 400, 401, 250, 251, 252, 253, 254, 255, 256, 229, 230, 231, 232, 233, 234, 235, 236, 237, 238, 239, 240, 241, 242, 243, 244, 245, 201, 126, 202, 68, 69, 70, 71, 635, 636, 637, 638, 639, 640] (by decide +kernel) (by decide +kernel)
set_option maxRecDepth 20000 in
theorem gL_law_X2_bestTuning : GoodIn wsL_law (wsV RL 174 RX2 yX2_bestTuning wsX2_bestTuning) := goodIn_app (goodIn_of _ (by decide +kernel)) ggL_law_X2_bestTuning
set_option maxRecDepth 20000 in
theorem ggL_law_X1_bestToMute : GoodIn wsL_law wsX1_bestToMute := goodIn_r _ [499, 16, 431, 432, 433, 15, 434, 58, 23, 186, 187, 188, 189, 24, 27, 194, 195, 196, 197, 198, 2, 199, 200, 201, 126, 202, 633, 634, 641, 642, 643, 644, 645, 646, 647, 648, 649, 650] (by decide +kernel) (by decide +kernel)
set_option maxRecDepth 20000 in
theorem gL_law_X1_bestToMute : GoodIn wsL_law (wsV RL 175 RX1 yX1_bestToMute wsX1_bestToMute) := goodIn_app (goodIn_of _ (by decide +kernel)) ggL_law_X1_bestToMute
set_option maxRecDepth 20000 in
theorem ggL_law_X2_bestToMute : GoodIn wsL_law wsX2_bestToMute := goodIn_r _ [503, 504, 505, 506, 5, 507, 64, 221, 222, 223, 224, 225, 226, 227, 228, 34, 111, 398, 399, 400, 401, 250, 251, 252, 253, 254, 255, 256, 229, 230, 231, 232, 233, 234, 235, 236, 237, 238, 239, 240, 241, 242, 243, 244, 245, 201, 126, 202, 265, 266, 267, 268, 63, 635, 636, 637, 638, 639, 640] (by decide +kernel) (by decide +kernel)
set_option maxRecDepth 20000 in
theorem gL_law_X2_bestToMute : GoodIn wsL_law (wsV RL 178 RX2 yX2_bestToMute wsX2_bestToMute) := goodIn_app (goodIn_of _ (by decide +kernel)) ggL_law_X2_bestToMute
set_option maxRecDepth 20000 in
theorem ggL_law_L_harmonyIn : GoodIn wsL_law wsL_harmonyIn := goodIn_ca (goodIn_r _ [510, 40, 511, 512, 513, 2, 514, 17, 16, 49, 50, 51, 52, 53, 515, 516, 517, 15, 518, 22, 23, 24, 25, 27, 58, 174, 173, 172, 164, 165, 166, 167, 168, 169, 170, 171, 175, 176, 126, 177, 178, 179, 180, 181, 182, 183, 184, 185, 186, 187, 188, 189, 190, 191, 192, 193, 194, 195, 196, 197, 198, 199, 200, 201, 202, 203, 204, 205, 206, 207, 125, 127, 390, 391, 392, 393, 633, 634, 641, 642, 643, 644, 645, 646, 647, 648, 649, 650] (by decide +kernel) (by decide +kernel)) (goodIn_sub (fun _ h => List.mem_append_left _ (List.mem_append_right _ h)) (by decide +kernel))
set_option maxRecDepth 20000 in
theorem gL_law_L_harmonyIn : GoodIn wsL_law (va_wsS RL 179 yL_harmonyIn wsL_harmonyIn) := goodIn_app (goodIn_of _ (by decide +kernel)) ggL_law_L_harmonyIn
set_option maxRecDepth 20000 in
theorem ggL_law_X2_harmonyIn : GoodIn wsL_law wsX2_harmonyIn := goodIn_r _ [522, 63, 65, 66, 5, 67, 68, 69, 70, 71, 523, 524, 525, 526, 34, 35, 527, 528, 529, 530, 212, 213, 214, 215, 216, 217, 218, 219, 64, 220, 176, 126, 177, 132, 125, 127, 111, 221, 222, 223, 224, 225, 226, 227, 228, 229, 230, 231, 232, 233, 234, 235, 236, 237, 238, 239, 240, 241, 242, 243, 244, 245, 201, 202, 246, 247, 248, 249, 250, 251, 252, 253, 254, 255, 256, 398, 399, 400, 401, 531, 532, 533, 534, 635, 636, 637, 638, 639, 640] (by decide +kernel) (by decide +kernel)
set_option maxRecDepth 20000 in
theorem gL_law_X2_harmonyIn : GoodIn wsL_law (wsV RL 181 RX2 yX2_harmonyIn wsX2_harmonyIn) := goodIn_app (goodIn_of _ (by decide +kernel)) ggL_law_X2_harmonyIn
set_option maxRecDepth 20000 in
theorem ggL_law_X1_beatsUntilSilence : GoodIn wsL_law wsX1_beatsUntilSilence := goodIn_r _ [538, 17, 16, 515, 516, 517, 15, 518, 22, 23, 24, 25, 27, 58, 174, 173, 172, 358, 183, 184, 185, 186, 187, 188, 189, 539, 169, 170, 171, 175, 176, 126, 177, 178, 179, 180, 181, 182, 190, 191, 192, 193, 194, 195, 196, 197, 198, 2, 199, 200, 201, 202, 203, 204, 205, 206, 207, 125, 127, 633, 634, 641, 642, 643, 644, 645, 646, 647, 648, 649, 650] (by decide +kernel) (by decide +kernel)
set_option maxRecDepth 20000 in
theorem gL_law_X1_beatsUntilSilence : GoodIn wsL_law (wsV RL 182 RX1 yX1_beatsUntilSilence wsX1_beatsUntilSilence) := goodIn_app (goodIn_of _ (by decide +kernel)) ggL_law_X1_beatsUntilSilence
set_option maxRecDepth 20000 in
theorem ggL_law_X2_beatsUntilSilence : GoodIn wsL_law wsX2_beatsUntilSilence := goodIn_r _ [543, 544, 545, 546, 5, 547, 523, 524, 525, 526, 34, 35, 527, 528, 529, 530, 221, 222, 223, 224, 64, 225, 226, 227, 228, 111, 216, 217, 218, 219, 220, 176, 126, 177, 132, 125, 127, 229, 230, 231, 232, 233, 234, 235, 236, 237, 238, 239, 240, 241, 242, 243, 244, 245, 201, 202, 246, 247, 248, 249, 250, 251, 252, 253, 254, 255, 256, 531, 532, 533, 534, 265, 266, 267, 268, 63, 635, 636, 637, 638, 639, 640] (by decide +kernel) (by decide +kernel)
set_option maxRecDepth 20000 in
theorem gL_law_X2_beatsUntilSilence : GoodIn wsL_law (wsV RL 185 RX2 yX2_beatsUntilSilence wsX2_beatsUntilSilence) := goodIn_app (goodIn_of _ (by decide +kernel)) ggL_law_X2_beatsUntilSilence
set_option maxRecDepth 20000 in
theorem ggL_law_X1_beatsUntilCadence : GoodIn wsL_law wsX1_beatsUntilCadence := goodIn_r _ [551, 17, 16, 163, 515, 516, 517, 15, 518, 22, 23, 24, 25, 27, 58, 174, 173, 172, 539, 169, 170, 171, 175, 176, 126, 177, 178, 179, 180, 181, 182, 183, 184, 185, 186, 187, 188, 189, 190, 191, 192, 193, 194, 195, 196, 197, 198, 2, 199, 200, 201, 202, 203, 204, 205, 206, 207, 125, 127, 633, 634, 641, 642, 643, 644, 645, 646, 647, 648, 649, 650] (by decide +kernel) (by decide +kernel)
set_option maxRecDepth 20000 in
theorem gL_law_X1_beatsUntilCadence : GoodIn wsL_law (wsV RL 186 RX1 yX1_beatsUntilCadence wsX1_beatsUntilCadence) := goodIn_app (goodIn_of _ (by decide +kernel)) ggL_law_X1_beatsUntilCadence
set_option maxRecDepth 20000 in
theorem ggL_law_X2_beatsUntilCadence : GoodIn wsL_law wsX2_beatsUntilCadence := goodIn_r _ [555, 556, 557, 558, 5, 559, 523, 524, 525, 526, 34, 35, 527, 528, 529, 530, 216, 217, 218, 219, 64, 220, 176, 126, 177, 132, 125, 127, 111, 221, 222, 223, 224, 225, 226, 227, 228, 229, 230, 231, 232, 233, 234, 235, 236, 237, 238, 239, 240, 241, 242, 243, 244, 245, 201, 202, 246, 247, 248, 249, 250, 251, 252, 253, 254, 255, 256, 531, 532, 533, 534, 265, 266, 267, 268, 63, 635, 636, 637, 638, 639, 640] (by decide +kernel) (by decide +kernel)
set_option maxRecDepth 20000 in
theorem gL_law_X2_beatsUntilCadence : GoodIn wsL_law (wsV RL 189 RX2 yX2_beatsUntilCadence wsX2_beatsUntilCadence) := goodIn_app (goodIn_of _ (by decide +kernel)) ggL_law_X2_beatsUntilCadence
set_option maxRecDepth 20000 in
theorem ggL_law_X1_greatestAccord : GoodIn wsL_law wsX1_greatestAccord := goodIn_r _ [563, 16, 564, 565, 566, 15, 567, 58, 28, 568, 569, 570, 571, 23, 186, 187, 188, 189, 24, 27, 198, 2, 199, 200, 201, 126, 202, 572, 251, 252, 253, 254, 255, 256, 573, 574, 575, 576, 633, 634, 641, 642, 643, 644, 645, 646, 647, 648, 649, 650] (by decide +kernel) (by decide +kernel)
set_option maxRecDepth 20000 in
theorem gL_law_X1_greatestAccord : GoodIn wsL_law (wsV RL 190 RX1 yX1_greatestAccord wsX1_greatestAccord) := goodIn_app (goodIn_of _ (by decide +kernel)) ggL_law_X1_greatestAccord
set_option maxRecDepth 20000 in
theorem ggL_law_X2_greatestAccord : GoodIn wsL_law wsX2_greatestAccord := goodIn_r _ [580, 581, 582, 583, 5, 584, 221, 222, 223, 224, 64, 225, 226, 227, 228, 34, 111, 250, 251, 252, 253, 254, 255, 256, 229, 230, 231, 232, 233, 234, 235, 236, 237, 238, 239, 240, 241, 242, 243, 244, 245, 201, 126, 202, 265, 266, 267, 268, 63, 635, 636, 637, 638, 639, 640] (by decide +kernel) (by decide +kernel)
set_option maxRecDepth 20000 in
theorem gL_law_X2_greatestAccord : GoodIn wsL_law (wsV RL 193 RX2 yX2_greatestAccord wsX2_greatestAccord) := goodIn_app (goodIn_of _ (by decide +kernel)) ggL_law_X2_greatestAccord
set_option maxRecDepth 20000 in
theorem ggL_law_X1_meanPitch : GoodIn wsL_law wsX1_meanPitch := goodIn_r _ [588, 16, 589, 590, 591, 15, 592, 58, 23, 182, 183, 184, 185, 186, 187, 188, 189, 24, 27, 633, 634, 641, 642, 643, 644, 645, 646, 647, 648, 649, 650] (by decide +kernel) (by decide +kernel)
set_option maxRecDepth 20000 in
theorem gL_law_X1_meanPitch : GoodIn wsL_law (wsV RL 194 RX1 yX1_meanPitch wsX1_meanPitch) := goodIn_app (goodIn_of _ (by decide +kernel)) ggL_law_X1_meanPitch
set_option maxRecDepth 20000 in
theorem ggL_law_X2_meanPitch : GoodIn wsL_law wsX2_meanPitch := goodIn_r _ [596, 63, 64, 34, 225, 226, 227, 5, 228, 111, 221, 222, 223, 224, 250, 251, 252, 253, 254, 255, 256, 635, 636, 637, 638, 639, 640] (by decide +kernel) (by decide +kernel)
set_option maxRecDepth 20000 in
theorem gL_law_X2_meanPitch : GoodIn wsL_law (wsV RL 198 RX2 yX2_meanPitch wsX2_meanPitch) := goodIn_app (goodIn_of _ (by decide +kernel)) ggL_law_X2_meanPitch
set_option maxRecDepth 20000 in
theorem ggL_law_X1_digest : GoodIn wsL_law wsX1_digest := goodIn_ca (goodIn_r _ [600, 601, 602, 16, 48, 603, 258, 259, 2, 260, 604, 346, 347, 348, 349, 605, 355, 356, 357, 358, 183, 184, 15, 185, 58, 186, 187, 188, 189, 24, 27, 606, 387, 388, 389, 390, 391, 392, 393, 182, 190, 191, 192, 193, 23, 194, 195, 196, 197, 198, 199, 200, 201, 126, 202, 607, 403, 404, 405, 406, 608, 428, 429, 430, 431, 432, 433, 434, 609, 444, 445, 446, 447, 448, 449, 450, 610, 460, 461, 462, 463, 179, 180, 181, 611, 469, 470, 471, 163, 612, 497, 498, 499, 613, 536, 537, 538, 17, 515, 516, 517, 518, 22, 25, 174, 173, 172, 539, 169, 170, 171, 175, 176, 177, 178, 203, 204, 205, 206, 207, 125, 127, 614, 549, 550, 551, 615, 561, 562, 563, 564, 565, 566, 567, 28, 568, 569, 570, 571, 572, 251, 252, 253, 254, 255, 256, 573, 574, 575, 576, 616, 617, 618, 619, 620, 273, 274, 275, 276, 85, 86, 87, 88, 89, 90, 621, 285, 286, 287, 84, 622, 300, 301, 302, 123, 623, 311, 312, 313, 151, 624, 322, 323, 324, 325, 625, 415, 416, 417, 418, 626, 480, 481, 482, 483, 484, 485, 486, 487, 633, 634, 641, 642, 643, 644, 645, 646, 647, 648, 649, 650] (by decide +kernel) (by decide +kernel)) (goodIn_sub (fun _ h => List.mem_append_right _ h) (by decide +kernel))
set_option maxRecDepth 20000 in
theorem gL_law_X1_digest : GoodIn wsL_law (wsV RL 199 RX1 yX1_digest wsX1_digest) := goodIn_app (goodIn_of _ (by decide +kernel)) ggL_law_X1_digest
set_option maxRecDepth 20000 in
theorem ggL_law_X2_digest : GoodIn wsL_law wsX2_digest := goodIn_r _ [630, 63, 21, 64, 34, 631, 632, 33, 221, 222, 223, 5, 224, 225, 226, 227, 228, 111, 250, 251, 252, 253, 254, 255, 256, 398, 399, 400, 401, 229, 230, 231, 232, 233, 234, 235, 236, 237, 238, 239, 240, 241, 242, 243, 244, 245, 201, 126, 202, 439, 440, 441, 442, 423, 424, 425, 426, 455, 456, 457, 458, 246, 247, 248, 249, 504, 505, 506, 507, 544, 545, 546, 547, 523, 524, 525, 526, 35, 527, 528, 529, 530, 216, 217, 218, 219, 220, 176, 177, 132, 125, 127, 531, 532, 533, 534, 556, 557, 558, 559, 581, 582, 583, 584, 492, 493, 494, 495, 65, 66, 67, 635, 636, 637, 638, 639, 640] (by decide +kernel) (by decide +kernel)
set_option maxRecDepth 20000 in
theorem gL_law_X2_digest : GoodIn wsL_law (wsV RL 203 RX2 yX2_digest wsX2_digest) := goodIn_app (goodIn_of _ (by decide +kernel)) ggL_law_X2_digest
