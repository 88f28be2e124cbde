set_option maxRecDepth 20000 in
theorem ggL_law_X1_digest : GoodIn wsL_law wsX1_digest := goodIn_ca (goodIn_r _ [190, 191, 192, 18, 59, 193, 194, 195, 2, 196, 197, 198, 199, 200, 201, 202, 203, 204, 205, 206, 130, 131, 17, 132, 69, 133, 134, 135, 136, 25, 27, 207, 208, 209, 210, 211, 212, 213, 214, 129, 137, 138, 139, 140, 24, 141, 142, 143, 144, 145, 146, 147, 6, 7, 8, 215, 216, 217, 218, 219, 220, 221, 222, 223, 224, 225, 226, 227, 228, 229, 230, 231, 232, 233, 234, 235, 236, 237, 238, 239, 240, 126, 127, 128, 241, 242, 243, 244, 110, 245, 246, 247, 248, 249, 250, 251, 252, 19, 253, 254, 255, 256, 23, 26, 121, 120, 119, 257, 116, 117, 118, 122, 123, 124, 125, 148, 149, 150, 151, 152, 95, 96, 258, 259, 260, 261, 262, 263, 264, 265, 266, 267, 268, 269, 28, 270, 271, 272, 273, 274, 275, 276, 277, 278, 279, 280, 281, 282, 283, 284, 285, 286, 287, 288, 289, 290, 291, 292, 293, 78, 79, 80, 81, 82, 83, 294, 295, 296, 297, 77, 298, 299, 300, 301, 93, 302, 303, 304, 305, 105, 306, 307, 308, 309, 310, 311, 312, 313, 314, 315, 316, 317, 318, 319, 320, 321, 322, 323, 324, 400, 401, 402, 403, 404, 405, 406, 407, 408, 409, 410, 411] (by decide +kernel) (by decide +kernel)) (goodIn_sub (fun _ h => List.mem_append_right _ h) (by decide +kernel))
set_option maxRecDepth 20000 in
theorem gL_law_X1_digest : GoodIn wsL_law (wsV RL 66 RX1 yX1_digest wsX1_digest) := goodIn_app (goodIn_of _ (by decide +kernel)) ggL_law_X1_digest
set_option maxRecDepth 20000 in
theorem ggL_law_X1_pots : GoodIn wsL_law wsX1_pots := goodIn_r _ [196, 18, 59, 400, 401, 402, 403, 404, 405, 406, 407, 408, 409, 410, 411] (by decide +kernel) (by decide +kernel)
set_option maxRecDepth 20000 in
theorem gL_law_X1_pots : GoodIn wsL_law (wsV RL 70 RX1 yX1_pots wsX1_pots) := goodIn_app (goodIn_of _ (by decide +kernel)) ggL_law_X1_pots
set_option maxRecDepth 20000 in
theorem ggL_law_X1_teaOf : GoodIn wsL_law wsX1_teaOf := goodIn_ca (goodIn_r _ [301, 18, 93, 78, 79, 80, 2, 81, 82, 83, 59, 400, 401, 402, 403, 404, 405, 406, 407, 408, 409, 410, 411] (by decide +kernel) (by decide +kernel)) (goodIn_sub (fun _ h => List.mem_append_right _ h) (by decide +kernel))
set_option maxRecDepth 20000 in
theorem gL_law_X1_teaOf : GoodIn wsL_law (wsV RL 73 RX1 yX1_teaOf wsX1_teaOf) := goodIn_app (goodIn_of _ (by decide +kernel)) ggL_law_X1_teaOf
