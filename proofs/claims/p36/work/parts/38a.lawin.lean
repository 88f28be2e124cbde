/-! ===== the words of the law's body, by their places among the tables' words ===== -/
theorem mem_fm {big ws : List Cond} {ps : List Nat} (hp : ws = ps.filterMap (fun i => big[i]?)) : ∀ w ∈ ws, w ∈ big := by
  intro w hw
  rw [hp] at hw
  obtain ⟨i, -, hi⟩ := List.mem_filterMap.mp hw
  first | exact List.mem_of_getElem? hi | exact List.getElem?_mem hi
set_option maxRecDepth 40000 in
theorem lwp_1 : ∀ w ∈ wsL_law0_r1, w ∈ lw_tbl := mem_fm (ps := [18, 19, 7, 71, 72, 546, 211, 16, 212, 20, 21, 22, 23, 24, 25, 26, 27, 8, 73, 74, 29, 30, 31, 32]) (by decide +kernel)
set_option maxRecDepth 40000 in
theorem lwp_2 : ∀ w ∈ wsL_law0_r2, w ∈ lw_tbl := mem_fm (ps := [34, 36, 38, 40, 42, 523, 524, 6, 525, 526, 527, 9, 536, 529, 530, 531, 474, 535, 464, 465, 466, 467, 460, 461]) (by decide +kernel)
set_option maxRecDepth 40000 in
theorem lwp_3 : ∀ w ∈ wsL_law0_r3, w ∈ lw_tbl := mem_fm (ps := [462, 463, 471, 472, 473, 476, 477, 478, 479, 480, 14, 44, 156, 157, 158, 159, 13, 496, 497, 498, 499, 43, 468, 469]) (by decide +kernel)
set_option maxRecDepth 40000 in
theorem lwp_4 : ∀ w ∈ wsL_law0_r4, w ∈ lw_tbl := mem_fm (ps := [470, 80, 81, 82, 83, 35, 84, 86, 0, 87, 88, 15, 500, 501, 502, 503, 41, 504, 505, 506, 507, 37, 509, 221]) (by decide +kernel)
set_option maxRecDepth 40000 in
theorem lwp_5 : ∀ w ∈ wsL_law0_r5, w ∈ lw_tbl := mem_fm (ps := [222, 510, 511, 512, 513, 514, 515, 516, 517, 39, 175, 176, 177, 178, 48, 179, 180, 181, 182, 183, 184, 185, 186, 49]) (by decide +kernel)
set_option maxRecDepth 40000 in
theorem lwp_6 : ∀ w ∈ wsL_law0_r6, w ∈ lw_tbl := mem_fm (ps := [47, 45, 217, 218, 219, 187, 188, 189, 190, 191, 192, 193, 194, 195, 196, 197, 198, 199, 200, 201, 202, 203, 204, 205]) (by decide +kernel)
set_option maxRecDepth 40000 in
theorem lwp_7 : ∀ w ∈ wsL_law0_r7, w ∈ lw_tbl := mem_fm (ps := [206, 208, 209, 210, 213, 215, 2, 216, 220, 518, 519, 520, 521, 522, 398, 399, 400, 534, 532, 533, 401, 402, 403, 404]) (by decide +kernel)
set_option maxRecDepth 40000 in
theorem lwp_8 : ∀ w ∈ wsL_law0_r8, w ∈ lw_tbl := mem_fm (ps := [405, 406, 407, 408, 409, 410, 411, 412, 413, 414, 415, 416, 417, 418, 419, 420, 421, 422, 423, 358, 359, 360, 361, 362]) (by decide +kernel)
set_option maxRecDepth 40000 in
theorem lwp_9 : ∀ w ∈ wsL_law0_r9, w ∈ lw_tbl := mem_fm (ps := [363, 364, 224, 225, 226, 365, 366, 367, 368, 46, 369, 254, 255, 256, 257, 370, 268, 269, 270, 271, 272, 273, 274, 371]) (by decide +kernel)
set_option maxRecDepth 40000 in
theorem lwp_10 : ∀ w ∈ wsL_law0_r10, w ∈ lw_tbl := mem_fm (ps := [276, 277, 278, 279, 372, 286, 287, 288, 289, 290, 291, 292, 373, 294, 295, 296, 297, 298, 299, 300, 374, 302, 303, 304]) (by decide +kernel)
set_option maxRecDepth 40000 in
theorem lwp_11 : ∀ w ∈ wsL_law0_r11, w ∈ lw_tbl := mem_fm (ps := [305, 375, 376, 377, 378, 379, 316, 317, 318, 380, 328, 329, 330, 323, 324, 325, 326, 331, 381, 333, 334, 335, 382, 337]) (by decide +kernel)
set_option maxRecDepth 40000 in
theorem lwp_12 : ∀ w ∈ wsL_law0_r12, w ∈ lw_tbl := mem_fm (ps := [338, 339, 340, 341, 342, 343, 344, 346, 3, 347, 348, 349, 17, 350, 351, 352, 353, 354, 356, 4, 357, 383, 385, 5]) (by decide +kernel)
set_option maxRecDepth 40000 in
theorem lwp_13 : ∀ w ∈ wsL_law0_r13, w ∈ lw_tbl := mem_fm (ps := [386, 387, 388, 389, 390, 33, 391, 228, 229, 230, 392, 232, 233, 234, 393, 236, 237, 238, 394, 240, 241, 242, 243, 395]) (by decide +kernel)
set_option maxRecDepth 40000 in
theorem lwp_14 : ∀ w ∈ wsL_law0_r14, w ∈ lw_tbl := mem_fm (ps := [281, 282, 283, 284, 396, 307, 308, 309, 310, 311, 312, 313, 314, 223, 231, 227, 239, 280, 235, 262, 263, 264, 265, 266]) (by decide +kernel)
set_option maxRecDepth 40000 in
theorem lwp_15 : ∀ w ∈ wsL_law0_r15, w ∈ lw_tbl := mem_fm (ps := [258, 259, 260, 261, 244, 245, 246, 247, 249, 250, 251, 252, 285, 253, 275, 267, 301, 293, 336, 315, 306, 327, 332, 319]) (by decide +kernel)
set_option maxRecDepth 40000 in
theorem lwp_16 : ∀ w ∈ wsL_law0_r16, w ∈ lw_tbl := mem_fm (ps := [320, 321, 322, 397, 424, 425, 426, 427, 428, 429, 430, 431, 432, 433, 434, 435, 436, 437, 438, 439, 440, 441, 442, 443]) (by decide +kernel)
set_option maxRecDepth 40000 in
theorem lwp_17 : ∀ w ∈ wsL_law0_r17, w ∈ lw_tbl := mem_fm (ps := [444, 445, 446, 447, 448, 449, 450, 451, 452, 453, 454, 455, 456, 457, 458, 459]) (by decide +kernel)
set_option maxRecDepth 40000 in
theorem inX0 : ∀ w ∈ wsX00, w ∈ lw_tbl := mem_fm (ps := [50, 52, 54, 56, 58, 60, 62, 64, 66, 68]) (by decide +kernel)
set_option maxRecDepth 40000 in
theorem inX1 : ∀ w ∈ wsX10, w ∈ lw_tbl := mem_fm (ps := [75, 77]) (by decide +kernel)
set_option maxRecDepth 40000 in
theorem inX2 : ∀ w ∈ wsX20, w ∈ lw_tbl := mem_fm (ps := [537, 539, 541, 543]) (by decide +kernel)
theorem lwp_all : ∀ w ∈ (wsL_law0_r1 ++ (wsL_law0_r2 ++ (wsL_law0_r3 ++ (wsL_law0_r4 ++ (wsL_law0_r5 ++ (wsL_law0_r6 ++ (wsL_law0_r7 ++ (wsL_law0_r8 ++ (wsL_law0_r9 ++ (wsL_law0_r10 ++ (wsL_law0_r11 ++ (wsL_law0_r12 ++ (wsL_law0_r13 ++ (wsL_law0_r14 ++ (wsL_law0_r15 ++ (wsL_law0_r16 ++ (wsL_law0_r17))))))))))))))))), w ∈ lw_tbl := List.forall_mem_append.mpr ⟨lwp_1, List.forall_mem_append.mpr ⟨lwp_2, List.forall_mem_append.mpr ⟨lwp_3, List.forall_mem_append.mpr ⟨lwp_4, List.forall_mem_append.mpr ⟨lwp_5, List.forall_mem_append.mpr ⟨lwp_6, List.forall_mem_append.mpr ⟨lwp_7, List.forall_mem_append.mpr ⟨lwp_8, List.forall_mem_append.mpr ⟨lwp_9, List.forall_mem_append.mpr ⟨lwp_10, List.forall_mem_append.mpr ⟨lwp_11, List.forall_mem_append.mpr ⟨lwp_12, List.forall_mem_append.mpr ⟨lwp_13, List.forall_mem_append.mpr ⟨lwp_14, List.forall_mem_append.mpr ⟨lwp_15, List.forall_mem_append.mpr ⟨lwp_16, lwp_17⟩⟩⟩⟩⟩⟩⟩⟩⟩⟩⟩⟩⟩⟩⟩⟩
theorem wsL_law_in0 : ∀ w ∈ wsL_law0, w ∈ lw_tbl := List.forall_mem_append.mpr ⟨List.forall_mem_append.mpr ⟨List.forall_mem_append.mpr ⟨List.forall_mem_append.mpr ⟨lwp_all, inX1⟩, inX0⟩, inX2⟩, fun _ h => absurd h List.not_mem_nil⟩
