/-! ===== the words of the law's body, by their places among the tables' words ===== -/
theorem mem_fm {big ws : List Cond} {ps : List Nat} (hp : ws = ps.filterMap (fun i => big[i]?)) : ∀ w ∈ ws, w ∈ big := by
  intro w hw
  rw [hp] at hw
  obtain ⟨i, -, hi⟩ := List.mem_filterMap.mp hw
  first | exact List.mem_of_getElem? hi | exact List.getElem?_mem hi
set_option maxRecDepth 40000 in
theorem lwp_1 : ∀ w ∈ wsL_law0_r1, w ∈ lw_tbl := mem_fm (ps := [44, 45, 32, 536, 537, 34, 807, 46, 47, 48, 49, 50, 51, 52, 53, 33, 99, 100, 55, 56, 57, 97, 58, 60]) (by decide +kernel)
set_option maxRecDepth 40000 in
theorem lwp_2 : ∀ w ∈ wsL_law0_r2, w ∈ lw_tbl := mem_fm (ps := [62, 64, 98, 66, 68, 538, 539, 540, 541, 545, 546, 547, 376, 377, 31, 378, 379, 380, 381, 382, 383, 384, 404, 39]) (by decide +kernel)
set_option maxRecDepth 40000 in
theorem lwp_3 : ∀ w ∈ wsL_law0_r3, w ∈ lw_tbl := mem_fm (ps := [70, 385, 386, 387, 388, 38, 420, 421, 422, 423, 69, 565, 566, 567, 568, 542, 543, 569, 570, 571, 572, 574, 6, 575]) (by decide +kernel)
set_option maxRecDepth 40000 in
theorem lwp_4 : ∀ w ∈ wsL_law0_r4, w ∈ lw_tbl := mem_fm (ps := [561, 562, 563, 564, 424, 425, 426, 427, 428, 429, 430, 431, 61, 273, 275, 4, 276, 277, 40, 576, 577, 578, 579, 580]) (by decide +kernel)
set_option maxRecDepth 40000 in
theorem lwp_5 : ∀ w ∈ wsL_law0_r5, w ∈ lw_tbl := mem_fm (ps := [582, 7, 583, 432, 433, 434, 435, 436, 437, 438, 67, 584, 585, 586, 587, 544, 588, 590, 8, 591, 439, 440, 441, 442]) (by decide +kernel)
set_option maxRecDepth 40000 in
theorem lwp_6 : ∀ w ∈ wsL_law0_r6, w ∈ lw_tbl := mem_fm (ps := [443, 444, 445, 63, 447, 210, 41, 211, 592, 593, 594, 595, 596, 448, 449, 450, 451, 452, 453, 454, 597, 598, 599, 600]) (by decide +kernel)
set_option maxRecDepth 40000 in
theorem lwp_7 : ∀ w ∈ wsL_law0_r7, w ∈ lw_tbl := mem_fm (ps := [455, 456, 457, 458, 459, 460, 461, 65, 601, 602, 603, 604, 462, 463, 464, 465, 466, 467, 468, 74, 469, 470, 471, 472]) (by decide +kernel)
set_option maxRecDepth 40000 in
theorem lwp_8 : ∀ w ∈ wsL_law0_r8, w ∈ lw_tbl := mem_fm (ps := [473, 198, 199, 200, 75, 73, 71, 206, 207, 208, 201, 175, 176, 177, 134, 119, 120, 121, 122, 123, 124, 125, 135, 136]) (by decide +kernel)
set_option maxRecDepth 40000 in
theorem lwp_9 : ∀ w ∈ wsL_law0_r9, w ∈ lw_tbl := mem_fm (ps := [137, 138, 139, 140, 141, 142, 144, 145, 146, 147, 148, 202, 204, 0, 205, 209, 605, 606, 607, 608, 609, 611, 9, 612]) (by decide +kernel)
set_option maxRecDepth 40000 in
theorem lwp_10 : ∀ w ∈ wsL_law0_r10, w ∈ lw_tbl := mem_fm (ps := [613, 615, 10, 616, 647, 617, 619, 11, 620, 621, 623, 12, 624, 625, 627, 13, 628, 629, 631, 14, 632, 633, 635, 15]) (by decide +kernel)
set_option maxRecDepth 40000 in
theorem lwp_11 : ∀ w ∈ wsL_law0_r11, w ∈ lw_tbl := mem_fm (ps := [636, 637, 639, 16, 640, 641, 642, 644, 17, 645, 646, 229, 42, 230, 231, 232, 233, 106, 107, 108, 109, 648, 649, 650]) (by decide +kernel)
set_option maxRecDepth 40000 in
theorem lwp_12 : ∀ w ∈ wsL_law0_r12, w ∈ lw_tbl := mem_fm (ps := [651, 652, 654, 18, 655, 474, 475, 476, 477, 270, 271, 272, 59, 656, 657, 658, 659, 478, 479, 480, 481, 346, 347, 348]) (by decide +kernel)
set_option maxRecDepth 40000 in
theorem lwp_13 : ∀ w ∈ wsL_law0_r13, w ∈ lw_tbl := mem_fm (ps := [660, 661, 662, 663, 664, 666, 19, 667, 482, 483, 484, 485, 350, 351, 352, 668, 669, 670, 671, 486, 487, 488, 489, 354]) (by decide +kernel)
set_option maxRecDepth 40000 in
theorem lwp_14 : ∀ w ∈ wsL_law0_r14, w ∈ lw_tbl := mem_fm (ps := [355, 356, 672, 673, 674, 675, 490, 491, 492, 493, 358, 359, 360, 361, 676, 677, 678, 679, 494, 495, 496, 497, 498, 499]) (by decide +kernel)
set_option maxRecDepth 40000 in
theorem lwp_15 : ∀ w ∈ wsL_law0_r15, w ∈ lw_tbl := mem_fm (ps := [500, 502, 503, 504, 505, 680, 681, 682, 683, 110, 111, 112, 113, 72, 684, 685, 686, 687, 114, 115, 116, 117, 118, 688]) (by decide +kernel)
set_option maxRecDepth 40000 in
theorem lwp_16 : ∀ w ∈ wsL_law0_r16, w ∈ lw_tbl := mem_fm (ps := [689, 690, 691, 506, 507, 508, 509, 510, 511, 512, 692, 693, 694, 695, 513, 514, 515, 516, 517, 518, 519, 520, 696, 697]) (by decide +kernel)
set_option maxRecDepth 40000 in
theorem lwp_17 : ∀ w ∈ wsL_law0_r17, w ∈ lw_tbl := mem_fm (ps := [698, 699, 126, 127, 128, 129, 130, 131, 132, 133, 700, 701, 702, 703, 704, 706, 20, 707, 149, 150, 151, 152, 153, 708]) (by decide +kernel)
set_option maxRecDepth 40000 in
theorem lwp_18 : ∀ w ∈ wsL_law0_r18, w ∈ lw_tbl := mem_fm (ps := [709, 710, 711, 521, 522, 523, 524, 363, 364, 365, 366, 712, 713, 714, 715, 716, 718, 21, 719, 154, 155, 156, 157, 158]) (by decide +kernel)
set_option maxRecDepth 40000 in
theorem lwp_19 : ∀ w ∈ wsL_law0_r19, w ∈ lw_tbl := mem_fm (ps := [159, 160, 161, 720, 721, 722, 723, 724, 726, 22, 727, 162, 163, 164, 165, 166, 167, 168, 169, 728, 729, 730, 731, 732]) (by decide +kernel)
set_option maxRecDepth 40000 in
theorem lwp_20 : ∀ w ∈ wsL_law0_r20, w ∈ lw_tbl := mem_fm (ps := [734, 23, 735, 170, 171, 172, 173, 174, 736, 737, 738, 739, 178, 179, 180, 181, 740, 741, 742, 743, 525, 526, 527, 528]) (by decide +kernel)
set_option maxRecDepth 40000 in
theorem lwp_21 : ∀ w ∈ wsL_law0_r21, w ∈ lw_tbl := mem_fm (ps := [368, 369, 370, 371, 372, 373, 374, 375, 744, 745, 746, 747, 748, 750, 24, 751, 182, 183, 184, 185, 752, 753, 754, 755]) (by decide +kernel)
set_option maxRecDepth 40000 in
theorem lwp_22 : ∀ w ∈ wsL_law0_r22, w ∈ lw_tbl := mem_fm (ps := [756, 758, 25, 759, 529, 530, 531, 532, 533, 534, 535, 190, 191, 192, 193, 194, 196, 195, 43, 760, 761, 762, 763, 764]) (by decide +kernel)
set_option maxRecDepth 40000 in
theorem lwp_23 : ∀ w ∈ wsL_law0_r23, w ∈ lw_tbl := mem_fm (ps := [766, 26, 767, 768, 769, 771, 27, 772, 186, 187, 188, 189, 197, 773, 774, 775, 776, 777, 779, 28, 780, 212, 213, 214]) (by decide +kernel)
set_option maxRecDepth 40000 in
theorem lwp_24 : ∀ w ∈ wsL_law0_r24, w ∈ lw_tbl := mem_fm (ps := [215, 781, 782, 783, 784, 785, 787, 29, 788, 216, 217, 218, 219, 220, 221, 222, 223, 224, 226, 1, 227, 228, 234, 236]) (by decide +kernel)
set_option maxRecDepth 40000 in
theorem lwp_25 : ∀ w ∈ wsL_law0_r25, w ∈ lw_tbl := mem_fm (ps := [2, 237, 789, 790, 791, 792, 793, 795, 30, 796, 238, 239, 240, 241, 242, 243, 244, 245, 797, 798, 799, 800, 246, 247]) (by decide +kernel)
set_option maxRecDepth 40000 in
theorem lwp_26 : ∀ w ∈ wsL_law0_r26, w ∈ lw_tbl := mem_fm (ps := [248, 249, 250, 251, 252, 253, 254, 255, 256, 257, 258, 259, 260, 261, 262, 263, 264, 265, 267, 3, 268, 269, 345, 349]) (by decide +kernel)
set_option maxRecDepth 40000 in
theorem lwp_27 : ∀ w ∈ wsL_law0_r27, w ∈ lw_tbl := mem_fm (ps := [353, 357, 362, 367, 801, 802, 803, 804, 805, 806]) (by decide +kernel)
set_option maxRecDepth 40000 in
theorem inX0 : ∀ w ∈ wsX00, w ∈ lw_tbl := mem_fm (ps := [76, 78, 80, 82, 84, 86, 88, 90, 92, 94]) (by decide +kernel)
set_option maxRecDepth 40000 in
theorem inX1 : ∀ w ∈ wsX10, w ∈ lw_tbl := mem_fm (ps := [101, 103]) (by decide +kernel)
set_option maxRecDepth 40000 in
theorem inX2 : ∀ w ∈ wsX20, w ∈ lw_tbl := mem_fm (ps := [548, 550, 552, 554, 556, 558]) (by decide +kernel)
theorem lwp_all : ∀ w ∈ (wsL_law0_r1 ++ (wsL_law0_r2 ++ (wsL_law0_r3 ++ (wsL_law0_r4 ++ (wsL_law0_r5 ++ (wsL_law0_r6 ++ (wsL_law0_r7 ++ (wsL_law0_r8 ++ (wsL_law0_r9 ++ (wsL_law0_r10 ++ (wsL_law0_r11 ++ (wsL_law0_r12 ++ (wsL_law0_r13 ++ (wsL_law0_r14 ++ (wsL_law0_r15 ++ (wsL_law0_r16 ++ (wsL_law0_r17 ++ (wsL_law0_r18 ++ (wsL_law0_r19 ++ (wsL_law0_r20 ++ (wsL_law0_r21 ++ (wsL_law0_r22 ++ (wsL_law0_r23 ++ (wsL_law0_r24 ++ (wsL_law0_r25 ++ (wsL_law0_r26 ++ (wsL_law0_r27))))))))))))))))))))))))))), w ∈ lw_tbl := List.forall_mem_append.mpr ⟨lwp_1, List.forall_mem_append.mpr ⟨lwp_2, List.forall_mem_append.mpr ⟨lwp_3, List.forall_mem_append.mpr ⟨lwp_4, List.forall_mem_append.mpr ⟨lwp_5, List.forall_mem_append.mpr ⟨lwp_6, List.forall_mem_append.mpr ⟨lwp_7, List.forall_mem_append.mpr ⟨lwp_8, List.forall_mem_append.mpr ⟨lwp_9, List.forall_mem_append.mpr ⟨lwp_10, List.forall_mem_append.mpr ⟨lwp_11, List.forall_mem_append.mpr ⟨lwp_12, List.forall_mem_append.mpr ⟨lwp_13, List.forall_mem_append.mpr ⟨lwp_14, List.forall_mem_append.mpr ⟨lwp_15, List.forall_mem_append.mpr ⟨lwp_16, List.forall_mem_append.mpr ⟨lwp_17, List.forall_mem_append.mpr ⟨lwp_18, List.forall_mem_append.mpr ⟨lwp_19, List.forall_mem_append.mpr ⟨lwp_20, List.forall_mem_append.mpr ⟨lwp_21, List.forall_mem_append.mpr ⟨lwp_22, List.forall_mem_append.mpr ⟨lwp_23, List.forall_mem_append.mpr ⟨lwp_24, List.forall_mem_append.mpr ⟨lwp_25, List.forall_mem_append.mpr ⟨lwp_26, lwp_27⟩⟩⟩⟩⟩⟩⟩⟩⟩⟩⟩⟩⟩⟩⟩⟩⟩⟩⟩⟩⟩⟩⟩⟩⟩⟩
theorem wsL_law_in0 : ∀ w ∈ wsL_law0, w ∈ lw_tbl := List.forall_mem_append.mpr ⟨List.forall_mem_append.mpr ⟨List.forall_mem_append.mpr ⟨List.forall_mem_append.mpr ⟨lwp_all, inX1⟩, inX2⟩, inX0⟩, fun _ h => absurd h List.not_mem_nil⟩
