/-! ===== the words of the law's body, by their places among the tables' words ===== -/
theorem mem_fm {big ws : List Cond} {ps : List Nat} (hp : ws = ps.filterMap (fun i => big[i]?)) : ∀ w ∈ ws, w ∈ big := by
  intro w hw
  rw [hp] at hw
  obtain ⟨i, -, hi⟩ := List.mem_filterMap.mp hw
  first | exact List.mem_of_getElem? hi | exact List.getElem?_mem hi
set_option maxRecDepth 40000 in
theorem lwp_1 : ∀ w ∈ wsL_law0_r1, w ∈ lw_tbl := mem_fm (ps := [44, 45, 32, 533, 534, 34, 806, 46, 47, 48, 49, 50, 51, 52, 53, 33, 99, 100, 55, 56, 57, 97, 58, 60]) (by decide +kernel)
set_option maxRecDepth 40000 in
theorem lwp_2 : ∀ w ∈ wsL_law0_r2, w ∈ lw_tbl := mem_fm (ps := [62, 64, 98, 66, 68, 535, 536, 537, 538, 542, 543, 544, 373, 374, 31, 375, 376, 377, 378, 379, 380, 381, 401, 39]) (by decide +kernel)
set_option maxRecDepth 40000 in
theorem lwp_3 : ∀ w ∈ wsL_law0_r3, w ∈ lw_tbl := mem_fm (ps := [70, 382, 383, 384, 385, 38, 417, 418, 419, 420, 69, 562, 563, 564, 565, 539, 540, 566, 567, 568, 569, 571, 6, 572]) (by decide +kernel)
set_option maxRecDepth 40000 in
theorem lwp_4 : ∀ w ∈ wsL_law0_r4, w ∈ lw_tbl := mem_fm (ps := [558, 559, 560, 561, 421, 422, 423, 424, 425, 426, 427, 428, 61, 270, 272, 4, 273, 274, 40, 573, 574, 575, 576, 577]) (by decide +kernel)
set_option maxRecDepth 40000 in
theorem lwp_5 : ∀ w ∈ wsL_law0_r5, w ∈ lw_tbl := mem_fm (ps := [579, 7, 580, 429, 430, 431, 432, 433, 434, 435, 67, 581, 582, 583, 584, 541, 585, 587, 8, 588, 436, 437, 438, 439]) (by decide +kernel)
set_option maxRecDepth 40000 in
theorem lwp_6 : ∀ w ∈ wsL_law0_r6, w ∈ lw_tbl := mem_fm (ps := [440, 441, 442, 63, 444, 207, 41, 208, 589, 590, 591, 592, 593, 445, 446, 447, 448, 449, 450, 451, 594, 595, 596, 597]) (by decide +kernel)
set_option maxRecDepth 40000 in
theorem lwp_7 : ∀ w ∈ wsL_law0_r7, w ∈ lw_tbl := mem_fm (ps := [452, 453, 454, 455, 456, 457, 458, 65, 598, 599, 600, 601, 459, 460, 461, 462, 463, 464, 465, 74, 466, 467, 468, 469]) (by decide +kernel)
set_option maxRecDepth 40000 in
theorem lwp_8 : ∀ w ∈ wsL_law0_r8, w ∈ lw_tbl := mem_fm (ps := [470, 195, 196, 197, 75, 73, 71, 203, 204, 205, 198, 175, 176, 177, 134, 119, 120, 121, 122, 123, 124, 125, 135, 136]) (by decide +kernel)
set_option maxRecDepth 40000 in
theorem lwp_9 : ∀ w ∈ wsL_law0_r9, w ∈ lw_tbl := mem_fm (ps := [137, 138, 139, 140, 141, 142, 144, 145, 146, 147, 148, 199, 201, 0, 202, 206, 602, 603, 604, 605, 606, 608, 9, 609]) (by decide +kernel)
set_option maxRecDepth 40000 in
theorem lwp_10 : ∀ w ∈ wsL_law0_r10, w ∈ lw_tbl := mem_fm (ps := [610, 612, 10, 613, 644, 614, 616, 11, 617, 618, 620, 12, 621, 622, 624, 13, 625, 626, 628, 14, 629, 630, 632, 15]) (by decide +kernel)
set_option maxRecDepth 40000 in
theorem lwp_11 : ∀ w ∈ wsL_law0_r11, w ∈ lw_tbl := mem_fm (ps := [633, 634, 636, 16, 637, 638, 639, 641, 17, 642, 643, 226, 42, 227, 228, 229, 230, 106, 107, 108, 109, 645, 646, 647]) (by decide +kernel)
set_option maxRecDepth 40000 in
theorem lwp_12 : ∀ w ∈ wsL_law0_r12, w ∈ lw_tbl := mem_fm (ps := [648, 649, 651, 18, 652, 471, 472, 473, 474, 267, 268, 269, 59, 653, 654, 655, 656, 475, 476, 477, 478, 343, 344, 345]) (by decide +kernel)
set_option maxRecDepth 40000 in
theorem lwp_13 : ∀ w ∈ wsL_law0_r13, w ∈ lw_tbl := mem_fm (ps := [657, 658, 659, 660, 661, 663, 19, 664, 479, 480, 481, 482, 347, 348, 349, 665, 666, 667, 668, 483, 484, 485, 486, 351]) (by decide +kernel)
set_option maxRecDepth 40000 in
theorem lwp_14 : ∀ w ∈ wsL_law0_r14, w ∈ lw_tbl := mem_fm (ps := [352, 353, 669, 670, 671, 672, 487, 488, 489, 490, 355, 356, 357, 358, 673, 674, 675, 676, 491, 492, 493, 494, 495, 496]) (by decide +kernel)
set_option maxRecDepth 40000 in
theorem lwp_15 : ∀ w ∈ wsL_law0_r15, w ∈ lw_tbl := mem_fm (ps := [497, 499, 500, 501, 502, 677, 678, 679, 680, 110, 111, 112, 113, 72, 681, 682, 683, 684, 114, 115, 116, 117, 118, 685]) (by decide +kernel)
set_option maxRecDepth 40000 in
theorem lwp_16 : ∀ w ∈ wsL_law0_r16, w ∈ lw_tbl := mem_fm (ps := [686, 687, 688, 503, 504, 505, 506, 507, 508, 509, 689, 690, 691, 692, 510, 511, 512, 513, 514, 515, 516, 517, 693, 694]) (by decide +kernel)
set_option maxRecDepth 40000 in
theorem lwp_17 : ∀ w ∈ wsL_law0_r17, w ∈ lw_tbl := mem_fm (ps := [695, 696, 126, 127, 128, 129, 130, 131, 132, 133, 697, 698, 699, 700, 701, 703, 20, 704, 149, 150, 151, 152, 153, 705]) (by decide +kernel)
set_option maxRecDepth 40000 in
theorem lwp_18 : ∀ w ∈ wsL_law0_r18, w ∈ lw_tbl := mem_fm (ps := [706, 707, 708, 518, 519, 520, 521, 360, 361, 362, 363, 709, 710, 711, 712, 713, 715, 21, 716, 154, 155, 156, 157, 158]) (by decide +kernel)
set_option maxRecDepth 40000 in
theorem lwp_19 : ∀ w ∈ wsL_law0_r19, w ∈ lw_tbl := mem_fm (ps := [159, 160, 161, 717, 718, 719, 720, 721, 723, 22, 724, 162, 163, 164, 165, 166, 167, 168, 169, 725, 726, 727, 728, 729]) (by decide +kernel)
set_option maxRecDepth 40000 in
theorem lwp_20 : ∀ w ∈ wsL_law0_r20, w ∈ lw_tbl := mem_fm (ps := [731, 23, 732, 170, 171, 172, 173, 174, 733, 734, 735, 736, 178, 179, 180, 181, 737, 738, 739, 740, 522, 523, 524, 525]) (by decide +kernel)
set_option maxRecDepth 40000 in
theorem lwp_21 : ∀ w ∈ wsL_law0_r21, w ∈ lw_tbl := mem_fm (ps := [365, 366, 367, 368, 369, 370, 371, 372, 741, 742, 743, 744, 745, 747, 24, 748, 182, 183, 184, 185, 749, 750, 751, 752]) (by decide +kernel)
set_option maxRecDepth 40000 in
theorem lwp_22 : ∀ w ∈ wsL_law0_r22, w ∈ lw_tbl := mem_fm (ps := [753, 755, 25, 756, 526, 527, 528, 529, 530, 531, 532, 190, 191, 192, 193, 757, 758, 759, 760, 761, 763, 26, 764, 765]) (by decide +kernel)
set_option maxRecDepth 40000 in
theorem lwp_23 : ∀ w ∈ wsL_law0_r23, w ∈ lw_tbl := mem_fm (ps := [767, 766, 43, 768, 770, 27, 771, 186, 187, 188, 189, 194, 772, 773, 774, 775, 776, 778, 28, 779, 209, 210, 211, 212]) (by decide +kernel)
set_option maxRecDepth 40000 in
theorem lwp_24 : ∀ w ∈ wsL_law0_r24, w ∈ lw_tbl := mem_fm (ps := [780, 781, 782, 783, 784, 786, 29, 787, 213, 214, 215, 216, 217, 218, 219, 220, 221, 223, 1, 224, 225, 231, 233, 2]) (by decide +kernel)
set_option maxRecDepth 40000 in
theorem lwp_25 : ∀ w ∈ wsL_law0_r25, w ∈ lw_tbl := mem_fm (ps := [234, 788, 789, 790, 791, 792, 794, 30, 795, 235, 236, 237, 238, 239, 240, 241, 242, 796, 797, 798, 799, 243, 244, 245]) (by decide +kernel)
set_option maxRecDepth 40000 in
theorem lwp_26 : ∀ w ∈ wsL_law0_r26, w ∈ lw_tbl := mem_fm (ps := [246, 247, 248, 249, 250, 251, 252, 253, 254, 255, 256, 257, 258, 259, 260, 261, 262, 264, 3, 265, 266, 342, 346, 350]) (by decide +kernel)
set_option maxRecDepth 40000 in
theorem lwp_27 : ∀ w ∈ wsL_law0_r27, w ∈ lw_tbl := mem_fm (ps := [354, 359, 364, 800, 801, 802, 803, 804, 805]) (by decide +kernel)
set_option maxRecDepth 40000 in
theorem inX0 : ∀ w ∈ wsX00, w ∈ lw_tbl := mem_fm (ps := [76, 78, 80, 82, 84, 86, 88, 90, 92, 94]) (by decide +kernel)
set_option maxRecDepth 40000 in
theorem inX1 : ∀ w ∈ wsX10, w ∈ lw_tbl := mem_fm (ps := [101, 103]) (by decide +kernel)
set_option maxRecDepth 40000 in
theorem inX2 : ∀ w ∈ wsX20, w ∈ lw_tbl := mem_fm (ps := [545, 547, 549, 551, 553, 555]) (by decide +kernel)
theorem lwp_all : ∀ w ∈ (wsL_law0_r1 ++ (wsL_law0_r2 ++ (wsL_law0_r3 ++ (wsL_law0_r4 ++ (wsL_law0_r5 ++ (wsL_law0_r6 ++ (wsL_law0_r7 ++ (wsL_law0_r8 ++ (wsL_law0_r9 ++ (wsL_law0_r10 ++ (wsL_law0_r11 ++ (wsL_law0_r12 ++ (wsL_law0_r13 ++ (wsL_law0_r14 ++ (wsL_law0_r15 ++ (wsL_law0_r16 ++ (wsL_law0_r17 ++ (wsL_law0_r18 ++ (wsL_law0_r19 ++ (wsL_law0_r20 ++ (wsL_law0_r21 ++ (wsL_law0_r22 ++ (wsL_law0_r23 ++ (wsL_law0_r24 ++ (wsL_law0_r25 ++ (wsL_law0_r26 ++ (wsL_law0_r27))))))))))))))))))))))))))), w ∈ lw_tbl := List.forall_mem_append.mpr ⟨lwp_1, List.forall_mem_append.mpr ⟨lwp_2, List.forall_mem_append.mpr ⟨lwp_3, List.forall_mem_append.mpr ⟨lwp_4, List.forall_mem_append.mpr ⟨lwp_5, List.forall_mem_append.mpr ⟨lwp_6, List.forall_mem_append.mpr ⟨lwp_7, List.forall_mem_append.mpr ⟨lwp_8, List.forall_mem_append.mpr ⟨lwp_9, List.forall_mem_append.mpr ⟨lwp_10, List.forall_mem_append.mpr ⟨lwp_11, List.forall_mem_append.mpr ⟨lwp_12, List.forall_mem_append.mpr ⟨lwp_13, List.forall_mem_append.mpr ⟨lwp_14, List.forall_mem_append.mpr ⟨lwp_15, List.forall_mem_append.mpr ⟨lwp_16, List.forall_mem_append.mpr ⟨lwp_17, List.forall_mem_append.mpr ⟨lwp_18, List.forall_mem_append.mpr ⟨lwp_19, List.forall_mem_append.mpr ⟨lwp_20, List.forall_mem_append.mpr ⟨lwp_21, List.forall_mem_append.mpr ⟨lwp_22, List.forall_mem_append.mpr ⟨lwp_23, List.forall_mem_append.mpr ⟨lwp_24, List.forall_mem_append.mpr ⟨lwp_25, List.forall_mem_append.mpr ⟨lwp_26, lwp_27⟩⟩⟩⟩⟩⟩⟩⟩⟩⟩⟩⟩⟩⟩⟩⟩⟩⟩⟩⟩⟩⟩⟩⟩⟩⟩
theorem wsL_law_in0 : ∀ w ∈ wsL_law0, w ∈ lw_tbl := List.forall_mem_append.mpr ⟨List.forall_mem_append.mpr ⟨List.forall_mem_append.mpr ⟨List.forall_mem_append.mpr ⟨lwp_all, inX1⟩, inX2⟩, inX0⟩, fun _ h => absurd h List.not_mem_nil⟩
