theorem jlw {ws : List Cond} {ps : List Nat} (hp : ws = ps.filterMap (fun i => lw_tbl[i]?)) : ∀ w ∈ ws, w ∈ lw_tbl := fun w h => by
  rw [hp] at h
  obtain ⟨i, -, hi⟩ := List.mem_filterMap.mp h
  exact List.mem_of_getElem? hi
set_option maxRecDepth 20000 in
theorem jwsL_law0_r1 : ∀ w ∈ wsL_law0_r1, w ∈ lw_tbl := jlw (ps := [33, 34, 19, 659, 660, 26, 179, 267, 268, 18, 269, 35, 36, 37, 38, 39, 40, 41, 42, 20, 199, 200, 85, 86]) (by decide +kernel)
set_option maxRecDepth 20000 in
theorem jwsL_law0_r2 : ∀ w ∈ wsL_law0_r2, w ∈ lw_tbl := jlw (ps := [22, 201, 148, 149, 24, 202, 203, 43, 44, 45, 46, 47, 21, 48, 49, 50, 51, 52, 53, 54, 55, 56, 84, 57]) (by decide +kernel)
set_option maxRecDepth 20000 in
theorem jwsL_law0_r3 : ∀ w ∈ wsL_law0_r3, w ∈ lw_tbl := jlw (ps := [58, 59, 60, 61, 62, 63, 64, 87, 88, 89, 90, 126, 127, 91, 92, 23, 128, 129, 130, 131, 132, 93, 94, 95]) (by decide +kernel)
set_option maxRecDepth 20000 in
theorem jwsL_law0_r4 : ∀ w ∈ wsL_law0_r4, w ∈ lw_tbl := jlw (ps := [96, 105, 107, 150, 151, 152, 153, 180, 154, 181, 156, 157, 25, 182, 183, 184, 185, 159, 160, 161, 661, 662, 663, 664]) (by decide +kernel)
set_option maxRecDepth 20000 in
theorem jwsL_law0_r5 : ∀ w ∈ wsL_law0_r5, w ∈ lw_tbl := jlw (ps := [669, 671, 672, 673, 674, 679, 670, 665, 666, 667, 270, 271, 272, 273, 274, 275, 276, 277, 278, 280, 1, 281, 282, 283]) (by decide +kernel)
set_option maxRecDepth 20000 in
theorem jwsL_law0_r6 : ∀ w ∈ wsL_law0_r6, w ∈ lw_tbl := jlw (ps := [284, 285, 286, 287, 288, 289, 30, 357, 358, 359, 360, 361, 718, 719, 720, 721, 675, 676, 722, 724, 9, 725, 668, 215]) (by decide +kernel)
set_option maxRecDepth 20000 in
theorem jwsL_law0_r7 : ∀ w ∈ wsL_law0_r7, w ∈ lw_tbl := jlw (ps := [216, 217, 218, 219, 220, 221, 222, 223, 225, 0, 226, 227, 228, 229, 230, 231, 232, 233, 234, 235, 236, 237, 238, 239]) (by decide +kernel)
set_option maxRecDepth 20000 in
theorem jwsL_law0_r8 : ∀ w ∈ wsL_law0_r8, w ∈ lw_tbl := jlw (ps := [240, 241, 242, 243, 244, 245, 246, 97, 99, 101, 103, 109, 247, 248, 249, 250, 251, 252, 253, 254, 726, 727, 728, 729]) (by decide +kernel)
set_option maxRecDepth 20000 in
theorem jwsL_law0_r9 : ∀ w ∈ wsL_law0_r9, w ∈ lw_tbl := jlw (ps := [678, 680, 730, 732, 10, 733, 362, 363, 364, 365, 366, 367, 368, 369, 370, 371, 372, 373, 374, 375, 376, 31, 263, 264]) (by decide +kernel)
set_option maxRecDepth 20000 in
theorem jwsL_law0_r10 : ∀ w ∈ wsL_law0_r10, w ∈ lw_tbl := jlw (ps := [265, 266, 734, 735, 736, 737, 677, 392, 393, 394, 395, 396, 397, 398, 399, 400, 401, 402, 403, 404, 405, 406, 407, 408]) (by decide +kernel)
set_option maxRecDepth 20000 in
theorem jwsL_law0_r11 : ∀ w ∈ wsL_law0_r11, w ∈ lw_tbl := jlw (ps := [409, 410, 411, 413, 3, 414, 415, 416, 417, 418, 419, 421, 4, 422, 423, 424, 426, 5, 427, 428, 429, 431, 6, 432]) (by decide +kernel)
set_option maxRecDepth 20000 in
theorem jwsL_law0_r12 : ∀ w ∈ wsL_law0_r12, w ∈ lw_tbl := jlw (ps := [433, 434, 435, 436, 437, 438, 439, 440, 441, 442, 443, 444, 738, 739, 740, 741, 750, 742, 744, 11, 745, 746, 748, 12]) (by decide +kernel)
set_option maxRecDepth 20000 in
theorem jwsL_law0_r13 : ∀ w ∈ wsL_law0_r13, w ∈ lw_tbl := jlw (ps := [749, 751, 753, 13, 754, 755, 756, 757, 445, 446, 447, 448, 449, 450, 451, 452, 453, 454, 455, 456, 457, 458, 459, 460]) (by decide +kernel)
set_option maxRecDepth 20000 in
theorem jwsL_law0_r14 : ∀ w ∈ wsL_law0_r14, w ∈ lw_tbl := jlw (ps := [461, 462, 463, 464, 465, 466, 467, 468, 469, 758, 759, 760, 761, 762, 764, 14, 765, 470, 471, 472, 473, 474, 475, 476]) (by decide +kernel)
set_option maxRecDepth 20000 in
theorem jwsL_law0_r15 : ∀ w ∈ wsL_law0_r15, w ∈ lw_tbl := jlw (ps := [477, 478, 479, 480, 481, 482, 483, 484, 766, 767, 768, 769, 485, 486, 487, 488, 489, 490, 491, 492, 493, 494, 495, 496]) (by decide +kernel)
set_option maxRecDepth 20000 in
theorem jwsL_law0_r16 : ∀ w ∈ wsL_law0_r16, w ∈ lw_tbl := jlw (ps := [497, 498, 499, 770, 771, 772, 773, 500, 501, 502, 503, 504, 505, 506, 507, 508, 509, 510, 511, 513, 7, 514, 516, 517]) (by decide +kernel)
set_option maxRecDepth 20000 in
theorem jwsL_law0_r17 : ∀ w ∈ wsL_law0_r17, w ∈ lw_tbl := jlw (ps := [518, 519, 520, 521, 522, 523, 524, 525, 774, 775, 776, 777, 778, 780, 15, 781, 782, 784, 16, 785, 526, 527, 528, 529]) (by decide +kernel)
set_option maxRecDepth 20000 in
theorem jwsL_law0_r18 : ∀ w ∈ wsL_law0_r18, w ∈ lw_tbl := jlw (ps := [530, 531, 532, 786, 787, 788, 789, 533, 534, 535, 536, 537, 538, 539, 540, 541, 790, 791, 792, 793, 794, 542, 543, 544]) (by decide +kernel)
set_option maxRecDepth 20000 in
theorem jwsL_law0_r19 : ∀ w ∈ wsL_law0_r19, w ∈ lw_tbl := jlw (ps := [545, 546, 547, 548, 795, 796, 797, 798, 549, 550, 551, 552, 553, 554, 555, 556, 570, 32, 557, 558, 559, 560, 561, 562]) (by decide +kernel)
set_option maxRecDepth 20000 in
theorem jwsL_law0_r20 : ∀ w ∈ wsL_law0_r20, w ∈ lw_tbl := jlw (ps := [563, 564, 565, 566, 567, 568, 569, 586, 587, 588, 589, 590, 591, 592, 593, 594, 595, 162, 164, 166, 168, 599, 600, 601]) (by decide +kernel)
set_option maxRecDepth 20000 in
theorem jwsL_law0_r21 : ∀ w ∈ wsL_law0_r21, w ∈ lw_tbl := jlw (ps := [602, 603, 604, 596, 597, 598, 605, 606, 607, 608, 609, 610, 612, 8, 613, 614, 615, 799, 800, 801, 802, 803, 805, 17]) (by decide +kernel)
set_option maxRecDepth 20000 in
theorem jwsL_law0_r22 : ∀ w ∈ wsL_law0_r22, w ∈ lw_tbl := jlw (ps := [806, 616, 617, 618, 619, 620, 621, 622, 623, 624, 625, 626, 627, 628, 629, 630, 631, 632, 633, 634, 635, 807, 808, 809]) (by decide +kernel)
set_option maxRecDepth 20000 in
theorem jwsL_law0_r23 : ∀ w ∈ wsL_law0_r23, w ∈ lw_tbl := jlw (ps := [810, 811, 681, 812, 682, 714, 715, 716, 717, 637, 638, 639, 640, 641, 642, 643, 813, 814, 815, 816, 644, 645, 646, 647]) (by decide +kernel)
set_option maxRecDepth 20000 in
theorem jwsL_law0_r24 : ∀ w ∈ wsL_law0_r24, w ∈ lw_tbl := jlw (ps := [648, 649, 650, 651, 652, 653, 654, 655, 656, 657, 658, 817, 818, 819, 820, 255, 256, 257, 258, 259, 260, 261, 262, 821]) (by decide +kernel)
set_option maxRecDepth 20000 in
theorem jwsL_law0_r25 : ∀ w ∈ wsL_law0_r25, w ∈ lw_tbl := jlw (ps := [822, 823, 824]) (by decide +kernel)
theorem jwsX50_in : ∀ w ∈ wsX50, w ∈ lw_tbl := by decide +kernel
theorem jwsX60_in : ∀ w ∈ wsX60, w ∈ lw_tbl := by decide +kernel
theorem jwsX40_in : ∀ w ∈ wsX40, w ∈ lw_tbl := by decide +kernel
theorem jwsX00_in : ∀ w ∈ wsX00, w ∈ lw_tbl := by decide +kernel
theorem jwsX10_in : ∀ w ∈ wsX10, w ∈ lw_tbl := by decide +kernel
theorem jwsX20_in : ∀ w ∈ wsX20, w ∈ lw_tbl := by decide +kernel
theorem jwsX30_in : ∀ w ∈ wsX30, w ∈ lw_tbl := by decide +kernel
theorem wsL_law_in0 : ∀ w ∈ wsL_law0, w ∈ lw_tbl := (fun w h => (List.mem_append.mp h).elim ((fun w h => (List.mem_append.mp h).elim ((fun w h => (List.mem_append.mp h).elim ((fun w h => (List.mem_append.mp h).elim ((fun w h => (List.mem_append.mp h).elim ((fun w h => (List.mem_append.mp h).elim ((fun w h => (List.mem_append.mp h).elim ((fun w h => (List.mem_append.mp h).elim ((fun w h => (List.mem_append.mp h).elim (jwsL_law0_r1 w) ((fun w h => (List.mem_append.mp h).elim (jwsL_law0_r2 w) ((fun w h => (List.mem_append.mp h).elim (jwsL_law0_r3 w) ((fun w h => (List.mem_append.mp h).elim (jwsL_law0_r4 w) ((fun w h => (List.mem_append.mp h).elim (jwsL_law0_r5 w) ((fun w h => (List.mem_append.mp h).elim (jwsL_law0_r6 w) ((fun w h => (List.mem_append.mp h).elim (jwsL_law0_r7 w) ((fun w h => (List.mem_append.mp h).elim (jwsL_law0_r8 w) ((fun w h => (List.mem_append.mp h).elim (jwsL_law0_r9 w) ((fun w h => (List.mem_append.mp h).elim (jwsL_law0_r10 w) ((fun w h => (List.mem_append.mp h).elim (jwsL_law0_r11 w) ((fun w h => (List.mem_append.mp h).elim (jwsL_law0_r12 w) ((fun w h => (List.mem_append.mp h).elim (jwsL_law0_r13 w) ((fun w h => (List.mem_append.mp h).elim (jwsL_law0_r14 w) ((fun w h => (List.mem_append.mp h).elim (jwsL_law0_r15 w) ((fun w h => (List.mem_append.mp h).elim (jwsL_law0_r16 w) ((fun w h => (List.mem_append.mp h).elim (jwsL_law0_r17 w) ((fun w h => (List.mem_append.mp h).elim (jwsL_law0_r18 w) ((fun w h => (List.mem_append.mp h).elim (jwsL_law0_r19 w) ((fun w h => (List.mem_append.mp h).elim (jwsL_law0_r20 w) ((fun w h => (List.mem_append.mp h).elim (jwsL_law0_r21 w) ((fun w h => (List.mem_append.mp h).elim (jwsL_law0_r22 w) ((fun w h => (List.mem_append.mp h).elim (jwsL_law0_r23 w) ((fun w h => (List.mem_append.mp h).elim (jwsL_law0_r24 w) ((fun w h => jwsL_law0_r25 w h) w)) w)) w)) w)) w)) w)) w)) w)) w)) w)) w)) w)) w)) w)) w)) w)) w)) w)) w)) w)) w)) w)) w)) w)) w) (jwsX50_in w)) w) (jwsX60_in w)) w) (jwsX40_in w)) w) (jwsX00_in w)) w) (jwsX10_in w)) w) (jwsX20_in w)) w) (jwsX30_in w)) w) (fun h => absurd h List.not_mem_nil))
