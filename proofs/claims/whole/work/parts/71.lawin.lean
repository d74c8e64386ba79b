theorem lw_inr {ws : List Cond} (ps : List Nat) (hp : ws = ps.filterMap (fun i => lw_tbl[i]?)) : ∀ w ∈ ws, w ∈ lw_tbl := fun w hw => by
  rw [hp] at hw
  obtain ⟨i, -, hi⟩ := List.mem_filterMap.mp hw
  exact List.mem_of_getElem? hi
theorem lwin_1 : ∀ w ∈ wsL_law0_r1, w ∈ lw_tbl := fun w h => lw_inr [68, 69, 53, 718, 719, 61, 1002, 70, 71, 72, 73, 74, 75, 76, 77, 54, 273, 87, 88, 55, 274, 120, 121, 56] (by decide +kernel) w h
theorem lwin_2 : ∀ w ∈ wsL_law0_r2, w ∈ lw_tbl := fun w h => lw_inr [275, 257, 258, 60, 276, 279, 79, 80, 81, 86, 82, 90, 91, 92, 105, 122, 123, 124, 125, 126, 233, 128, 234, 130] (by decide +kernel) w h
theorem lwin_3 : ∀ w ∈ wsL_law0_r3, w ∈ lw_tbl := fun w h => lw_inr [235, 232, 132, 57, 189, 59, 134, 135, 136, 137, 138, 58, 159, 140, 141, 142, 191, 192, 193, 194, 196, 199, 200, 201] (by decide +kernel) w h
theorem lwin_4 : ∀ w ∈ wsL_law0_r4, w ∈ lw_tbl := fun w h => lw_inr [202, 259, 260, 261, 262, 263, 264, 265, 720, 721, 722, 723, 725, 735, 740, 830, 741, 742, 743, 744, 745, 746, 747, 748] (by decide +kernel) w h
theorem lwin_5 : ∀ w ∈ wsL_law0_r5, w ∈ lw_tbl := fun w h => lw_inr [749, 750, 751, 752, 753, 754, 755, 756, 757, 758, 345, 346, 52, 347, 348, 349, 350, 351, 352, 353, 65, 277, 421, 423] (by decide +kernel) w h
theorem lwin_6 : ∀ w ∈ wsL_law0_r6, w ∈ lw_tbl := fun w h => lw_inr [1, 424, 278, 425, 426, 427, 428, 429, 333, 334, 335, 430, 431, 432, 433, 206, 204, 434, 436, 2, 437, 208, 207, 438] (by decide +kernel) w h
theorem lwin_7 : ∀ w ∈ wsL_law0_r7, w ∈ lw_tbl := fun w h => lw_inr [440, 3, 441, 210, 442, 443, 444, 445, 146, 149, 446, 447, 448, 449, 450, 324, 325, 326, 451, 452, 453, 454, 166, 163] (by decide +kernel) w h
theorem lwin_8 : ∀ w ∈ wsL_law0_r8, w ∈ lw_tbl := fun w h => lw_inr [164, 462, 169, 167, 467, 455, 456, 457, 458, 459, 460, 304, 305, 306, 461, 463, 465, 4, 466, 161, 468, 469, 470, 471] (by decide +kernel) w h
theorem lwin_9 : ∀ w ∈ wsL_law0_r9, w ∈ lw_tbl := fun w h => lw_inr [472, 473, 474, 475, 476, 320, 321, 322, 303, 477, 478, 479, 480, 481, 482, 484, 5, 485, 486, 487, 488, 489, 490, 104] (by decide +kernel) w h
theorem lwin_10 : ∀ w ∈ wsL_law0_r10, w ∈ lw_tbl := fun w h => lw_inr [491, 493, 6, 494, 495, 496, 497, 498, 499, 501, 7, 502, 503, 505, 8, 506, 507, 508, 510, 9, 511, 512, 513, 514] (by decide +kernel) w h
theorem lwin_11 : ∀ w ∈ wsL_law0_r11, w ∈ lw_tbl := fun w h => lw_inr [515, 93, 516, 518, 10, 519, 520, 522, 11, 523, 524, 525, 526, 527, 528, 529, 530, 532, 12, 533, 534, 536, 13, 537] (by decide +kernel) w h
theorem lwin_12 : ∀ w ∈ wsL_law0_r12, w ∈ lw_tbl := fun w h => lw_inr [538, 540, 14, 541, 542, 544, 15, 545, 546, 548, 16, 549, 550, 551, 552, 553, 237, 308, 309, 555, 556, 557, 558, 559] (by decide +kernel) w h
theorem lwin_13 : ∀ w ∈ wsL_law0_r13, w ∈ lw_tbl := fun w h => lw_inr [560, 561, 562, 563, 239, 564, 565, 566, 567, 241, 568, 569, 570, 571, 170, 572, 573, 574, 575, 576, 578, 17, 579, 580] (by decide +kernel) w h
theorem lwin_14 : ∀ w ∈ wsL_law0_r14, w ∈ lw_tbl := fun w h => lw_inr [582, 18, 583, 584, 585, 586, 587, 588, 589, 590, 591, 592, 593, 594, 595, 596, 598, 19, 599, 600, 602, 20, 603, 604] (by decide +kernel) w h
theorem lwin_15 : ∀ w ∈ wsL_law0_r15, w ∈ lw_tbl := fun w h => lw_inr [606, 21, 607, 608, 610, 22, 611, 616, 617, 612, 614, 23, 615, 618, 620, 24, 621, 622, 624, 25, 625, 626, 627, 628] (by decide +kernel) w h
theorem lwin_16 : ∀ w ∈ wsL_law0_r16, w ∈ lw_tbl := fun w h => lw_inr [629, 630, 631, 633, 835, 836, 837, 838, 724, 734, 839, 841, 26, 842, 738, 731, 732, 733, 739, 728, 843, 845, 27, 846] (by decide +kernel) w h
theorem lwin_17 : ∀ w ∈ wsL_law0_r17, w ∈ lw_tbl := fun w h => lw_inr [847, 849, 28, 850, 862, 851, 853, 29, 854, 726, 727, 855, 857, 30, 858, 859, 860, 861, 863, 865, 31, 866, 867, 869] (by decide +kernel) w h
theorem lwin_18 : ∀ w ∈ wsL_law0_r18, w ∈ lw_tbl := fun w h => lw_inr [32, 870, 871, 873, 33, 874, 875, 876, 878, 34, 879, 880, 882, 35, 883, 884, 886, 36, 887, 730, 729, 888, 889, 890] (by decide +kernel) w h
theorem lwin_19 : ∀ w ∈ wsL_law0_r19, w ∈ lw_tbl := fun w h => lw_inr [891, 892, 894, 37, 895, 896, 897, 898, 899, 901, 38, 902, 903, 905, 39, 906, 907, 909, 40, 910, 911, 913, 41, 914] (by decide +kernel) w h
theorem lwin_20 : ∀ w ∈ wsL_law0_r20, w ∈ lw_tbl := fun w h => lw_inr [915, 917, 42, 918, 919, 921, 43, 922, 737, 923, 925, 44, 926, 736, 927, 929, 45, 930, 931, 933, 46, 934, 935, 936] (by decide +kernel) w h
theorem lwin_21 : ∀ w ∈ wsL_law0_r21, w ∈ lw_tbl := fun w h => lw_inr [937, 938, 939, 941, 47, 942, 951, 952, 943, 945, 48, 946, 947, 949, 49, 950, 953, 955, 50, 956, 957, 831, 832, 833] (by decide +kernel) w h
theorem lwin_22 : ∀ w ∈ wsL_law0_r22, w ∈ lw_tbl := fun w h => lw_inr [834, 295, 296, 297, 298, 958, 959, 960, 961, 634, 635, 636, 637, 638, 639, 640, 641, 642, 66, 962, 963, 964, 965, 966] (by decide +kernel) w h
theorem lwin_23 : ∀ w ∈ wsL_law0_r23, w ∈ lw_tbl := fun w h => lw_inr [968, 51, 969, 658, 659, 660, 661, 662, 663, 664, 665, 970, 971, 972, 973, 299, 300, 301, 302, 307, 974, 975, 976, 977] (by decide +kernel) w h
theorem lwin_24 : ∀ w ∈ wsL_law0_r24, w ∈ lw_tbl := fun w h => lw_inr [310, 311, 312, 313, 314, 978, 979, 980, 981, 666, 667, 668, 669, 670, 671, 672, 332, 675, 676, 677, 678, 982, 983, 984] (by decide +kernel) w h
theorem lwin_25 : ∀ w ∈ wsL_law0_r25, w ∈ lw_tbl := fun w h => lw_inr [985, 679, 680, 681, 682, 683, 684, 685, 686, 687, 67, 703, 704, 705, 706, 986, 987, 988, 989, 707, 708, 709, 710, 711] (by decide +kernel) w h
theorem lwin_26 : ∀ w ∈ wsL_law0_r26, w ∈ lw_tbl := fun w h => lw_inr [712, 713, 714, 715, 716, 717, 990, 991, 992, 993, 315, 316, 317, 318, 319, 323, 327, 328, 329, 330, 336, 337, 338, 339] (by decide +kernel) w h
theorem lwin_27 : ∀ w ∈ wsL_law0_r27, w ∈ lw_tbl := fun w h => lw_inr [994, 995, 996, 997, 341, 342, 343, 344, 998, 999, 1000, 1001] (by decide +kernel) w h
theorem lwin_wsX70 : ∀ w ∈ wsX70, w ∈ lw_tbl := by decide +kernel
theorem lwin_wsX80 : ∀ w ∈ wsX80, w ∈ lw_tbl := by decide +kernel
theorem lwin_wsX40 : ∀ w ∈ wsX40, w ∈ lw_tbl := by decide +kernel
theorem lwin_wsX60 : ∀ w ∈ wsX60, w ∈ lw_tbl := by decide +kernel
theorem lwin_wsX00 : ∀ w ∈ wsX00, w ∈ lw_tbl := by decide +kernel
theorem lwin_wsX50 : ∀ w ∈ wsX50, w ∈ lw_tbl := by decide +kernel
theorem lwin_wsX10 : ∀ w ∈ wsX10, w ∈ lw_tbl := by decide +kernel
theorem lwin_wsX20 : ∀ w ∈ wsX20, w ∈ lw_tbl := by decide +kernel
theorem lwin_wsX30 : ∀ w ∈ wsX30, w ∈ lw_tbl := by decide +kernel
theorem lw_ap {a b : List Cond} (ha : ∀ w ∈ a, w ∈ lw_tbl) (hb : ∀ w ∈ b, w ∈ lw_tbl) : ∀ w ∈ a ++ b, w ∈ lw_tbl := fun w h => (List.mem_append.mp h).elim (ha w) (hb w)
theorem wsL_law_in0 : ∀ w ∈ wsL_law0, w ∈ lw_tbl := by
  unfold wsL_law0
  exact lw_ap (lw_ap (lw_ap (lw_ap (lw_ap (lw_ap (lw_ap (lw_ap (lw_ap (lw_ap (lw_ap lwin_1 (lw_ap lwin_2 (lw_ap lwin_3 (lw_ap lwin_4 (lw_ap lwin_5 (lw_ap lwin_6 (lw_ap lwin_7 (lw_ap lwin_8 (lw_ap lwin_9 (lw_ap lwin_10 (lw_ap lwin_11 (lw_ap lwin_12 (lw_ap lwin_13 (lw_ap lwin_14 (lw_ap lwin_15 (lw_ap lwin_16 (lw_ap lwin_17 (lw_ap lwin_18 (lw_ap lwin_19 (lw_ap lwin_20 (lw_ap lwin_21 (lw_ap lwin_22 (lw_ap lwin_23 (lw_ap lwin_24 (lw_ap lwin_25 (lw_ap lwin_26 lwin_27)))))))))))))))))))))))))) lwin_wsX70) lwin_wsX80) lwin_wsX40) lwin_wsX60) lwin_wsX00) lwin_wsX50) lwin_wsX10) lwin_wsX20) lwin_wsX30) (fun w h => absurd h List.not_mem_nil)
