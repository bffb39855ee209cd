/-! the words of the law stand in the tables, by their places -/
theorem zmem_p {big : List Cond} (ws : List Cond) (ps : List Nat) (h : ws = ps.filterMap (fun i => big[i]?)) : ∀ w ∈ ws, w ∈ big := by
  intro w hw
  rw [h] at hw
  obtain ⟨i, -, hi⟩ := List.mem_filterMap.mp hw
  exact List.mem_of_getElem? hi
theorem zmem_a {big a b : List Cond} (h1 : ∀ w ∈ a, w ∈ big) (h2 : ∀ w ∈ b, w ∈ big) : ∀ w ∈ a ++ b, w ∈ big := fun w h => (List.mem_append.mp h).elim (h1 w) (h2 w)
set_option maxRecDepth 20000 in
theorem zin_r1 : ∀ w ∈ wsL_law0_r1, w ∈ lw_tbl := zmem_p _ [46, 47, 32, 791, 792, 38, 1098, 1097, 48, 49, 50, 51, 52, 53, 54, 55, 33, 143, 78, 79, 34, 144, 145, 124] (by decide +kernel)
set_option maxRecDepth 20000 in
theorem zin_r2 : ∀ w ∈ wsL_law0_r2, w ∈ lw_tbl := zmem_p _ [125, 37, 146, 147, 162, 148, 57, 58, 59, 76, 60, 77, 61, 80, 81, 82, 83, 96, 97, 98, 99, 84, 85, 86] (by decide +kernel)
set_option maxRecDepth 20000 in
theorem zin_r3 : ∀ w ∈ wsL_law0_r3, w ∈ lw_tbl := zmem_p _ [87, 93, 95, 94, 36, 100, 101, 102, 103, 104, 88, 89, 35, 90, 126, 127, 128, 129, 130, 133, 132, 793, 794, 795] (by decide +kernel)
set_option maxRecDepth 20000 in
theorem zin_r4 : ∀ w ∈ wsL_law0_r4, w ∈ lw_tbl := zmem_p _ [796, 801, 803, 804, 805, 807, 808, 797, 798, 799, 268, 269, 31, 270, 271, 272, 273, 274, 275, 276, 277, 42, 349, 43] (by decide +kernel)
set_option maxRecDepth 20000 in
theorem zin_r5 : ∀ w ∈ wsL_law0_r5, w ∈ lw_tbl := zmem_p _ [345, 346, 347, 348, 62, 365, 366, 367, 368, 844, 845, 846, 847, 848, 802, 849, 850, 851, 852, 854, 19, 855, 800, 840] (by decide +kernel)
set_option maxRecDepth 20000 in
theorem zin_r6 : ∀ w ∈ wsL_law0_r6, w ∈ lw_tbl := zmem_p _ [841, 842, 843, 163, 164, 165, 166, 167, 168, 169, 170, 856, 857, 858, 859, 171, 172, 173, 174, 175, 176, 177, 178, 63] (by decide +kernel)
set_option maxRecDepth 20000 in
theorem zin_r7 : ∀ w ∈ wsL_law0_r7, w ∈ lw_tbl := zmem_p _ [179, 180, 181, 182, 64, 183, 185, 0, 186, 187, 189, 1, 190, 860, 861, 862, 863, 864, 866, 20, 867, 812, 811, 868] (by decide +kernel)
set_option maxRecDepth 20000 in
theorem zin_r8 : ∀ w ∈ wsL_law0_r8, w ∈ lw_tbl := zmem_p _ [870, 21, 871, 872, 874, 22, 875, 876, 877, 878, 879, 883, 880, 881, 882, 884, 885, 886, 887, 888, 889, 890, 891, 892] (by decide +kernel)
set_option maxRecDepth 20000 in
theorem zin_r9 : ∀ w ∈ wsL_law0_r9, w ∈ lw_tbl := zmem_p _ [893, 894, 895, 896, 897, 898, 899, 900, 901, 902, 903, 904, 905, 906, 907, 908, 910, 23, 911, 912, 914, 24, 915, 916] (by decide +kernel)
set_option maxRecDepth 20000 in
theorem zin_r10 : ∀ w ∈ wsL_law0_r10, w ∈ lw_tbl := zmem_p _ [918, 25, 919, 920, 921, 922, 923, 924, 925, 926, 927, 928, 929, 930, 931, 932, 933, 934, 935, 936, 937, 938, 939, 940] (by decide +kernel)
set_option maxRecDepth 20000 in
theorem zin_r11 : ∀ w ∈ wsL_law0_r11, w ∈ lw_tbl := zmem_p _ [941, 943, 26, 944, 809, 810, 945, 946, 947, 948, 949, 950, 951, 952, 953, 954, 955, 956, 957, 958, 959, 960, 369, 370] (by decide +kernel)
set_option maxRecDepth 20000 in
theorem zin_r12 : ∀ w ∈ wsL_law0_r12, w ∈ lw_tbl := zmem_p _ [371, 372, 373, 374, 375, 377, 378, 379, 380, 381, 135, 382, 383, 384, 385, 386, 387, 389, 12, 390, 391, 392, 393, 394] (by decide +kernel)
set_option maxRecDepth 20000 in
theorem zin_r13 : ∀ w ∈ wsL_law0_r13, w ∈ lw_tbl := zmem_p _ [395, 396, 397, 398, 399, 400, 401, 402, 403, 404, 405, 406, 407, 408, 409, 410, 411, 412, 413, 414, 239, 241, 7, 242] (by decide +kernel)
set_option maxRecDepth 20000 in
theorem zin_r14 : ∀ w ∈ wsL_law0_r14, w ∈ lw_tbl := zmem_p _ [243, 245, 8, 246, 247, 249, 9, 250, 415, 416, 417, 418, 419, 420, 421, 422, 424, 13, 425, 426, 427, 428, 429, 430] (by decide +kernel)
set_option maxRecDepth 20000 in
theorem zin_r15 : ∀ w ∈ wsL_law0_r15, w ∈ lw_tbl := zmem_p _ [431, 432, 433, 434, 436, 14, 437, 211, 213, 3, 214, 215, 216, 217, 218, 219, 221, 4, 222, 223, 224, 225, 226, 227] (by decide +kernel)
set_option maxRecDepth 20000 in
theorem zin_r16 : ∀ w ∈ wsL_law0_r16, w ∈ lw_tbl := zmem_p _ [228, 229, 230, 438, 440, 15, 441, 442, 443, 44, 444, 231, 233, 5, 234, 235, 237, 6, 238, 445, 446, 447, 448, 449] (by decide +kernel)
set_option maxRecDepth 20000 in
theorem zin_r17 : ∀ w ∈ wsL_law0_r17, w ∈ lw_tbl := zmem_p _ [450, 451, 452, 453, 454, 455, 456, 457, 458, 459, 460, 464, 461, 462, 463, 466, 467, 468, 469, 961, 962, 963, 964, 806] (by decide +kernel)
set_option maxRecDepth 20000 in
theorem zin_r18 : ∀ w ∈ wsL_law0_r18, w ∈ lw_tbl := zmem_p _ [965, 966, 967, 470, 471, 472, 473, 474, 475, 476, 477, 478, 479, 480, 481, 482, 483, 484, 255, 256, 257, 258, 485, 486] (by decide +kernel)
set_option maxRecDepth 20000 in
theorem zin_r19 : ∀ w ∈ wsL_law0_r19, w ∈ lw_tbl := zmem_p _ [487, 488, 489, 490, 491, 492, 493, 494, 495, 496, 497, 498, 499, 500, 501, 502, 503, 504, 505, 506, 507, 508, 968, 969] (by decide +kernel)
set_option maxRecDepth 20000 in
theorem zin_r20 : ∀ w ∈ wsL_law0_r20, w ∈ lw_tbl := zmem_p _ [970, 971, 972, 973, 974, 975, 976, 977, 978, 979, 980, 981, 510, 511, 512, 513, 514, 515, 516, 517, 518, 519, 520, 521] (by decide +kernel)
set_option maxRecDepth 20000 in
theorem zin_r21 : ∀ w ∈ wsL_law0_r21, w ∈ lw_tbl := zmem_p _ [45, 537, 538, 539, 540, 541, 542, 543, 544, 545, 546, 547, 548, 549, 982, 983, 984, 985, 986, 551, 552, 553, 554, 555] (by decide +kernel)
set_option maxRecDepth 20000 in
theorem zin_r22 : ∀ w ∈ wsL_law0_r22, w ∈ lw_tbl := zmem_p _ [556, 557, 559, 560, 561, 562, 563, 564, 565, 566, 567, 568, 569, 570, 571, 572, 573, 574, 263, 265, 10, 266, 259, 260] (by decide +kernel)
set_option maxRecDepth 20000 in
theorem zin_r23 : ∀ w ∈ wsL_law0_r23, w ∈ lw_tbl := zmem_p _ [261, 262, 575, 987, 988, 989, 990, 991, 992, 993, 577, 578, 579, 580, 581, 582, 583, 584, 585, 586, 589, 590, 591, 592] (by decide +kernel)
set_option maxRecDepth 20000 in
theorem zin_r24 : ∀ w ∈ wsL_law0_r24, w ∈ lw_tbl := zmem_p _ [593, 594, 595, 596, 597, 598, 599, 600, 994, 995, 996, 997, 998, 601, 602, 603, 604, 605, 606, 607, 609, 610, 611, 612] (by decide +kernel)
set_option maxRecDepth 20000 in
theorem zin_r25 : ∀ w ∈ wsL_law0_r25, w ∈ lw_tbl := zmem_p _ [999, 1000, 1001, 1002, 613, 614, 615, 616, 617, 618, 619, 620, 621, 622, 195, 196, 197, 198, 134, 199, 201, 2, 202, 203] (by decide +kernel)
set_option maxRecDepth 20000 in
theorem zin_r26 : ∀ w ∈ wsL_law0_r26, w ∈ lw_tbl := zmem_p _ [204, 205, 206, 1003, 1004, 1005, 1006, 1007, 1009, 27, 1010, 625, 626, 627, 628, 629, 630, 631, 1011, 1012, 1013, 1014, 632, 633] (by decide +kernel)
set_option maxRecDepth 20000 in
theorem zin_r27 : ∀ w ∈ wsL_law0_r27, w ∈ lw_tbl := zmem_p _ [634, 635, 636, 637, 638, 1015, 1016, 1017, 1018, 639, 640, 641, 642, 643, 644, 645, 1019, 1020, 1021, 1022, 647, 648, 649, 650] (by decide +kernel)
set_option maxRecDepth 20000 in
theorem zin_r28 : ∀ w ∈ wsL_law0_r28, w ∈ lw_tbl := zmem_p _ [651, 652, 653, 654, 655, 656, 657, 658, 659, 1023, 1024, 1025, 1026, 1027, 191, 192, 193, 194, 207, 208, 209, 210, 1028, 1029] (by decide +kernel)
set_option maxRecDepth 20000 in
theorem zin_r29 : ∀ w ∈ wsL_law0_r29, w ∈ lw_tbl := zmem_p _ [1030, 1031, 1032, 1034, 28, 1035, 661, 662, 663, 664, 665, 666, 667, 1036, 1037, 1038, 1039, 669, 670, 671, 672, 673, 674, 675] (by decide +kernel)
set_option maxRecDepth 20000 in
theorem zin_r30 : ∀ w ∈ wsL_law0_r30, w ∈ lw_tbl := zmem_p _ [676, 677, 678, 679, 681, 682, 683, 684, 1040, 1041, 1042, 1043, 685, 686, 687, 688, 689, 690, 691, 693, 694, 695, 696, 697] (by decide +kernel)
set_option maxRecDepth 20000 in
theorem zin_r31 : ∀ w ∈ wsL_law0_r31, w ∈ lw_tbl := zmem_p _ [698, 700, 16, 701, 267, 702, 703, 704, 705, 706, 1044, 1045, 1046, 1047, 707, 708, 709, 710, 711, 712, 713, 714, 715, 716] (by decide +kernel)
set_option maxRecDepth 20000 in
theorem zin_r32 : ∀ w ∈ wsL_law0_r32, w ∈ lw_tbl := zmem_p _ [717, 1048, 1049, 1050, 1051, 718, 719, 720, 721, 722, 723, 724, 1052, 1053, 1054, 1055, 1056, 726, 727, 728, 729, 730, 731, 732] (by decide +kernel)
set_option maxRecDepth 20000 in
theorem zin_r33 : ∀ w ∈ wsL_law0_r33, w ∈ lw_tbl := zmem_p _ [1057, 1058, 1059, 1060, 733, 734, 735, 736, 737, 738, 739, 1061, 1062, 1063, 1064, 251, 252, 253, 254, 1065, 1066, 1067, 1068, 740] (by decide +kernel)
set_option maxRecDepth 20000 in
theorem zin_r34 : ∀ w ∈ wsL_law0_r34, w ∈ lw_tbl := zmem_p _ [741, 742, 743, 744, 745, 746, 751, 748, 749, 750, 753, 755, 17, 756, 757, 1069, 1070, 1071, 1072, 1073, 1074, 1075, 1077, 29] (by decide +kernel)
set_option maxRecDepth 20000 in
theorem zin_r35 : ∀ w ∈ wsL_law0_r35, w ∈ lw_tbl := zmem_p _ [1078, 758, 759, 760, 761, 762, 763, 764, 766, 767, 768, 770, 18, 771, 1079, 1080, 1081, 1082, 1083, 1084, 1085, 1087, 30, 1088] (by decide +kernel)
set_option maxRecDepth 20000 in
theorem zin_r36 : ∀ w ∈ wsL_law0_r36, w ∈ lw_tbl := zmem_p _ [772, 773, 774, 775, 776, 777, 778, 779, 780, 781, 1089, 1090, 1091, 1092, 783, 784, 785, 786, 787, 788, 789, 1093, 1094, 1095] (by decide +kernel)
set_option maxRecDepth 20000 in
theorem zin_r37 : ∀ w ∈ wsL_law0_r37, w ∈ lw_tbl := zmem_p _ [1096] (by decide +kernel)
theorem zin_X0 : ∀ w ∈ wsX00, w ∈ lw_tbl := by decide +kernel
theorem zin_X1 : ∀ w ∈ wsX10, w ∈ lw_tbl := by decide +kernel
theorem zin_X2 : ∀ w ∈ wsX20, w ∈ lw_tbl := by decide +kernel
theorem zin_X3 : ∀ w ∈ wsX30, w ∈ lw_tbl := by decide +kernel
theorem zin_X4 : ∀ w ∈ wsX40, w ∈ lw_tbl := by decide +kernel
theorem zin_x0 : ∀ w ∈ (vx_atS RX3 45 "java/lang/IllegalArgumentException" ["java/lang/RuntimeException", "java/lang/Exception"]).filter goodWord, w ∈ lw_tbl := by decide +kernel
theorem zin_x1 : ∀ w ∈ (vx_atS RX3 56 "java/lang/IllegalStateException" ["java/lang/RuntimeException", "java/lang/Exception"]).filter goodWord, w ∈ lw_tbl := by decide +kernel
theorem zin_x2 : ∀ w ∈ (vx_atS RX3 162 "java/lang/IndexOutOfBoundsException" ["java/lang/RuntimeException", "java/lang/Exception"]).filter goodWord, w ∈ lw_tbl := by decide +kernel
theorem zin_rs : ∀ w ∈ wsL_law0, w ∈ lw_tbl := by
  unfold wsL_law0
  exact zmem_a (zmem_a (zmem_a (zmem_a (zmem_a (zmem_a (zmem_a zin_r1 (zmem_a zin_r2 (zmem_a zin_r3 (zmem_a zin_r4 (zmem_a zin_r5 (zmem_a zin_r6 (zmem_a zin_r7 (zmem_a zin_r8 (zmem_a zin_r9 (zmem_a zin_r10 (zmem_a zin_r11 (zmem_a zin_r12 (zmem_a zin_r13 (zmem_a zin_r14 (zmem_a zin_r15 (zmem_a zin_r16 (zmem_a zin_r17 (zmem_a zin_r18 (zmem_a zin_r19 (zmem_a zin_r20 (zmem_a zin_r21 (zmem_a zin_r22 (zmem_a zin_r23 (zmem_a zin_r24 (zmem_a zin_r25 (zmem_a zin_r26 (zmem_a zin_r27 (zmem_a zin_r28 (zmem_a zin_r29 (zmem_a zin_r30 (zmem_a zin_r31 (zmem_a zin_r32 (zmem_a zin_r33 (zmem_a zin_r34 (zmem_a zin_r35 (zmem_a zin_r36 (zin_r37))))))))))))))))))))))))))))))))))))) zin_X3) zin_X4) zin_X2) zin_X0) zin_X1) (fun _ h => absurd h List.not_mem_nil)
theorem zin_law : ∀ w ∈ wsL_law, w ∈ lw_tbl := by
  unfold wsL_law
  exact zmem_a (zmem_a (zmem_a zin_rs zin_x0) zin_x1) zin_x2
