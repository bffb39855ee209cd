/-! the words of the law stand in the tables, by their places -/
theorem zmem_p {big : List Cond} (ws : List Cond) (ps : List Nat) (h : ws = ps.filterMap (fun i => big[i]?)) : ∀ w ∈ ws, w ∈ big := by
  intro w hw
  rw [h] at hw
  obtain ⟨i, -, hi⟩ := List.mem_filterMap.mp hw
  exact List.mem_of_getElem? hi
theorem zmem_a {big a b : List Cond} (h1 : ∀ w ∈ a, w ∈ big) (h2 : ∀ w ∈ b, w ∈ big) : ∀ w ∈ a ++ b, w ∈ big := fun w h => (List.mem_append.mp h).elim (h1 w) (h2 w)
set_option maxRecDepth 20000 in
theorem zin_r1 : ∀ w ∈ wsL_law0_r1, w ∈ lw_tbl := zmem_p _ [33, 34, 20, 793, 35, 36, 37, 38, 39, 40, 41, 42, 21, 130, 65, 66, 22, 131, 132, 111, 112, 25, 133, 134] (by decide +kernel)
set_option maxRecDepth 20000 in
theorem zin_r2 : ∀ w ∈ wsL_law0_r2, w ∈ lw_tbl := zmem_p _ [149, 135, 44, 45, 46, 63, 47, 64, 48, 67, 68, 69, 70, 83, 84, 85, 86, 71, 72, 73, 74, 80, 82, 81] (by decide +kernel)
set_option maxRecDepth 20000 in
theorem zin_r3 : ∀ w ∈ wsL_law0_r3, w ∈ lw_tbl := zmem_p _ [24, 87, 88, 89, 90, 91, 75, 76, 23, 77, 113, 114, 115, 116, 117, 120, 119, 728, 729, 19, 730, 731, 732, 150] (by decide +kernel)
set_option maxRecDepth 20000 in
theorem zin_r4 : ∀ w ∈ wsL_law0_r4, w ∈ lw_tbl := zmem_p _ [151, 152, 153, 154, 155, 156, 157, 254, 255, 158, 159, 160, 161, 162, 29, 234, 30, 230, 231, 232, 233, 49, 250, 251] (by decide +kernel)
set_option maxRecDepth 20000 in
theorem zin_r5 : ∀ w ∈ wsL_law0_r5, w ∈ lw_tbl := zmem_p _ [252, 253, 256, 257, 258, 259, 260, 261, 262, 263, 264, 265, 266, 50, 267, 268, 269, 270, 51, 271, 273, 1, 274, 275] (by decide +kernel)
set_option maxRecDepth 20000 in
theorem zin_r6 : ∀ w ∈ wsL_law0_r6, w ∈ lw_tbl := zmem_p _ [277, 2, 278, 280, 281, 282, 283, 284, 122, 285, 286, 287, 288, 289, 290, 292, 3, 293, 294, 295, 296, 297, 298, 299] (by decide +kernel)
set_option maxRecDepth 20000 in
theorem zin_r7 : ∀ w ∈ wsL_law0_r7, w ∈ lw_tbl := zmem_p _ [300, 301, 302, 303, 304, 305, 306, 307, 308, 309, 310, 311, 312, 313, 314, 315, 316, 317, 318, 320, 4, 321, 322, 324] (by decide +kernel)
set_option maxRecDepth 20000 in
theorem zin_r8 : ∀ w ∈ wsL_law0_r8, w ∈ lw_tbl := zmem_p _ [5, 325, 326, 328, 6, 329, 330, 331, 332, 333, 334, 335, 336, 337, 339, 7, 340, 341, 342, 343, 344, 345, 346, 347] (by decide +kernel)
set_option maxRecDepth 20000 in
theorem zin_r9 : ∀ w ∈ wsL_law0_r9, w ∈ lw_tbl := zmem_p _ [348, 349, 351, 8, 352, 353, 355, 9, 356, 357, 358, 359, 360, 361, 363, 10, 364, 365, 366, 367, 368, 369, 370, 371] (by decide +kernel)
set_option maxRecDepth 20000 in
theorem zin_r10 : ∀ w ∈ wsL_law0_r10, w ∈ lw_tbl := zmem_p _ [372, 373, 375, 11, 376, 377, 378, 31, 379, 380, 382, 12, 383, 384, 386, 13, 387, 388, 389, 390, 391, 392, 393, 394] (by decide +kernel)
set_option maxRecDepth 20000 in
theorem zin_r11 : ∀ w ∈ wsL_law0_r11, w ∈ lw_tbl := zmem_p _ [395, 396, 397, 398, 399, 400, 401, 402, 403, 407, 404, 405, 406, 409, 410, 411, 412, 413, 414, 415, 416, 417, 418, 419] (by decide +kernel)
set_option maxRecDepth 20000 in
theorem zin_r12 : ∀ w ∈ wsL_law0_r12, w ∈ lw_tbl := zmem_p _ [420, 421, 422, 423, 424, 425, 426, 427, 428, 429, 430, 431, 432, 433, 434, 435, 436, 437, 438, 439, 440, 441, 442, 443] (by decide +kernel)
set_option maxRecDepth 20000 in
theorem zin_r13 : ∀ w ∈ wsL_law0_r13, w ∈ lw_tbl := zmem_p _ [444, 445, 446, 447, 448, 449, 450, 451, 452, 453, 454, 455, 457, 458, 459, 460, 498, 461, 462, 463, 464, 465, 466, 467] (by decide +kernel)
set_option maxRecDepth 20000 in
theorem zin_r14 : ∀ w ∈ wsL_law0_r14, w ∈ lw_tbl := zmem_p _ [468, 32, 484, 485, 486, 487, 488, 489, 490, 491, 492, 493, 494, 495, 496, 499, 500, 501, 502, 503, 504, 505, 507, 508] (by decide +kernel)
set_option maxRecDepth 20000 in
theorem zin_r15 : ∀ w ∈ wsL_law0_r15, w ∈ lw_tbl := zmem_p _ [509, 510, 511, 512, 513, 514, 515, 516, 517, 518, 519, 520, 521, 522, 523, 525, 14, 526, 527, 528, 529, 530, 531, 533] (by decide +kernel)
set_option maxRecDepth 20000 in
theorem zin_r16 : ∀ w ∈ wsL_law0_r16, w ∈ lw_tbl := zmem_p _ [534, 535, 536, 537, 538, 539, 540, 541, 542, 545, 546, 547, 548, 549, 550, 551, 552, 553, 554, 555, 556, 557, 558, 559] (by decide +kernel)
set_option maxRecDepth 20000 in
theorem zin_r17 : ∀ w ∈ wsL_law0_r17, w ∈ lw_tbl := zmem_p _ [560, 561, 562, 563, 565, 566, 567, 568, 569, 570, 571, 572, 573, 574, 575, 576, 577, 578, 581, 582, 583, 584, 121, 585] (by decide +kernel)
set_option maxRecDepth 20000 in
theorem zin_r18 : ∀ w ∈ wsL_law0_r18, w ∈ lw_tbl := zmem_p _ [587, 15, 588, 589, 590, 591, 592, 593, 594, 595, 596, 597, 598, 599, 600, 601, 602, 603, 604, 605, 606, 607, 608, 609] (by decide +kernel)
set_option maxRecDepth 20000 in
theorem zin_r19 : ∀ w ∈ wsL_law0_r19, w ∈ lw_tbl := zmem_p _ [610, 611, 612, 613, 615, 616, 617, 618, 619, 620, 621, 622, 623, 624, 625, 626, 627, 629, 630, 631, 632, 633, 634, 635] (by decide +kernel)
set_option maxRecDepth 20000 in
theorem zin_r20 : ∀ w ∈ wsL_law0_r20, w ∈ lw_tbl := zmem_p _ [637, 638, 639, 640, 641, 642, 643, 644, 645, 646, 647, 649, 650, 651, 652, 653, 654, 655, 656, 657, 658, 659, 661, 662] (by decide +kernel)
set_option maxRecDepth 20000 in
theorem zin_r21 : ∀ w ∈ wsL_law0_r21, w ∈ lw_tbl := zmem_p _ [663, 664, 665, 666, 668, 16, 669, 670, 671, 672, 673, 674, 675, 676, 677, 678, 679, 680, 681, 682, 683, 684, 685, 686] (by decide +kernel)
set_option maxRecDepth 20000 in
theorem zin_r22 : ∀ w ∈ wsL_law0_r22, w ∈ lw_tbl := zmem_p _ [687, 688, 689, 690, 691, 692, 693, 695, 696, 697, 698, 699, 700, 701, 702, 703, 704, 705, 706, 707, 708, 709, 710, 711] (by decide +kernel)
set_option maxRecDepth 20000 in
theorem zin_r23 : ∀ w ∈ wsL_law0_r23, w ∈ lw_tbl := zmem_p _ [712, 713, 714, 715, 716, 717, 718, 720, 721, 722, 723, 724, 725, 726, 783, 784, 785, 786, 787, 788, 789, 757, 758, 759] (by decide +kernel)
set_option maxRecDepth 20000 in
theorem zin_refuses : Cond.code yL_refuses cL_refuses 5 (some .boolean) ∈ lw_tbl := by
  unfold lw_tbl
  refine List.mem_append_right _ ?_
  unfold tables_1
  refine List.mem_append_right _ (List.mem_append_right _ (List.mem_append_left _ ?_))
  unfold tables_1_3
  exact List.mem_of_getElem? (i := 239) rfl
set_option maxRecDepth 20000 in
theorem zin_r24 : ∀ w ∈ wsL_law0_r24, w ∈ lw_tbl := by
  have e : wsL_law0_r24 = [Cond.code yX0_sendAll cX0_sendAll 4 (some .int), Cond.methodLink RL 193 yL_refuses, Cond.static yL_refuses] ++ ([Cond.code yL_refuses cL_refuses 5 (some .boolean)] ++ [Cond.constantLong RL 172 (1000000), Cond.methodLink RL 168 yL_tryScript, Cond.static yL_tryScript, Cond.codeWith yL_tryScript cL_tryScript 5 (some .int) [(0, 6, 7, 13)], Cond.methodLink RL 7 yX3_runScript, Cond.instanceMethod yX3_runScript, Cond.selects RX3 yX3_runScript yX3_runScript, Cond.code yX3_runScript cX3_runScript 6 (some .int), Cond.constantLong RX3 285 (1000000), Cond.methodLink RX3 279 yX3_groupsFrom, Cond.static yX3_groupsFrom, Cond.code yX3_groupsFrom cX3_groupsFrom 6 (some .long), Cond.methodLink RX3 287 yX3_doScriptCommand, Cond.instanceMethod yX3_doScriptCommand, Cond.selects RX3 yX3_doScriptCommand yX3_doScriptCommand, Cond.code yX3_doScriptCommand cX3_doScriptCommand 3 (some .boolean), Cond.constant RX3 290 (100000), Cond.methodLink RL 174 yL_trySimulate, Cond.static yL_trySimulate, Cond.codeWith yL_trySimulate cL_trySimulate 5 (some .int) [(0, 6, 7, 13)]]) := rfl
  rw [e]
  exact zmem_a (zmem_p _ [760, 736, 737] (by decide +kernel)) (zmem_a (fun w h => by obtain rfl := List.mem_singleton.mp h; exact zin_refuses) (zmem_p _ [761, 739, 740, 741, 742, 743, 744, 745, 750, 747, 748, 749, 752, 754, 17, 755, 756, 762, 763, 764] (by decide +kernel)))
set_option maxRecDepth 20000 in
theorem zin_holds : Cond.code yL_holds cL_holds 18 (some .boolean) ∈ lw_tbl := by
  unfold lw_tbl
  refine List.mem_append_right _ ?_
  unfold tables_1
  refine List.mem_append_right _ (List.mem_append_right _ (List.mem_append_right _ ?_))
  unfold tables_1_4
  exact List.mem_of_getElem? (i := 39) rfl
set_option maxRecDepth 20000 in
theorem zin_r25 : ∀ w ∈ wsL_law0_r25, w ∈ lw_tbl := by
  have e : wsL_law0_r25 = [Cond.methodLink RL 16 yX3_simulate, Cond.instanceMethod yX3_simulate, Cond.selects RX3 yX3_simulate yX3_simulate, Cond.code yX3_simulate cX3_simulate 7 (some .int), Cond.constantLong RX3 299 (6364136223846793005), Cond.constantLong RX3 301 (1442695040888963407), Cond.methodLink RX3 303 yX3_takeTurn, Cond.instanceMethod yX3_takeTurn, Cond.selects RX3 yX3_takeTurn yX3_takeTurn, Cond.code yX3_takeTurn cX3_takeTurn 4 none, Cond.methodLink RL 197 yL_alike, Cond.static yL_alike, Cond.code yL_alike cL_alike 5 (some .boolean), Cond.methodLink RL 178 yX3_stuck, Cond.instanceMethod yX3_stuck, Cond.selects RX3 yX3_stuck yX3_stuck, Cond.code yX3_stuck cX3_stuck 1 (some .int), Cond.methodLink RL 201 yL_holds, Cond.static yL_holds] ++ ([Cond.code yL_holds cL_holds 18 (some .boolean)] ++ [Cond.methodLink RL 204 yL_thrown, Cond.static yL_thrown, Cond.code yL_thrown cL_thrown 1 (some .boolean)]) := rfl
  rw [e]
  exact zmem_a (zmem_p _ [765, 766, 767, 768, 770, 771, 772, 774, 18, 775, 790, 791, 792, 779, 780, 781, 782, 776, 777] (by decide +kernel)) (zmem_a (fun w h => by obtain rfl := List.mem_singleton.mp h; exact zin_holds) (zmem_p _ [733, 734, 735] (by decide +kernel)))
theorem zin_X0 : ∀ w ∈ wsX00, w ∈ lw_tbl := by decide +kernel
theorem zin_X1 : ∀ w ∈ wsX10, w ∈ lw_tbl := by decide +kernel
theorem zin_X2 : ∀ w ∈ wsX20, w ∈ lw_tbl := by decide +kernel
theorem zin_X3 : ∀ w ∈ wsX30, w ∈ lw_tbl := by decide +kernel
theorem zin_x0 : ∀ w ∈ (vx_atS RX3 45 "java/lang/IllegalArgumentException" ["java/lang/RuntimeException", "java/lang/Exception"]).filter goodWord, w ∈ lw_tbl := by decide +kernel
theorem zin_x1 : ∀ w ∈ (vx_atS RX3 56 "java/lang/IllegalStateException" ["java/lang/RuntimeException", "java/lang/Exception"]).filter goodWord, w ∈ lw_tbl := by decide +kernel
theorem zin_x2 : ∀ w ∈ (vx_atS RX3 162 "java/lang/IndexOutOfBoundsException" ["java/lang/RuntimeException", "java/lang/Exception"]).filter goodWord, w ∈ lw_tbl := by decide +kernel
theorem zin_rs : ∀ w ∈ wsL_law0, w ∈ lw_tbl := by
  unfold wsL_law0
  exact zmem_a (zmem_a (zmem_a (zmem_a (zmem_a (zmem_a zin_r1 (zmem_a zin_r2 (zmem_a zin_r3 (zmem_a zin_r4 (zmem_a zin_r5 (zmem_a zin_r6 (zmem_a zin_r7 (zmem_a zin_r8 (zmem_a zin_r9 (zmem_a zin_r10 (zmem_a zin_r11 (zmem_a zin_r12 (zmem_a zin_r13 (zmem_a zin_r14 (zmem_a zin_r15 (zmem_a zin_r16 (zmem_a zin_r17 (zmem_a zin_r18 (zmem_a zin_r19 (zmem_a zin_r20 (zmem_a zin_r21 (zmem_a zin_r22 (zmem_a zin_r23 (zmem_a zin_r24 (zin_r25))))))))))))))))))))))))) zin_X3) zin_X2) zin_X0) zin_X1) (fun _ h => absurd h List.not_mem_nil)
theorem zin_law : ∀ w ∈ wsL_law, w ∈ lw_tbl := by
  unfold wsL_law
  exact zmem_a (zmem_a (zmem_a zin_rs zin_x0) zin_x1) zin_x2
