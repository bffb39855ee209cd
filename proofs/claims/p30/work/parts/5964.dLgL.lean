set_option maxRecDepth 20000 in
theorem cg_law_holds_0 : GoodIn wsL_law [Cond.code yL_holds cL_holds 18 (some .boolean)] := by
  intro w hw
  obtain rfl := List.mem_singleton.mp hw
  refine ⟨?_, good_of_word (by decide +kernel)⟩
  have h25 : Cond.code yL_holds cL_holds 18 (some .boolean) ∈ wsL_law0_r25 := by
    unfold wsL_law0_r25
    exact List.mem_of_getElem? (i := 19) rfl
  have h0 : Cond.code yL_holds cL_holds 18 (some .boolean) ∈ wsL_law0 := by
    unfold wsL_law0
    exact List.mem_append_left _ (List.mem_append_left _ (List.mem_append_left _ (List.mem_append_left _ (List.mem_append_left _ (List.mem_append_right _ (List.mem_append_right _ (List.mem_append_right _ (List.mem_append_right _ (List.mem_append_right _ (List.mem_append_right _ (List.mem_append_right _ (List.mem_append_right _ (List.mem_append_right _ (List.mem_append_right _ (List.mem_append_right _ (List.mem_append_right _ (List.mem_append_right _ (List.mem_append_right _ (List.mem_append_right _ (List.mem_append_right _ (List.mem_append_right _ (List.mem_append_right _ (List.mem_append_right _ (List.mem_append_right _ (List.mem_append_right _ (List.mem_append_right _ (List.mem_append_right _ (List.mem_append_right _ (h25)))))))))))))))))))))))))))))
  unfold wsL_law
  exact List.mem_append_left _ (List.mem_append_left _ (List.mem_append_left _ h0))
set_option maxRecDepth 20000 in
theorem cg_law_holds_1 : GoodIn wsL_law wsL_holds_r1 := goodIn_r _ [71, 72, 67, 73, 74, 75, 76, 77, 78, 79, 80, 81, 82, 83, 2, 84, 85, 86, 87, 88, 13, 89, 90, 91] (by decide +kernel) (by decide +kernel)
set_option maxRecDepth 20000 in
theorem cg_law_holds_2 : GoodIn wsL_law wsL_holds_r2 := goodIn_r _ [12, 92, 93, 94, 95, 96, 97, 30, 98, 99, 100, 101, 102, 103, 104, 17, 22, 25, 105, 106, 107, 108, 109, 110] (by decide +kernel) (by decide +kernel)
set_option maxRecDepth 20000 in
theorem cg_law_holds_3 : GoodIn wsL_law wsL_holds_r3 := goodIn_r _ [111, 112, 113, 114, 115, 116, 117, 118, 119, 120, 121, 122, 32, 123, 42, 43, 16, 44, 37, 38, 39, 40, 45, 46] (by decide +kernel) (by decide +kernel)
set_option maxRecDepth 20000 in
theorem cg_law_holds_4 : GoodIn wsL_law wsL_holds_r4 := goodIn_r _ [47, 48, 49, 50, 51, 52, 53, 54, 55, 56, 57, 124, 125, 126, 21, 127, 128, 129, 130, 131, 132, 133, 134, 135] (by decide +kernel) (by decide +kernel)
set_option maxRecDepth 20000 in
theorem cg_law_holds_5 : GoodIn wsL_law wsL_holds_r5 := goodIn_r _ [136, 137, 138, 139, 140, 141, 142, 143, 144, 145, 146, 147, 148, 149, 150, 151, 152, 153, 154, 155, 156, 157, 158, 159] (by decide +kernel) (by decide +kernel)
set_option maxRecDepth 20000 in
theorem cg_law_holds_6 : GoodIn wsL_law wsL_holds_r6 := goodIn_r _ [160, 161, 162, 163, 164, 165, 166, 167, 168, 169, 170, 171, 172, 173, 174, 175, 176, 177, 178, 179, 180, 181, 182, 183] (by decide +kernel) (by decide +kernel)
set_option maxRecDepth 20000 in
theorem cg_law_holds_7 : GoodIn wsL_law wsL_holds_r7 := goodIn_r _ [184, 185, 186, 187, 188, 189, 190, 191, 192, 193, 194, 195, 196, 197, 198, 199, 200, 201, 202, 203, 204, 205, 206, 207] (by decide +kernel) (by decide +kernel)
set_option maxRecDepth 20000 in
theorem cg_law_holds_8 : GoodIn wsL_law wsL_holds_r8 := goodIn_r _ [208, 209, 210, 211, 212, 213, 214, 215, 216, 217, 218, 219, 220, 221, 222, 223, 224, 225, 226, 227, 228, 229, 230, 231] (by decide +kernel) (by decide +kernel)
set_option maxRecDepth 20000 in
theorem cg_law_holds_9 : GoodIn wsL_law wsL_holds_r9 := goodIn_r _ [232, 233, 234, 235, 236, 237, 238, 239, 240, 241, 242, 243, 244, 245, 246, 247, 248, 249, 250, 251, 252, 253, 254, 255] (by decide +kernel) (by decide +kernel)
set_option maxRecDepth 20000 in
theorem cg_law_holds_10 : GoodIn wsL_law wsL_holds_r10 := goodIn_r _ [256, 257, 258, 259, 260, 261, 262, 263, 264, 265, 266, 267, 268, 269, 270, 271, 272, 273, 274, 275, 276, 277, 278, 279] (by decide +kernel) (by decide +kernel)
set_option maxRecDepth 20000 in
theorem cg_law_holds_11 : GoodIn wsL_law wsL_holds_r11 := goodIn_r _ [280, 281, 282, 283, 284, 285, 286, 287, 288, 289, 290, 291, 292, 293, 294, 295, 296, 297, 298, 299, 300, 301, 302, 303] (by decide +kernel) (by decide +kernel)
set_option maxRecDepth 20000 in
theorem cg_law_holds_12 : GoodIn wsL_law wsL_holds_r12 := goodIn_r _ [304, 305, 306, 307, 308, 309, 310, 311, 312, 313, 314, 315, 316, 317, 318, 319, 320, 321, 322, 323, 324, 325, 326, 327] (by decide +kernel) (by decide +kernel)
set_option maxRecDepth 20000 in
theorem cg_law_holds_13 : GoodIn wsL_law wsL_holds_r13 := goodIn_r _ [328, 329, 330, 331, 332, 333, 334, 335, 336, 337, 338, 339, 340, 341, 342, 343, 344, 345, 346, 347, 348, 349, 350, 351] (by decide +kernel) (by decide +kernel)
set_option maxRecDepth 20000 in
theorem cg_law_holds_14 : GoodIn wsL_law wsL_holds_r14 := goodIn_r _ [352, 353, 354, 355, 356, 357, 358, 359, 360, 361, 362, 363, 364, 365, 366, 367, 368, 369, 370, 371, 372, 373, 374, 375] (by decide +kernel) (by decide +kernel)
set_option maxRecDepth 20000 in
theorem cg_law_holds_15 : GoodIn wsL_law wsL_holds_r15 := goodIn_r _ [376, 377, 378, 379, 380, 381, 382, 383, 384, 385, 386, 387, 388, 389, 390, 391, 392, 393, 394, 395, 396, 397, 398, 399] (by decide +kernel) (by decide +kernel)
set_option maxRecDepth 20000 in
theorem cg_law_holds_16 : GoodIn wsL_law wsL_holds_r16 := goodIn_r _ [400, 401, 402, 403, 404, 405, 406, 63, 407, 408, 409, 410, 411, 412, 413, 414, 415, 416, 417, 418, 419, 420, 421, 422] (by decide +kernel) (by decide +kernel)
set_option maxRecDepth 20000 in
theorem cg_law_holds_17 : GoodIn wsL_law wsL_holds_r17 := goodIn_r _ [423, 424, 425, 426, 427, 428, 429, 430, 431, 432, 433, 434, 435, 436, 437, 438, 439, 440, 441, 442, 443, 444, 445, 446] (by decide +kernel) (by decide +kernel)
set_option maxRecDepth 20000 in
theorem cg_law_holds_18 : GoodIn wsL_law wsL_holds_r18 := goodIn_r _ [447, 448, 449, 450, 451, 452, 453, 454, 455, 456, 457, 458, 459, 460, 461, 462, 463, 464, 465, 466, 467, 468, 469, 470] (by decide +kernel) (by decide +kernel)
set_option maxRecDepth 20000 in
theorem cg_law_holds_19 : GoodIn wsL_law wsL_holds_r19 := goodIn_r _ [471, 472, 473, 474, 475, 476, 477, 18, 478, 479, 480, 481, 482, 483, 484, 485, 486, 487, 488, 489, 490, 491, 492, 493] (by decide +kernel) (by decide +kernel)
set_option maxRecDepth 20000 in
theorem cg_law_holds_20 : GoodIn wsL_law wsL_holds_r20 := goodIn_r _ [494, 495, 496, 497, 498, 499, 500, 501, 502, 503, 504, 505, 506, 507, 508, 509, 510, 511, 512, 513, 514, 515, 516, 517] (by decide +kernel) (by decide +kernel)
set_option maxRecDepth 20000 in
theorem cg_law_holds_21 : GoodIn wsL_law wsL_holds_r21 := goodIn_r _ [518, 519, 520, 521, 522, 523, 524, 525, 526, 527, 528, 529, 530, 531, 23, 532, 533, 534, 535, 536, 537, 538, 539, 540] (by decide +kernel) (by decide +kernel)
set_option maxRecDepth 20000 in
theorem cg_law_holds_22 : GoodIn wsL_law wsL_holds_r22 := goodIn_r _ [541, 589, 590, 591, 592] (by decide +kernel) (by decide +kernel)
set_option maxRecDepth 20000 in
theorem cg_law_holds_23 : GoodIn wsL_law wsX30 := goodIn_r _ [599, 600, 601, 602, 603, 604] (by decide +kernel) (by decide +kernel)
set_option maxRecDepth 20000 in
theorem cg_law_holds_24 : GoodIn wsL_law wsX20 := goodIn_r _ [605, 606, 607, 608, 609] (by decide +kernel) (by decide +kernel)
set_option maxRecDepth 20000 in
theorem cg_law_holds_25 : GoodIn wsL_law wsX00 := goodIn_r _ [610, 611, 612, 613, 614, 615, 616, 617, 618] (by decide +kernel) (by decide +kernel)
set_option maxRecDepth 20000 in
theorem cg_law_holds_26 : GoodIn wsL_law wsX10 := goodIn_r _ [619, 620, 621] (by decide +kernel) (by decide +kernel)
set_option maxRecDepth 20000 in
theorem ggL_law_L_holds : GoodIn wsL_law wsL_holds := goodIn_ca (goodIn_ca (goodIn_ca (goodIn_app (a := [_]) cg_law_holds_0 (goodIn_app (goodIn_app (goodIn_app (goodIn_app (goodIn_app cg_law_holds_1 (goodIn_app cg_law_holds_2 (goodIn_app cg_law_holds_3 (goodIn_app cg_law_holds_4 (goodIn_app cg_law_holds_5 (goodIn_app cg_law_holds_6 (goodIn_app cg_law_holds_7 (goodIn_app cg_law_holds_8 (goodIn_app cg_law_holds_9 (goodIn_app cg_law_holds_10 (goodIn_app cg_law_holds_11 (goodIn_app cg_law_holds_12 (goodIn_app cg_law_holds_13 (goodIn_app cg_law_holds_14 (goodIn_app cg_law_holds_15 (goodIn_app cg_law_holds_16 (goodIn_app cg_law_holds_17 (goodIn_app cg_law_holds_18 (goodIn_app cg_law_holds_19 (goodIn_app cg_law_holds_20 (goodIn_app cg_law_holds_21 (cg_law_holds_22)))))))))))))))))))))) cg_law_holds_23) cg_law_holds_24) cg_law_holds_25) cg_law_holds_26)) (goodIn_sub (fun _ h => List.mem_append_left _ (List.mem_append_left _ (List.mem_append_right _ h))) (by decide +kernel))) (goodIn_sub (fun _ h => List.mem_append_left _ (List.mem_append_right _ h)) (by decide +kernel))) (goodIn_sub (fun _ h => List.mem_append_right _ h) (by decide +kernel))
set_option maxRecDepth 20000 in
theorem gL_law_L_holds : GoodIn wsL_law (va_wsS RL 201 yL_holds wsL_holds) := goodIn_app (goodIn_of _ (by decide +kernel)) ggL_law_L_holds
