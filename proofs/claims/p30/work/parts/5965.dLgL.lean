set_option maxRecDepth 20000 in
theorem cg_law_alike_0 : GoodIn wsL_law [Cond.code yL_alike cL_alike 5 (some .boolean)] := goodIn_r _ [588] (by decide +kernel) (by decide +kernel)
set_option maxRecDepth 20000 in
theorem cg_law_alike_1 : GoodIn wsL_law wsL_alike_r1 := goodIn_r _ [573, 574, 67, 575, 77, 79, 576, 577, 578, 2, 579, 85, 86, 18, 17, 580, 581, 478, 412, 413, 16, 414, 37, 45] (by decide +kernel) (by decide +kernel)
set_option maxRecDepth 20000 in
theorem cg_law_alike_2 : GoodIn wsL_law wsL_alike_r2 := goodIn_r _ [46, 47, 48, 38, 39, 40, 49, 50, 51, 52, 53, 582, 583, 584, 585, 146, 147, 148, 149, 150, 151, 152, 153, 154] (by decide +kernel) (by decide +kernel)
set_option maxRecDepth 20000 in
theorem cg_law_alike_3 : GoodIn wsL_law wsL_alike_r3 := goodIn_r _ [155, 156, 157, 158, 159, 160, 161, 162, 163, 164, 165, 166, 167, 168, 169, 170, 171, 172, 173, 174, 175, 176, 177, 178] (by decide +kernel) (by decide +kernel)
set_option maxRecDepth 20000 in
theorem cg_law_alike_4 : GoodIn wsL_law wsL_alike_r4 := goodIn_r _ [179, 180, 181, 182, 183, 184, 233, 234, 235, 236, 237, 238, 239, 240, 241, 242, 185, 186, 187, 188, 189, 190, 191, 192] (by decide +kernel) (by decide +kernel)
set_option maxRecDepth 20000 in
theorem cg_law_alike_5 : GoodIn wsL_law wsL_alike_r5 := goodIn_r _ [193, 194, 195, 196, 197, 198, 199, 200, 201, 202, 203, 204, 205, 206, 207, 208, 209, 210, 211, 212, 213, 214, 215, 216] (by decide +kernel) (by decide +kernel)
set_option maxRecDepth 20000 in
theorem cg_law_alike_6 : GoodIn wsL_law wsL_alike_r6 := goodIn_r _ [217, 218, 219, 220, 221, 222, 223, 224, 225, 226, 227, 228, 229, 230, 231, 232, 288, 289, 290, 291, 272, 273, 274, 275] (by decide +kernel) (by decide +kernel)
set_option maxRecDepth 20000 in
theorem cg_law_alike_7 : GoodIn wsL_law wsL_alike_r7 := goodIn_r _ [589, 590, 591, 592, 354, 355, 356, 357, 350, 351, 352, 353, 487, 71, 72, 73, 74, 75, 76, 78, 80, 81, 82, 83] (by decide +kernel) (by decide +kernel)
set_option maxRecDepth 20000 in
theorem cg_law_alike_8 : GoodIn wsL_law wsL_alike_r8 := goodIn_r _ [84, 87, 88, 13, 89, 90, 91, 12, 92, 93, 94, 95, 96, 97, 30, 98, 99, 100, 101, 102, 103, 104, 22, 25] (by decide +kernel) (by decide +kernel)
set_option maxRecDepth 20000 in
theorem cg_law_alike_9 : GoodIn wsL_law wsL_alike_r9 := goodIn_r _ [105, 106, 107, 108, 109, 110, 111, 112, 113, 114, 115, 116, 117, 118, 119, 120, 121, 122, 32, 123, 42, 43, 44, 54] (by decide +kernel) (by decide +kernel)
set_option maxRecDepth 20000 in
theorem cg_law_alike_10 : GoodIn wsL_law wsL_alike_r10 := goodIn_r _ [55, 56, 57, 124, 125, 126, 21, 127, 128, 129, 130, 131, 132, 133, 134, 135, 136, 137, 138, 139, 140, 141, 142, 143] (by decide +kernel) (by decide +kernel)
set_option maxRecDepth 20000 in
theorem cg_law_alike_11 : GoodIn wsL_law wsL_alike_r11 := goodIn_r _ [144, 145, 243, 244, 245, 246, 247, 248, 249, 250, 251, 252, 253, 254, 255, 256, 257, 258, 259, 260, 261, 262, 263, 264] (by decide +kernel) (by decide +kernel)
set_option maxRecDepth 20000 in
theorem cg_law_alike_12 : GoodIn wsL_law wsL_alike_r12 := goodIn_r _ [265, 266, 267, 268, 269, 270, 271, 276, 277, 278, 279, 280, 281, 282, 283, 284, 285, 286, 287, 292, 293, 294, 295, 296] (by decide +kernel) (by decide +kernel)
set_option maxRecDepth 20000 in
theorem cg_law_alike_13 : GoodIn wsL_law wsL_alike_r13 := goodIn_r _ [297, 298, 299, 300, 301, 302, 303, 304, 305, 306, 307, 308, 309, 310, 311, 312, 313, 314, 315, 316, 317, 318, 319, 320] (by decide +kernel) (by decide +kernel)
set_option maxRecDepth 20000 in
theorem cg_law_alike_14 : GoodIn wsL_law wsL_alike_r14 := goodIn_r _ [321, 322, 323, 324, 325, 326, 327, 328, 329, 330, 331, 332, 333, 334, 335, 336, 337, 338, 339, 340, 341, 342, 343, 344] (by decide +kernel) (by decide +kernel)
set_option maxRecDepth 20000 in
theorem cg_law_alike_15 : GoodIn wsL_law wsL_alike_r15 := goodIn_r _ [345, 346, 347, 348, 349, 358, 359, 360, 361, 362, 363, 364, 365, 366, 367, 368, 369, 370, 371, 372, 373, 374, 375, 376] (by decide +kernel) (by decide +kernel)
set_option maxRecDepth 20000 in
theorem cg_law_alike_16 : GoodIn wsL_law wsL_alike_r16 := goodIn_r _ [377, 378, 379, 380, 381, 382, 383, 384, 385, 386, 387, 388, 389, 390, 391, 392, 393, 394, 395, 396, 397, 398, 399, 400] (by decide +kernel) (by decide +kernel)
set_option maxRecDepth 20000 in
theorem cg_law_alike_17 : GoodIn wsL_law wsL_alike_r17 := goodIn_r _ [401, 402, 403, 404, 405, 406, 63, 407, 408, 409, 410, 411, 415, 416, 417, 418, 419, 420, 421, 422, 423, 424, 425, 426] (by decide +kernel) (by decide +kernel)
set_option maxRecDepth 20000 in
theorem cg_law_alike_18 : GoodIn wsL_law wsL_alike_r18 := goodIn_r _ [427, 428, 429, 430, 431, 432, 433, 434, 435, 436, 437, 438, 439, 440, 441, 442, 443, 444, 445, 446, 447, 448, 449, 450] (by decide +kernel) (by decide +kernel)
set_option maxRecDepth 20000 in
theorem cg_law_alike_19 : GoodIn wsL_law wsL_alike_r19 := goodIn_r _ [451, 452, 453, 454, 455, 456, 457, 458, 459, 460, 461, 462, 463, 464, 465, 466, 467, 468, 469, 470, 471, 472, 473, 474] (by decide +kernel) (by decide +kernel)
set_option maxRecDepth 20000 in
theorem cg_law_alike_20 : GoodIn wsL_law wsL_alike_r20 := goodIn_r _ [475, 476, 477, 479, 480, 481, 482, 483, 484, 485, 486, 488, 489, 490, 491, 492, 493, 494, 495, 496, 497, 498, 499, 500] (by decide +kernel) (by decide +kernel)
set_option maxRecDepth 20000 in
theorem cg_law_alike_21 : GoodIn wsL_law wsL_alike_r21 := goodIn_r _ [501, 502, 503, 504, 505, 506, 507, 508, 509, 510, 511, 512, 513, 514, 515, 516, 517, 518, 519, 520, 521, 522, 523, 524] (by decide +kernel) (by decide +kernel)
set_option maxRecDepth 20000 in
theorem cg_law_alike_22 : GoodIn wsL_law wsL_alike_r22 := goodIn_r _ [525, 526, 527, 528, 529, 530, 531, 23, 532, 533, 534, 535, 536, 537, 538, 539, 540, 541] (by decide +kernel) (by decide +kernel)
set_option maxRecDepth 20000 in
theorem cg_law_alike_23 : GoodIn wsL_law wsX30 := goodIn_r _ [599, 600, 601, 602, 603, 604] (by decide +kernel) (by decide +kernel)
set_option maxRecDepth 20000 in
theorem cg_law_alike_24 : GoodIn wsL_law wsX00 := goodIn_r _ [610, 611, 612, 613, 614, 615, 616, 617, 618] (by decide +kernel) (by decide +kernel)
set_option maxRecDepth 20000 in
theorem cg_law_alike_25 : GoodIn wsL_law wsX20 := goodIn_r _ [605, 606, 607, 608, 609] (by decide +kernel) (by decide +kernel)
set_option maxRecDepth 20000 in
theorem cg_law_alike_26 : GoodIn wsL_law wsX10 := goodIn_r _ [619, 620, 621] (by decide +kernel) (by decide +kernel)
set_option maxRecDepth 20000 in
theorem ggL_law_L_alike : GoodIn wsL_law wsL_alike := goodIn_ca (goodIn_ca (goodIn_ca (goodIn_app (a := [_]) cg_law_alike_0 (goodIn_app (goodIn_app (goodIn_app (goodIn_app (goodIn_app cg_law_alike_1 (goodIn_app cg_law_alike_2 (goodIn_app cg_law_alike_3 (goodIn_app cg_law_alike_4 (goodIn_app cg_law_alike_5 (goodIn_app cg_law_alike_6 (goodIn_app cg_law_alike_7 (goodIn_app cg_law_alike_8 (goodIn_app cg_law_alike_9 (goodIn_app cg_law_alike_10 (goodIn_app cg_law_alike_11 (goodIn_app cg_law_alike_12 (goodIn_app cg_law_alike_13 (goodIn_app cg_law_alike_14 (goodIn_app cg_law_alike_15 (goodIn_app cg_law_alike_16 (goodIn_app cg_law_alike_17 (goodIn_app cg_law_alike_18 (goodIn_app cg_law_alike_19 (goodIn_app cg_law_alike_20 (goodIn_app cg_law_alike_21 (cg_law_alike_22)))))))))))))))))))))) cg_law_alike_23) cg_law_alike_24) cg_law_alike_25) cg_law_alike_26)) (goodIn_sub (fun _ h => List.mem_append_left _ (List.mem_append_left _ (List.mem_append_right _ h))) (by decide +kernel))) (goodIn_sub (fun _ h => List.mem_append_left _ (List.mem_append_right _ h)) (by decide +kernel))) (goodIn_sub (fun _ h => List.mem_append_right _ h) (by decide +kernel))
set_option maxRecDepth 20000 in
theorem gL_law_L_alike : GoodIn wsL_law (va_wsS RL 197 yL_alike wsL_alike) := goodIn_app (goodIn_of _ (by decide +kernel)) ggL_law_L_alike
set_option maxRecDepth 20000 in
theorem ggL_law_L_thrown : GoodIn wsL_law wsL_thrown := goodIn_r _ [598, 304, 79, 80] (by decide +kernel) (by decide +kernel)
set_option maxRecDepth 20000 in
theorem gL_law_L_thrown : GoodIn wsL_law (va_wsS RL 204 yL_thrown wsL_thrown) := goodIn_app (goodIn_of _ (by decide +kernel)) ggL_law_L_thrown
