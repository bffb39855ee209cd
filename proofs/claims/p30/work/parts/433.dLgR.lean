set_option maxRecDepth 20000 in
theorem cg_refuses_call_0 : GoodIn wsL_refuses [Cond.code yL_call cL_call 5 (some .int)] := goodIn_r _ [8] (by decide +kernel) (by decide +kernel)
set_option maxRecDepth 20000 in
theorem cg_refuses_call_1 : GoodIn wsL_refuses wsL_call_r1 := goodIn_r _ [9, 10, 7, 11, 12, 13, 1, 3, 14, 15, 16, 17, 18, 19, 20, 21, 22, 23, 24, 25, 26, 27, 28, 29] (by decide +kernel) (by decide +kernel)
set_option maxRecDepth 20000 in
theorem cg_refuses_call_2 : GoodIn wsL_refuses wsL_call_r2 := goodIn_r _ [30, 31, 32, 33, 34, 35, 36, 37, 38, 39, 40, 41, 42, 43, 44, 45, 46, 47, 48, 49, 50, 51, 52, 53] (by decide +kernel) (by decide +kernel)
set_option maxRecDepth 20000 in
theorem cg_refuses_call_3 : GoodIn wsL_refuses wsL_call_r3 := goodIn_r _ [54, 55, 56, 57, 58, 59, 60, 61, 62, 63, 64, 65, 66, 67, 68, 69, 70, 71, 72, 73, 74, 75, 76, 77] (by decide +kernel) (by decide +kernel)
set_option maxRecDepth 20000 in
theorem cg_refuses_call_4 : GoodIn wsL_refuses wsL_call_r4 := goodIn_r _ [78, 79, 80, 81, 82, 83, 84, 85, 86, 87, 88, 89, 90, 91, 92, 93, 94, 95, 96, 97, 98, 99, 100, 101] (by decide +kernel) (by decide +kernel)
set_option maxRecDepth 20000 in
theorem cg_refuses_call_5 : GoodIn wsL_refuses wsL_call_r5 := goodIn_r _ [102, 103, 104, 105, 106, 107, 108, 109, 110, 111, 112, 113, 114, 115, 116, 117, 118, 119, 120, 121, 122, 123, 124, 125] (by decide +kernel) (by decide +kernel)
set_option maxRecDepth 20000 in
theorem cg_refuses_call_6 : GoodIn wsL_refuses wsL_call_r6 := goodIn_r _ [126, 127, 128, 129, 130, 131, 132, 133, 134, 135, 136, 137, 138, 139, 140, 141, 142, 143, 144, 145, 146, 147, 148, 149] (by decide +kernel) (by decide +kernel)
set_option maxRecDepth 20000 in
theorem cg_refuses_call_7 : GoodIn wsL_refuses wsL_call_r7 := goodIn_r _ [150, 151, 152, 153, 154, 155, 156, 157, 158, 159, 160, 161, 162, 163, 164, 165, 166, 167, 168, 169, 170, 171, 172, 173] (by decide +kernel) (by decide +kernel)
set_option maxRecDepth 20000 in
theorem cg_refuses_call_8 : GoodIn wsL_refuses wsL_call_r8 := goodIn_r _ [174, 175, 176, 177, 178, 179, 180, 181, 182, 183, 184, 185, 186, 187, 188, 189, 190, 191, 192, 193, 194, 195, 196, 197] (by decide +kernel) (by decide +kernel)
set_option maxRecDepth 20000 in
theorem cg_refuses_call_9 : GoodIn wsL_refuses wsL_call_r9 := goodIn_r _ [198, 199, 200, 201, 202, 203, 204, 205, 206, 207, 208, 209, 210, 211, 212, 213, 214, 215, 216, 217, 218, 219, 220, 221] (by decide +kernel) (by decide +kernel)
set_option maxRecDepth 20000 in
theorem cg_refuses_call_10 : GoodIn wsL_refuses wsL_call_r10 := goodIn_r _ [222, 223, 224, 225, 226, 227, 228, 229, 230, 231, 232, 233, 234, 235, 236, 237, 238, 239, 240, 241, 242, 243, 244, 245] (by decide +kernel) (by decide +kernel)
set_option maxRecDepth 20000 in
theorem cg_refuses_call_11 : GoodIn wsL_refuses wsL_call_r11 := goodIn_r _ [246, 247, 248, 249, 250, 251, 252, 253, 254, 255, 256, 257, 258, 259, 260, 261, 262, 263, 264, 265, 266, 2, 267, 268] (by decide +kernel) (by decide +kernel)
set_option maxRecDepth 20000 in
theorem cg_refuses_call_12 : GoodIn wsL_refuses wsL_call_r12 := goodIn_r _ [269, 270, 271, 272, 273, 274, 275, 276, 277, 278, 279, 280, 281, 282, 283, 284, 285, 286, 287, 288, 289, 290, 291, 292] (by decide +kernel) (by decide +kernel)
set_option maxRecDepth 20000 in
theorem cg_refuses_call_13 : GoodIn wsL_refuses wsL_call_r13 := goodIn_r _ [293, 294, 295, 296, 297, 298, 299, 300, 301, 302, 303, 304, 305, 306, 307, 308, 309, 310, 311, 312, 313, 314, 315, 316] (by decide +kernel) (by decide +kernel)
set_option maxRecDepth 20000 in
theorem cg_refuses_call_14 : GoodIn wsL_refuses wsL_call_r14 := goodIn_r _ [317, 318, 319, 320, 321, 322, 323, 324, 325, 326, 327, 328, 329, 330, 331, 332, 333, 334, 335, 336, 337, 338, 339, 340] (by decide +kernel) (by decide +kernel)
set_option maxRecDepth 20000 in
theorem cg_refuses_call_15 : GoodIn wsL_refuses wsL_call_r15 := goodIn_r _ [341, 342, 343, 344, 345, 346, 347, 348, 349, 350, 351, 352, 353, 354, 355, 356, 357, 358, 359, 360, 361, 362, 363, 364] (by decide +kernel) (by decide +kernel)
set_option maxRecDepth 20000 in
theorem cg_refuses_call_16 : GoodIn wsL_refuses wsL_call_r16 := goodIn_r _ [365, 366, 367, 368, 369, 370, 371, 372, 373, 374, 375, 376, 377, 378, 379, 380, 381, 382, 383, 384, 385, 386, 387, 388] (by decide +kernel) (by decide +kernel)
set_option maxRecDepth 20000 in
theorem cg_refuses_call_17 : GoodIn wsL_refuses wsL_call_r17 := goodIn_r _ [389, 390, 391, 392, 393, 394, 395, 396, 397, 398, 399, 400, 401, 402, 403, 404, 405, 406, 407, 408, 409, 410, 411, 412] (by decide +kernel) (by decide +kernel)
set_option maxRecDepth 20000 in
theorem cg_refuses_call_18 : GoodIn wsL_refuses wsL_call_r18 := goodIn_r _ [413, 414, 415, 416, 417, 418, 419, 420, 421, 422, 423, 424, 425, 426, 427, 428, 429, 430, 431, 432, 433, 434, 435, 436] (by decide +kernel) (by decide +kernel)
set_option maxRecDepth 20000 in
theorem cg_refuses_call_19 : GoodIn wsL_refuses wsL_call_r19 := goodIn_r _ [437, 438, 439, 440, 441, 442, 443, 444, 445, 446, 447, 448, 449, 450, 451, 452, 453, 454, 455, 456, 457, 458, 459, 460] (by decide +kernel) (by decide +kernel)
set_option maxRecDepth 20000 in
theorem cg_refuses_call_20 : GoodIn wsL_refuses wsL_call_r20 := goodIn_r _ [461, 462, 463, 464, 465, 466, 467, 468, 469, 470, 471, 472, 473, 474, 475, 476, 477, 478, 479, 480, 481, 482, 483, 484] (by decide +kernel) (by decide +kernel)
set_option maxRecDepth 20000 in
theorem cg_refuses_call_21 : GoodIn wsL_refuses wsL_call_r21 := goodIn_r _ [485, 486, 487, 488, 489, 490, 491, 492, 493, 494, 495, 496, 497, 498, 499, 500, 501, 502, 503, 504, 505, 506] (by decide +kernel) (by decide +kernel)
set_option maxRecDepth 20000 in
theorem cg_refuses_call_22 : GoodIn wsL_refuses wsX30 := goodIn_r _ [540, 541, 542, 543, 544, 545] (by decide +kernel) (by decide +kernel)
set_option maxRecDepth 20000 in
theorem cg_refuses_call_23 : GoodIn wsL_refuses wsX20 := goodIn_r _ [546, 547, 548, 549, 550] (by decide +kernel) (by decide +kernel)
set_option maxRecDepth 20000 in
theorem cg_refuses_call_24 : GoodIn wsL_refuses wsX00 := goodIn_r _ [551, 552, 553, 554, 555, 556, 557, 558, 559] (by decide +kernel) (by decide +kernel)
set_option maxRecDepth 20000 in
theorem cg_refuses_call_25 : GoodIn wsL_refuses wsX10 := goodIn_r _ [560, 561, 562] (by decide +kernel) (by decide +kernel)
set_option maxRecDepth 20000 in
theorem ggL_refuses_L_call : GoodIn wsL_refuses wsL_call := goodIn_ca (goodIn_ca (goodIn_ca (goodIn_app (a := [_]) cg_refuses_call_0 (goodIn_app (goodIn_app (goodIn_app (goodIn_app (goodIn_app cg_refuses_call_1 (goodIn_app cg_refuses_call_2 (goodIn_app cg_refuses_call_3 (goodIn_app cg_refuses_call_4 (goodIn_app cg_refuses_call_5 (goodIn_app cg_refuses_call_6 (goodIn_app cg_refuses_call_7 (goodIn_app cg_refuses_call_8 (goodIn_app cg_refuses_call_9 (goodIn_app cg_refuses_call_10 (goodIn_app cg_refuses_call_11 (goodIn_app cg_refuses_call_12 (goodIn_app cg_refuses_call_13 (goodIn_app cg_refuses_call_14 (goodIn_app cg_refuses_call_15 (goodIn_app cg_refuses_call_16 (goodIn_app cg_refuses_call_17 (goodIn_app cg_refuses_call_18 (goodIn_app cg_refuses_call_19 (goodIn_app cg_refuses_call_20 (cg_refuses_call_21))))))))))))))))))))) cg_refuses_call_22) cg_refuses_call_23) cg_refuses_call_24) cg_refuses_call_25)) (goodIn_sub (fun _ h => List.mem_cons_of_mem _ (List.mem_append_left _ (List.mem_append_left _ (List.mem_append_right _ h)))) (by decide +kernel))) (goodIn_sub (fun _ h => List.mem_cons_of_mem _ (List.mem_append_left _ (List.mem_append_right _ h))) (by decide +kernel))) (goodIn_sub (fun _ h => List.mem_cons_of_mem _ (List.mem_append_right _ h)) (by decide +kernel))
set_option maxRecDepth 20000 in
theorem gL_refuses_L_call : GoodIn wsL_refuses (va_wsS RL 164 yL_call wsL_call) := goodIn_app (goodIn_of _ (by decide +kernel)) ggL_refuses_L_call
set_option maxRecDepth 20000 in
theorem ggL_refuses_L_tryScript : GoodIn wsL_refuses wsL_tryScript := goodIn_ca (goodIn_r _ [509, 12, 1, 510, 511, 512, 17, 513, 19, 20, 441, 42, 514, 515, 516, 517, 442, 375, 376, 67, 377, 69, 73, 74, 75, 76, 70, 71, 72, 77, 78, 79, 80, 81, 518, 519, 520, 521, 522, 109, 110, 111, 112, 113, 114, 115, 116, 117, 118, 119, 120, 121, 122, 123, 124, 125, 126, 127, 128, 129, 130, 131, 132, 133, 134, 135, 136, 137, 138, 139, 140, 141, 142, 143, 144, 145, 146, 147, 409, 410, 411, 148, 149, 150, 151, 152, 153, 154, 155, 156, 157, 158, 159, 160, 161, 162, 163, 164, 165, 166, 167, 168, 169, 170, 171, 172, 173, 174, 175, 176, 177, 178, 179, 180, 181, 182, 183, 184, 185, 186, 187, 188, 189, 190, 191, 192, 193, 194, 195, 206, 207, 208, 209, 210, 211, 212, 213, 214, 215, 216, 217, 218, 219, 523, 524, 525, 526, 280, 281, 282, 283, 235, 236, 237, 238, 231, 232, 233, 234, 276, 277, 278, 279, 540, 541, 542, 543, 544, 545, 551, 552, 553, 554, 555, 556, 557, 558, 559] (by decide +kernel) (by decide +kernel)) (goodIn_sub (fun _ h => List.mem_cons_of_mem _ (List.mem_append_left _ (List.mem_append_left _ (List.mem_append_right _ h)))) (by decide +kernel))
set_option maxRecDepth 20000 in
theorem gL_refuses_L_tryScript : GoodIn wsL_refuses (va_wsS RL 168 yL_tryScript wsL_tryScript) := goodIn_app (goodIn_of _ (by decide +kernel)) ggL_refuses_L_tryScript
set_option maxRecDepth 20000 in
theorem ggL_refuses_L_trySimulate : GoodIn wsL_refuses wsL_trySimulate := goodIn_ca (goodIn_r _ [529, 12, 1, 530, 531, 532, 17, 533, 19, 20, 441, 42, 534, 535, 442, 375, 376, 67, 377, 69, 73, 74, 75, 76, 70, 71, 72, 77, 78, 79, 80, 81, 536, 537, 538, 539, 109, 110, 111, 112, 113, 114, 115, 116, 117, 118, 119, 120, 121, 122, 123, 124, 125, 126, 127, 128, 129, 130, 131, 132, 133, 134, 135, 136, 137, 138, 139, 140, 141, 142, 143, 144, 145, 146, 147, 196, 197, 198, 199, 200, 201, 202, 203, 204, 205, 148, 149, 150, 151, 152, 153, 154, 155, 156, 157, 158, 159, 160, 161, 162, 163, 164, 165, 166, 167, 168, 169, 170, 171, 172, 173, 174, 175, 176, 177, 178, 179, 180, 181, 182, 183, 184, 185, 186, 187, 188, 189, 190, 191, 192, 193, 194, 195, 251, 252, 253, 254, 235, 236, 237, 238, 540, 541, 542, 543, 544, 545, 551, 552, 553, 554, 555, 556, 557, 558, 559] (by decide +kernel) (by decide +kernel)) (goodIn_sub (fun _ h => List.mem_cons_of_mem _ (List.mem_append_left _ (List.mem_append_left _ (List.mem_append_right _ h)))) (by decide +kernel))
set_option maxRecDepth 20000 in
theorem gL_refuses_L_trySimulate : GoodIn wsL_refuses (va_wsS RL 174 yL_trySimulate wsL_trySimulate) := goodIn_app (goodIn_of _ (by decide +kernel)) ggL_refuses_L_trySimulate
set_option maxRecDepth 20000 in
theorem cg_holds_call_0 : GoodIn wsL_holds [Cond.code yL_call cL_call 5 (some .int)] := goodIn_r _ [4] (by decide +kernel) (by decide +kernel)
set_option maxRecDepth 20000 in
theorem cg_holds_call_1 : GoodIn wsL_holds wsL_call_r1 := goodIn_r _ [5, 6, 3, 7, 8, 9, 10, 11, 12, 13, 14, 15, 16, 17, 18, 19, 20, 21, 22, 23, 24, 25, 26, 27] (by decide +kernel) (by decide +kernel)
set_option maxRecDepth 20000 in
theorem cg_holds_call_2 : GoodIn wsL_holds wsL_call_r2 := goodIn_r _ [28, 29, 30, 31, 32, 33, 34, 35, 36, 37, 38, 39, 40, 41, 42, 43, 44, 45, 46, 47, 48, 49, 50, 51] (by decide +kernel) (by decide +kernel)
set_option maxRecDepth 20000 in
theorem cg_holds_call_3 : GoodIn wsL_holds wsL_call_r3 := goodIn_r _ [52, 53, 54, 55, 56, 57, 58, 59, 60, 61, 62, 63, 64, 65, 66, 67, 68, 69, 70, 71, 72, 73, 74, 75] (by decide +kernel) (by decide +kernel)
set_option maxRecDepth 20000 in
theorem cg_holds_call_4 : GoodIn wsL_holds wsL_call_r4 := goodIn_r _ [76, 77, 78, 79, 80, 81, 82, 83, 84, 85, 86, 87, 88, 89, 90, 91, 92, 93, 94, 95, 96, 97, 98, 99] (by decide +kernel) (by decide +kernel)
set_option maxRecDepth 20000 in
theorem cg_holds_call_5 : GoodIn wsL_holds wsL_call_r5 := goodIn_r _ [100, 101, 102, 103, 104, 105, 106, 107, 108, 109, 110, 111, 112, 113, 114, 115, 116, 117, 118, 119, 120, 121, 122, 123] (by decide +kernel) (by decide +kernel)
set_option maxRecDepth 20000 in
theorem cg_holds_call_6 : GoodIn wsL_holds wsL_call_r6 := goodIn_r _ [124, 125, 126, 127, 128, 129, 130, 131, 132, 133, 134, 135, 136, 137, 138, 139, 140, 141, 142, 143, 144, 145, 146, 147] (by decide +kernel) (by decide +kernel)
set_option maxRecDepth 20000 in
theorem cg_holds_call_7 : GoodIn wsL_holds wsL_call_r7 := goodIn_r _ [148, 149, 150, 151, 152, 153, 154, 155, 156, 157, 158, 159, 160, 161, 162, 163, 164, 165, 166, 167, 168, 169, 170, 171] (by decide +kernel) (by decide +kernel)
set_option maxRecDepth 20000 in
theorem cg_holds_call_8 : GoodIn wsL_holds wsL_call_r8 := goodIn_r _ [172, 173, 174, 175, 176, 177, 178, 179, 180, 181, 182, 183, 184, 185, 186, 187, 188, 189, 190, 191, 192, 193, 194, 195] (by decide +kernel) (by decide +kernel)
set_option maxRecDepth 20000 in
theorem cg_holds_call_9 : GoodIn wsL_holds wsL_call_r9 := goodIn_r _ [196, 197, 198, 199, 200, 201, 202, 203, 204, 205, 206, 207, 208, 209, 210, 211, 212, 213, 214, 215, 216, 217, 218, 219] (by decide +kernel) (by decide +kernel)
set_option maxRecDepth 20000 in
theorem cg_holds_call_10 : GoodIn wsL_holds wsL_call_r10 := goodIn_r _ [220, 221, 222, 223, 224, 225, 226, 227, 228, 229, 230, 231, 232, 233, 234, 235, 236, 237, 238, 239, 240, 241, 242, 243] (by decide +kernel) (by decide +kernel)
set_option maxRecDepth 20000 in
theorem cg_holds_call_11 : GoodIn wsL_holds wsL_call_r11 := goodIn_r _ [244, 245, 246, 247, 248, 249, 250, 251, 252, 253, 254, 255, 256, 257, 258, 259, 260, 261, 262, 263, 264, 265, 266, 267] (by decide +kernel) (by decide +kernel)
set_option maxRecDepth 20000 in
theorem cg_holds_call_12 : GoodIn wsL_holds wsL_call_r12 := goodIn_r _ [268, 269, 270, 271, 272, 273, 274, 275, 276, 277, 278, 279, 280, 281, 282, 283, 284, 285, 286, 287, 288, 289, 290, 291] (by decide +kernel) (by decide +kernel)
set_option maxRecDepth 20000 in
theorem cg_holds_call_13 : GoodIn wsL_holds wsL_call_r13 := goodIn_r _ [292, 293, 294, 295, 296, 297, 298, 299, 300, 301, 302, 303, 304, 305, 306, 307, 308, 309, 310, 311, 312, 313, 314, 315] (by decide +kernel) (by decide +kernel)
set_option maxRecDepth 20000 in
theorem cg_holds_call_14 : GoodIn wsL_holds wsL_call_r14 := goodIn_r _ [316, 317, 318, 319, 320, 321, 322, 323, 324, 325, 326, 327, 328, 329, 330, 331, 332, 333, 334, 335, 336, 337, 338, 339] (by decide +kernel) (by decide +kernel)
set_option maxRecDepth 20000 in
theorem cg_holds_call_15 : GoodIn wsL_holds wsL_call_r15 := goodIn_r _ [340, 341, 342, 343, 344, 345, 346, 347, 348, 349, 350, 351, 352, 353, 354, 355, 356, 357, 358, 359, 360, 361, 362, 363] (by decide +kernel) (by decide +kernel)
set_option maxRecDepth 20000 in
theorem cg_holds_call_16 : GoodIn wsL_holds wsL_call_r16 := goodIn_r _ [364, 365, 366, 367, 368, 369, 370, 371, 372, 373, 374, 375, 376, 377, 378, 379, 380, 381, 382, 383, 384, 385, 386, 387] (by decide +kernel) (by decide +kernel)
set_option maxRecDepth 20000 in
theorem cg_holds_call_17 : GoodIn wsL_holds wsL_call_r17 := goodIn_r _ [388, 389, 390, 391, 392, 393, 394, 395, 396, 397, 398, 399, 400, 401, 402, 403, 404, 405, 406, 407, 408, 409, 410, 411] (by decide +kernel) (by decide +kernel)
set_option maxRecDepth 20000 in
theorem cg_holds_call_18 : GoodIn wsL_holds wsL_call_r18 := goodIn_r _ [412, 413, 414, 415, 416, 417, 418, 419, 420, 421, 422, 423, 424, 425, 426, 427, 428, 429, 430, 431, 432, 433, 434, 435] (by decide +kernel) (by decide +kernel)
set_option maxRecDepth 20000 in
theorem cg_holds_call_19 : GoodIn wsL_holds wsL_call_r19 := goodIn_r _ [436, 437, 438, 439, 440, 441, 442, 443, 444, 445, 446, 447, 448, 449, 450, 451, 452, 453, 454, 455, 456, 457, 458, 459] (by decide +kernel) (by decide +kernel)
set_option maxRecDepth 20000 in
theorem cg_holds_call_20 : GoodIn wsL_holds wsL_call_r20 := goodIn_r _ [460, 461, 462, 463, 464, 465, 466, 467, 468, 469, 470, 471, 472, 473, 474, 475, 476, 477, 478, 479, 480, 481, 482, 483] (by decide +kernel) (by decide +kernel)
set_option maxRecDepth 20000 in
theorem cg_holds_call_21 : GoodIn wsL_holds wsL_call_r21 := goodIn_r _ [484, 485, 486, 487, 488, 489, 490, 491, 492, 493, 494, 495, 496, 497, 498, 499, 500, 501, 502, 503, 504, 505] (by decide +kernel) (by decide +kernel)
set_option maxRecDepth 20000 in
theorem cg_holds_call_22 : GoodIn wsL_holds wsX30 := goodIn_r _ [510, 511, 512, 513, 514, 515] (by decide +kernel) (by decide +kernel)
set_option maxRecDepth 20000 in
theorem cg_holds_call_23 : GoodIn wsL_holds wsX20 := goodIn_r _ [516, 517, 518, 519, 520] (by decide +kernel) (by decide +kernel)
set_option maxRecDepth 20000 in
theorem cg_holds_call_24 : GoodIn wsL_holds wsX00 := goodIn_r _ [521, 522, 523, 524, 525, 526, 527, 528, 529] (by decide +kernel) (by decide +kernel)
set_option maxRecDepth 20000 in
theorem cg_holds_call_25 : GoodIn wsL_holds wsX10 := goodIn_r _ [530, 531, 532] (by decide +kernel) (by decide +kernel)
set_option maxRecDepth 20000 in
theorem ggL_holds_L_call : GoodIn wsL_holds wsL_call := goodIn_ca (goodIn_ca (goodIn_ca (goodIn_app (a := [_]) cg_holds_call_0 (goodIn_app (goodIn_app (goodIn_app (goodIn_app (goodIn_app cg_holds_call_1 (goodIn_app cg_holds_call_2 (goodIn_app cg_holds_call_3 (goodIn_app cg_holds_call_4 (goodIn_app cg_holds_call_5 (goodIn_app cg_holds_call_6 (goodIn_app cg_holds_call_7 (goodIn_app cg_holds_call_8 (goodIn_app cg_holds_call_9 (goodIn_app cg_holds_call_10 (goodIn_app cg_holds_call_11 (goodIn_app cg_holds_call_12 (goodIn_app cg_holds_call_13 (goodIn_app cg_holds_call_14 (goodIn_app cg_holds_call_15 (goodIn_app cg_holds_call_16 (goodIn_app cg_holds_call_17 (goodIn_app cg_holds_call_18 (goodIn_app cg_holds_call_19 (goodIn_app cg_holds_call_20 (cg_holds_call_21))))))))))))))))))))) cg_holds_call_22) cg_holds_call_23) cg_holds_call_24) cg_holds_call_25)) (goodIn_sub (fun _ h => List.mem_cons_of_mem _ (List.mem_append_left _ (List.mem_append_left _ (List.mem_append_right _ h)))) (by decide +kernel))) (goodIn_sub (fun _ h => List.mem_cons_of_mem _ (List.mem_append_left _ (List.mem_append_right _ h))) (by decide +kernel))) (goodIn_sub (fun _ h => List.mem_cons_of_mem _ (List.mem_append_right _ h)) (by decide +kernel))
set_option maxRecDepth 20000 in
theorem gL_holds_L_call : GoodIn wsL_holds (va_wsS RL 164 yL_call wsL_call) := goodIn_app (goodIn_of _ (by decide +kernel)) ggL_holds_L_call
set_option maxRecDepth 20000 in
theorem ggL_holds_X3_stuck : GoodIn wsL_holds wsX3_stuck := goodIn_r _ [509, 40, 233, 234, 235, 65, 236, 67, 315, 316, 317, 318, 70, 311, 312, 313, 314, 170, 171, 172, 173, 166, 167, 168, 169, 174, 175, 176, 177, 69, 68, 450, 510, 511, 512, 513, 514, 515, 521, 522, 523, 524, 525, 526, 527, 528, 529] (by decide +kernel) (by decide +kernel)
set_option maxRecDepth 20000 in
theorem gL_holds_X3_stuck : GoodIn wsL_holds (wsV RL 178 RX3 yX3_stuck wsX3_stuck) := goodIn_app (goodIn_of _ (by decide +kernel)) ggL_holds_X3_stuck
set_option maxRecDepth 20000 in
theorem cg_act_call_0 : GoodIn wsL_act [Cond.code yL_call cL_call 5 (some .int)] := goodIn_r _ [4] (by decide +kernel) (by decide +kernel)
set_option maxRecDepth 20000 in
theorem cg_act_call_1 : GoodIn wsL_act wsL_call_r1 := goodIn_r _ [5, 6, 3, 7, 8, 9, 10, 11, 12, 13, 14, 15, 16, 17, 18, 19, 20, 21, 22, 23, 24, 25, 26, 27] (by decide +kernel) (by decide +kernel)
set_option maxRecDepth 20000 in
theorem cg_act_call_2 : GoodIn wsL_act wsL_call_r2 := goodIn_r _ [28, 29, 30, 31, 32, 33, 34, 35, 36, 37, 38, 39, 40, 41, 42, 43, 44, 45, 46, 47, 48, 49, 50, 51] (by decide +kernel) (by decide +kernel)
set_option maxRecDepth 20000 in
theorem cg_act_call_3 : GoodIn wsL_act wsL_call_r3 := goodIn_r _ [52, 53, 54, 55, 56, 57, 58, 59, 60, 61, 62, 63, 64, 65, 66, 67, 68, 69, 70, 71, 72, 73, 74, 75] (by decide +kernel) (by decide +kernel)
set_option maxRecDepth 20000 in
theorem cg_act_call_4 : GoodIn wsL_act wsL_call_r4 := goodIn_r _ [76, 77, 78, 79, 80, 81, 82, 83, 84, 85, 86, 87, 88, 89, 90, 91, 92, 93, 94, 95, 96, 97, 98, 99] (by decide +kernel) (by decide +kernel)
set_option maxRecDepth 20000 in
theorem cg_act_call_5 : GoodIn wsL_act wsL_call_r5 := goodIn_r _ [100, 101, 102, 103, 104, 105, 106, 107, 108, 109, 110, 111, 112, 113, 114, 115, 116, 117, 118, 119, 120, 121, 122, 123] (by decide +kernel) (by decide +kernel)
set_option maxRecDepth 20000 in
theorem cg_act_call_6 : GoodIn wsL_act wsL_call_r6 := goodIn_r _ [124, 125, 126, 127, 128, 129, 130, 131, 132, 133, 134, 135, 136, 137, 138, 139, 140, 141, 142, 143, 144, 145, 146, 147] (by decide +kernel) (by decide +kernel)
set_option maxRecDepth 20000 in
theorem cg_act_call_7 : GoodIn wsL_act wsL_call_r7 := goodIn_r _ [148, 149, 150, 151, 152, 153, 154, 155, 156, 157, 158, 159, 160, 161, 162, 163, 164, 165, 166, 167, 168, 169, 170, 171] (by decide +kernel) (by decide +kernel)
set_option maxRecDepth 20000 in
theorem cg_act_call_8 : GoodIn wsL_act wsL_call_r8 := goodIn_r _ [172, 173, 174, 175, 176, 177, 178, 179, 180, 181, 182, 183, 184, 185, 186, 187, 188, 189, 190, 191, 192, 193, 194, 195] (by decide +kernel) (by decide +kernel)
set_option maxRecDepth 20000 in
theorem cg_act_call_9 : GoodIn wsL_act wsL_call_r9 := goodIn_r _ [196, 197, 198, 199, 200, 201, 202, 203, 204, 205, 206, 207, 208, 209, 210, 211, 212, 213, 214, 215, 216, 217, 218, 219] (by decide +kernel) (by decide +kernel)
set_option maxRecDepth 20000 in
theorem cg_act_call_10 : GoodIn wsL_act wsL_call_r10 := goodIn_r _ [220, 221, 222, 223, 224, 225, 226, 227, 228, 229, 230, 231, 232, 233, 234, 235, 236, 237, 238, 239, 240, 241, 242, 243] (by decide +kernel) (by decide +kernel)
set_option maxRecDepth 20000 in
theorem cg_act_call_11 : GoodIn wsL_act wsL_call_r11 := goodIn_r _ [244, 245, 246, 247, 248, 249, 250, 251, 252, 253, 254, 255, 256, 257, 258, 259, 260, 261, 262, 263, 264, 265, 266, 267] (by decide +kernel) (by decide +kernel)
set_option maxRecDepth 20000 in
theorem cg_act_call_12 : GoodIn wsL_act wsL_call_r12 := goodIn_r _ [268, 269, 270, 271, 272, 273, 274, 275, 276, 277, 278, 279, 280, 281, 282, 283, 284, 285, 286, 287, 288, 289, 290, 291] (by decide +kernel) (by decide +kernel)
set_option maxRecDepth 20000 in
theorem cg_act_call_13 : GoodIn wsL_act wsL_call_r13 := goodIn_r _ [292, 293, 294, 295, 296, 297, 298, 299, 300, 301, 302, 303, 304, 305, 306, 307, 308, 309, 310, 311, 312, 313, 314, 315] (by decide +kernel) (by decide +kernel)
set_option maxRecDepth 20000 in
theorem cg_act_call_14 : GoodIn wsL_act wsL_call_r14 := goodIn_r _ [316, 317, 318, 319, 320, 321, 322, 323, 324, 325, 326, 327, 328, 329, 330, 331, 332, 333, 334, 335, 336, 337, 338, 339] (by decide +kernel) (by decide +kernel)
set_option maxRecDepth 20000 in
theorem cg_act_call_15 : GoodIn wsL_act wsL_call_r15 := goodIn_r _ [340, 341, 342, 343, 344, 345, 346, 347, 348, 349, 350, 351, 352, 353, 354, 355, 356, 357, 358, 359, 360, 361, 362, 363] (by decide +kernel) (by decide +kernel)
set_option maxRecDepth 20000 in
theorem cg_act_call_16 : GoodIn wsL_act wsL_call_r16 := goodIn_r _ [364, 365, 366, 367, 368, 369, 370, 371, 372, 373, 374, 375, 376, 377, 378, 379, 380, 381, 382, 383, 384, 385, 386, 387] (by decide +kernel) (by decide +kernel)
set_option maxRecDepth 20000 in
theorem cg_act_call_17 : GoodIn wsL_act wsL_call_r17 := goodIn_r _ [388, 389, 390, 391, 392, 393, 394, 395, 396, 397, 398, 399, 400, 401, 402, 403, 404, 405, 406, 407, 408, 409, 410, 411] (by decide +kernel) (by decide +kernel)
set_option maxRecDepth 20000 in
theorem cg_act_call_18 : GoodIn wsL_act wsL_call_r18 := goodIn_r _ [412, 413, 414, 415, 416, 417, 418, 419, 420, 421, 422, 423, 424, 425, 426, 427, 428, 429, 430, 431, 432, 433, 434, 435] (by decide +kernel) (by decide +kernel)
set_option maxRecDepth 20000 in
theorem cg_act_call_19 : GoodIn wsL_act wsL_call_r19 := goodIn_r _ [436, 437, 438, 439, 440, 441, 442, 443, 444, 445, 446, 447, 448, 449, 450, 451, 452, 453, 454, 455, 456, 457, 458, 459] (by decide +kernel) (by decide +kernel)
set_option maxRecDepth 20000 in
theorem cg_act_call_20 : GoodIn wsL_act wsL_call_r20 := goodIn_r _ [460, 461, 462, 463, 464, 465, 466, 467, 468, 469, 470, 471, 472, 473, 474, 475, 476, 477, 478, 479, 480, 481, 482, 483] (by decide +kernel) (by decide +kernel)
set_option maxRecDepth 20000 in
theorem cg_act_call_21 : GoodIn wsL_act wsL_call_r21 := goodIn_r _ [484, 485, 486, 487, 488, 489, 490, 491, 492, 493, 494, 495, 496, 497, 498, 499, 500, 501, 502, 503, 504, 505] (by decide +kernel) (by decide +kernel)
set_option maxRecDepth 20000 in
theorem cg_act_call_22 : GoodIn wsL_act wsX30 := goodIn_r _ [514, 515, 516, 517, 518, 519] (by decide +kernel) (by decide +kernel)
set_option maxRecDepth 20000 in
theorem cg_act_call_23 : GoodIn wsL_act wsX20 := goodIn_r _ [520, 521, 522, 523, 524] (by decide +kernel) (by decide +kernel)
set_option maxRecDepth 20000 in
theorem cg_act_call_24 : GoodIn wsL_act wsX00 := goodIn_r _ [525, 526, 527, 528, 529, 530, 531, 532, 533] (by decide +kernel) (by decide +kernel)
set_option maxRecDepth 20000 in
theorem cg_act_call_25 : GoodIn wsL_act wsX10 := goodIn_r _ [534, 535, 536] (by decide +kernel) (by decide +kernel)
set_option maxRecDepth 20000 in
theorem ggL_act_L_call : GoodIn wsL_act wsL_call := goodIn_ca (goodIn_ca (goodIn_ca (goodIn_app (a := [_]) cg_act_call_0 (goodIn_app (goodIn_app (goodIn_app (goodIn_app (goodIn_app cg_act_call_1 (goodIn_app cg_act_call_2 (goodIn_app cg_act_call_3 (goodIn_app cg_act_call_4 (goodIn_app cg_act_call_5 (goodIn_app cg_act_call_6 (goodIn_app cg_act_call_7 (goodIn_app cg_act_call_8 (goodIn_app cg_act_call_9 (goodIn_app cg_act_call_10 (goodIn_app cg_act_call_11 (goodIn_app cg_act_call_12 (goodIn_app cg_act_call_13 (goodIn_app cg_act_call_14 (goodIn_app cg_act_call_15 (goodIn_app cg_act_call_16 (goodIn_app cg_act_call_17 (goodIn_app cg_act_call_18 (goodIn_app cg_act_call_19 (goodIn_app cg_act_call_20 (cg_act_call_21))))))))))))))))))))) cg_act_call_22) cg_act_call_23) cg_act_call_24) cg_act_call_25)) (goodIn_sub (fun _ h => List.mem_cons_of_mem _ (List.mem_append_left _ (List.mem_append_left _ (List.mem_append_right _ h)))) (by decide +kernel))) (goodIn_sub (fun _ h => List.mem_cons_of_mem _ (List.mem_append_left _ (List.mem_append_right _ h))) (by decide +kernel))) (goodIn_sub (fun _ h => List.mem_cons_of_mem _ (List.mem_append_right _ h)) (by decide +kernel))
set_option maxRecDepth 20000 in
theorem gL_act_L_call : GoodIn wsL_act (va_wsS RL 164 yL_call wsL_call) := goodIn_app (goodIn_of _ (by decide +kernel)) ggL_act_L_call
set_option maxRecDepth 20000 in
theorem ggL_act_X3_flush : GoodIn wsL_act wsX3_flush := goodIn_r _ [509, 41, 40, 363, 364, 365, 87, 366, 89, 367, 368, 369, 370, 371, 372, 373, 374, 375, 65, 376, 67, 71, 72, 73, 74, 68, 69, 70, 75, 76, 77, 78, 79, 510, 511, 512, 513, 158, 159, 160, 161, 162, 163, 164, 165, 166, 167, 168, 169, 170, 171, 172, 173, 174, 175, 176, 177, 186, 187, 188, 189, 190, 191, 192, 193, 123, 124, 125, 126, 127, 128, 129, 130, 131, 132, 133, 134, 514, 515, 516, 517, 518, 519, 534, 535, 536, 525, 526, 527, 528, 529, 530, 531, 532, 533] (by decide +kernel) (by decide +kernel)
set_option maxRecDepth 20000 in
theorem gL_act_X3_flush : GoodIn wsL_act (wsV RL 181 RX3 yX3_flush wsX3_flush) := goodIn_app (goodIn_of _ (by decide +kernel)) ggL_act_X3_flush
set_option maxRecDepth 20000 in
theorem ggL_alike_L_trySimulate : GoodIn wsL_alike wsL_trySimulate := goodIn_ca (goodIn_r _ [4, 5, 6, 7, 8, 9, 10, 11, 12, 13, 14, 15, 16, 17, 18, 19, 20, 21, 22, 23, 24, 25, 26, 27, 28, 29, 30, 31, 32, 33, 34, 35, 36, 37, 38, 39, 40, 41, 42, 43, 44, 45, 46, 47, 48, 49, 50, 51, 52, 53, 54, 55, 56, 57, 58, 59, 60, 61, 62, 63, 64, 65, 66, 67, 68, 69, 70, 71, 72, 73, 74, 75, 76, 77, 78, 79, 80, 81, 82, 83, 84, 85, 86, 87, 88, 89, 90, 91, 92, 93, 94, 95, 96, 97, 98, 99, 100, 101, 102, 103, 104, 105, 106, 107, 108, 109, 110, 111, 112, 113, 114, 115, 116, 117, 118, 119, 120, 121, 122, 123, 124, 125, 126, 127, 128, 129, 130, 131, 132, 133, 134, 135, 136, 137, 138, 139, 140, 141, 142, 143, 144, 523, 524, 525, 526, 527, 528, 529, 530, 531, 532, 533, 534, 535, 536, 537] (by decide +kernel) (by decide +kernel)) (goodIn_sub (fun _ h => List.mem_cons_of_mem _ (List.mem_append_left _ (List.mem_append_left _ (List.mem_append_right _ h)))) (by decide +kernel))
set_option maxRecDepth 20000 in
theorem gL_alike_L_trySimulate : GoodIn wsL_alike (va_wsS RL 174 yL_trySimulate wsL_trySimulate) := goodIn_app (goodIn_of _ (by decide +kernel)) ggL_alike_L_trySimulate
set_option maxRecDepth 20000 in
theorem ggL_alike_X3_stuck : GoodIn wsL_alike wsX3_stuck := goodIn_r _ [148, 15, 141, 142, 143, 21, 144, 23, 149, 150, 151, 152, 30, 153, 154, 155, 156, 113, 114, 115, 116, 109, 110, 111, 112, 117, 118, 119, 120, 29, 28, 157, 523, 524, 525, 526, 527, 528, 529, 530, 531, 532, 533, 534, 535, 536, 537] (by decide +kernel) (by decide +kernel)
set_option maxRecDepth 20000 in
theorem gL_alike_X3_stuck : GoodIn wsL_alike (wsV RL 178 RX3 yX3_stuck wsX3_stuck) := goodIn_app (goodIn_of _ (by decide +kernel)) ggL_alike_X3_stuck
set_option maxRecDepth 20000 in
theorem cg_alike_call_0 : GoodIn wsL_alike [Cond.code yL_call cL_call 5 (some .int)] := goodIn_r _ [160] (by decide +kernel) (by decide +kernel)
set_option maxRecDepth 20000 in
theorem cg_alike_call_1 : GoodIn wsL_alike wsL_call_r1 := goodIn_r _ [161, 162, 3, 163, 5, 164, 6, 165, 166, 167, 168, 10, 169, 12, 13, 170, 171, 172, 173, 174, 175, 176, 177, 178] (by decide +kernel) (by decide +kernel)
set_option maxRecDepth 20000 in
theorem cg_alike_call_2 : GoodIn wsL_alike wsL_call_r2 := goodIn_r _ [179, 180, 181, 182, 183, 184, 185, 186, 187, 188, 189, 190, 15, 191, 192, 193, 194, 195, 196, 197, 198, 199, 200, 201] (by decide +kernel) (by decide +kernel)
set_option maxRecDepth 20000 in
theorem cg_alike_call_3 : GoodIn wsL_alike wsL_call_r3 := goodIn_r _ [202, 203, 204, 205, 206, 207, 208, 209, 210, 211, 212, 213, 214, 21, 215, 23, 28, 29, 30, 24, 25, 26, 27, 31] (by decide +kernel) (by decide +kernel)
set_option maxRecDepth 20000 in
theorem cg_alike_call_4 : GoodIn wsL_alike wsL_call_r4 := goodIn_r _ [32, 33, 34, 35, 216, 217, 218, 219, 220, 221, 222, 223, 224, 225, 226, 227, 228, 229, 230, 231, 232, 233, 234, 235] (by decide +kernel) (by decide +kernel)
set_option maxRecDepth 20000 in
theorem cg_alike_call_5 : GoodIn wsL_alike wsL_call_r5 := goodIn_r _ [236, 237, 238, 239, 240, 241, 242, 40, 41, 42, 43, 44, 45, 46, 47, 48, 49, 50, 51, 52, 53, 54, 55, 56] (by decide +kernel) (by decide +kernel)
set_option maxRecDepth 20000 in
theorem cg_alike_call_6 : GoodIn wsL_alike wsL_call_r6 := goodIn_r _ [57, 58, 59, 60, 61, 62, 63, 64, 65, 66, 67, 68, 69, 70, 71, 72, 73, 74, 75, 76, 77, 78, 89, 90] (by decide +kernel) (by decide +kernel)
set_option maxRecDepth 20000 in
theorem cg_alike_call_7 : GoodIn wsL_alike wsL_call_r7 := goodIn_r _ [91, 92, 93, 94, 95, 96, 97, 98, 99, 100, 101, 102, 103, 104, 105, 106, 107, 108, 109, 110, 111, 112, 113, 114] (by decide +kernel) (by decide +kernel)
set_option maxRecDepth 20000 in
theorem cg_alike_call_8 : GoodIn wsL_alike wsL_call_r8 := goodIn_r _ [115, 116, 117, 118, 119, 120, 121, 122, 123, 124, 125, 126, 127, 128, 129, 130, 131, 132, 133, 134, 135, 136, 79, 80] (by decide +kernel) (by decide +kernel)
set_option maxRecDepth 20000 in
theorem cg_alike_call_9 : GoodIn wsL_alike wsL_call_r9 := goodIn_r _ [81, 82, 83, 84, 85, 86, 87, 88, 243, 244, 245, 246, 247, 248, 249, 250, 251, 252, 253, 254, 255, 256, 257, 258] (by decide +kernel) (by decide +kernel)
set_option maxRecDepth 20000 in
theorem cg_alike_call_10 : GoodIn wsL_alike wsL_call_r10 := goodIn_r _ [259, 260, 261, 262, 263, 264, 265, 266, 267, 268, 269, 270, 271, 141, 142, 143, 144, 272, 273, 274, 275, 276, 277, 278] (by decide +kernel) (by decide +kernel)
set_option maxRecDepth 20000 in
theorem cg_alike_call_11 : GoodIn wsL_alike wsL_call_r11 := goodIn_r _ [279, 280, 281, 282, 283, 137, 138, 139, 140, 284, 285, 286, 287, 288, 289, 290, 291, 292, 293, 294, 295, 296, 297, 298] (by decide +kernel) (by decide +kernel)
set_option maxRecDepth 20000 in
theorem cg_alike_call_12 : GoodIn wsL_alike wsL_call_r12 := goodIn_r _ [299, 300, 301, 302, 303, 304, 305, 306, 307, 308, 309, 310, 311, 312, 313, 314, 315, 316, 317, 318, 319, 320, 321, 322] (by decide +kernel) (by decide +kernel)
set_option maxRecDepth 20000 in
theorem cg_alike_call_13 : GoodIn wsL_alike wsL_call_r13 := goodIn_r _ [323, 324, 325, 326, 327, 328, 329, 330, 331, 332, 333, 334, 335, 336, 337, 338, 339, 340, 341, 153, 154, 155, 156, 149] (by decide +kernel) (by decide +kernel)
set_option maxRecDepth 20000 in
theorem cg_alike_call_14 : GoodIn wsL_alike wsL_call_r14 := goodIn_r _ [150, 151, 152, 342, 343, 344, 345, 346, 347, 348, 349, 350, 351, 352, 353, 354, 355, 356, 357, 358, 359, 360, 361, 362] (by decide +kernel) (by decide +kernel)
set_option maxRecDepth 20000 in
theorem cg_alike_call_15 : GoodIn wsL_alike wsL_call_r15 := goodIn_r _ [363, 364, 365, 366, 367, 368, 369, 370, 371, 372, 373, 374, 375, 376, 377, 378, 379, 380, 381, 382, 383, 384, 385, 386] (by decide +kernel) (by decide +kernel)
set_option maxRecDepth 20000 in
theorem cg_alike_call_16 : GoodIn wsL_alike wsL_call_r16 := goodIn_r _ [387, 388, 389, 390, 391, 392, 393, 394, 395, 396, 19, 20, 22, 397, 398, 399, 400, 401, 402, 403, 404, 405, 406, 407] (by decide +kernel) (by decide +kernel)
set_option maxRecDepth 20000 in
theorem cg_alike_call_17 : GoodIn wsL_alike wsL_call_r17 := goodIn_r _ [408, 409, 410, 411, 412, 413, 414, 415, 416, 417, 418, 419, 420, 421, 422, 423, 424, 425, 426, 427, 428, 429, 430, 431] (by decide +kernel) (by decide +kernel)
set_option maxRecDepth 20000 in
theorem cg_alike_call_18 : GoodIn wsL_alike wsL_call_r18 := goodIn_r _ [432, 433, 434, 435, 436, 437, 438, 439, 440, 441, 442, 443, 444, 445, 446, 447, 448, 449, 450, 451, 452, 453, 454, 455] (by decide +kernel) (by decide +kernel)
set_option maxRecDepth 20000 in
theorem cg_alike_call_19 : GoodIn wsL_alike wsL_call_r19 := goodIn_r _ [456, 457, 458, 459, 14, 18, 460, 461, 462, 463, 464, 465, 466, 467, 157, 468, 469, 470, 471, 472, 473, 474, 475, 476] (by decide +kernel) (by decide +kernel)
set_option maxRecDepth 20000 in
theorem cg_alike_call_20 : GoodIn wsL_alike wsL_call_r20 := goodIn_r _ [477, 478, 479, 480, 481, 482, 483, 484, 485, 486, 487, 488, 489, 490, 491, 492, 493, 494, 495, 496, 497, 498, 499, 500] (by decide +kernel) (by decide +kernel)
set_option maxRecDepth 20000 in
theorem cg_alike_call_21 : GoodIn wsL_alike wsL_call_r21 := goodIn_r _ [501, 502, 503, 504, 505, 506, 507, 508, 509, 510, 511, 512, 513, 514, 515, 516, 517, 518, 519, 520, 521, 522] (by decide +kernel) (by decide +kernel)
set_option maxRecDepth 20000 in
theorem cg_alike_call_22 : GoodIn wsL_alike wsX30 := goodIn_r _ [523, 524, 525, 526, 527, 528] (by decide +kernel) (by decide +kernel)
set_option maxRecDepth 20000 in
theorem cg_alike_call_23 : GoodIn wsL_alike wsX20 := goodIn_r _ [538, 539, 540, 541, 542] (by decide +kernel) (by decide +kernel)
set_option maxRecDepth 20000 in
theorem cg_alike_call_24 : GoodIn wsL_alike wsX00 := goodIn_r _ [529, 530, 531, 532, 533, 534, 535, 536, 537] (by decide +kernel) (by decide +kernel)
set_option maxRecDepth 20000 in
theorem cg_alike_call_25 : GoodIn wsL_alike wsX10 := goodIn_r _ [543, 544, 545] (by decide +kernel) (by decide +kernel)
set_option maxRecDepth 20000 in
theorem ggL_alike_L_call : GoodIn wsL_alike wsL_call := goodIn_ca (goodIn_ca (goodIn_ca (goodIn_app (a := [_]) cg_alike_call_0 (goodIn_app (goodIn_app (goodIn_app (goodIn_app (goodIn_app cg_alike_call_1 (goodIn_app cg_alike_call_2 (goodIn_app cg_alike_call_3 (goodIn_app cg_alike_call_4 (goodIn_app cg_alike_call_5 (goodIn_app cg_alike_call_6 (goodIn_app cg_alike_call_7 (goodIn_app cg_alike_call_8 (goodIn_app cg_alike_call_9 (goodIn_app cg_alike_call_10 (goodIn_app cg_alike_call_11 (goodIn_app cg_alike_call_12 (goodIn_app cg_alike_call_13 (goodIn_app cg_alike_call_14 (goodIn_app cg_alike_call_15 (goodIn_app cg_alike_call_16 (goodIn_app cg_alike_call_17 (goodIn_app cg_alike_call_18 (goodIn_app cg_alike_call_19 (goodIn_app cg_alike_call_20 (cg_alike_call_21))))))))))))))))))))) cg_alike_call_22) cg_alike_call_23) cg_alike_call_24) cg_alike_call_25)) (goodIn_sub (fun _ h => List.mem_cons_of_mem _ (List.mem_append_left _ (List.mem_append_left _ (List.mem_append_right _ h)))) (by decide +kernel))) (goodIn_sub (fun _ h => List.mem_cons_of_mem _ (List.mem_append_left _ (List.mem_append_right _ h))) (by decide +kernel))) (goodIn_sub (fun _ h => List.mem_cons_of_mem _ (List.mem_append_right _ h)) (by decide +kernel))
set_option maxRecDepth 20000 in
theorem gL_alike_L_call : GoodIn wsL_alike (va_wsS RL 164 yL_call wsL_call) := goodIn_app (goodIn_of _ (by decide +kernel)) ggL_alike_L_call
