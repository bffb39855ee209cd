set_option maxRecDepth 20000 in
theorem ggL_law_X4_block : GoodIn wsL_law wsX4_block := goodIn_r _ [497, 498, 74, 180, 181, 5, 182, 109, 111, 112, 113, 114, 115, 116, 117, 118, 231, 232, 233, 195, 196, 197, 186, 187, 188, 871, 872, 873, 874, 875, 876, 877, 878, 879, 880, 881, 882, 883] (by decide +kernel) (by decide +kernel)
set_option maxRecDepth 20000 in
theorem gL_law_X4_block : GoodIn wsL_law (wsV RL 121 RX4 yX4_block wsX4_block) := goodIn_app (goodIn_of _ (by decide +kernel)) ggL_law_X4_block
set_option maxRecDepth 20000 in
theorem ggL_law_L_range : GoodIn wsL_law wsL_range := goodIn_ca (goodIn_ca (goodIn_r _ [501, 471, 86, 502, 503, 504, 2, 505, 479, 480, 92, 93, 21, 422, 423, 424, 20, 425, 312, 313, 314, 315, 41, 506, 507, 508, 509, 510, 511, 512, 513, 514, 515, 516, 517, 518, 519, 520, 521, 44, 522, 523, 524, 525, 355, 356, 357, 358, 351, 352, 353, 354, 359, 360, 361, 362, 43, 42, 526, 527, 528, 529, 530, 348, 349, 350, 53, 865, 866, 867, 868, 869, 870, 889, 890, 891, 892, 893, 894, 895, 896, 897] (by decide +kernel) (by decide +kernel)) (goodIn_sub (fun _ h => List.mem_append_right _ h) (by decide +kernel))) (goodIn_sub (fun _ h => List.mem_append_left _ (List.mem_append_left _ (List.mem_append_right _ h))) (by decide +kernel))
set_option maxRecDepth 20000 in
theorem gL_law_L_range : GoodIn wsL_law (va_wsS RL 122 yL_range wsL_range) := goodIn_app (goodIn_of _ (by decide +kernel)) ggL_law_L_range
set_option maxRecDepth 20000 in
theorem ggL_law_X4_range : GoodIn wsL_law wsX4_range := goodIn_r _ [534, 74, 255, 192, 193, 5, 194, 195, 196, 197, 186, 187, 188, 180, 181, 182, 109, 111, 112, 113, 114, 115, 116, 117, 118, 535, 536, 537, 198, 199, 200, 222, 223, 224, 225, 226, 227, 228, 229, 230, 231, 232, 233, 234, 235, 236, 871, 872, 873, 874, 875, 876, 877, 878, 879, 880, 881, 882, 883] (by decide +kernel) (by decide +kernel)
set_option maxRecDepth 20000 in
theorem gL_law_X4_range : GoodIn wsL_law (wsV RL 124 RX4 yX4_range wsX4_range) := goodIn_app (goodIn_of _ (by decide +kernel)) ggL_law_X4_range
set_option maxRecDepth 20000 in
theorem ggL_law_L_pinned : GoodIn wsL_law wsL_pinned := goodIn_ca (goodIn_ca (goodIn_r _ [540, 471, 86, 541, 542, 543, 2, 544, 92, 93, 21, 545, 546, 547, 479, 480, 382, 383, 384, 548, 549, 550, 20, 551, 43, 552, 553, 554, 555, 42, 556, 557, 558, 559, 865, 866, 867, 868, 869, 870, 889, 890, 891, 892, 893, 894, 895, 896, 897] (by decide +kernel) (by decide +kernel)) (goodIn_sub (fun _ h => List.mem_append_left _ (List.mem_append_left _ (List.mem_append_right _ h))) (by decide +kernel))) (goodIn_sub (fun _ h => List.mem_append_right _ h) (by decide +kernel))
set_option maxRecDepth 20000 in
theorem gL_law_L_pinned : GoodIn wsL_law (va_wsS RL 125 yL_pinned wsL_pinned) := goodIn_app (goodIn_of _ (by decide +kernel)) ggL_law_L_pinned
set_option maxRecDepth 20000 in
theorem ggL_law_X4_pinned : GoodIn wsL_law wsX4_pinned := goodIn_r _ [563, 564, 74, 111, 112, 5, 113, 114, 115, 116, 117, 118, 871, 872, 873, 874, 875, 876, 877, 878, 879, 880, 881, 882, 883] (by decide +kernel) (by decide +kernel)
set_option maxRecDepth 20000 in
theorem gL_law_X4_pinned : GoodIn wsL_law (wsV RL 127 RX4 yX4_pinned wsX4_pinned) := goodIn_app (goodIn_of _ (by decide +kernel)) ggL_law_X4_pinned
set_option maxRecDepth 20000 in
theorem ggL_law_L_setting : GoodIn wsL_law wsL_setting := goodIn_ca (goodIn_r _ [567, 86, 568, 569, 570, 2, 571, 92, 93, 21, 396, 397, 398, 572, 573, 574, 20, 575, 44, 865, 866, 867, 868, 869, 870, 889, 890, 891, 892, 893, 894, 895, 896, 897] (by decide +kernel) (by decide +kernel)) (goodIn_sub (fun _ h => List.mem_append_left _ (List.mem_append_left _ (List.mem_append_right _ h))) (by decide +kernel))
set_option maxRecDepth 20000 in
theorem gL_law_L_setting : GoodIn wsL_law (va_wsS RL 128 yL_setting wsL_setting) := goodIn_app (goodIn_of _ (by decide +kernel)) ggL_law_L_setting
set_option maxRecDepth 20000 in
theorem ggL_law_X4_setting : GoodIn wsL_law wsX4_setting := goodIn_r _ [579, 255, 74, 111, 112, 5, 113, 114, 115, 116, 117, 118, 871, 872, 873, 874, 875, 876, 877, 878, 879, 880, 881, 882, 883] (by decide +kernel) (by decide +kernel)
set_option maxRecDepth 20000 in
theorem gL_law_X4_setting : GoodIn wsL_law (wsV RL 130 RX4 yX4_setting wsX4_setting) := goodIn_app (goodIn_of _ (by decide +kernel)) ggL_law_X4_setting
set_option maxRecDepth 20000 in
theorem ggL_law_L_write : GoodIn wsL_law wsL_write := goodIn_ca (goodIn_ca (goodIn_ca (goodIn_r _ [582, 471, 86, 87, 583, 584, 585, 2, 586, 26, 21, 587, 588, 589, 92, 93, 94, 95, 476, 477, 478, 479, 480, 298, 299, 300, 301, 302, 303, 295, 296, 297, 590, 591, 592, 25, 593, 274, 594, 67, 595, 596, 597, 598, 599, 600, 601, 20, 602, 41, 49, 50, 51, 52, 42, 43, 44, 53, 54, 55, 56, 57, 304, 305, 306, 307, 308, 309, 310, 311, 312, 313, 314, 315, 316, 317, 318, 319, 865, 866, 867, 868, 869, 870, 898, 899, 900, 889, 890, 891, 892, 893, 894, 895, 896, 897] (by decide +kernel) (by decide +kernel)) (goodIn_sub (fun _ h => List.mem_append_left _ (List.mem_append_left _ (List.mem_append_right _ h))) (by decide +kernel))) (goodIn_sub (fun _ h => List.mem_append_left _ (List.mem_append_right _ h)) (by decide +kernel))) (goodIn_sub (fun _ h => List.mem_append_right _ h) (by decide +kernel))
set_option maxRecDepth 20000 in
theorem gL_law_L_write : GoodIn wsL_law (va_wsS RL 131 yL_write wsL_write) := goodIn_app (goodIn_of _ (by decide +kernel)) ggL_law_L_write
set_option maxRecDepth 20000 in
theorem ggL_law_X4_write : GoodIn wsL_law wsX4_write := goodIn_r _ [606, 74, 176, 177, 5, 178, 179, 180, 181, 182, 109, 111, 112, 113, 114, 115, 116, 117, 118, 607, 608, 609, 610, 407, 76, 408, 409, 410, 183, 184, 185, 186, 187, 188, 189, 190, 191, 192, 193, 194, 195, 196, 197, 198, 199, 200, 871, 872, 873, 874, 875, 876, 877, 878, 879, 880, 881, 882, 883] (by decide +kernel) (by decide +kernel)
set_option maxRecDepth 20000 in
theorem gL_law_X4_write : GoodIn wsL_law (wsV RL 133 RX4 yX4_write wsX4_write) := goodIn_app (goodIn_of _ (by decide +kernel)) ggL_law_X4_write
set_option maxRecDepth 20000 in
theorem ggL_law_L_free : GoodIn wsL_law wsL_free := goodIn_ca (goodIn_ca (goodIn_ca (goodIn_r _ [613, 471, 86, 87, 614, 615, 616, 2, 617, 26, 21, 587, 588, 589, 92, 93, 94, 95, 476, 477, 478, 479, 480, 298, 299, 300, 301, 302, 303, 295, 296, 297, 590, 591, 592, 25, 593, 274, 594, 67, 595, 596, 597, 598, 599, 600, 601, 20, 602, 41, 49, 50, 51, 52, 42, 43, 44, 53, 54, 55, 56, 57, 323, 324, 325, 326, 327, 328, 329, 330, 308, 309, 310, 311, 312, 313, 314, 315, 316, 317, 318, 319, 865, 866, 867, 868, 869, 870, 898, 899, 900, 889, 890, 891, 892, 893, 894, 895, 896, 897] (by decide +kernel) (by decide +kernel)) (goodIn_sub (fun _ h => List.mem_append_left _ (List.mem_append_left _ (List.mem_append_right _ h))) (by decide +kernel))) (goodIn_sub (fun _ h => List.mem_append_left _ (List.mem_append_right _ h)) (by decide +kernel))) (goodIn_sub (fun _ h => List.mem_append_right _ h) (by decide +kernel))
set_option maxRecDepth 20000 in
theorem gL_law_L_free : GoodIn wsL_law (va_wsS RL 134 yL_free wsL_free) := goodIn_app (goodIn_of _ (by decide +kernel)) ggL_law_L_free
set_option maxRecDepth 20000 in
theorem ggL_law_X4_free : GoodIn wsL_law wsX4_free := goodIn_r _ [621, 74, 176, 177, 5, 178, 179, 180, 181, 182, 109, 111, 112, 113, 114, 115, 116, 117, 118, 607, 608, 609, 610, 407, 76, 408, 409, 410, 201, 202, 203, 204, 205, 206, 186, 187, 188, 198, 199, 200, 189, 190, 191, 192, 193, 194, 195, 196, 197, 871, 872, 873, 874, 875, 876, 877, 878, 879, 880, 881, 882, 883] (by decide +kernel) (by decide +kernel)
set_option maxRecDepth 20000 in
theorem gL_law_X4_free : GoodIn wsL_law (wsV RL 136 RX4 yX4_free wsX4_free) := goodIn_app (goodIn_of _ (by decide +kernel)) ggL_law_X4_free
set_option maxRecDepth 20000 in
theorem ggL_law_L_pin : GoodIn wsL_law wsL_pin := goodIn_ca (goodIn_ca (goodIn_ca (goodIn_r _ [624, 471, 86, 87, 625, 626, 627, 2, 628, 26, 21, 545, 546, 547, 479, 480, 382, 383, 384, 587, 588, 589, 92, 93, 94, 95, 476, 477, 478, 298, 299, 300, 301, 302, 303, 295, 296, 297, 590, 591, 592, 25, 593, 274, 594, 67, 595, 596, 597, 598, 599, 600, 601, 20, 602, 41, 49, 50, 51, 52, 42, 43, 44, 53, 54, 55, 56, 57, 385, 386, 387, 388, 450, 451, 452, 453, 359, 360, 361, 362, 865, 866, 867, 868, 869, 870, 898, 899, 900, 889, 890, 891, 892, 893, 894, 895, 896, 897] (by decide +kernel) (by decide +kernel)) (goodIn_sub (fun _ h => List.mem_append_right _ h) (by decide +kernel))) (goodIn_sub (fun _ h => List.mem_append_left _ (List.mem_append_left _ (List.mem_append_right _ h))) (by decide +kernel))) (goodIn_sub (fun _ h => List.mem_append_left _ (List.mem_append_right _ h)) (by decide +kernel))
set_option maxRecDepth 20000 in
theorem gL_law_L_pin : GoodIn wsL_law (va_wsS RL 137 yL_pin wsL_pin) := goodIn_app (goodIn_of _ (by decide +kernel)) ggL_law_L_pin
set_option maxRecDepth 20000 in
theorem ggL_law_X4_pin : GoodIn wsL_law wsX4_pin := goodIn_r _ [632, 564, 74, 111, 112, 5, 113, 176, 177, 178, 179, 180, 181, 182, 109, 114, 115, 116, 117, 118, 607, 608, 609, 610, 407, 76, 408, 409, 410, 246, 247, 248, 249, 250, 251, 231, 232, 233, 871, 872, 873, 874, 875, 876, 877, 878, 879, 880, 881, 882, 883] (by decide +kernel) (by decide +kernel)
set_option maxRecDepth 20000 in
theorem gL_law_X4_pin : GoodIn wsL_law (wsV RL 140 RX4 yX4_pin wsX4_pin) := goodIn_app (goodIn_of _ (by decide +kernel)) ggL_law_X4_pin
set_option maxRecDepth 20000 in
theorem ggL_law_L_unpin : GoodIn wsL_law wsL_unpin := goodIn_ca (goodIn_ca (goodIn_r _ [635, 471, 87, 636, 637, 638, 2, 639, 94, 95, 21, 26, 545, 546, 547, 479, 480, 382, 383, 384, 548, 549, 550, 20, 551, 43, 590, 591, 592, 25, 593, 274, 594, 67, 595, 596, 597, 598, 599, 600, 601, 602, 41, 49, 50, 51, 52, 42, 44, 53, 54, 55, 56, 57, 385, 386, 387, 388, 450, 451, 452, 453, 359, 360, 361, 362, 865, 866, 867, 868, 869, 870, 889, 890, 891, 892, 893, 894, 895, 896, 897, 898, 899, 900] (by decide +kernel) (by decide +kernel)) (goodIn_sub (fun _ h => List.mem_append_left _ (List.mem_append_right _ h)) (by decide +kernel))) (goodIn_sub (fun _ h => List.mem_append_right _ h) (by decide +kernel))
set_option maxRecDepth 20000 in
theorem gL_law_L_unpin : GoodIn wsL_law (va_wsS RL 141 yL_unpin wsL_unpin) := goodIn_app (goodIn_of _ (by decide +kernel)) ggL_law_L_unpin
