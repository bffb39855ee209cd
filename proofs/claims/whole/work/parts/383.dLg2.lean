set_option maxRecDepth 20000 in
theorem ggL_law_X4_unpin : GoodIn wsL_law wsX4_unpin := goodIn_r _ [643, 564, 74, 111, 112, 5, 113, 114, 115, 116, 117, 118, 607, 608, 609, 610, 407, 76, 408, 409, 410, 246, 247, 248, 249, 250, 251, 231, 232, 233, 871, 872, 873, 874, 875, 876, 877, 878, 879, 880, 881, 882, 883] (by decide +kernel) (by decide +kernel)
set_option maxRecDepth 20000 in
theorem gL_law_X4_unpin : GoodIn wsL_law (wsV RL 143 RX4 yX4_unpin wsX4_unpin) := goodIn_app (goodIn_of _ (by decide +kernel)) ggL_law_X4_unpin
set_option maxRecDepth 20000 in
theorem ggL_law_L_run : GoodIn wsL_law wsL_run := goodIn_ca (goodIn_r _ [646, 86, 647, 648, 649, 2, 650, 26, 21, 651, 652, 653, 92, 93, 654, 655, 656, 590, 591, 592, 25, 593, 274, 594, 67, 595, 596, 597, 598, 599, 600, 601, 20, 602, 41, 49, 50, 51, 52, 42, 43, 44, 53, 54, 55, 56, 57, 331, 332, 333, 334, 335, 336, 337, 338, 339, 340, 341, 342, 343, 344, 345, 346, 347, 348, 349, 350, 351, 352, 353, 354, 355, 356, 357, 358, 359, 360, 361, 362, 363, 364, 365, 366, 367, 368, 369, 370, 371, 372, 373, 374, 375, 376, 377, 378, 308, 309, 310, 311, 312, 313, 314, 315, 316, 317, 318, 319, 865, 866, 867, 868, 869, 870, 898, 899, 900, 889, 890, 891, 892, 893, 894, 895, 896, 897] (by decide +kernel) (by decide +kernel)) (goodIn_sub (fun _ h => List.mem_append_left _ (List.mem_append_left _ (List.mem_append_right _ h))) (by decide +kernel))
set_option maxRecDepth 20000 in
theorem gL_law_L_run : GoodIn wsL_law (va_wsS RL 144 yL_run wsL_run) := goodIn_app (goodIn_of _ (by decide +kernel)) ggL_law_L_run
set_option maxRecDepth 20000 in
theorem ggL_law_X4_run : GoodIn wsL_law wsX4_run := goodIn_r _ [660, 661, 74, 111, 112, 5, 113, 114, 115, 116, 117, 118, 607, 608, 609, 610, 407, 76, 408, 409, 410, 211, 212, 213, 214, 215, 216, 217, 218, 219, 220, 221, 222, 223, 224, 225, 226, 227, 228, 229, 230, 186, 187, 188, 180, 181, 182, 109, 231, 232, 233, 234, 235, 236, 237, 238, 239, 240, 241, 242, 243, 244, 245, 189, 190, 191, 192, 193, 194, 195, 196, 197, 198, 199, 200, 871, 872, 873, 874, 875, 876, 877, 878, 879, 880, 881, 882, 883] (by decide +kernel) (by decide +kernel)
set_option maxRecDepth 20000 in
theorem gL_law_X4_run : GoodIn wsL_law (wsV RL 146 RX4 yX4_run wsX4_run) := goodIn_app (goodIn_of _ (by decide +kernel)) ggL_law_X4_run
set_option maxRecDepth 20000 in
theorem ggL_law_X3_flush : GoodIn wsL_law wsX3_flush := goodIn_r _ [665, 26, 21, 590, 591, 592, 25, 593, 274, 594, 67, 595, 596, 597, 598, 599, 600, 601, 20, 602, 41, 49, 50, 51, 52, 42, 43, 44, 53, 54, 55, 56, 57, 666, 667, 668, 669, 343, 344, 345, 346, 347, 348, 349, 350, 351, 352, 353, 354, 355, 356, 357, 358, 359, 360, 361, 362, 371, 372, 373, 374, 375, 376, 377, 378, 308, 309, 310, 311, 312, 313, 314, 315, 316, 317, 318, 319, 865, 866, 867, 868, 869, 870, 898, 899, 900, 889, 890, 891, 892, 893, 894, 895, 896, 897] (by decide +kernel) (by decide +kernel)
set_option maxRecDepth 20000 in
theorem gL_law_X3_flush : GoodIn wsL_law (wsV RL 147 RX3 yX3_flush wsX3_flush) := goodIn_app (goodIn_of _ (by decide +kernel)) ggL_law_X3_flush
set_option maxRecDepth 20000 in
theorem ggL_law_X4_flush : GoodIn wsL_law wsX4_flush := goodIn_r _ [673, 118, 74, 607, 608, 609, 5, 610, 407, 76, 408, 409, 410, 674, 675, 676, 677, 219, 220, 221, 222, 223, 224, 225, 226, 227, 228, 229, 230, 111, 112, 113, 186, 187, 188, 180, 181, 182, 109, 231, 232, 233, 234, 235, 236, 237, 238, 239, 240, 241, 242, 243, 244, 245, 189, 190, 191, 192, 193, 194, 195, 196, 197, 198, 199, 200, 871, 872, 873, 874, 875, 876, 877, 878, 879, 880, 881, 882, 883] (by decide +kernel) (by decide +kernel)
set_option maxRecDepth 20000 in
theorem gL_law_X4_flush : GoodIn wsL_law (wsV RL 150 RX4 yX4_flush wsX4_flush) := goodIn_app (goodIn_of _ (by decide +kernel)) ggL_law_X4_flush
set_option maxRecDepth 20000 in
theorem ggL_law_L_set : GoodIn wsL_law wsL_set := goodIn_ca (goodIn_r _ [680, 86, 681, 682, 683, 2, 684, 92, 93, 26, 21, 392, 393, 394, 395, 396, 397, 398, 590, 591, 592, 25, 593, 274, 594, 67, 595, 596, 597, 598, 599, 600, 601, 20, 602, 41, 49, 50, 51, 52, 42, 43, 44, 53, 54, 55, 56, 57, 572, 573, 574, 575, 399, 400, 401, 402, 865, 866, 867, 868, 869, 870, 898, 899, 900, 889, 890, 891, 892, 893, 894, 895, 896, 897] (by decide +kernel) (by decide +kernel)) (goodIn_sub (fun _ h => List.mem_append_left _ (List.mem_append_left _ (List.mem_append_right _ h))) (by decide +kernel))
set_option maxRecDepth 20000 in
theorem gL_law_L_set : GoodIn wsL_law (va_wsS RL 151 yL_set wsL_set) := goodIn_app (goodIn_of _ (by decide +kernel)) ggL_law_L_set
set_option maxRecDepth 20000 in
theorem ggL_law_X4_set : GoodIn wsL_law wsX4_set := goodIn_r _ [688, 74, 252, 253, 5, 254, 255, 111, 112, 113, 256, 257, 258, 114, 115, 116, 117, 118, 607, 608, 609, 610, 407, 76, 408, 409, 410, 259, 260, 261, 871, 872, 873, 874, 875, 876, 877, 878, 879, 880, 881, 882, 883] (by decide +kernel) (by decide +kernel)
set_option maxRecDepth 20000 in
theorem gL_law_X4_set : GoodIn wsL_law (wsV RL 153 RX4 yX4_set wsX4_set) := goodIn_app (goodIn_of _ (by decide +kernel)) ggL_law_X4_set
set_option maxRecDepth 20000 in
theorem ggL_law_L_undo : GoodIn wsL_law wsL_undo := goodIn_ca (goodIn_r _ [691, 87, 692, 693, 694, 2, 695, 94, 95, 26, 21, 696, 697, 698, 25, 699, 274, 700, 701, 702, 703, 67, 595, 596, 597, 598, 594, 599, 600, 601, 20, 602, 41, 49, 50, 51, 52, 42, 43, 44, 53, 54, 55, 56, 57, 865, 866, 867, 868, 869, 870, 898, 899, 900, 889, 890, 891, 892, 893, 894, 895, 896, 897] (by decide +kernel) (by decide +kernel)) (goodIn_sub (fun _ h => List.mem_append_left _ (List.mem_append_right _ h)) (by decide +kernel))
set_option maxRecDepth 20000 in
theorem gL_law_L_undo : GoodIn wsL_law (va_wsS RL 154 yL_undo wsL_undo) := goodIn_app (goodIn_of _ (by decide +kernel)) ggL_law_L_undo
set_option maxRecDepth 20000 in
theorem ggL_law_X4_undo : GoodIn wsL_law wsX4_undo := goodIn_r _ [707, 407, 76, 74, 114, 115, 116, 5, 117, 118, 408, 409, 410, 871, 872, 873, 874, 875, 876, 877, 878, 879, 880, 881, 882, 883] (by decide +kernel) (by decide +kernel)
set_option maxRecDepth 20000 in
theorem gL_law_X4_undo : GoodIn wsL_law (wsV RL 156 RX4 yX4_undo wsX4_undo) := goodIn_app (goodIn_of _ (by decide +kernel)) ggL_law_X4_undo
set_option maxRecDepth 20000 in
theorem ggL_law_L_next : GoodIn wsL_law wsL_next := goodIn_ca (goodIn_r _ [710, 86, 711, 712, 713, 2, 714, 92, 93, 22, 21, 715, 600, 601, 20, 602, 41, 49, 50, 51, 52, 42, 43, 44, 53, 54, 55, 56, 57, 716, 717, 718, 719, 339, 340, 341, 342, 343, 344, 345, 346, 347, 348, 349, 350, 351, 352, 353, 354, 355, 356, 357, 358, 359, 360, 361, 362, 720, 721, 722, 723, 724, 725, 726, 727, 728, 363, 364, 365, 366, 367, 368, 369, 370, 371, 372, 373, 374, 430, 431, 432, 433, 729, 336, 337, 338, 375, 376, 377, 378, 308, 309, 310, 311, 312, 313, 314, 315, 316, 317, 318, 319, 865, 866, 867, 868, 869, 870, 889, 890, 891, 892, 893, 894, 895, 896, 897] (by decide +kernel) (by decide +kernel)) (goodIn_sub (fun _ h => List.mem_append_left _ (List.mem_append_left _ (List.mem_append_right _ h))) (by decide +kernel))
set_option maxRecDepth 20000 in
theorem gL_law_L_next : GoodIn wsL_law (va_wsS RL 157 yL_next wsL_next) := goodIn_app (goodIn_of _ (by decide +kernel)) ggL_law_L_next
set_option maxRecDepth 20000 in
theorem ggL_law_X4_next : GoodIn wsL_law wsX4_next := goodIn_r _ [733, 564, 74, 75, 111, 112, 5, 113, 114, 115, 116, 117, 118, 408, 409, 410, 219, 220, 221, 222, 223, 224, 225, 226, 227, 228, 229, 230, 186, 187, 188, 180, 181, 182, 109, 231, 232, 233, 234, 235, 236, 237, 238, 239, 215, 216, 217, 218, 240, 241, 242, 243, 244, 245, 189, 190, 191, 192, 193, 194, 195, 196, 197, 198, 199, 200, 871, 872, 873, 874, 875, 876, 877, 878, 879, 880, 881, 882, 883] (by decide +kernel) (by decide +kernel)
set_option maxRecDepth 20000 in
theorem gL_law_X4_next : GoodIn wsL_law (wsV RL 159 RX4 yX4_next wsX4_next) := goodIn_app (goodIn_of _ (by decide +kernel)) ggL_law_X4_next
set_option maxRecDepth 20000 in
theorem ggL_law_L_goneIn : GoodIn wsL_law wsL_goneIn := goodIn_ca (goodIn_r _ [736, 471, 737, 738, 739, 2, 740, 22, 21, 476, 477, 478, 479, 480, 298, 299, 300, 715, 600, 601, 20, 602, 41, 49, 50, 51, 52, 42, 43, 44, 53, 54, 55, 56, 57, 741, 742, 743, 744, 729, 336, 337, 338, 339, 340, 341, 342, 343, 344, 345, 346, 347, 348, 349, 350, 351, 352, 353, 354, 355, 356, 357, 358, 359, 360, 361, 362, 363, 364, 365, 366, 367, 368, 369, 370, 371, 372, 373, 374, 375, 376, 377, 378, 308, 309, 310, 311, 312, 313, 314, 315, 316, 317, 318, 319, 485, 486, 487, 488, 430, 431, 432, 433, 865, 866, 867, 868, 869, 870, 889, 890, 891, 892, 893, 894, 895, 896, 897] (by decide +kernel) (by decide +kernel)) (goodIn_sub (fun _ h => List.mem_append_right _ h) (by decide +kernel))
set_option maxRecDepth 20000 in
theorem gL_law_L_goneIn : GoodIn wsL_law (va_wsS RL 160 yL_goneIn wsL_goneIn) := goodIn_app (goodIn_of _ (by decide +kernel)) ggL_law_L_goneIn
set_option maxRecDepth 20000 in
theorem ggL_law_X4_goneIn : GoodIn wsL_law wsX4_goneIn := goodIn_r _ [748, 74, 75, 180, 181, 5, 182, 109, 111, 112, 113, 114, 115, 116, 117, 118, 408, 409, 410, 215, 216, 217, 218, 219, 220, 221, 222, 223, 224, 225, 226, 227, 228, 229, 230, 186, 187, 188, 231, 232, 233, 234, 235, 236, 237, 238, 239, 240, 241, 242, 243, 244, 245, 189, 190, 191, 192, 193, 194, 195, 196, 197, 198, 199, 200, 871, 872, 873, 874, 875, 876, 877, 878, 879, 880, 881, 882, 883] (by decide +kernel) (by decide +kernel)
set_option maxRecDepth 20000 in
theorem gL_law_X4_goneIn : GoodIn wsL_law (wsV RL 162 RX4 yX4_goneIn wsX4_goneIn) := goodIn_app (goodIn_of _ (by decide +kernel)) ggL_law_X4_goneIn
set_option maxRecDepth 20000 in
theorem ggL_law_L_coming : GoodIn wsL_law wsL_coming := goodIn_ca (goodIn_r _ [751, 86, 752, 753, 754, 2, 755, 92, 93, 22, 21, 651, 652, 653, 654, 655, 656, 715, 600, 601, 20, 602, 41, 49, 50, 51, 52, 42, 43, 44, 53, 54, 55, 56, 57, 331, 332, 333, 334, 335, 336, 337, 338, 339, 340, 341, 342, 343, 344, 345, 346, 347, 348, 349, 350, 351, 352, 353, 354, 355, 356, 357, 358, 359, 360, 361, 362, 363, 364, 365, 366, 367, 368, 369, 370, 371, 372, 373, 374, 375, 376, 377, 378, 308, 309, 310, 311, 312, 313, 314, 315, 316, 317, 318, 319, 438, 439, 440, 441, 422, 423, 424, 425, 426, 427, 428, 429, 865, 866, 867, 868, 869, 870, 889, 890, 891, 892, 893, 894, 895, 896, 897] (by decide +kernel) (by decide +kernel)) (goodIn_sub (fun _ h => List.mem_append_left _ (List.mem_append_left _ (List.mem_append_right _ h))) (by decide +kernel))
set_option maxRecDepth 20000 in
theorem gL_law_L_coming : GoodIn wsL_law (va_wsS RL 163 yL_coming wsL_coming) := goodIn_app (goodIn_of _ (by decide +kernel)) ggL_law_L_coming
