set_option maxRecDepth 20000 in
theorem ggL_law_X4_coming : GoodIn wsL_law wsX4_coming := goodIn_r _ [759, 760, 498, 74, 75, 111, 112, 5, 113, 114, 115, 116, 117, 118, 408, 409, 410, 211, 212, 213, 214, 215, 216, 217, 218, 219, 220, 221, 222, 223, 224, 225, 226, 227, 228, 229, 230, 186, 187, 188, 180, 181, 182, 109, 231, 232, 233, 234, 235, 236, 237, 238, 239, 240, 241, 242, 243, 244, 245, 189, 190, 191, 192, 193, 194, 195, 196, 197, 198, 199, 200, 462, 463, 464, 871, 872, 873, 874, 875, 876, 877, 878, 879, 880, 881, 882, 883] (by decide +kernel) (by decide +kernel)
set_option maxRecDepth 20000 in
theorem gL_law_X4_coming : GoodIn wsL_law (wsV RL 165 RX4 yX4_coming wsX4_coming) := goodIn_app (goodIn_of _ (by decide +kernel)) ggL_law_X4_coming
set_option maxRecDepth 20000 in
theorem ggL_law_L_bestGranule : GoodIn wsL_law wsL_bestGranule := goodIn_ca (goodIn_r _ [763, 86, 764, 765, 766, 2, 767, 395, 22, 21, 651, 652, 653, 92, 93, 654, 655, 656, 715, 600, 601, 20, 602, 41, 49, 50, 51, 52, 42, 43, 44, 53, 54, 55, 56, 57, 399, 400, 401, 402, 331, 332, 333, 334, 335, 336, 337, 338, 339, 340, 341, 342, 343, 344, 345, 346, 347, 348, 349, 350, 351, 352, 353, 354, 355, 356, 357, 358, 359, 360, 361, 362, 363, 364, 365, 366, 367, 368, 369, 370, 371, 372, 373, 374, 375, 376, 377, 378, 308, 309, 310, 311, 312, 313, 314, 315, 316, 317, 318, 319, 865, 866, 867, 868, 869, 870, 889, 890, 891, 892, 893, 894, 895, 896, 897] (by decide +kernel) (by decide +kernel)) (goodIn_sub (fun _ h => List.mem_append_left _ (List.mem_append_left _ (List.mem_append_right _ h))) (by decide +kernel))
set_option maxRecDepth 20000 in
theorem gL_law_L_bestGranule : GoodIn wsL_law (va_wsS RL 166 yL_bestGranule wsL_bestGranule) := goodIn_app (goodIn_of _ (by decide +kernel)) ggL_law_L_bestGranule
set_option maxRecDepth 20000 in
theorem ggL_law_X4_bestGranule : GoodIn wsL_law wsX4_bestGranule := goodIn_r _ [771, 661, 74, 75, 111, 112, 5, 113, 114, 115, 116, 117, 118, 256, 257, 258, 408, 409, 410, 211, 212, 213, 214, 215, 216, 217, 218, 219, 220, 221, 222, 223, 224, 225, 226, 227, 228, 229, 230, 186, 187, 188, 180, 181, 182, 109, 231, 232, 233, 234, 235, 236, 237, 238, 239, 240, 241, 242, 243, 244, 245, 189, 190, 191, 192, 193, 194, 195, 196, 197, 198, 199, 200, 871, 872, 873, 874, 875, 876, 877, 878, 879, 880, 881, 882, 883] (by decide +kernel) (by decide +kernel)
set_option maxRecDepth 20000 in
theorem gL_law_X4_bestGranule : GoodIn wsL_law (wsV RL 168 RX4 yX4_bestGranule wsX4_bestGranule) := goodIn_app (goodIn_of _ (by decide +kernel)) ggL_law_X4_bestGranule
set_option maxRecDepth 20000 in
theorem ggL_law_L_ifWritten : GoodIn wsL_law wsL_ifWritten := goodIn_ca (goodIn_ca (goodIn_ca (goodIn_r _ [774, 471, 86, 87, 775, 776, 777, 2, 778, 22, 21, 587, 588, 589, 92, 93, 94, 95, 476, 477, 478, 479, 480, 298, 299, 300, 301, 302, 303, 295, 296, 297, 715, 600, 601, 20, 602, 41, 49, 50, 51, 52, 42, 43, 44, 53, 54, 55, 56, 57, 304, 305, 306, 307, 308, 309, 310, 311, 312, 313, 314, 315, 316, 317, 318, 319, 422, 423, 424, 425, 865, 866, 867, 868, 869, 870, 889, 890, 891, 892, 893, 894, 895, 896, 897] (by decide +kernel) (by decide +kernel)) (goodIn_sub (fun _ h => List.mem_append_left _ (List.mem_append_left _ (List.mem_append_right _ h))) (by decide +kernel))) (goodIn_sub (fun _ h => List.mem_append_left _ (List.mem_append_right _ h)) (by decide +kernel))) (goodIn_sub (fun _ h => List.mem_append_right _ h) (by decide +kernel))
set_option maxRecDepth 20000 in
theorem gL_law_L_ifWritten : GoodIn wsL_law (va_wsS RL 169 yL_ifWritten wsL_ifWritten) := goodIn_app (goodIn_of _ (by decide +kernel)) ggL_law_L_ifWritten
set_option maxRecDepth 20000 in
theorem ggL_law_X4_ifWritten : GoodIn wsL_law wsX4_ifWritten := goodIn_r _ [782, 74, 75, 176, 177, 5, 178, 179, 180, 181, 182, 109, 111, 112, 113, 114, 115, 116, 117, 118, 408, 409, 410, 183, 184, 185, 186, 187, 188, 189, 190, 191, 192, 193, 194, 195, 196, 197, 198, 199, 200, 871, 872, 873, 874, 875, 876, 877, 878, 879, 880, 881, 882, 883] (by decide +kernel) (by decide +kernel)
set_option maxRecDepth 20000 in
theorem gL_law_X4_ifWritten : GoodIn wsL_law (wsV RL 171 RX4 yX4_ifWritten wsX4_ifWritten) := goodIn_app (goodIn_of _ (by decide +kernel)) ggL_law_X4_ifWritten
set_option maxRecDepth 20000 in
theorem ggL_law_X3_stuck : GoodIn wsL_law wsX3_stuck := goodIn_r _ [786, 21, 426, 427, 428, 20, 429, 41, 526, 527, 528, 529, 44, 522, 523, 524, 525, 355, 356, 357, 358, 351, 352, 353, 354, 359, 360, 361, 362, 43, 42, 724, 865, 866, 867, 868, 869, 870, 889, 890, 891, 892, 893, 894, 895, 896, 897] (by decide +kernel) (by decide +kernel)
set_option maxRecDepth 20000 in
theorem gL_law_X3_stuck : GoodIn wsL_law (wsV RL 172 RX3 yX3_stuck wsX3_stuck) := goodIn_app (goodIn_of _ (by decide +kernel)) ggL_law_X3_stuck
set_option maxRecDepth 20000 in
theorem ggL_law_X4_stuck : GoodIn wsL_law wsX4_stuck := goodIn_r _ [790, 118, 74, 462, 463, 5, 464, 186, 187, 188, 180, 181, 182, 109, 111, 112, 113, 228, 229, 230, 225, 226, 227, 231, 232, 233, 871, 872, 873, 874, 875, 876, 877, 878, 879, 880, 881, 882, 883] (by decide +kernel) (by decide +kernel)
set_option maxRecDepth 20000 in
theorem gL_law_X4_stuck : GoodIn wsL_law (wsV RL 175 RX4 yX4_stuck wsX4_stuck) := goodIn_app (goodIn_of _ (by decide +kernel)) ggL_law_X4_stuck
set_option maxRecDepth 20000 in
theorem ggL_law_L_runScript : GoodIn wsL_law wsL_runScript := goodIn_ca (goodIn_r _ [793, 86, 794, 795, 796, 2, 797, 92, 93, 22, 21, 798, 799, 800, 801, 715, 600, 601, 20, 602, 41, 49, 50, 51, 52, 42, 43, 44, 53, 54, 55, 56, 57, 802, 803, 804, 805, 806, 292, 293, 294, 295, 296, 297, 298, 299, 300, 301, 302, 303, 304, 305, 306, 307, 308, 309, 310, 311, 312, 313, 314, 315, 316, 317, 318, 319, 320, 321, 322, 323, 324, 325, 326, 327, 328, 329, 330, 654, 655, 656, 331, 332, 333, 334, 335, 336, 337, 338, 339, 340, 341, 342, 343, 344, 345, 346, 347, 348, 349, 350, 351, 352, 353, 354, 355, 356, 357, 358, 359, 360, 361, 362, 363, 364, 365, 366, 367, 368, 369, 370, 371, 372, 373, 374, 375, 376, 377, 378, 389, 390, 391, 392, 393, 394, 395, 396, 397, 398, 399, 400, 401, 402, 666, 667, 668, 669, 485, 486, 487, 488, 426, 427, 428, 429, 422, 423, 424, 425, 481, 482, 483, 484, 865, 866, 867, 868, 869, 870, 889, 890, 891, 892, 893, 894, 895, 896, 897] (by decide +kernel) (by decide +kernel)) (goodIn_sub (fun _ h => List.mem_append_left _ (List.mem_append_left _ (List.mem_append_right _ h))) (by decide +kernel))
set_option maxRecDepth 20000 in
theorem gL_law_L_runScript : GoodIn wsL_law (va_wsS RL 178 yL_runScript wsL_runScript) := goodIn_app (goodIn_of _ (by decide +kernel)) ggL_law_L_runScript
set_option maxRecDepth 20000 in
theorem ggL_law_X4_runScript : GoodIn wsL_law wsX4_runScript := goodIn_r _ [810, 811, 498, 74, 75, 812, 111, 112, 5, 113, 114, 115, 116, 117, 118, 408, 409, 410, 813, 814, 815, 816, 661, 176, 177, 178, 179, 180, 181, 182, 109, 183, 184, 185, 186, 187, 188, 189, 190, 191, 192, 193, 194, 195, 196, 197, 198, 199, 200, 201, 202, 203, 204, 205, 206, 211, 212, 213, 214, 215, 216, 217, 218, 219, 220, 221, 222, 223, 224, 225, 226, 227, 228, 229, 230, 231, 232, 233, 234, 235, 236, 237, 238, 239, 240, 241, 242, 243, 244, 245, 252, 253, 254, 255, 256, 257, 258, 259, 260, 261, 674, 675, 676, 677, 462, 463, 464, 871, 872, 873, 874, 875, 876, 877, 878, 879, 880, 881, 882, 883] (by decide +kernel) (by decide +kernel)
set_option maxRecDepth 20000 in
theorem gL_law_X4_runScript : GoodIn wsL_law (wsV RL 181 RX4 yX4_runScript wsX4_runScript) := goodIn_app (goodIn_of _ (by decide +kernel)) ggL_law_X4_runScript
set_option maxRecDepth 20000 in
theorem ggL_law_L_simulate : GoodIn wsL_law wsL_simulate := goodIn_ca (goodIn_r _ [819, 86, 820, 821, 822, 2, 823, 92, 93, 22, 21, 824, 825, 715, 600, 601, 20, 602, 41, 49, 50, 51, 52, 42, 43, 44, 53, 54, 55, 56, 57, 826, 827, 828, 829, 292, 293, 294, 295, 296, 297, 298, 299, 300, 301, 302, 303, 304, 305, 306, 307, 308, 309, 310, 311, 312, 313, 314, 315, 316, 317, 318, 319, 320, 321, 322, 323, 324, 325, 326, 327, 328, 329, 330, 379, 380, 381, 382, 383, 384, 385, 386, 387, 388, 331, 332, 333, 334, 335, 336, 337, 338, 339, 340, 341, 342, 343, 344, 345, 346, 347, 348, 349, 350, 351, 352, 353, 354, 355, 356, 357, 358, 359, 360, 361, 362, 363, 364, 365, 366, 367, 368, 369, 370, 371, 372, 373, 374, 375, 376, 377, 378, 442, 443, 444, 445, 426, 427, 428, 429, 865, 866, 867, 868, 869, 870, 889, 890, 891, 892, 893, 894, 895, 896, 897] (by decide +kernel) (by decide +kernel)) (goodIn_sub (fun _ h => List.mem_append_left _ (List.mem_append_left _ (List.mem_append_right _ h))) (by decide +kernel))
set_option maxRecDepth 20000 in
theorem gL_law_L_simulate : GoodIn wsL_law (va_wsS RL 182 yL_simulate wsL_simulate) := goodIn_app (goodIn_of _ (by decide +kernel)) ggL_law_L_simulate
set_option maxRecDepth 20000 in
theorem ggL_law_X4_simulate : GoodIn wsL_law wsX4_simulate := goodIn_r _ [833, 661, 74, 75, 834, 835, 111, 112, 5, 113, 114, 115, 116, 117, 118, 408, 409, 410, 836, 837, 838, 839, 176, 177, 178, 179, 180, 181, 182, 109, 183, 184, 185, 186, 187, 188, 189, 190, 191, 192, 193, 194, 195, 196, 197, 198, 199, 200, 201, 202, 203, 204, 205, 206, 246, 247, 248, 249, 250, 251, 231, 232, 233, 211, 212, 213, 214, 215, 216, 217, 218, 219, 220, 221, 222, 223, 224, 225, 226, 227, 228, 229, 230, 234, 235, 236, 237, 238, 239, 240, 241, 242, 243, 244, 245, 462, 463, 464, 871, 872, 873, 874, 875, 876, 877, 878, 879, 880, 881, 882, 883] (by decide +kernel) (by decide +kernel)
set_option maxRecDepth 20000 in
theorem gL_law_X4_simulate : GoodIn wsL_law (wsV RL 185 RX4 yX4_simulate wsX4_simulate) := goodIn_app (goodIn_of _ (by decide +kernel)) ggL_law_X4_simulate
set_option maxRecDepth 20000 in
theorem ggL_law_L_save : GoodIn wsL_law wsL_save := goodIn_ca (goodIn_r _ [842, 471, 843, 844, 845, 2, 846, 27, 21, 29, 847, 848, 849, 479, 480, 715, 600, 601, 20, 602, 41, 49, 50, 51, 52, 42, 43, 44, 53, 54, 55, 56, 57, 430, 431, 432, 433, 865, 866, 867, 868, 869, 870, 889, 890, 891, 892, 893, 894, 895, 896, 897] (by decide +kernel) (by decide +kernel)) (goodIn_sub (fun _ h => List.mem_append_right _ h) (by decide +kernel))
set_option maxRecDepth 20000 in
theorem gL_law_L_save : GoodIn wsL_law (va_wsS RL 186 yL_save wsL_save) := goodIn_app (goodIn_of _ (by decide +kernel)) ggL_law_L_save
set_option maxRecDepth 20000 in
theorem ggL_law_X4_save : GoodIn wsL_law wsX4_save := goodIn_r _ [853, 74, 77, 78, 111, 112, 5, 113, 114, 115, 116, 117, 118, 408, 409, 410, 871, 872, 873, 874, 875, 876, 877, 878, 879, 880, 881, 882, 883] (by decide +kernel) (by decide +kernel)
set_option maxRecDepth 20000 in
theorem gL_law_X4_save : GoodIn wsL_law (wsV RL 188 RX4 yX4_save wsX4_save) := goodIn_app (goodIn_of _ (by decide +kernel)) ggL_law_X4_save
set_option maxRecDepth 20000 in
theorem ggL_law_L_restore : GoodIn wsL_law wsL_restore := goodIn_ca (goodIn_ca (goodIn_r _ [856, 471, 87, 857, 858, 859, 2, 860, 94, 95, 29, 21, 27, 26, 847, 848, 849, 479, 480, 715, 600, 601, 20, 602, 41, 49, 50, 51, 52, 42, 43, 44, 53, 54, 55, 56, 57, 270, 271, 272, 25, 273, 274, 430, 431, 432, 433, 865, 866, 867, 868, 869, 870, 889, 890, 891, 892, 893, 894, 895, 896, 897, 898, 899, 900] (by decide +kernel) (by decide +kernel)) (goodIn_sub (fun _ h => List.mem_append_left _ (List.mem_append_right _ h)) (by decide +kernel))) (goodIn_sub (fun _ h => List.mem_append_right _ h) (by decide +kernel))
set_option maxRecDepth 20000 in
theorem gL_law_L_restore : GoodIn wsL_law (va_wsS RL 189 yL_restore wsL_restore) := goodIn_app (goodIn_of _ (by decide +kernel)) ggL_law_L_restore
set_option maxRecDepth 20000 in
theorem ggL_law_X4_restore : GoodIn wsL_law wsX4_restore := goodIn_r _ [864, 78, 77, 74, 407, 111, 112, 5, 113, 114, 115, 116, 117, 118, 408, 409, 410, 871, 872, 873, 874, 875, 876, 877, 878, 879, 880, 881, 882, 883] (by decide +kernel) (by decide +kernel)
set_option maxRecDepth 20000 in
theorem gL_law_X4_restore : GoodIn wsL_law (wsV RL 191 RX4 yX4_restore wsX4_restore) := goodIn_app (goodIn_of _ (by decide +kernel)) ggL_law_X4_restore


