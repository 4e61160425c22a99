set_option maxRecDepth 20000 in
theorem ggL_law_X3_init : GoodIn wsL_law wsX3_init := goodIn_r _ [10, 11, 12, 13, 14, 15, 16, 17, 18, 19, 20, 21, 22, 23, 24, 25, 26, 27, 28, 29, 30, 31, 32, 33, 34, 35, 36, 37, 38, 39, 40, 41, 42, 43, 44, 45, 46, 47, 48, 6, 49, 50, 51, 52, 53, 54, 55, 56, 57, 58, 836, 837, 818, 819, 820, 821, 822, 823, 824, 838, 839, 840, 841, 842, 843, 844, 845, 846, 847, 848, 849, 850, 851, 852, 853] (by decide +kernel) (by decide +kernel)
set_option maxRecDepth 20000 in
theorem gL_law_X3_init : GoodIn wsL_law (wsX3_init) := ggL_law_X3_init
set_option maxRecDepth 20000 in
theorem ggL_law_X4_init : GoodIn wsL_law wsX4_init := goodIn_r _ [61, 62, 12, 13, 30, 63, 64, 65, 66, 67, 27, 68, 69, 70, 71, 72, 5, 73, 74, 75, 76, 825, 826, 827, 828, 829, 830, 831, 832, 833, 834, 835] (by decide +kernel) (by decide +kernel)
set_option maxRecDepth 20000 in
theorem gL_law_X4_init : GoodIn wsL_law (wsX4_init) := ggL_law_X4_init
set_option maxRecDepth 20000 in
theorem ggL_law_L_append : GoodIn wsL_law wsL_append := goodIn_ca (goodIn_ca (goodIn_r _ [80, 81, 82, 83, 84, 85, 2, 86, 87, 88, 17, 89, 90, 91, 92, 93, 94, 95, 96, 97, 16, 98, 99, 36, 818, 819, 820, 821, 822, 823, 824, 836, 837] (by decide +kernel) (by decide +kernel)) (goodIn_sub (fun _ h => List.mem_append_left _ (List.mem_append_left _ (List.mem_append_right _ h))) (by decide +kernel))) (goodIn_sub (fun _ h => List.mem_append_left _ (List.mem_append_right _ h)) (by decide +kernel))
set_option maxRecDepth 20000 in
theorem gL_law_L_append : GoodIn wsL_law (va_wsS RL 112 yL_append wsL_append) := goodIn_app (goodIn_of _ (by decide +kernel)) ggL_law_L_append
set_option maxRecDepth 20000 in
theorem ggL_law_X4_append : GoodIn wsL_law wsX4_append := goodIn_r _ [103, 104, 105, 63, 106, 107, 5, 108, 109, 110, 111, 112, 113, 825, 826, 827, 828, 829, 830, 831, 832, 833, 834, 835] (by decide +kernel) (by decide +kernel)
set_option maxRecDepth 20000 in
theorem gL_law_X4_append : GoodIn wsL_law (wsV RL 117 RX4 yX4_append wsX4_append) := goodIn_app (goodIn_of _ (by decide +kernel)) ggL_law_X4_append
set_option maxRecDepth 20000 in
theorem ggL_law_X4_thrown : GoodIn wsL_law wsX4_thrown := goodIn_r _ [117, 113, 825, 826, 827, 828, 829, 830, 831, 832, 833, 834, 835] (by decide +kernel) (by decide +kernel)
set_option maxRecDepth 20000 in
theorem gL_law_X4_thrown : GoodIn wsL_law (wsV RL 118 RX4 yX4_thrown wsX4_thrown) := goodIn_app (goodIn_of _ (by decide +kernel)) ggL_law_X4_thrown
set_option maxRecDepth 20000 in
theorem ggL_law_X3_clearText : GoodIn wsL_law wsX3_clearText := goodIn_r _ [121, 17, 89, 818, 819, 820, 821, 822, 823, 824, 836, 837] (by decide +kernel) (by decide +kernel)
set_option maxRecDepth 20000 in
theorem gL_law_X3_clearText : GoodIn wsL_law (wsV RL 121 RX3 yX3_clearText wsX3_clearText) := goodIn_app (goodIn_of _ (by decide +kernel)) ggL_law_X3_clearText
set_option maxRecDepth 20000 in
theorem ggL_law_X4_clearText : GoodIn wsL_law wsX4_clearText := goodIn_r _ [125, 105, 825, 826, 827, 828, 829, 830, 831, 832, 833, 834, 835] (by decide +kernel) (by decide +kernel)
set_option maxRecDepth 20000 in
theorem gL_law_X4_clearText : GoodIn wsL_law (wsV RL 124 RX4 yX4_clearText wsX4_clearText) := goodIn_app (goodIn_of _ (by decide +kernel)) ggL_law_X4_clearText
set_option maxRecDepth 20000 in
theorem ggL_law_X3_errorPosition : GoodIn wsL_law wsX3_errorPosition := goodIn_r _ [129, 17, 130, 131, 132, 16, 133, 99, 36, 134, 135, 136, 137, 138, 139, 140, 141, 142, 818, 819, 820, 821, 822, 823, 824, 836, 837] (by decide +kernel) (by decide +kernel)
set_option maxRecDepth 20000 in
theorem gL_law_X3_errorPosition : GoodIn wsL_law (wsV RL 125 RX3 yX3_errorPosition wsX3_errorPosition) := goodIn_app (goodIn_of _ (by decide +kernel)) ggL_law_X3_errorPosition
set_option maxRecDepth 20000 in
theorem ggL_law_X4_errorPosition : GoodIn wsL_law wsX4_errorPosition := goodIn_r _ [146, 147, 148, 149, 5, 150, 105, 63, 151, 152, 106, 107, 108, 825, 826, 827, 828, 829, 830, 831, 832, 833, 834, 835] (by decide +kernel) (by decide +kernel)
set_option maxRecDepth 20000 in
theorem gL_law_X4_errorPosition : GoodIn wsL_law (wsV RL 128 RX4 yX4_errorPosition wsX4_errorPosition) := goodIn_app (goodIn_of _ (by decide +kernel)) ggL_law_X4_errorPosition
set_option maxRecDepth 20000 in
theorem ggL_law_L_load : GoodIn wsL_law wsL_load := goodIn_ca (goodIn_r _ [155, 82, 156, 157, 158, 2, 159, 87, 88, 17, 21, 25, 28, 160, 130, 131, 132, 16, 133, 99, 36, 134, 135, 136, 137, 138, 139, 140, 141, 142, 161, 162, 163, 20, 164, 50, 51, 165, 166, 41, 42, 43, 44, 45, 167, 168, 169, 170, 171, 172, 173, 174, 175, 176, 177, 178, 179, 180, 181, 182, 183, 184, 185, 186, 187, 24, 188, 189, 818, 819, 820, 821, 822, 823, 824, 838, 839, 840, 841, 842, 843, 844, 845, 846, 847, 848, 849, 850, 836, 837, 851, 852, 853] (by decide +kernel) (by decide +kernel)) (goodIn_sub (fun _ h => List.mem_append_left _ (List.mem_append_left _ (List.mem_append_right _ h))) (by decide +kernel))
set_option maxRecDepth 20000 in
theorem gL_law_L_load : GoodIn wsL_law (va_wsS RL 129 yL_load wsL_load) := goodIn_app (goodIn_of _ (by decide +kernel)) ggL_law_L_load
set_option maxRecDepth 20000 in
theorem ggL_law_X4_load : GoodIn wsL_law wsX4_load := goodIn_r _ [193, 64, 105, 63, 151, 152, 194, 68, 147, 148, 149, 5, 150, 106, 107, 108, 109, 110, 111, 112, 113, 71, 72, 73, 195, 196, 197, 74, 75, 76, 825, 826, 827, 828, 829, 830, 831, 832, 833, 834, 835] (by decide +kernel) (by decide +kernel)
set_option maxRecDepth 20000 in
theorem gL_law_X4_load : GoodIn wsL_law (wsV RL 132 RX4 yX4_load wsX4_load) := goodIn_app (goodIn_of _ (by decide +kernel)) ggL_law_X4_load
set_option maxRecDepth 20000 in
theorem ggL_law_L_about : GoodIn wsL_law wsL_about := goodIn_ca (goodIn_r _ [200, 81, 201, 202, 203, 2, 204, 21, 160, 205, 206, 207, 90, 91, 92, 93, 94, 208, 209, 210, 20, 211, 50, 212, 213, 214, 215, 216, 217, 218, 219, 41, 45, 183, 184, 220, 221, 222, 223, 224, 225, 226, 227, 166, 228, 229, 230, 231, 232, 233, 234, 235, 46, 47, 818, 819, 820, 821, 822, 823, 824, 838, 839, 840, 841, 842, 843, 844, 845, 846, 847, 848, 849, 850] (by decide +kernel) (by decide +kernel)) (goodIn_sub (fun _ h => List.mem_append_left _ (List.mem_append_right _ h)) (by decide +kernel))
set_option maxRecDepth 20000 in
theorem gL_law_L_about : GoodIn wsL_law (va_wsS RL 133 yL_about wsL_about) := goodIn_app (goodIn_of _ (by decide +kernel)) ggL_law_L_about
set_option maxRecDepth 20000 in
theorem ggL_law_X4_about : GoodIn wsL_law wsX4_about := goodIn_r _ [239, 240, 64, 106, 107, 5, 108, 109, 110, 111, 112, 113, 241, 242, 243, 244, 245, 246, 74, 75, 76, 247, 248, 249, 250, 251, 252, 253, 254, 255, 256, 257, 258, 825, 826, 827, 828, 829, 830, 831, 832, 833, 834, 835] (by decide +kernel) (by decide +kernel)
set_option maxRecDepth 20000 in
theorem gL_law_X4_about : GoodIn wsL_law (wsV RL 135 RX4 yX4_about wsX4_about) := goodIn_app (goodIn_of _ (by decide +kernel)) ggL_law_X4_about
set_option maxRecDepth 20000 in
theorem ggL_law_L_shown : GoodIn wsL_law wsL_shown := goodIn_ca (goodIn_r _ [261, 262, 263, 264, 265, 2, 266, 21, 267, 268, 269, 270, 271, 272, 273, 274, 275, 20, 276, 50, 277, 278, 279, 280, 41, 44, 183, 184, 818, 819, 820, 821, 822, 823, 824, 838, 839, 840, 841, 842, 843, 844, 845, 846, 847, 848, 849, 850] (by decide +kernel) (by decide +kernel)) (goodIn_sub (fun _ h => List.mem_append_right _ h) (by decide +kernel))
set_option maxRecDepth 20000 in
theorem gL_law_L_shown : GoodIn wsL_law (va_wsS RL 136 yL_shown wsL_shown) := goodIn_app (goodIn_of _ (by decide +kernel)) ggL_law_L_shown
set_option maxRecDepth 20000 in
theorem ggL_law_X4_shown : GoodIn wsL_law wsX4_shown := goodIn_r _ [284, 64, 285, 286, 5, 287, 106, 107, 108, 109, 110, 111, 112, 113, 288, 289, 290, 74, 75, 76, 825, 826, 827, 828, 829, 830, 831, 832, 833, 834, 835] (by decide +kernel) (by decide +kernel)
set_option maxRecDepth 20000 in
theorem gL_law_X4_shown : GoodIn wsL_law (wsV RL 138 RX4 yX4_shown wsX4_shown) := goodIn_app (goodIn_of _ (by decide +kernel)) ggL_law_X4_shown
set_option maxRecDepth 20000 in
theorem ggL_law_L_worth : GoodIn wsL_law wsL_worth := goodIn_ca (goodIn_r _ [293, 262, 294, 295, 296, 2, 297, 21, 267, 268, 269, 270, 271, 272, 273, 274, 275, 20, 276, 50, 298, 299, 300, 301, 41, 302, 44, 45, 183, 184, 818, 819, 820, 821, 822, 823, 824, 838, 839, 840, 841, 842, 843, 844, 845, 846, 847, 848, 849, 850] (by decide +kernel) (by decide +kernel)) (goodIn_sub (fun _ h => List.mem_append_right _ h) (by decide +kernel))
set_option maxRecDepth 20000 in
theorem gL_law_L_worth : GoodIn wsL_law (va_wsS RL 139 yL_worth wsL_worth) := goodIn_app (goodIn_of _ (by decide +kernel)) ggL_law_L_worth
set_option maxRecDepth 20000 in
theorem ggL_law_X4_worth : GoodIn wsL_law wsX4_worth := goodIn_r _ [306, 64, 285, 286, 5, 287, 106, 107, 108, 109, 110, 111, 112, 113, 307, 308, 309, 310, 74, 75, 76, 825, 826, 827, 828, 829, 830, 831, 832, 833, 834, 835] (by decide +kernel) (by decide +kernel)
set_option maxRecDepth 20000 in
theorem gL_law_X4_worth : GoodIn wsL_law (wsV RL 141 RX4 yX4_worth wsX4_worth) := goodIn_app (goodIn_of _ (by decide +kernel)) ggL_law_X4_worth
set_option maxRecDepth 20000 in
theorem ggL_law_L_counter : GoodIn wsL_law wsL_counter := goodIn_ca (goodIn_ca (goodIn_r _ [313, 262, 81, 314, 315, 316, 2, 317, 21, 318, 319, 320, 267, 268, 269, 270, 271, 272, 273, 274, 275, 20, 276, 50, 90, 91, 92, 93, 94, 321, 322, 323, 324, 166, 46, 325, 217, 218, 219, 41, 45, 183, 184, 326, 327, 328, 329, 44, 818, 819, 820, 821, 822, 823, 824, 838, 839, 840, 841, 842, 843, 844, 845, 846, 847, 848, 849, 850] (by decide +kernel) (by decide +kernel)) (goodIn_sub (fun _ h => List.mem_append_right _ h) (by decide +kernel))) (goodIn_sub (fun _ h => List.mem_append_left _ (List.mem_append_right _ h)) (by decide +kernel))
set_option maxRecDepth 20000 in
theorem gL_law_L_counter : GoodIn wsL_law (va_wsS RL 142 yL_counter wsL_counter) := goodIn_app (goodIn_of _ (by decide +kernel)) ggL_law_L_counter
set_option maxRecDepth 20000 in
theorem ggL_law_X4_counter : GoodIn wsL_law wsX4_counter := goodIn_r _ [333, 64, 334, 285, 286, 5, 287, 106, 107, 108, 109, 110, 111, 112, 113, 244, 245, 246, 74, 75, 76, 825, 826, 827, 828, 829, 830, 831, 832, 833, 834, 835] (by decide +kernel) (by decide +kernel)
set_option maxRecDepth 20000 in
theorem gL_law_X4_counter : GoodIn wsL_law (wsV RL 145 RX4 yX4_counter wsX4_counter) := goodIn_app (goodIn_of _ (by decide +kernel)) ggL_law_X4_counter
set_option maxRecDepth 20000 in
theorem ggL_law_L_place : GoodIn wsL_law wsL_place := goodIn_ca (goodIn_ca (goodIn_r _ [337, 262, 81, 338, 339, 340, 2, 341, 271, 272, 21, 318, 342, 343, 267, 268, 269, 270, 273, 274, 275, 20, 276, 50, 90, 91, 92, 93, 94, 344, 183, 184, 818, 819, 820, 821, 822, 823, 824, 838, 839, 840, 841, 842, 843, 844, 845, 846, 847, 848, 849, 850] (by decide +kernel) (by decide +kernel)) (goodIn_sub (fun _ h => List.mem_append_right _ h) (by decide +kernel))) (goodIn_sub (fun _ h => List.mem_append_left _ (List.mem_append_right _ h)) (by decide +kernel))
set_option maxRecDepth 20000 in
theorem gL_law_L_place : GoodIn wsL_law (va_wsS RL 146 yL_place wsL_place) := goodIn_app (goodIn_of _ (by decide +kernel)) ggL_law_L_place
set_option maxRecDepth 20000 in
theorem ggL_law_X4_place : GoodIn wsL_law wsX4_place := goodIn_r _ [348, 64, 285, 286, 5, 287, 106, 107, 108, 74, 75, 76, 109, 110, 111, 112, 113, 825, 826, 827, 828, 829, 830, 831, 832, 833, 834, 835] (by decide +kernel) (by decide +kernel)
set_option maxRecDepth 20000 in
theorem gL_law_X4_place : GoodIn wsL_law (wsV RL 149 RX4 yX4_place wsX4_place) := goodIn_app (goodIn_of _ (by decide +kernel)) ggL_law_X4_place
set_option maxRecDepth 20000 in
theorem ggL_law_L_ticket : GoodIn wsL_law wsL_ticket := goodIn_ca (goodIn_ca (goodIn_r _ [351, 262, 81, 352, 353, 354, 2, 355, 21, 356, 357, 358, 359, 360, 361, 362, 363, 271, 272, 207, 90, 91, 92, 93, 94, 364, 229, 230, 20, 231, 166, 232, 233, 234, 235, 46, 47, 818, 819, 820, 821, 822, 823, 824, 838, 839, 840, 841, 842, 843, 844, 845, 846, 847, 848, 849, 850] (by decide +kernel) (by decide +kernel)) (goodIn_sub (fun _ h => List.mem_append_right _ h) (by decide +kernel))) (goodIn_sub (fun _ h => List.mem_append_left _ (List.mem_append_right _ h)) (by decide +kernel))
set_option maxRecDepth 20000 in
theorem gL_law_L_ticket : GoodIn wsL_law (va_wsS RL 150 yL_ticket wsL_ticket) := goodIn_app (goodIn_of _ (by decide +kernel)) ggL_law_L_ticket
set_option maxRecDepth 20000 in
theorem ggL_law_X4_ticket : GoodIn wsL_law wsX4_ticket := goodIn_r _ [368, 64, 369, 106, 107, 5, 108, 109, 110, 111, 112, 113, 253, 254, 255, 256, 257, 258, 825, 826, 827, 828, 829, 830, 831, 832, 833, 834, 835] (by decide +kernel) (by decide +kernel)
set_option maxRecDepth 20000 in
theorem gL_law_X4_ticket : GoodIn wsL_law (wsV RL 152 RX4 yX4_ticket wsX4_ticket) := goodIn_app (goodIn_of _ (by decide +kernel)) ggL_law_X4_ticket
set_option maxRecDepth 20000 in
theorem ggL_law_L_sorted : GoodIn wsL_law wsL_sorted := goodIn_ca (goodIn_r _ [372, 262, 373, 374, 375, 2, 376, 21, 207, 360, 361, 362, 363, 271, 272, 377, 378, 379, 20, 380, 166, 381, 382, 383, 384, 47, 46, 818, 819, 820, 821, 822, 823, 824, 838, 839, 840, 841, 842, 843, 844, 845, 846, 847, 848, 849, 850] (by decide +kernel) (by decide +kernel)) (goodIn_sub (fun _ h => List.mem_append_right _ h) (by decide +kernel))
set_option maxRecDepth 20000 in
theorem gL_law_L_sorted : GoodIn wsL_law (va_wsS RL 153 yL_sorted wsL_sorted) := goodIn_app (goodIn_of _ (by decide +kernel)) ggL_law_L_sorted
set_option maxRecDepth 20000 in
theorem ggL_law_X4_sorted : GoodIn wsL_law wsX4_sorted := goodIn_r _ [388, 64, 106, 107, 5, 108, 109, 110, 111, 112, 113, 389, 390, 391, 392, 825, 826, 827, 828, 829, 830, 831, 832, 833, 834, 835] (by decide +kernel) (by decide +kernel)
set_option maxRecDepth 20000 in
theorem gL_law_X4_sorted : GoodIn wsL_law (wsV RL 155 RX4 yX4_sorted wsX4_sorted) := goodIn_app (goodIn_of _ (by decide +kernel)) ggL_law_X4_sorted
set_option maxRecDepth 20000 in
theorem ggL_law_L_ranked : GoodIn wsL_law wsL_ranked := goodIn_ca (goodIn_r _ [395, 262, 396, 397, 398, 2, 399, 21, 160, 267, 268, 269, 270, 271, 272, 273, 274, 275, 20, 276, 50, 400, 401, 402, 403, 404, 299, 300, 301, 41, 302, 44, 45, 183, 184, 405, 278, 279, 280, 818, 819, 820, 821, 822, 823, 824, 838, 839, 840, 841, 842, 843, 844, 845, 846, 847, 848, 849, 850] (by decide +kernel) (by decide +kernel)) (goodIn_sub (fun _ h => List.mem_append_right _ h) (by decide +kernel))
set_option maxRecDepth 20000 in
theorem gL_law_L_ranked : GoodIn wsL_law (va_wsS RL 156 yL_ranked wsL_ranked) := goodIn_app (goodIn_of _ (by decide +kernel)) ggL_law_L_ranked
set_option maxRecDepth 20000 in
theorem ggL_law_X4_ranked : GoodIn wsL_law wsX4_ranked := goodIn_r _ [409, 64, 285, 286, 5, 287, 106, 107, 108, 109, 110, 111, 112, 113, 410, 411, 412, 307, 308, 309, 310, 74, 75, 76, 288, 289, 290, 825, 826, 827, 828, 829, 830, 831, 832, 833, 834, 835] (by decide +kernel) (by decide +kernel)
set_option maxRecDepth 20000 in
theorem gL_law_X4_ranked : GoodIn wsL_law (wsV RL 159 RX4 yX4_ranked wsX4_ranked) := goodIn_app (goodIn_of _ (by decide +kernel)) ggL_law_X4_ranked
set_option maxRecDepth 20000 in
theorem ggL_law_L_add : GoodIn wsL_law wsL_add := goodIn_ca (goodIn_ca (goodIn_ca (goodIn_r _ [415, 262, 81, 82, 416, 417, 418, 2, 419, 87, 88, 21, 25, 267, 268, 269, 270, 271, 272, 273, 274, 275, 20, 276, 50, 90, 91, 92, 93, 94, 420, 421, 422, 423, 424, 425, 426, 427, 41, 428, 429, 430, 24, 431, 189, 432, 57, 433, 434, 435, 436, 51, 165, 166, 437, 438, 439, 440, 42, 43, 44, 45, 46, 47, 48, 49, 441, 442, 443, 444, 183, 184, 818, 819, 820, 821, 822, 823, 824, 838, 839, 840, 841, 842, 843, 844, 845, 846, 847, 848, 849, 850, 851, 852, 853] (by decide +kernel) (by decide +kernel)) (goodIn_sub (fun _ h => List.mem_append_left _ (List.mem_append_left _ (List.mem_append_right _ h))) (by decide +kernel))) (goodIn_sub (fun _ h => List.mem_append_right _ h) (by decide +kernel))) (goodIn_sub (fun _ h => List.mem_append_left _ (List.mem_append_right _ h)) (by decide +kernel))
set_option maxRecDepth 20000 in
theorem gL_law_L_add : GoodIn wsL_law (va_wsS RL 160 yL_add wsL_add) := goodIn_app (goodIn_of _ (by decide +kernel)) ggL_law_L_add
set_option maxRecDepth 20000 in
theorem ggL_law_X4_add : GoodIn wsL_law wsX4_add := goodIn_r _ [448, 64, 449, 450, 285, 286, 5, 287, 106, 107, 108, 451, 452, 453, 74, 75, 76, 109, 110, 111, 112, 113, 454, 455, 456, 457, 194, 66, 458, 459, 460, 461, 462, 463, 825, 826, 827, 828, 829, 830, 831, 832, 833, 834, 835] (by decide +kernel) (by decide +kernel)
set_option maxRecDepth 20000 in
theorem gL_law_X4_add : GoodIn wsL_law (wsV RL 162 RX4 yX4_add wsX4_add) := goodIn_app (goodIn_of _ (by decide +kernel)) ggL_law_X4_add
set_option maxRecDepth 20000 in
theorem ggL_law_L_draw : GoodIn wsL_law wsL_draw := goodIn_ca (goodIn_ca (goodIn_r _ [466, 262, 82, 467, 468, 469, 2, 470, 87, 88, 21, 207, 25, 267, 268, 269, 270, 271, 272, 273, 274, 275, 20, 276, 50, 428, 429, 430, 24, 431, 189, 432, 57, 433, 434, 435, 436, 51, 165, 166, 41, 437, 438, 439, 440, 42, 43, 44, 45, 46, 47, 48, 49, 471, 472, 473, 474, 405, 278, 279, 280, 183, 184, 404, 299, 300, 301, 302, 818, 819, 820, 821, 822, 823, 824, 838, 839, 840, 841, 842, 843, 844, 845, 846, 847, 848, 849, 850, 851, 852, 853] (by decide +kernel) (by decide +kernel)) (goodIn_sub (fun _ h => List.mem_append_left _ (List.mem_append_left _ (List.mem_append_right _ h))) (by decide +kernel))) (goodIn_sub (fun _ h => List.mem_append_right _ h) (by decide +kernel))
set_option maxRecDepth 20000 in
theorem gL_law_L_draw : GoodIn wsL_law (va_wsS RL 163 yL_draw wsL_draw) := goodIn_app (goodIn_of _ (by decide +kernel)) ggL_law_L_draw
set_option maxRecDepth 20000 in
theorem ggL_law_X4_draw : GoodIn wsL_law wsX4_draw := goodIn_r _ [478, 64, 285, 286, 5, 287, 106, 107, 108, 109, 110, 111, 112, 113, 454, 455, 456, 457, 194, 66, 458, 459, 460, 479, 480, 481, 288, 289, 290, 74, 75, 76, 307, 308, 309, 310, 825, 826, 827, 828, 829, 830, 831, 832, 833, 834, 835] (by decide +kernel) (by decide +kernel)
set_option maxRecDepth 20000 in
theorem gL_law_X4_draw : GoodIn wsL_law (wsV RL 165 RX4 yX4_draw wsX4_draw) := goodIn_app (goodIn_of _ (by decide +kernel)) ggL_law_X4_draw
set_option maxRecDepth 20000 in
theorem ggL_law_L_beats : GoodIn wsL_law wsL_beats := goodIn_ca (goodIn_r _ [484, 81, 485, 486, 487, 2, 488, 25, 21, 90, 91, 92, 93, 94, 428, 429, 430, 24, 431, 189, 432, 57, 433, 434, 435, 20, 436, 50, 51, 165, 166, 41, 437, 438, 439, 440, 42, 43, 44, 45, 46, 47, 48, 49, 489, 490, 491, 492, 493, 494, 495, 496, 183, 184, 497, 498, 499, 500, 501, 502, 426, 503, 504, 505, 506, 507, 508, 509, 510, 511, 512, 513, 514, 515, 516, 517, 518, 519, 520, 521, 208, 209, 210, 211, 212, 213, 214, 215, 216, 217, 218, 219, 818, 819, 820, 821, 822, 823, 824, 851, 852, 853, 838, 839, 840, 841, 842, 843, 844, 845, 846, 847, 848, 849, 850] (by decide +kernel) (by decide +kernel)) (goodIn_sub (fun _ h => List.mem_append_left _ (List.mem_append_right _ h)) (by decide +kernel))
set_option maxRecDepth 20000 in
theorem gL_law_L_beats : GoodIn wsL_law (va_wsS RL 166 yL_beats wsL_beats) := goodIn_app (goodIn_of _ (by decide +kernel)) ggL_law_L_beats
set_option maxRecDepth 20000 in
theorem ggL_law_X4_beats : GoodIn wsL_law wsX4_beats := goodIn_r _ [525, 526, 64, 106, 107, 5, 108, 109, 110, 111, 112, 113, 454, 455, 456, 457, 194, 66, 458, 459, 460, 527, 528, 529, 530, 531, 532, 533, 534, 69, 70, 74, 75, 76, 535, 536, 537, 241, 242, 243, 244, 245, 246, 825, 826, 827, 828, 829, 830, 831, 832, 833, 834, 835] (by decide +kernel) (by decide +kernel)
set_option maxRecDepth 20000 in
theorem gL_law_X4_beats : GoodIn wsL_law (wsV RL 168 RX4 yX4_beats wsX4_beats) := goodIn_app (goodIn_of _ (by decide +kernel)) ggL_law_X4_beats
set_option maxRecDepth 20000 in
theorem ggL_law_L_setPace : GoodIn wsL_law wsL_setPace := goodIn_ca (goodIn_r _ [540, 81, 541, 542, 543, 2, 544, 25, 21, 205, 90, 91, 92, 93, 94, 428, 429, 430, 24, 431, 189, 432, 57, 433, 434, 435, 20, 436, 50, 51, 165, 166, 41, 437, 438, 439, 440, 42, 43, 44, 45, 46, 47, 48, 49, 818, 819, 820, 821, 822, 823, 824, 838, 839, 840, 841, 842, 843, 844, 845, 846, 847, 848, 849, 850, 851, 852, 853] (by decide +kernel) (by decide +kernel)) (goodIn_sub (fun _ h => List.mem_append_left _ (List.mem_append_right _ h)) (by decide +kernel))
set_option maxRecDepth 20000 in
theorem gL_law_L_setPace : GoodIn wsL_law (va_wsS RL 169 yL_setPace wsL_setPace) := goodIn_app (goodIn_of _ (by decide +kernel)) ggL_law_L_setPace
set_option maxRecDepth 20000 in
theorem ggL_law_X4_setPace : GoodIn wsL_law wsX4_setPace := goodIn_r _ [548, 549, 64, 106, 107, 5, 108, 109, 110, 111, 112, 113, 454, 455, 456, 457, 194, 66, 458, 459, 460, 825, 826, 827, 828, 829, 830, 831, 832, 833, 834, 835] (by decide +kernel) (by decide +kernel)
set_option maxRecDepth 20000 in
theorem gL_law_X4_setPace : GoodIn wsL_law (wsV RL 171 RX4 yX4_setPace wsX4_setPace) := goodIn_app (goodIn_of _ (by decide +kernel)) ggL_law_X4_setPace
set_option maxRecDepth 20000 in
theorem ggL_law_L_link : GoodIn wsL_law wsL_link := goodIn_ca (goodIn_r _ [552, 262, 553, 554, 555, 2, 556, 271, 272, 21, 25, 319, 557, 519, 520, 20, 521, 50, 428, 429, 430, 24, 431, 189, 432, 57, 433, 434, 435, 436, 51, 165, 166, 41, 437, 438, 439, 440, 42, 43, 44, 45, 46, 47, 48, 49, 558, 559, 560, 561, 818, 819, 820, 821, 822, 823, 824, 838, 839, 840, 841, 842, 843, 844, 845, 846, 847, 848, 849, 850, 851, 852, 853] (by decide +kernel) (by decide +kernel)) (goodIn_sub (fun _ h => List.mem_append_right _ h) (by decide +kernel))
set_option maxRecDepth 20000 in
theorem gL_law_L_link : GoodIn wsL_law (va_wsS RL 172 yL_link wsL_link) := goodIn_app (goodIn_of _ (by decide +kernel)) ggL_law_L_link
set_option maxRecDepth 20000 in
theorem ggL_law_X4_link : GoodIn wsL_law wsX4_link := goodIn_r _ [565, 64, 106, 107, 5, 108, 109, 110, 111, 112, 113, 454, 455, 456, 457, 194, 66, 458, 459, 460, 566, 567, 568, 74, 75, 76, 825, 826, 827, 828, 829, 830, 831, 832, 833, 834, 835] (by decide +kernel) (by decide +kernel)
set_option maxRecDepth 20000 in
theorem gL_law_X4_link : GoodIn wsL_law (wsV RL 174 RX4 yX4_link wsX4_link) := goodIn_app (goodIn_of _ (by decide +kernel)) ggL_law_X4_link
set_option maxRecDepth 20000 in
theorem ggL_law_L_resize : GoodIn wsL_law wsL_resize := goodIn_ca (goodIn_ca (goodIn_r _ [571, 262, 81, 572, 573, 574, 2, 575, 25, 21, 318, 267, 268, 269, 270, 271, 272, 273, 274, 275, 20, 276, 50, 90, 91, 92, 93, 94, 428, 429, 430, 24, 431, 189, 432, 57, 433, 434, 435, 436, 51, 165, 166, 41, 437, 438, 439, 440, 42, 43, 44, 45, 46, 47, 48, 49, 576, 577, 578, 579, 183, 184, 818, 819, 820, 821, 822, 823, 824, 838, 839, 840, 841, 842, 843, 844, 845, 846, 847, 848, 849, 850, 851, 852, 853] (by decide +kernel) (by decide +kernel)) (goodIn_sub (fun _ h => List.mem_append_right _ h) (by decide +kernel))) (goodIn_sub (fun _ h => List.mem_append_left _ (List.mem_append_right _ h)) (by decide +kernel))
set_option maxRecDepth 20000 in
theorem gL_law_L_resize : GoodIn wsL_law (va_wsS RL 175 yL_resize wsL_resize) := goodIn_app (goodIn_of _ (by decide +kernel)) ggL_law_L_resize
set_option maxRecDepth 20000 in
theorem ggL_law_X4_resize : GoodIn wsL_law wsX4_resize := goodIn_r _ [583, 64, 549, 285, 286, 5, 287, 106, 107, 108, 109, 110, 111, 112, 113, 454, 455, 456, 457, 194, 66, 458, 459, 460, 74, 75, 76, 825, 826, 827, 828, 829, 830, 831, 832, 833, 834, 835] (by decide +kernel) (by decide +kernel)
set_option maxRecDepth 20000 in
theorem gL_law_X4_resize : GoodIn wsL_law (wsV RL 177 RX4 yX4_resize wsX4_resize) := goodIn_app (goodIn_of _ (by decide +kernel)) ggL_law_X4_resize
set_option maxRecDepth 20000 in
theorem ggL_law_L_pour : GoodIn wsL_law wsL_pour := goodIn_ca (goodIn_ca (goodIn_r _ [586, 262, 81, 587, 588, 589, 2, 590, 93, 94, 25, 21, 267, 268, 269, 270, 271, 272, 273, 274, 275, 20, 276, 50, 428, 429, 430, 24, 431, 189, 432, 57, 433, 434, 435, 436, 51, 165, 166, 41, 437, 438, 439, 440, 42, 43, 44, 45, 46, 47, 48, 49, 298, 299, 300, 301, 302, 183, 184, 591, 592, 593, 594, 818, 819, 820, 821, 822, 823, 824, 838, 839, 840, 841, 842, 843, 844, 845, 846, 847, 848, 849, 850, 851, 852, 853] (by decide +kernel) (by decide +kernel)) (goodIn_sub (fun _ h => List.mem_append_left _ (List.mem_append_right _ h)) (by decide +kernel))) (goodIn_sub (fun _ h => List.mem_append_right _ h) (by decide +kernel))
set_option maxRecDepth 20000 in
theorem gL_law_L_pour : GoodIn wsL_law (va_wsS RL 178 yL_pour wsL_pour) := goodIn_app (goodIn_of _ (by decide +kernel)) ggL_law_L_pour
set_option maxRecDepth 20000 in
theorem ggL_law_X4_pour : GoodIn wsL_law wsX4_pour := goodIn_r _ [598, 64, 285, 286, 5, 287, 106, 107, 108, 109, 110, 111, 112, 113, 454, 455, 456, 457, 194, 66, 458, 459, 460, 599, 600, 601, 307, 308, 309, 310, 74, 75, 76, 825, 826, 827, 828, 829, 830, 831, 832, 833, 834, 835] (by decide +kernel) (by decide +kernel)
set_option maxRecDepth 20000 in
theorem gL_law_X4_pour : GoodIn wsL_law (wsV RL 180 RX4 yX4_pour wsX4_pour) := goodIn_app (goodIn_of _ (by decide +kernel)) ggL_law_X4_pour
set_option maxRecDepth 20000 in
theorem ggL_law_L_undo : GoodIn wsL_law wsL_undo := goodIn_ca (goodIn_r _ [604, 82, 605, 606, 607, 2, 608, 87, 88, 25, 609, 21, 610, 611, 612, 24, 613, 189, 57, 432, 433, 434, 435, 20, 436, 50, 51, 165, 166, 41, 437, 438, 439, 440, 42, 43, 44, 45, 46, 47, 48, 49, 818, 819, 820, 821, 822, 823, 824, 851, 852, 853, 838, 839, 840, 841, 842, 843, 844, 845, 846, 847, 848, 849, 850] (by decide +kernel) (by decide +kernel)) (goodIn_sub (fun _ h => List.mem_append_left _ (List.mem_append_left _ (List.mem_append_right _ h))) (by decide +kernel))
set_option maxRecDepth 20000 in
theorem gL_law_L_undo : GoodIn wsL_law (va_wsS RL 181 yL_undo wsL_undo) := goodIn_app (goodIn_of _ (by decide +kernel)) ggL_law_L_undo
set_option maxRecDepth 20000 in
theorem ggL_law_X4_undo : GoodIn wsL_law wsX4_undo := goodIn_r _ [617, 194, 66, 64, 109, 110, 111, 5, 112, 113, 458, 459, 460, 825, 826, 827, 828, 829, 830, 831, 832, 833, 834, 835] (by decide +kernel) (by decide +kernel)
set_option maxRecDepth 20000 in
theorem gL_law_X4_undo : GoodIn wsL_law (wsV RL 183 RX4 yX4_undo wsX4_undo) := goodIn_app (goodIn_of _ (by decide +kernel)) ggL_law_X4_undo
set_option maxRecDepth 20000 in
theorem ggL_law_L_settled : GoodIn wsL_law wsL_settled := goodIn_ca (goodIn_r _ [620, 262, 621, 622, 623, 2, 624, 29, 21, 267, 268, 269, 270, 271, 272, 273, 274, 275, 20, 276, 50, 625, 434, 435, 436, 51, 165, 166, 41, 437, 438, 439, 440, 42, 43, 44, 45, 46, 47, 48, 49, 626, 627, 628, 629, 630, 631, 632, 633, 634, 635, 636, 637, 638, 212, 213, 214, 215, 216, 217, 218, 219, 183, 184, 493, 494, 495, 496, 497, 498, 499, 500, 501, 502, 426, 503, 504, 505, 506, 507, 508, 509, 510, 511, 512, 513, 514, 515, 516, 517, 518, 519, 520, 521, 818, 819, 820, 821, 822, 823, 824, 838, 839, 840, 841, 842, 843, 844, 845, 846, 847, 848, 849, 850] (by decide +kernel) (by decide +kernel)) (goodIn_sub (fun _ h => List.mem_append_right _ h) (by decide +kernel))
set_option maxRecDepth 20000 in
theorem gL_law_L_settled : GoodIn wsL_law (va_wsS RL 184 yL_settled wsL_settled) := goodIn_app (goodIn_of _ (by decide +kernel)) ggL_law_L_settled
set_option maxRecDepth 20000 in
theorem ggL_law_X4_settled : GoodIn wsL_law wsX4_settled := goodIn_r _ [642, 64, 65, 285, 286, 5, 287, 106, 107, 108, 109, 110, 111, 112, 113, 458, 459, 460, 643, 644, 645, 646, 647, 648, 649, 74, 75, 76, 244, 245, 246, 531, 532, 533, 534, 69, 70, 535, 536, 537, 825, 826, 827, 828, 829, 830, 831, 832, 833, 834, 835] (by decide +kernel) (by decide +kernel)
set_option maxRecDepth 20000 in
theorem gL_law_X4_settled : GoodIn wsL_law (wsV RL 186 RX4 yX4_settled wsX4_settled) := goodIn_app (goodIn_of _ (by decide +kernel)) ggL_law_X4_settled
set_option maxRecDepth 20000 in
theorem ggL_law_L_shownAtLast : GoodIn wsL_law wsL_shownAtLast := goodIn_ca (goodIn_r _ [652, 262, 653, 654, 655, 2, 656, 29, 21, 267, 268, 269, 270, 271, 272, 273, 274, 275, 20, 276, 50, 625, 434, 435, 436, 51, 165, 166, 41, 437, 438, 439, 440, 42, 43, 44, 45, 46, 47, 48, 49, 626, 627, 628, 629, 630, 631, 632, 633, 634, 635, 636, 637, 638, 212, 213, 214, 215, 216, 217, 218, 219, 183, 184, 493, 494, 495, 496, 497, 498, 499, 500, 501, 502, 426, 503, 504, 505, 506, 507, 508, 509, 510, 511, 512, 513, 514, 515, 516, 517, 518, 519, 520, 521, 277, 278, 279, 280, 818, 819, 820, 821, 822, 823, 824, 838, 839, 840, 841, 842, 843, 844, 845, 846, 847, 848, 849, 850] (by decide +kernel) (by decide +kernel)) (goodIn_sub (fun _ h => List.mem_append_right _ h) (by decide +kernel))
set_option maxRecDepth 20000 in
theorem gL_law_L_shownAtLast : GoodIn wsL_law (va_wsS RL 187 yL_shownAtLast wsL_shownAtLast) := goodIn_app (goodIn_of _ (by decide +kernel)) ggL_law_L_shownAtLast
set_option maxRecDepth 20000 in
theorem ggL_law_X4_shownAtLast : GoodIn wsL_law wsX4_shownAtLast := goodIn_r _ [660, 64, 65, 285, 286, 5, 287, 106, 107, 108, 109, 110, 111, 112, 113, 458, 459, 460, 661, 662, 663, 241, 242, 243, 244, 245, 246, 74, 75, 76, 531, 532, 533, 534, 69, 70, 535, 536, 537, 288, 289, 290, 825, 826, 827, 828, 829, 830, 831, 832, 833, 834, 835] (by decide +kernel) (by decide +kernel)
set_option maxRecDepth 20000 in
theorem gL_law_X4_shownAtLast : GoodIn wsL_law (wsV RL 189 RX4 yX4_shownAtLast wsX4_shownAtLast) := goodIn_app (goodIn_of _ (by decide +kernel)) ggL_law_X4_shownAtLast
set_option maxRecDepth 20000 in
theorem ggL_law_L_whenShown : GoodIn wsL_law wsL_whenShown := goodIn_ca (goodIn_ca (goodIn_r _ [666, 262, 81, 667, 668, 669, 2, 670, 29, 21, 267, 268, 269, 270, 271, 272, 273, 274, 275, 20, 276, 50, 90, 91, 92, 93, 94, 625, 434, 435, 436, 51, 165, 166, 41, 437, 438, 439, 440, 42, 43, 44, 45, 46, 47, 48, 49, 671, 672, 673, 674, 630, 631, 632, 633, 634, 405, 278, 279, 280, 183, 184, 635, 636, 637, 638, 212, 213, 214, 215, 216, 217, 218, 219, 493, 494, 495, 496, 497, 498, 499, 500, 501, 502, 426, 503, 504, 505, 506, 507, 508, 509, 510, 511, 512, 513, 514, 515, 516, 517, 518, 519, 520, 521, 818, 819, 820, 821, 822, 823, 824, 838, 839, 840, 841, 842, 843, 844, 845, 846, 847, 848, 849, 850] (by decide +kernel) (by decide +kernel)) (goodIn_sub (fun _ h => List.mem_append_right _ h) (by decide +kernel))) (goodIn_sub (fun _ h => List.mem_append_left _ (List.mem_append_right _ h)) (by decide +kernel))
set_option maxRecDepth 20000 in
theorem gL_law_L_whenShown : GoodIn wsL_law (va_wsS RL 190 yL_whenShown wsL_whenShown) := goodIn_app (goodIn_of _ (by decide +kernel)) ggL_law_L_whenShown
set_option maxRecDepth 20000 in
theorem ggL_law_X4_whenShown : GoodIn wsL_law wsX4_whenShown := goodIn_r _ [678, 64, 450, 65, 285, 286, 5, 287, 106, 107, 108, 109, 110, 111, 112, 113, 458, 459, 460, 288, 289, 290, 74, 75, 76, 661, 662, 663, 241, 242, 243, 244, 245, 246, 531, 532, 533, 534, 69, 70, 535, 536, 537, 825, 826, 827, 828, 829, 830, 831, 832, 833, 834, 835] (by decide +kernel) (by decide +kernel)
set_option maxRecDepth 20000 in
theorem gL_law_X4_whenShown : GoodIn wsL_law (wsV RL 192 RX4 yX4_whenShown wsX4_whenShown) := goodIn_app (goodIn_of _ (by decide +kernel)) ggL_law_X4_whenShown
set_option maxRecDepth 20000 in
theorem ggL_law_L_leastPace : GoodIn wsL_law wsL_leastPace := goodIn_ca (goodIn_r _ [681, 81, 682, 683, 684, 2, 685, 29, 21, 205, 90, 91, 92, 93, 94, 625, 434, 435, 20, 436, 50, 51, 165, 166, 41, 437, 438, 439, 440, 42, 43, 44, 45, 46, 47, 48, 49, 489, 490, 491, 492, 493, 494, 495, 496, 183, 184, 497, 498, 499, 500, 501, 502, 426, 503, 504, 505, 506, 507, 508, 509, 510, 511, 512, 513, 514, 515, 516, 517, 518, 519, 520, 521, 220, 221, 222, 223, 216, 217, 218, 219, 818, 819, 820, 821, 822, 823, 824, 838, 839, 840, 841, 842, 843, 844, 845, 846, 847, 848, 849, 850] (by decide +kernel) (by decide +kernel)) (goodIn_sub (fun _ h => List.mem_append_left _ (List.mem_append_right _ h)) (by decide +kernel))
set_option maxRecDepth 20000 in
theorem gL_law_L_leastPace : GoodIn wsL_law (va_wsS RL 193 yL_leastPace wsL_leastPace) := goodIn_app (goodIn_of _ (by decide +kernel)) ggL_law_L_leastPace
set_option maxRecDepth 20000 in
theorem ggL_law_X4_leastPace : GoodIn wsL_law wsX4_leastPace := goodIn_r _ [689, 526, 64, 65, 106, 107, 5, 108, 109, 110, 111, 112, 113, 458, 459, 460, 527, 528, 529, 530, 531, 532, 533, 534, 69, 70, 74, 75, 76, 535, 536, 537, 241, 242, 243, 244, 245, 246, 661, 662, 663, 825, 826, 827, 828, 829, 830, 831, 832, 833, 834, 835] (by decide +kernel) (by decide +kernel)
set_option maxRecDepth 20000 in
theorem gL_law_X4_leastPace : GoodIn wsL_law (wsV RL 195 RX4 yX4_leastPace wsX4_leastPace) := goodIn_app (goodIn_of _ (by decide +kernel)) ggL_law_X4_leastPace
set_option maxRecDepth 20000 in
theorem ggL_law_L_slowest : GoodIn wsL_law wsL_slowest := goodIn_ca (goodIn_r _ [692, 262, 693, 694, 695, 2, 696, 21, 318, 29, 267, 268, 269, 270, 271, 272, 273, 274, 275, 20, 276, 50, 697, 698, 699, 625, 434, 435, 436, 51, 165, 166, 41, 437, 438, 439, 440, 42, 43, 44, 45, 46, 47, 48, 49, 441, 442, 443, 444, 424, 425, 426, 427, 183, 184, 626, 627, 628, 629, 630, 631, 632, 633, 634, 635, 636, 637, 638, 212, 213, 214, 215, 216, 217, 218, 219, 493, 494, 495, 496, 497, 498, 499, 500, 501, 502, 503, 504, 505, 506, 507, 508, 509, 510, 511, 512, 513, 514, 515, 516, 517, 518, 519, 520, 521, 818, 819, 820, 821, 822, 823, 824, 838, 839, 840, 841, 842, 843, 844, 845, 846, 847, 848, 849, 850] (by decide +kernel) (by decide +kernel)) (goodIn_sub (fun _ h => List.mem_append_right _ h) (by decide +kernel))
set_option maxRecDepth 20000 in
theorem gL_law_L_slowest : GoodIn wsL_law (va_wsS RL 196 yL_slowest wsL_slowest) := goodIn_app (goodIn_of _ (by decide +kernel)) ggL_law_L_slowest
set_option maxRecDepth 20000 in
theorem ggL_law_X4_slowest : GoodIn wsL_law wsX4_slowest := goodIn_r _ [703, 64, 65, 285, 286, 5, 287, 106, 107, 108, 109, 110, 111, 112, 113, 74, 75, 76, 458, 459, 460, 461, 462, 463, 643, 644, 645, 646, 647, 648, 649, 244, 245, 246, 531, 532, 533, 534, 69, 70, 535, 536, 537, 825, 826, 827, 828, 829, 830, 831, 832, 833, 834, 835] (by decide +kernel) (by decide +kernel)
set_option maxRecDepth 20000 in
theorem gL_law_X4_slowest : GoodIn wsL_law (wsV RL 198 RX4 yX4_slowest wsX4_slowest) := goodIn_app (goodIn_of _ (by decide +kernel)) ggL_law_X4_slowest
set_option maxRecDepth 20000 in
theorem ggL_law_L_doubles : GoodIn wsL_law wsL_doubles := goodIn_ca (goodIn_ca (goodIn_r _ [706, 262, 81, 707, 708, 709, 2, 710, 29, 21, 267, 268, 269, 270, 271, 272, 273, 274, 275, 20, 276, 50, 90, 91, 92, 93, 94, 625, 434, 435, 436, 51, 165, 166, 41, 437, 438, 439, 440, 42, 43, 44, 45, 46, 47, 48, 49, 471, 472, 473, 474, 405, 278, 279, 280, 183, 184, 404, 299, 300, 301, 302, 489, 490, 491, 492, 493, 494, 495, 496, 497, 498, 499, 500, 501, 502, 426, 503, 504, 505, 506, 507, 508, 509, 510, 511, 512, 513, 514, 515, 516, 517, 518, 519, 520, 521, 224, 225, 226, 227, 228, 229, 230, 231, 232, 233, 234, 235, 818, 819, 820, 821, 822, 823, 824, 838, 839, 840, 841, 842, 843, 844, 845, 846, 847, 848, 849, 850] (by decide +kernel) (by decide +kernel)) (goodIn_sub (fun _ h => List.mem_append_right _ h) (by decide +kernel))) (goodIn_sub (fun _ h => List.mem_append_left _ (List.mem_append_right _ h)) (by decide +kernel))
set_option maxRecDepth 20000 in
theorem gL_law_L_doubles : GoodIn wsL_law (va_wsS RL 199 yL_doubles wsL_doubles) := goodIn_app (goodIn_of _ (by decide +kernel)) ggL_law_L_doubles
set_option maxRecDepth 20000 in
theorem ggL_law_X4_doubles : GoodIn wsL_law wsX4_doubles := goodIn_r _ [714, 64, 549, 65, 285, 286, 5, 287, 106, 107, 108, 109, 110, 111, 112, 113, 458, 459, 460, 479, 480, 481, 288, 289, 290, 74, 75, 76, 307, 308, 309, 310, 531, 532, 533, 534, 69, 70, 535, 536, 537, 250, 251, 252, 253, 254, 255, 256, 257, 258, 825, 826, 827, 828, 829, 830, 831, 832, 833, 834, 835] (by decide +kernel) (by decide +kernel)
set_option maxRecDepth 20000 in
theorem gL_law_X4_doubles : GoodIn wsL_law (wsV RL 201 RX4 yX4_doubles wsX4_doubles) := goodIn_app (goodIn_of _ (by decide +kernel)) ggL_law_X4_doubles
set_option maxRecDepth 20000 in
theorem ggL_law_L_runScript : GoodIn wsL_law wsL_runScript := goodIn_ca (goodIn_r _ [717, 81, 718, 719, 720, 2, 721, 93, 94, 29, 21, 31, 90, 91, 92, 722, 723, 724, 725, 726, 625, 434, 435, 20, 436, 50, 51, 165, 166, 41, 437, 438, 439, 440, 42, 43, 44, 45, 46, 47, 48, 49, 727, 728, 729, 730, 731, 732, 733, 734, 735, 274, 275, 276, 736, 421, 422, 423, 424, 425, 426, 427, 737, 442, 443, 444, 183, 184, 738, 739, 740, 741, 742, 472, 473, 474, 405, 278, 279, 280, 404, 299, 300, 301, 302, 743, 744, 745, 489, 490, 491, 492, 493, 494, 495, 496, 497, 498, 499, 500, 501, 502, 503, 504, 505, 506, 507, 508, 509, 510, 511, 512, 513, 514, 515, 516, 517, 518, 519, 520, 521, 746, 747, 748, 205, 749, 750, 751, 319, 557, 273, 277, 752, 213, 214, 215, 216, 217, 218, 219, 753, 754, 755, 298, 818, 819, 820, 821, 822, 823, 824, 838, 839, 840, 841, 842, 843, 844, 845, 846, 847, 848, 849, 850] (by decide +kernel) (by decide +kernel)) (goodIn_sub (fun _ h => List.mem_append_left _ (List.mem_append_right _ h)) (by decide +kernel))
set_option maxRecDepth 20000 in
theorem gL_law_L_runScript : GoodIn wsL_law (va_wsS RL 204 yL_runScript wsL_runScript) := goodIn_app (goodIn_of _ (by decide +kernel)) ggL_law_L_runScript
set_option maxRecDepth 20000 in
theorem ggL_law_X4_runScript : GoodIn wsL_law wsX4_runScript := goodIn_r _ [759, 760, 310, 64, 65, 761, 106, 107, 5, 108, 109, 110, 111, 112, 113, 458, 459, 460, 762, 763, 764, 765, 526, 549, 285, 286, 287, 451, 452, 453, 74, 75, 76, 461, 462, 463, 479, 480, 481, 288, 289, 290, 307, 308, 309, 527, 528, 529, 530, 531, 532, 533, 534, 69, 70, 535, 536, 537, 241, 242, 243, 244, 245, 246, 566, 567, 568, 825, 826, 827, 828, 829, 830, 831, 832, 833, 834, 835] (by decide +kernel) (by decide +kernel)
set_option maxRecDepth 20000 in
theorem gL_law_X4_runScript : GoodIn wsL_law (wsV RL 207 RX4 yX4_runScript wsX4_runScript) := goodIn_app (goodIn_of _ (by decide +kernel)) ggL_law_X4_runScript
set_option maxRecDepth 20000 in
theorem ggL_law_L_simulate : GoodIn wsL_law wsL_simulate := goodIn_ca (goodIn_r _ [768, 81, 769, 770, 771, 2, 772, 29, 21, 773, 774, 90, 91, 92, 93, 94, 625, 434, 435, 20, 436, 50, 51, 165, 166, 41, 437, 438, 439, 440, 42, 43, 44, 45, 46, 47, 48, 49, 224, 225, 226, 227, 228, 229, 230, 231, 232, 233, 234, 235, 775, 776, 777, 160, 738, 739, 740, 741, 735, 274, 275, 276, 742, 472, 473, 474, 405, 278, 279, 280, 183, 184, 404, 299, 300, 301, 302, 731, 732, 733, 734, 736, 421, 422, 423, 424, 425, 426, 427, 737, 442, 443, 444, 778, 779, 780, 781, 782, 592, 593, 594, 489, 490, 491, 492, 493, 494, 495, 496, 497, 498, 499, 500, 501, 502, 503, 504, 505, 506, 507, 508, 509, 510, 511, 512, 513, 514, 515, 516, 517, 518, 519, 520, 521, 220, 221, 222, 223, 216, 217, 218, 219, 818, 819, 820, 821, 822, 823, 824, 838, 839, 840, 841, 842, 843, 844, 845, 846, 847, 848, 849, 850] (by decide +kernel) (by decide +kernel)) (goodIn_sub (fun _ h => List.mem_append_left _ (List.mem_append_right _ h)) (by decide +kernel))
set_option maxRecDepth 20000 in
theorem gL_law_L_simulate : GoodIn wsL_law (va_wsS RL 208 yL_simulate wsL_simulate) := goodIn_app (goodIn_of _ (by decide +kernel)) ggL_law_L_simulate
set_option maxRecDepth 20000 in
theorem ggL_law_X4_simulate : GoodIn wsL_law wsX4_simulate := goodIn_r _ [786, 526, 64, 65, 787, 788, 106, 107, 5, 108, 109, 110, 111, 112, 113, 458, 459, 460, 789, 790, 791, 792, 479, 480, 481, 288, 289, 290, 74, 75, 76, 307, 308, 309, 310, 451, 452, 453, 461, 462, 463, 599, 600, 601, 531, 532, 533, 534, 69, 70, 535, 536, 537, 250, 251, 252, 253, 254, 255, 256, 257, 258, 247, 248, 249, 244, 245, 246, 825, 826, 827, 828, 829, 830, 831, 832, 833, 834, 835] (by decide +kernel) (by decide +kernel)
set_option maxRecDepth 20000 in
theorem gL_law_X4_simulate : GoodIn wsL_law (wsV RL 211 RX4 yX4_simulate wsX4_simulate) := goodIn_app (goodIn_of _ (by decide +kernel)) ggL_law_X4_simulate
set_option maxRecDepth 20000 in
theorem ggL_law_L_save : GoodIn wsL_law wsL_save := goodIn_ca (goodIn_r _ [795, 262, 796, 797, 798, 2, 799, 26, 21, 28, 206, 800, 801, 802, 271, 272, 625, 434, 435, 20, 436, 50, 51, 165, 166, 41, 437, 438, 439, 440, 42, 43, 44, 45, 46, 47, 48, 49, 818, 819, 820, 821, 822, 823, 824, 838, 839, 840, 841, 842, 843, 844, 845, 846, 847, 848, 849, 850] (by decide +kernel) (by decide +kernel)) (goodIn_sub (fun _ h => List.mem_append_right _ h) (by decide +kernel))
set_option maxRecDepth 20000 in
theorem gL_law_L_save : GoodIn wsL_law (va_wsS RL 212 yL_save wsL_save) := goodIn_app (goodIn_of _ (by decide +kernel)) ggL_law_L_save
set_option maxRecDepth 20000 in
theorem ggL_law_X4_save : GoodIn wsL_law wsX4_save := goodIn_r _ [806, 64, 67, 68, 106, 107, 5, 108, 109, 110, 111, 112, 113, 458, 459, 460, 825, 826, 827, 828, 829, 830, 831, 832, 833, 834, 835] (by decide +kernel) (by decide +kernel)
set_option maxRecDepth 20000 in
theorem gL_law_X4_save : GoodIn wsL_law (wsV RL 214 RX4 yX4_save wsX4_save) := goodIn_app (goodIn_of _ (by decide +kernel)) ggL_law_X4_save
set_option maxRecDepth 20000 in
theorem ggL_law_L_restore : GoodIn wsL_law wsL_restore := goodIn_ca (goodIn_ca (goodIn_r _ [809, 262, 82, 810, 811, 812, 2, 813, 87, 88, 28, 21, 26, 25, 206, 800, 801, 802, 271, 272, 625, 434, 435, 20, 436, 50, 51, 165, 166, 41, 437, 438, 439, 440, 42, 43, 44, 45, 46, 47, 48, 49, 185, 186, 187, 24, 188, 189, 818, 819, 820, 821, 822, 823, 824, 838, 839, 840, 841, 842, 843, 844, 845, 846, 847, 848, 849, 850, 851, 852, 853] (by decide +kernel) (by decide +kernel)) (goodIn_sub (fun _ h => List.mem_append_left _ (List.mem_append_left _ (List.mem_append_right _ h))) (by decide +kernel))) (goodIn_sub (fun _ h => List.mem_append_right _ h) (by decide +kernel))
set_option maxRecDepth 20000 in
theorem gL_law_L_restore : GoodIn wsL_law (va_wsS RL 215 yL_restore wsL_restore) := goodIn_app (goodIn_of _ (by decide +kernel)) ggL_law_L_restore
set_option maxRecDepth 20000 in
theorem ggL_law_X4_restore : GoodIn wsL_law wsX4_restore := goodIn_r _ [817, 68, 67, 64, 194, 106, 107, 5, 108, 109, 110, 111, 112, 113, 458, 459, 460, 825, 826, 827, 828, 829, 830, 831, 832, 833, 834, 835] (by decide +kernel) (by decide +kernel)
set_option maxRecDepth 20000 in
theorem gL_law_X4_restore : GoodIn wsL_law (wsV RL 217 RX4 yX4_restore wsX4_restore) := goodIn_app (goodIn_of _ (by decide +kernel)) ggL_law_X4_restore
