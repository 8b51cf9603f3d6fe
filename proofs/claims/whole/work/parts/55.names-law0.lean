set_option maxRecDepth 20000 in
theorem ggL_law_X4_init : GoodIn wsL_law wsX4_init := goodIn_r _ [9, 10, 11, 12, 13, 14, 15, 16, 17, 18, 19, 20, 21, 22, 23, 24, 25, 26, 27, 28, 29, 30, 31, 32, 33, 34, 35, 36, 37, 38, 39, 40, 41, 42, 43, 44, 45, 46, 47, 48, 49, 50, 51, 52, 53, 54, 55, 56, 57, 58, 59, 60, 61, 62, 63, 64, 65, 66, 67, 68, 69, 70, 71, 830, 831, 832, 833, 834, 835, 836, 837, 838, 839, 840, 841, 842, 843, 808, 809, 810, 811, 812, 813, 844, 845, 846, 847, 848, 849, 850, 851, 852, 853, 854, 855, 856, 857, 858, 859, 860, 861] (by decide +kernel) (by decide +kernel)
set_option maxRecDepth 20000 in
theorem gL_law_X4_init : GoodIn wsL_law (wsX4_init) := ggL_law_X4_init
set_option maxRecDepth 20000 in
theorem ggL_law_X5_init : GoodIn wsL_law wsX5_init := goodIn_r _ [74, 75, 11, 12, 36, 76, 77, 78, 79, 80, 50, 81, 82, 83, 84, 85, 86, 87, 88, 5, 89, 814, 815, 816, 817, 818, 819, 820, 821, 822, 823, 824, 825, 826, 827, 828, 829] (by decide +kernel) (by decide +kernel)
set_option maxRecDepth 20000 in
theorem gL_law_X5_init : GoodIn wsL_law (wsX5_init) := ggL_law_X5_init
set_option maxRecDepth 20000 in
theorem ggL_law_L_addGuest : GoodIn wsL_law wsL_addGuest := goodIn_ca (goodIn_ca (goodIn_r _ [93, 94, 95, 96, 97, 98, 2, 99, 16, 100, 101, 102, 103, 104, 105, 106, 107, 108, 109, 110, 15, 111, 34, 35, 112, 113, 114, 33, 115, 116, 117, 118, 119, 120, 121, 122, 123, 124, 125, 126, 26, 127, 128, 129, 130, 37, 131, 132, 133, 134, 38, 39, 135, 40, 41, 42, 136, 137, 138, 139, 44, 140, 141, 142, 143, 48, 49, 51, 52, 53, 144, 145, 146, 147, 148, 808, 809, 810, 811, 812, 813, 830, 831, 832, 833, 834, 835, 836, 837, 838, 839, 840, 841, 842, 843, 856, 857, 858, 859, 860, 861] (by decide +kernel) (by decide +kernel)) (goodIn_sub (fun _ h => List.mem_append_left _ (List.mem_append_left _ (List.mem_append_right _ h))) (by decide +kernel))) (goodIn_sub (fun _ h => List.mem_append_left _ (List.mem_append_right _ h)) (by decide +kernel))
set_option maxRecDepth 20000 in
theorem gL_law_L_addGuest : GoodIn wsL_law (va_wsS RL 80 yL_addGuest wsL_addGuest) := goodIn_app (goodIn_of _ (by decide +kernel)) ggL_law_L_addGuest
set_option maxRecDepth 20000 in
theorem ggL_law_X5_addGuest : GoodIn wsL_law wsX5_addGuest := goodIn_r _ [152, 153, 154, 155, 156, 5, 157, 158, 159, 160, 161, 162, 163, 164, 165, 166, 76, 167, 168, 169, 170, 171, 77, 172, 173, 174, 175, 176, 177, 178, 179, 180, 181, 182, 183, 184, 185, 814, 815, 816, 817, 818, 819, 820, 821, 822, 823, 824, 825, 826, 827, 828, 829] (by decide +kernel) (by decide +kernel)
set_option maxRecDepth 20000 in
theorem gL_law_X5_addGuest : GoodIn wsL_law (wsV RL 85 RX5 yX5_addGuest wsX5_addGuest) := goodIn_app (goodIn_of _ (by decide +kernel)) ggL_law_X5_addGuest
set_option maxRecDepth 20000 in
theorem ggL_law_X5_thrown : GoodIn wsL_law wsX5_thrown := goodIn_r _ [189, 162, 814, 815, 816, 817, 818, 819, 820, 821, 822, 823, 824, 825, 826, 827, 828, 829] (by decide +kernel) (by decide +kernel)
set_option maxRecDepth 20000 in
theorem gL_law_X5_thrown : GoodIn wsL_law (wsV RL 86 RX5 yX5_thrown wsX5_thrown) := goodIn_app (goodIn_of _ (by decide +kernel)) ggL_law_X5_thrown
set_option maxRecDepth 20000 in
theorem ggL_law_L_giveTokens : GoodIn wsL_law wsL_giveTokens := goodIn_ca (goodIn_ca (goodIn_ca (goodIn_r _ [192, 193, 94, 95, 194, 195, 196, 2, 197, 16, 198, 108, 109, 110, 15, 111, 34, 35, 199, 200, 201, 33, 202, 116, 203, 204, 205, 206, 207, 100, 101, 102, 103, 104, 105, 106, 107, 117, 118, 119, 120, 121, 122, 123, 124, 125, 126, 26, 127, 128, 129, 130, 37, 131, 132, 133, 134, 38, 39, 135, 40, 41, 42, 136, 137, 138, 139, 44, 140, 141, 142, 143, 48, 49, 51, 52, 53, 808, 809, 810, 811, 812, 813, 856, 857, 858, 859, 860, 861, 830, 831, 832, 833, 834, 835, 836, 837, 838, 839, 840, 841, 842, 843] (by decide +kernel) (by decide +kernel)) (goodIn_sub (fun _ h => List.mem_append_right _ h) (by decide +kernel))) (goodIn_sub (fun _ h => List.mem_append_left _ (List.mem_append_left _ (List.mem_append_right _ h))) (by decide +kernel))) (goodIn_sub (fun _ h => List.mem_append_left _ (List.mem_append_right _ h)) (by decide +kernel))
set_option maxRecDepth 20000 in
theorem gL_law_L_giveTokens : GoodIn wsL_law (va_wsS RL 89 yL_giveTokens wsL_giveTokens) := goodIn_app (goodIn_of _ (by decide +kernel)) ggL_law_L_giveTokens
set_option maxRecDepth 20000 in
theorem ggL_law_X5_giveTokens : GoodIn wsL_law wsX5_giveTokens := goodIn_r _ [211, 212, 153, 76, 213, 214, 215, 5, 216, 163, 164, 165, 166, 155, 156, 157, 158, 159, 160, 161, 162, 176, 177, 178, 217, 218, 219, 220, 179, 180, 181, 167, 168, 169, 170, 171, 77, 182, 183, 184, 185, 814, 815, 816, 817, 818, 819, 820, 821, 822, 823, 824, 825, 826, 827, 828, 829] (by decide +kernel) (by decide +kernel)
set_option maxRecDepth 20000 in
theorem gL_law_X5_giveTokens : GoodIn wsL_law (wsV RL 92 RX5 yX5_giveTokens wsX5_giveTokens) := goodIn_app (goodIn_of _ (by decide +kernel)) ggL_law_X5_giveTokens
set_option maxRecDepth 20000 in
theorem ggL_law_L_setHere : GoodIn wsL_law wsL_setHere := goodIn_ca (goodIn_r _ [223, 193, 224, 225, 226, 2, 227, 16, 228, 108, 109, 110, 15, 111, 34, 35, 199, 200, 201, 33, 202, 116, 203, 204, 205, 206, 207, 122, 123, 124, 125, 126, 26, 127, 128, 129, 130, 37, 131, 132, 133, 134, 38, 39, 135, 40, 41, 42, 136, 137, 138, 139, 44, 140, 141, 142, 143, 48, 49, 51, 52, 53, 229, 230, 231, 808, 809, 810, 811, 812, 813, 856, 857, 858, 859, 860, 861, 830, 831, 832, 833, 834, 835, 836, 837, 838, 839, 840, 841, 842, 843] (by decide +kernel) (by decide +kernel)) (goodIn_sub (fun _ h => List.mem_append_right _ h) (by decide +kernel))
set_option maxRecDepth 20000 in
theorem gL_law_L_setHere : GoodIn wsL_law (va_wsS RL 93 yL_setHere wsL_setHere) := goodIn_app (goodIn_of _ (by decide +kernel)) ggL_law_L_setHere
set_option maxRecDepth 20000 in
theorem ggL_law_X5_setHere : GoodIn wsL_law wsX5_setHere := goodIn_r _ [235, 76, 213, 214, 215, 5, 216, 163, 164, 165, 166, 155, 156, 157, 158, 159, 160, 161, 162, 167, 168, 169, 170, 171, 77, 176, 177, 178, 217, 218, 219, 220, 179, 180, 181, 182, 183, 184, 185, 814, 815, 816, 817, 818, 819, 820, 821, 822, 823, 824, 825, 826, 827, 828, 829] (by decide +kernel) (by decide +kernel)
set_option maxRecDepth 20000 in
theorem gL_law_X5_setHere : GoodIn wsL_law (wsV RL 96 RX5 yX5_setHere wsX5_setHere) := goodIn_app (goodIn_of _ (by decide +kernel)) ggL_law_X5_setHere
set_option maxRecDepth 20000 in
theorem ggL_law_L_setShoes : GoodIn wsL_law wsL_setShoes := goodIn_ca (goodIn_ca (goodIn_r _ [238, 193, 94, 239, 240, 241, 2, 242, 16, 243, 100, 101, 102, 203, 204, 205, 206, 207, 103, 104, 105, 106, 107, 122, 123, 124, 125, 126, 26, 127, 128, 129, 15, 130, 34, 35, 37, 131, 132, 133, 134, 38, 39, 135, 40, 41, 42, 136, 137, 138, 139, 44, 140, 141, 142, 33, 143, 116, 48, 49, 51, 52, 53, 808, 809, 810, 811, 812, 813, 830, 831, 832, 833, 834, 835, 836, 837, 838, 839, 840, 841, 842, 843, 856, 857, 858, 859, 860, 861] (by decide +kernel) (by decide +kernel)) (goodIn_sub (fun _ h => List.mem_append_right _ h) (by decide +kernel))) (goodIn_sub (fun _ h => List.mem_append_left _ (List.mem_append_left _ (List.mem_append_right _ h))) (by decide +kernel))
set_option maxRecDepth 20000 in
theorem gL_law_L_setShoes : GoodIn wsL_law (va_wsS RL 97 yL_setShoes wsL_setShoes) := goodIn_app (goodIn_of _ (by decide +kernel)) ggL_law_L_setShoes
set_option maxRecDepth 20000 in
theorem ggL_law_X5_setShoes : GoodIn wsL_law wsX5_setShoes := goodIn_r _ [247, 154, 76, 155, 156, 5, 157, 158, 159, 160, 161, 162, 167, 168, 169, 170, 171, 77, 182, 183, 184, 185, 814, 815, 816, 817, 818, 819, 820, 821, 822, 823, 824, 825, 826, 827, 828, 829] (by decide +kernel) (by decide +kernel)
set_option maxRecDepth 20000 in
theorem gL_law_X5_setShoes : GoodIn wsL_law (wsV RL 100 RX5 yX5_setShoes wsX5_setShoes) := goodIn_app (goodIn_of _ (by decide +kernel)) ggL_law_X5_setShoes
set_option maxRecDepth 20000 in
theorem ggL_law_L_setLamps : GoodIn wsL_law wsL_setLamps := goodIn_ca (goodIn_r _ [250, 94, 251, 252, 253, 2, 254, 16, 255, 256, 100, 101, 102, 103, 104, 105, 106, 107, 122, 123, 124, 125, 126, 26, 127, 128, 129, 15, 130, 34, 35, 37, 131, 132, 133, 134, 38, 39, 135, 40, 41, 42, 136, 137, 138, 139, 44, 140, 141, 142, 33, 143, 116, 48, 49, 51, 52, 53, 808, 809, 810, 811, 812, 813, 830, 831, 832, 833, 834, 835, 836, 837, 838, 839, 840, 841, 842, 843, 856, 857, 858, 859, 860, 861] (by decide +kernel) (by decide +kernel)) (goodIn_sub (fun _ h => List.mem_append_left _ (List.mem_append_left _ (List.mem_append_right _ h))) (by decide +kernel))
set_option maxRecDepth 20000 in
theorem gL_law_L_setLamps : GoodIn wsL_law (va_wsS RL 101 yL_setLamps wsL_setLamps) := goodIn_app (goodIn_of _ (by decide +kernel)) ggL_law_L_setLamps
set_option maxRecDepth 20000 in
theorem ggL_law_X5_setLamps : GoodIn wsL_law wsX5_setLamps := goodIn_r _ [260, 261, 262, 76, 155, 156, 5, 157, 158, 159, 160, 161, 162, 167, 168, 169, 170, 171, 77, 182, 183, 184, 185, 814, 815, 816, 817, 818, 819, 820, 821, 822, 823, 824, 825, 826, 827, 828, 829] (by decide +kernel) (by decide +kernel)
set_option maxRecDepth 20000 in
theorem gL_law_X5_setLamps : GoodIn wsL_law (wsV RL 103 RX5 yX5_setLamps wsX5_setLamps) := goodIn_app (goodIn_of _ (by decide +kernel)) ggL_law_X5_setLamps
set_option maxRecDepth 20000 in
theorem ggL_law_L_setFiddlers : GoodIn wsL_law wsL_setFiddlers := goodIn_ca (goodIn_r _ [265, 94, 266, 267, 268, 2, 269, 16, 270, 271, 100, 101, 102, 103, 104, 105, 106, 107, 122, 123, 124, 125, 126, 26, 127, 128, 129, 15, 130, 34, 35, 37, 131, 132, 133, 134, 38, 39, 135, 40, 41, 42, 136, 137, 138, 139, 44, 140, 141, 142, 33, 143, 116, 48, 49, 51, 52, 53, 272, 55, 56, 57, 808, 809, 810, 811, 812, 813, 830, 831, 832, 833, 834, 835, 836, 837, 838, 839, 840, 841, 842, 843, 856, 857, 858, 859, 860, 861] (by decide +kernel) (by decide +kernel)) (goodIn_sub (fun _ h => List.mem_append_left _ (List.mem_append_left _ (List.mem_append_right _ h))) (by decide +kernel))
set_option maxRecDepth 20000 in
theorem gL_law_L_setFiddlers : GoodIn wsL_law (va_wsS RL 104 yL_setFiddlers wsL_setFiddlers) := goodIn_app (goodIn_of _ (by decide +kernel)) ggL_law_L_setFiddlers
set_option maxRecDepth 20000 in
theorem ggL_law_X5_setFiddlers : GoodIn wsL_law wsX5_setFiddlers := goodIn_r _ [276, 277, 76, 155, 156, 5, 157, 158, 159, 160, 161, 162, 167, 168, 169, 170, 171, 77, 182, 183, 184, 185, 814, 815, 816, 817, 818, 819, 820, 821, 822, 823, 824, 825, 826, 827, 828, 829] (by decide +kernel) (by decide +kernel)
set_option maxRecDepth 20000 in
theorem gL_law_X5_setFiddlers : GoodIn wsL_law (wsV RL 107 RX5 yX5_setFiddlers wsX5_setFiddlers) := goodIn_app (goodIn_of _ (by decide +kernel)) ggL_law_X5_setFiddlers
set_option maxRecDepth 20000 in
theorem ggL_law_L_setPart : GoodIn wsL_law wsL_setPart := goodIn_ca (goodIn_ca (goodIn_r _ [280, 193, 94, 281, 282, 283, 2, 284, 16, 271, 285, 286, 287, 15, 288, 40, 203, 204, 205, 206, 207, 100, 101, 102, 103, 104, 105, 106, 107, 122, 123, 124, 125, 126, 26, 127, 128, 129, 130, 34, 35, 37, 131, 132, 133, 134, 38, 39, 135, 41, 42, 136, 137, 138, 139, 44, 140, 141, 142, 33, 143, 116, 48, 49, 51, 52, 53, 808, 809, 810, 811, 812, 813, 830, 831, 832, 833, 834, 835, 836, 837, 838, 839, 840, 841, 842, 843, 856, 857, 858, 859, 860, 861] (by decide +kernel) (by decide +kernel)) (goodIn_sub (fun _ h => List.mem_append_right _ h) (by decide +kernel))) (goodIn_sub (fun _ h => List.mem_append_left _ (List.mem_append_left _ (List.mem_append_right _ h))) (by decide +kernel))
set_option maxRecDepth 20000 in
theorem gL_law_L_setPart : GoodIn wsL_law (va_wsS RL 108 yL_setPart wsL_setPart) := goodIn_app (goodIn_of _ (by decide +kernel)) ggL_law_L_setPart
set_option maxRecDepth 20000 in
theorem ggL_law_X5_setPart : GoodIn wsL_law wsX5_setPart := goodIn_r _ [292, 154, 76, 293, 294, 295, 5, 296, 155, 156, 157, 158, 159, 160, 161, 162, 167, 168, 169, 170, 171, 77, 182, 183, 184, 185, 814, 815, 816, 817, 818, 819, 820, 821, 822, 823, 824, 825, 826, 827, 828, 829] (by decide +kernel) (by decide +kernel)
set_option maxRecDepth 20000 in
theorem gL_law_X5_setPart : GoodIn wsL_law (wsV RL 110 RX5 yX5_setPart wsX5_setPart) := goodIn_app (goodIn_of _ (by decide +kernel)) ggL_law_X5_setPart
set_option maxRecDepth 20000 in
theorem ggL_law_L_dance : GoodIn wsL_law wsL_dance := goodIn_ca (goodIn_r _ [299, 95, 300, 301, 302, 2, 303, 16, 21, 304, 305, 306, 15, 307, 38, 138, 308, 309, 310, 311, 39, 312, 313, 314, 315, 117, 118, 119, 120, 121, 122, 123, 124, 125, 126, 26, 127, 128, 129, 130, 34, 35, 37, 131, 132, 133, 134, 135, 40, 41, 42, 136, 137, 139, 44, 140, 141, 142, 33, 143, 116, 48, 49, 51, 52, 53, 316, 317, 318, 319, 320, 321, 322, 323, 324, 325, 326, 327, 20, 328, 65, 329, 62, 330, 331, 332, 333, 61, 334, 335, 63, 336, 337, 64, 338, 230, 231, 339, 340, 341, 342, 343, 344, 345, 346, 347, 348, 349, 350, 351, 352, 353, 354, 355, 356, 357, 358, 359, 360, 361, 362, 363, 66, 364, 365, 55, 56, 57, 366, 367, 368, 369, 370, 371, 372, 373, 374, 375, 376, 377, 378, 379, 380, 808, 809, 810, 811, 812, 813, 830, 831, 832, 833, 834, 835, 836, 837, 838, 839, 840, 841, 842, 843, 856, 857, 858, 859, 860, 861, 844, 845, 846, 847, 848, 849, 850, 851, 852] (by decide +kernel) (by decide +kernel)) (goodIn_sub (fun _ h => List.mem_append_left _ (List.mem_append_right _ h)) (by decide +kernel))
set_option maxRecDepth 20000 in
theorem gL_law_L_dance : GoodIn wsL_law (va_wsS RL 111 yL_dance wsL_dance) := goodIn_app (goodIn_of _ (by decide +kernel)) ggL_law_L_dance
set_option maxRecDepth 20000 in
theorem ggL_law_X5_dance : GoodIn wsL_law wsX5_dance := goodIn_r _ [384, 385, 386, 387, 5, 388, 76, 389, 390, 391, 392, 158, 159, 160, 161, 162, 167, 168, 169, 170, 171, 77, 393, 394, 395, 396, 83, 397, 398, 399, 400, 82, 401, 402, 403, 404, 79, 80, 81, 405, 406, 407, 408, 217, 218, 219, 220, 179, 180, 181, 409, 410, 411, 412, 413, 414, 415, 416, 417, 418, 419, 420, 182, 183, 184, 185, 814, 815, 816, 817, 818, 819, 820, 821, 822, 823, 824, 825, 826, 827, 828, 829] (by decide +kernel) (by decide +kernel)
set_option maxRecDepth 20000 in
theorem gL_law_X5_dance : GoodIn wsL_law (wsV RL 114 RX5 yX5_dance wsX5_dance) := goodIn_app (goodIn_of _ (by decide +kernel)) ggL_law_X5_dance
set_option maxRecDepth 20000 in
theorem ggL_law_X4_danceOn : GoodIn wsL_law wsX4_danceOn := goodIn_r _ [424, 16, 21, 122, 123, 124, 2, 125, 126, 26, 127, 128, 129, 15, 130, 34, 35, 37, 131, 132, 133, 134, 38, 39, 135, 40, 41, 42, 136, 137, 138, 139, 44, 140, 141, 142, 33, 143, 116, 48, 49, 51, 52, 53, 425, 426, 427, 428, 429, 305, 306, 307, 308, 309, 310, 311, 312, 313, 314, 315, 430, 317, 318, 319, 320, 321, 322, 323, 324, 325, 326, 327, 20, 328, 65, 329, 62, 330, 331, 332, 333, 61, 334, 335, 63, 336, 337, 64, 338, 230, 231, 339, 340, 341, 342, 343, 344, 345, 346, 347, 348, 349, 350, 351, 352, 353, 354, 355, 356, 357, 358, 359, 360, 361, 362, 363, 66, 364, 365, 55, 56, 57, 366, 367, 368, 369, 370, 371, 372, 373, 374, 375, 376, 377, 378, 379, 380, 808, 809, 810, 811, 812, 813, 830, 831, 832, 833, 834, 835, 836, 837, 838, 839, 840, 841, 842, 843, 856, 857, 858, 859, 860, 861, 844, 845, 846, 847, 848, 849, 850, 851, 852] (by decide +kernel) (by decide +kernel)
set_option maxRecDepth 20000 in
theorem gL_law_X4_danceOn : GoodIn wsL_law (wsV RL 115 RX4 yX4_danceOn wsX4_danceOn) := goodIn_app (goodIn_of _ (by decide +kernel)) ggL_law_X4_danceOn
set_option maxRecDepth 20000 in
theorem ggL_law_X5_danceOn : GoodIn wsL_law wsX5_danceOn := goodIn_r _ [434, 167, 168, 169, 5, 170, 171, 77, 76, 435, 436, 437, 438, 385, 386, 387, 388, 389, 390, 391, 392, 393, 394, 395, 396, 83, 397, 398, 399, 400, 82, 401, 402, 403, 404, 79, 80, 81, 405, 406, 407, 408, 217, 218, 219, 220, 179, 180, 181, 409, 410, 411, 412, 413, 414, 415, 416, 417, 418, 419, 420, 182, 183, 184, 185, 162, 814, 815, 816, 817, 818, 819, 820, 821, 822, 823, 824, 825, 826, 827, 828, 829] (by decide +kernel) (by decide +kernel)
set_option maxRecDepth 20000 in
theorem gL_law_X5_danceOn : GoodIn wsL_law (wsV RL 118 RX5 yX5_danceOn wsX5_danceOn) := goodIn_app (goodIn_of _ (by decide +kernel)) ggL_law_X5_danceOn
set_option maxRecDepth 20000 in
theorem ggL_law_X4_endNight : GoodIn wsL_law wsX4_endNight := goodIn_r _ [442, 16, 122, 123, 124, 2, 125, 126, 26, 127, 128, 129, 15, 130, 34, 35, 37, 131, 132, 133, 134, 38, 39, 135, 40, 41, 42, 136, 137, 138, 139, 44, 140, 141, 142, 33, 143, 116, 48, 49, 51, 52, 53, 443, 444, 445, 446, 447, 448, 449, 450, 451, 452, 453, 454, 455, 456, 457, 458, 459, 460, 461, 462, 463, 464, 465, 466, 54, 55, 56, 57, 808, 809, 810, 811, 812, 813, 830, 831, 832, 833, 834, 835, 836, 837, 838, 839, 840, 841, 842, 843, 856, 857, 858, 859, 860, 861] (by decide +kernel) (by decide +kernel)
set_option maxRecDepth 20000 in
theorem gL_law_X4_endNight : GoodIn wsL_law (wsV RL 119 RX4 yX4_endNight wsX4_endNight) := goodIn_app (goodIn_of _ (by decide +kernel)) ggL_law_X4_endNight
set_option maxRecDepth 20000 in
theorem ggL_law_X5_endNight : GoodIn wsL_law wsX5_endNight := goodIn_r _ [470, 76, 167, 168, 169, 5, 170, 171, 77, 471, 472, 473, 474, 475, 476, 477, 478, 405, 406, 407, 408, 179, 180, 181, 86, 87, 88, 89, 182, 183, 184, 185, 162, 814, 815, 816, 817, 818, 819, 820, 821, 822, 823, 824, 825, 826, 827, 828, 829] (by decide +kernel) (by decide +kernel)
set_option maxRecDepth 20000 in
theorem gL_law_X5_endNight : GoodIn wsL_law (wsV RL 122 RX5 yX5_endNight wsX5_endNight) := goodIn_app (goodIn_of _ (by decide +kernel)) ggL_law_X5_endNight
set_option maxRecDepth 20000 in
theorem ggL_law_L_guest : GoodIn wsL_law wsL_guest := goodIn_ca (goodIn_ca (goodIn_r _ [481, 193, 94, 482, 483, 484, 2, 485, 16, 21, 108, 109, 110, 15, 111, 34, 35, 199, 200, 201, 33, 202, 116, 203, 204, 205, 206, 207, 100, 101, 102, 103, 104, 105, 106, 107, 486, 331, 332, 20, 333, 61, 334, 335, 63, 336, 337, 64, 338, 230, 231, 339, 340, 341, 342, 343, 344, 345, 346, 347, 348, 349, 350, 351, 487, 488, 489, 490, 198, 491, 492, 228, 493, 229, 494, 353, 354, 355, 495, 496, 497, 498, 499, 500, 501, 502, 44, 503, 504, 505, 506, 808, 809, 810, 811, 812, 813, 830, 831, 832, 833, 834, 835, 836, 837, 838, 839, 840, 841, 842, 843, 856, 857, 858, 859, 860, 861, 844, 845, 846, 847, 848, 849, 850, 851, 852] (by decide +kernel) (by decide +kernel)) (goodIn_sub (fun _ h => List.mem_append_right _ h) (by decide +kernel))) (goodIn_sub (fun _ h => List.mem_append_left _ (List.mem_append_left _ (List.mem_append_right _ h))) (by decide +kernel))
set_option maxRecDepth 20000 in
theorem gL_law_L_guest : GoodIn wsL_law (va_wsS RL 123 yL_guest wsL_guest) := goodIn_app (goodIn_of _ (by decide +kernel)) ggL_law_L_guest
set_option maxRecDepth 20000 in
theorem ggL_law_X5_guest : GoodIn wsL_law wsX5_guest := goodIn_r _ [510, 511, 213, 214, 215, 5, 216, 163, 164, 165, 166, 76, 155, 156, 157, 158, 159, 160, 161, 162, 176, 177, 178, 512, 513, 514, 515, 81, 80, 401, 402, 403, 404, 79, 405, 406, 407, 408, 217, 218, 219, 220, 179, 180, 181, 182, 183, 184, 185, 814, 815, 816, 817, 818, 819, 820, 821, 822, 823, 824, 825, 826, 827, 828, 829] (by decide +kernel) (by decide +kernel)
set_option maxRecDepth 20000 in
theorem gL_law_X5_guest : GoodIn wsL_law (wsV RL 125 RX5 yX5_guest wsX5_guest) := goodIn_app (goodIn_of _ (by decide +kernel)) ggL_law_X5_guest
set_option maxRecDepth 20000 in
theorem ggL_law_L_value : GoodIn wsL_law wsL_value := goodIn_ca (goodIn_r _ [518, 94, 519, 520, 521, 2, 522, 16, 100, 101, 102, 103, 104, 105, 106, 107, 523, 524, 525, 15, 526, 34, 527, 35, 38, 39, 137, 138, 136, 40, 139, 135, 308, 309, 310, 311, 312, 313, 314, 315, 321, 322, 323, 324, 528, 529, 530, 531, 532, 500, 501, 502, 44, 230, 231, 455, 456, 457, 458, 41, 808, 809, 810, 811, 812, 813, 830, 831, 832, 833, 834, 835, 836, 837, 838, 839, 840, 841, 842, 843, 856, 857, 858, 859, 860, 861] (by decide +kernel) (by decide +kernel)) (goodIn_sub (fun _ h => List.mem_append_left _ (List.mem_append_left _ (List.mem_append_right _ h))) (by decide +kernel))
set_option maxRecDepth 20000 in
theorem gL_law_L_value : GoodIn wsL_law (va_wsS RL 126 yL_value wsL_value) := goodIn_app (goodIn_of _ (by decide +kernel)) ggL_law_L_value
set_option maxRecDepth 20000 in
theorem ggL_law_X5_value : GoodIn wsL_law wsX5_value := goodIn_r _ [536, 537, 155, 156, 5, 157, 538, 539, 540, 541, 76, 389, 390, 391, 392, 475, 476, 477, 478, 182, 183, 184, 185, 162, 158, 159, 160, 161, 814, 815, 816, 817, 818, 819, 820, 821, 822, 823, 824, 825, 826, 827, 828, 829] (by decide +kernel) (by decide +kernel)
set_option maxRecDepth 20000 in
theorem gL_law_X5_value : GoodIn wsL_law (wsV RL 128 RX5 yX5_value wsX5_value) := goodIn_app (goodIn_of _ (by decide +kernel)) ggL_law_X5_value
set_option maxRecDepth 20000 in
theorem ggL_law_L_shoes : GoodIn wsL_law wsL_shoes := goodIn_ca (goodIn_r _ [544, 193, 545, 546, 547, 2, 548, 21, 16, 549, 243, 100, 101, 102, 203, 204, 205, 206, 207, 486, 331, 332, 20, 333, 61, 334, 335, 63, 336, 337, 64, 338, 230, 231, 339, 340, 341, 342, 343, 344, 345, 346, 347, 348, 349, 350, 351, 808, 809, 810, 811, 812, 813, 844, 845, 846, 847, 848, 849, 850, 851, 852, 830, 831, 832, 833, 834, 835, 836, 837, 838, 839, 840, 841, 842, 843, 856, 857, 858, 859, 860, 861] (by decide +kernel) (by decide +kernel)) (goodIn_sub (fun _ h => List.mem_append_right _ h) (by decide +kernel))
set_option maxRecDepth 20000 in
theorem gL_law_L_shoes : GoodIn wsL_law (va_wsS RL 129 yL_shoes wsL_shoes) := goodIn_app (goodIn_of _ (by decide +kernel)) ggL_law_L_shoes
set_option maxRecDepth 20000 in
theorem ggL_law_X5_shoes : GoodIn wsL_law wsX5_shoes := goodIn_r _ [553, 154, 155, 156, 5, 157, 554, 555, 556, 557, 79, 76, 401, 402, 403, 404, 80, 81, 405, 406, 407, 408, 217, 218, 219, 220, 179, 180, 181, 182, 183, 184, 185, 162, 158, 159, 160, 161, 814, 815, 816, 817, 818, 819, 820, 821, 822, 823, 824, 825, 826, 827, 828, 829] (by decide +kernel) (by decide +kernel)
set_option maxRecDepth 20000 in
theorem gL_law_X5_shoes : GoodIn wsL_law (wsV RL 132 RX5 yX5_shoes wsX5_shoes) := goodIn_app (goodIn_of _ (by decide +kernel)) ggL_law_X5_shoes
set_option maxRecDepth 20000 in
theorem ggL_law_L_fiddler : GoodIn wsL_law wsL_fiddler := goodIn_ca (goodIn_ca (goodIn_r _ [560, 193, 94, 561, 562, 563, 2, 564, 16, 285, 286, 287, 15, 288, 40, 203, 204, 205, 206, 207, 100, 101, 102, 103, 104, 105, 106, 107, 565, 566, 567, 568, 41, 42, 447, 448, 449, 450, 136, 451, 452, 453, 454, 455, 456, 457, 458, 808, 809, 810, 811, 812, 813, 830, 831, 832, 833, 834, 835, 836, 837, 838, 839, 840, 841, 842, 843] (by decide +kernel) (by decide +kernel)) (goodIn_sub (fun _ h => List.mem_append_right _ h) (by decide +kernel))) (goodIn_sub (fun _ h => List.mem_append_left _ (List.mem_append_left _ (List.mem_append_right _ h))) (by decide +kernel))
set_option maxRecDepth 20000 in
theorem gL_law_L_fiddler : GoodIn wsL_law (va_wsS RL 133 yL_fiddler wsL_fiddler) := goodIn_app (goodIn_of _ (by decide +kernel)) ggL_law_L_fiddler
set_option maxRecDepth 20000 in
theorem ggL_law_X5_fiddler : GoodIn wsL_law wsX5_fiddler := goodIn_r _ [572, 573, 293, 294, 295, 5, 296, 76, 155, 156, 157, 158, 159, 160, 161, 162, 574, 575, 576, 577, 471, 472, 473, 474, 475, 476, 477, 478, 182, 183, 184, 185, 814, 815, 816, 817, 818, 819, 820, 821, 822, 823, 824, 825, 826, 827, 828, 829] (by decide +kernel) (by decide +kernel)
set_option maxRecDepth 20000 in
theorem gL_law_X5_fiddler : GoodIn wsL_law (wsV RL 135 RX5 yX5_fiddler wsX5_fiddler) := goodIn_app (goodIn_of _ (by decide +kernel)) ggL_law_X5_fiddler
set_option maxRecDepth 20000 in
theorem ggL_law_L_danced : GoodIn wsL_law wsL_danced := goodIn_ca (goodIn_r _ [580, 193, 581, 582, 583, 2, 584, 16, 585, 586, 587, 199, 200, 201, 33, 202, 116, 203, 204, 205, 206, 207, 808, 809, 810, 811, 812, 813, 830, 831, 832, 833, 834, 835, 836, 837, 838, 839, 840, 841, 842, 843, 856, 857, 858, 859, 860, 861] (by decide +kernel) (by decide +kernel)) (goodIn_sub (fun _ h => List.mem_append_right _ h) (by decide +kernel))
set_option maxRecDepth 20000 in
theorem gL_law_L_danced : GoodIn wsL_law (va_wsS RL 136 yL_danced wsL_danced) := goodIn_app (goodIn_of _ (by decide +kernel)) ggL_law_L_danced
set_option maxRecDepth 20000 in
theorem ggL_law_X5_danced : GoodIn wsL_law wsX5_danced := goodIn_r _ [591, 76, 213, 214, 215, 5, 216, 163, 164, 165, 166, 155, 156, 157, 182, 183, 184, 185, 162, 158, 159, 160, 161, 814, 815, 816, 817, 818, 819, 820, 821, 822, 823, 824, 825, 826, 827, 828, 829] (by decide +kernel) (by decide +kernel)
set_option maxRecDepth 20000 in
theorem gL_law_X5_danced : GoodIn wsL_law (wsV RL 138 RX5 yX5_danced wsX5_danced) := goodIn_app (goodIn_of _ (by decide +kernel)) ggL_law_X5_danced
set_option maxRecDepth 20000 in
theorem ggL_law_L_partner : GoodIn wsL_law wsL_partner := goodIn_ca (goodIn_r _ [594, 193, 595, 596, 597, 2, 598, 16, 599, 585, 100, 101, 102, 199, 200, 201, 33, 202, 116, 203, 204, 205, 206, 207, 600, 601, 602, 15, 603, 44, 808, 809, 810, 811, 812, 813, 830, 831, 832, 833, 834, 835, 836, 837, 838, 839, 840, 841, 842, 843, 856, 857, 858, 859, 860, 861] (by decide +kernel) (by decide +kernel)) (goodIn_sub (fun _ h => List.mem_append_right _ h) (by decide +kernel))
set_option maxRecDepth 20000 in
theorem gL_law_L_partner : GoodIn wsL_law (va_wsS RL 139 yL_partner wsL_partner) := goodIn_app (goodIn_of _ (by decide +kernel)) ggL_law_L_partner
set_option maxRecDepth 20000 in
theorem ggL_law_X5_partner : GoodIn wsL_law wsX5_partner := goodIn_r _ [607, 76, 155, 156, 5, 157, 213, 214, 215, 216, 163, 164, 165, 166, 158, 159, 160, 161, 162, 182, 183, 184, 185, 814, 815, 816, 817, 818, 819, 820, 821, 822, 823, 824, 825, 826, 827, 828, 829] (by decide +kernel) (by decide +kernel)
set_option maxRecDepth 20000 in
theorem gL_law_X5_partner : GoodIn wsL_law (wsV RL 141 RX5 yX5_partner wsX5_partner) := goodIn_app (goodIn_of _ (by decide +kernel)) ggL_law_X5_partner
set_option maxRecDepth 20000 in
theorem ggL_law_L_next : GoodIn wsL_law wsL_next := goodIn_ca (goodIn_r _ [610, 193, 611, 612, 613, 2, 614, 16, 585, 21, 615, 199, 200, 201, 33, 202, 116, 203, 204, 205, 206, 207, 616, 322, 323, 15, 324, 38, 308, 309, 310, 311, 39, 312, 313, 314, 315, 617, 326, 327, 20, 328, 65, 329, 62, 330, 331, 332, 333, 61, 334, 335, 63, 336, 337, 64, 338, 230, 231, 339, 340, 341, 342, 343, 344, 345, 346, 347, 348, 349, 350, 351, 352, 353, 354, 355, 356, 357, 358, 359, 360, 361, 362, 363, 66, 364, 365, 55, 56, 57, 366, 367, 368, 369, 370, 371, 372, 808, 809, 810, 811, 812, 813, 830, 831, 832, 833, 834, 835, 836, 837, 838, 839, 840, 841, 842, 843, 844, 845, 846, 847, 848, 849, 850, 851, 852, 856, 857, 858, 859, 860, 861] (by decide +kernel) (by decide +kernel)) (goodIn_sub (fun _ h => List.mem_append_right _ h) (by decide +kernel))
set_option maxRecDepth 20000 in
theorem gL_law_L_next : GoodIn wsL_law (va_wsS RL 142 yL_next wsL_next) := goodIn_app (goodIn_of _ (by decide +kernel)) ggL_law_L_next
set_option maxRecDepth 20000 in
theorem ggL_law_X5_next : GoodIn wsL_law wsX5_next := goodIn_r _ [621, 76, 83, 213, 214, 215, 5, 216, 163, 164, 165, 166, 155, 156, 157, 158, 159, 160, 161, 162, 397, 398, 399, 400, 82, 401, 402, 403, 404, 79, 80, 81, 405, 406, 407, 408, 217, 218, 219, 220, 179, 180, 181, 409, 410, 411, 412, 413, 414, 415, 416, 389, 390, 391, 392, 182, 183, 184, 185, 814, 815, 816, 817, 818, 819, 820, 821, 822, 823, 824, 825, 826, 827, 828, 829] (by decide +kernel) (by decide +kernel)
set_option maxRecDepth 20000 in
theorem gL_law_X5_next : GoodIn wsL_law (wsV RL 144 RX5 yX5_next wsX5_next) := goodIn_app (goodIn_of _ (by decide +kernel)) ggL_law_X5_next
set_option maxRecDepth 20000 in
theorem ggL_law_L_couplesWith : GoodIn wsL_law wsL_couplesWith := goodIn_ca (goodIn_r _ [624, 94, 625, 626, 627, 2, 628, 21, 16, 100, 101, 102, 103, 104, 105, 106, 107, 629, 309, 310, 15, 311, 39, 312, 313, 314, 315, 617, 326, 327, 20, 328, 65, 329, 62, 330, 331, 332, 333, 61, 334, 335, 63, 336, 337, 64, 338, 230, 231, 339, 340, 341, 342, 343, 344, 345, 346, 347, 348, 349, 350, 351, 352, 353, 354, 355, 356, 357, 358, 359, 360, 361, 362, 363, 66, 364, 365, 55, 56, 57, 366, 367, 368, 369, 370, 371, 372, 808, 809, 810, 811, 812, 813, 830, 831, 832, 833, 834, 835, 836, 837, 838, 839, 840, 841, 842, 843, 844, 845, 846, 847, 848, 849, 850, 851, 852, 856, 857, 858, 859, 860, 861] (by decide +kernel) (by decide +kernel)) (goodIn_sub (fun _ h => List.mem_append_left _ (List.mem_append_left _ (List.mem_append_right _ h))) (by decide +kernel))
set_option maxRecDepth 20000 in
theorem gL_law_L_couplesWith : GoodIn wsL_law (va_wsS RL 145 yL_couplesWith wsL_couplesWith) := goodIn_app (goodIn_of _ (by decide +kernel)) ggL_law_L_couplesWith
set_option maxRecDepth 20000 in
theorem ggL_law_X5_couplesWith : GoodIn wsL_law wsX5_couplesWith := goodIn_r _ [633, 261, 155, 156, 5, 157, 397, 398, 399, 400, 82, 83, 401, 402, 403, 404, 79, 76, 80, 81, 405, 406, 407, 408, 217, 218, 219, 220, 179, 180, 181, 409, 410, 411, 412, 413, 414, 415, 416, 389, 390, 391, 392, 182, 183, 184, 185, 162, 158, 159, 160, 161, 814, 815, 816, 817, 818, 819, 820, 821, 822, 823, 824, 825, 826, 827, 828, 829] (by decide +kernel) (by decide +kernel)
set_option maxRecDepth 20000 in
theorem gL_law_X5_couplesWith : GoodIn wsL_law (wsV RL 147 RX5 yX5_couplesWith wsX5_couplesWith) := goodIn_app (goodIn_of _ (by decide +kernel)) ggL_law_X5_couplesWith
set_option maxRecDepth 20000 in
theorem ggL_law_X4_dancesLeft : GoodIn wsL_law wsX4_dancesLeft := goodIn_r _ [637, 17, 16, 21, 127, 128, 129, 15, 130, 34, 35, 37, 131, 132, 133, 134, 38, 39, 135, 40, 41, 42, 136, 137, 138, 139, 44, 140, 141, 142, 33, 143, 116, 48, 49, 51, 52, 53, 425, 426, 427, 428, 429, 305, 306, 307, 308, 309, 310, 311, 312, 313, 314, 315, 430, 317, 318, 319, 320, 321, 322, 323, 324, 325, 326, 327, 20, 328, 65, 329, 62, 330, 331, 332, 333, 61, 334, 335, 63, 336, 337, 64, 338, 230, 2, 231, 339, 340, 341, 342, 343, 344, 345, 346, 347, 348, 349, 350, 351, 352, 353, 354, 355, 356, 357, 358, 359, 360, 361, 362, 363, 66, 364, 365, 55, 56, 57, 366, 367, 368, 369, 370, 371, 372, 373, 374, 375, 376, 377, 378, 379, 380, 808, 809, 810, 811, 812, 813, 830, 831, 832, 833, 834, 835, 836, 837, 838, 839, 840, 841, 842, 843, 856, 857, 858, 859, 860, 861, 844, 845, 846, 847, 848, 849, 850, 851, 852] (by decide +kernel) (by decide +kernel)
set_option maxRecDepth 20000 in
theorem gL_law_X4_dancesLeft : GoodIn wsL_law (wsV RL 148 RX4 yX4_dancesLeft wsX4_dancesLeft) := goodIn_app (goodIn_of _ (by decide +kernel)) ggL_law_X4_dancesLeft
set_option maxRecDepth 20000 in
theorem ggL_law_X5_dancesLeft : GoodIn wsL_law wsX5_dancesLeft := goodIn_r _ [641, 642, 643, 644, 5, 645, 78, 76, 435, 436, 437, 438, 385, 386, 387, 388, 389, 390, 391, 392, 393, 394, 395, 396, 83, 397, 398, 399, 400, 82, 401, 402, 403, 404, 79, 80, 81, 405, 406, 407, 408, 217, 218, 219, 220, 179, 180, 181, 409, 410, 411, 412, 413, 414, 415, 416, 417, 418, 419, 420, 646, 647, 648, 649, 182, 183, 184, 185, 162, 814, 815, 816, 817, 818, 819, 820, 821, 822, 823, 824, 825, 826, 827, 828, 829] (by decide +kernel) (by decide +kernel)
set_option maxRecDepth 20000 in
theorem gL_law_X5_dancesLeft : GoodIn wsL_law (wsV RL 151 RX5 yX5_dancesLeft wsX5_dancesLeft) := goodIn_app (goodIn_of _ (by decide +kernel)) ggL_law_X5_dancesLeft
set_option maxRecDepth 20000 in
theorem ggL_law_X4_bestSize : GoodIn wsL_law wsX4_bestSize := goodIn_r _ [653, 21, 16, 486, 331, 332, 20, 333, 61, 334, 335, 63, 336, 337, 64, 338, 230, 2, 231, 339, 340, 341, 342, 343, 344, 345, 346, 347, 348, 349, 350, 351, 654, 655, 656, 657, 658, 659, 660, 661, 662, 663, 664, 808, 809, 810, 811, 812, 813, 844, 845, 846, 847, 848, 849, 850, 851, 852, 830, 831, 832, 833, 834, 835, 836, 837, 838, 839, 840, 841, 842, 843, 856, 857, 858, 859, 860, 861] (by decide +kernel) (by decide +kernel)
set_option maxRecDepth 20000 in
theorem gL_law_X4_bestSize : GoodIn wsL_law (wsV RL 152 RX4 yX4_bestSize wsX4_bestSize) := goodIn_app (goodIn_of _ (by decide +kernel)) ggL_law_X4_bestSize
set_option maxRecDepth 20000 in
theorem ggL_law_X5_bestSize : GoodIn wsL_law wsX5_bestSize := goodIn_r _ [668, 76, 401, 402, 403, 5, 404, 79, 80, 81, 405, 406, 407, 408, 217, 218, 219, 220, 179, 180, 181, 182, 183, 184, 185, 162, 814, 815, 816, 817, 818, 819, 820, 821, 822, 823, 824, 825, 826, 827, 828, 829] (by decide +kernel) (by decide +kernel)
set_option maxRecDepth 20000 in
theorem gL_law_X5_bestSize : GoodIn wsL_law (wsV RL 155 RX5 yX5_bestSize wsX5_bestSize) := goodIn_app (goodIn_of _ (by decide +kernel)) ggL_law_X5_bestSize
set_option maxRecDepth 20000 in
theorem ggL_law_X4_share : GoodIn wsL_law wsX4_share := goodIn_r _ [672, 16, 585, 673, 586, 674, 529, 530, 15, 531, 532, 500, 501, 502, 44, 230, 2, 231, 808, 809, 810, 811, 812, 813, 830, 831, 832, 833, 834, 835, 836, 837, 838, 839, 840, 841, 842, 843, 856, 857, 858, 859, 860, 861] (by decide +kernel) (by decide +kernel)
set_option maxRecDepth 20000 in
theorem gL_law_X4_share : GoodIn wsL_law (wsV RL 156 RX4 yX4_share wsX4_share) := goodIn_app (goodIn_of _ (by decide +kernel)) ggL_law_X4_share
set_option maxRecDepth 20000 in
theorem ggL_law_X5_share_ : GoodIn wsL_law wsX5_share_ := goodIn_r _ [678, 162, 76, 814, 815, 816, 817, 818, 819, 820, 821, 822, 823, 824, 825, 826, 827, 828, 829] (by decide +kernel) (by decide +kernel)
set_option maxRecDepth 20000 in
theorem gL_law_X5_share_ : GoodIn wsL_law (wsV RL 160 RX5 yX5_share_ wsX5_share_) := goodIn_app (goodIn_of _ (by decide +kernel)) ggL_law_X5_share_
set_option maxRecDepth 20000 in
theorem ggL_law_L_append : GoodIn wsL_law wsL_append := goodIn_ca (goodIn_ca (goodIn_r _ [681, 94, 95, 682, 683, 684, 2, 685, 25, 686, 100, 101, 102, 103, 104, 105, 106, 107, 117, 118, 119, 120, 121, 687, 688, 689, 24, 690, 691, 71, 808, 809, 810, 811, 812, 813, 853, 854, 855] (by decide +kernel) (by decide +kernel)) (goodIn_sub (fun _ h => List.mem_append_left _ (List.mem_append_left _ (List.mem_append_right _ h))) (by decide +kernel))) (goodIn_sub (fun _ h => List.mem_append_left _ (List.mem_append_right _ h)) (by decide +kernel))
set_option maxRecDepth 20000 in
theorem gL_law_L_append : GoodIn wsL_law (va_wsS RL 161 yL_append wsL_append) := goodIn_app (goodIn_of _ (by decide +kernel)) ggL_law_L_append
set_option maxRecDepth 20000 in
theorem ggL_law_X5_append : GoodIn wsL_law wsX5_append := goodIn_r _ [695, 696, 697, 84, 155, 156, 5, 157, 158, 159, 160, 161, 162, 182, 183, 184, 185, 814, 815, 816, 817, 818, 819, 820, 821, 822, 823, 824, 825, 826, 827, 828, 829] (by decide +kernel) (by decide +kernel)
set_option maxRecDepth 20000 in
theorem gL_law_X5_append : GoodIn wsL_law (wsV RL 163 RX5 yX5_append wsX5_append) := goodIn_app (goodIn_of _ (by decide +kernel)) ggL_law_X5_append
set_option maxRecDepth 20000 in
theorem ggL_law_X4_clearText : GoodIn wsL_law wsX4_clearText := goodIn_r _ [701, 25, 686, 808, 809, 810, 811, 812, 813, 853, 854, 855] (by decide +kernel) (by decide +kernel)
set_option maxRecDepth 20000 in
theorem gL_law_X4_clearText : GoodIn wsL_law (wsV RL 164 RX4 yX4_clearText wsX4_clearText) := goodIn_app (goodIn_of _ (by decide +kernel)) ggL_law_X4_clearText
set_option maxRecDepth 20000 in
theorem ggL_law_X5_clearText : GoodIn wsL_law wsX5_clearText := goodIn_r _ [705, 697, 182, 183, 184, 5, 185, 162, 814, 815, 816, 817, 818, 819, 820, 821, 822, 823, 824, 825, 826, 827, 828, 829] (by decide +kernel) (by decide +kernel)
set_option maxRecDepth 20000 in
theorem gL_law_X5_clearText : GoodIn wsL_law (wsV RL 167 RX5 yX5_clearText wsX5_clearText) := goodIn_app (goodIn_of _ (by decide +kernel)) ggL_law_X5_clearText
set_option maxRecDepth 20000 in
theorem ggL_law_X4_parse : GoodIn wsL_law wsX4_parse := goodIn_r _ [709, 25, 17, 585, 586, 16, 673, 710, 711, 712, 24, 713, 714, 715, 691, 716, 717, 718, 719, 720, 721, 722, 723, 71, 724, 113, 114, 33, 115, 116, 725, 726, 727, 728, 729, 730, 731, 732, 733, 734, 735, 736, 737, 145, 146, 147, 48, 49, 51, 52, 53, 148, 122, 123, 124, 2, 125, 126, 26, 127, 128, 129, 15, 130, 34, 35, 37, 131, 132, 133, 134, 38, 39, 135, 40, 41, 42, 136, 137, 138, 139, 44, 140, 141, 142, 143, 738, 739, 464, 465, 466, 54, 55, 56, 57, 808, 809, 810, 811, 812, 813, 830, 831, 832, 833, 834, 835, 836, 837, 838, 839, 840, 841, 842, 843, 856, 857, 858, 859, 860, 861, 853, 854, 855] (by decide +kernel) (by decide +kernel)
set_option maxRecDepth 20000 in
theorem gL_law_X4_parse : GoodIn wsL_law (wsV RL 168 RX4 yX4_parse wsX4_parse) := goodIn_app (goodIn_of _ (by decide +kernel)) ggL_law_X4_parse
set_option maxRecDepth 20000 in
theorem ggL_law_X5_parse : GoodIn wsL_law wsX5_parse := goodIn_r _ [743, 744, 76, 745, 85, 746, 747, 748, 5, 749, 750, 697, 751, 752, 753, 754, 755, 756, 757, 758, 759, 760, 84, 761, 762, 763, 764, 765, 155, 156, 157, 766, 767, 768, 769, 182, 183, 184, 185, 162, 167, 168, 169, 170, 171, 77, 172, 173, 174, 175, 163, 164, 165, 166, 176, 177, 178, 179, 180, 181, 86, 87, 88, 89, 814, 815, 816, 817, 818, 819, 820, 821, 822, 823, 824, 825, 826, 827, 828, 829] (by decide +kernel) (by decide +kernel)
set_option maxRecDepth 20000 in
theorem gL_law_X5_parse : GoodIn wsL_law (wsV RL 171 RX5 yX5_parse wsX5_parse) := goodIn_app (goodIn_of _ (by decide +kernel)) ggL_law_X5_parse
set_option maxRecDepth 20000 in
theorem ggL_law_L_undo : GoodIn wsL_law wsL_undo := goodIn_ca (goodIn_r _ [772, 95, 773, 774, 775, 2, 776, 126, 16, 26, 117, 118, 119, 120, 121, 127, 128, 129, 15, 130, 34, 35, 37, 131, 132, 133, 134, 38, 39, 135, 40, 41, 42, 136, 137, 138, 139, 44, 140, 141, 142, 33, 143, 116, 48, 49, 51, 52, 53, 808, 809, 810, 811, 812, 813, 830, 831, 832, 833, 834, 835, 836, 837, 838, 839, 840, 841, 842, 843, 856, 857, 858, 859, 860, 861] (by decide +kernel) (by decide +kernel)) (goodIn_sub (fun _ h => List.mem_append_left _ (List.mem_append_right _ h)) (by decide +kernel))
set_option maxRecDepth 20000 in
theorem gL_law_L_undo : GoodIn wsL_law (va_wsS RL 172 yL_undo wsL_undo) := goodIn_app (goodIn_of _ (by decide +kernel)) ggL_law_L_undo
set_option maxRecDepth 20000 in
theorem ggL_law_X5_undo : GoodIn wsL_law wsX5_undo := goodIn_r _ [780, 171, 76, 77, 158, 159, 160, 5, 161, 162, 182, 183, 184, 185, 814, 815, 816, 817, 818, 819, 820, 821, 822, 823, 824, 825, 826, 827, 828, 829] (by decide +kernel) (by decide +kernel)
set_option maxRecDepth 20000 in
theorem gL_law_X5_undo : GoodIn wsL_law (wsV RL 174 RX5 yX5_undo wsX5_undo) := goodIn_app (goodIn_of _ (by decide +kernel)) ggL_law_X5_undo
set_option maxRecDepth 20000 in
theorem ggL_law_X4_digest : GoodIn wsL_law wsX4_digest := goodIn_r _ [784, 21, 16, 785, 25, 686, 243, 549, 270, 126, 616, 322, 323, 15, 324, 38, 308, 309, 310, 311, 39, 312, 313, 314, 315, 617, 326, 327, 20, 328, 65, 329, 62, 330, 331, 332, 333, 61, 334, 335, 63, 336, 337, 64, 338, 230, 2, 231, 339, 340, 341, 342, 343, 344, 345, 346, 347, 348, 349, 350, 351, 352, 353, 354, 355, 356, 357, 358, 359, 360, 361, 362, 363, 66, 364, 365, 55, 56, 57, 366, 367, 368, 369, 370, 371, 372, 786, 787, 788, 789, 523, 524, 525, 526, 34, 527, 35, 137, 138, 136, 40, 139, 135, 321, 528, 529, 530, 531, 532, 500, 501, 502, 44, 455, 456, 457, 458, 41, 790, 791, 792, 793, 673, 108, 109, 110, 111, 487, 488, 489, 490, 198, 491, 492, 228, 493, 229, 494, 495, 496, 497, 498, 499, 503, 504, 505, 506, 794, 795, 796, 797, 585, 586, 587, 615, 565, 566, 567, 568, 42, 447, 448, 449, 450, 451, 452, 453, 454, 808, 809, 810, 811, 812, 813, 853, 854, 855, 830, 831, 832, 833, 834, 835, 836, 837, 838, 839, 840, 841, 842, 843, 844, 845, 846, 847, 848, 849, 850, 851, 852, 856, 857, 858, 859, 860, 861] (by decide +kernel) (by decide +kernel)
set_option maxRecDepth 20000 in
theorem gL_law_X4_digest : GoodIn wsL_law (wsV RL 175 RX4 yX4_digest wsX4_digest) := goodIn_app (goodIn_of _ (by decide +kernel)) ggL_law_X4_digest
set_option maxRecDepth 20000 in
theorem ggL_law_X5_digest : GoodIn wsL_law wsX5_digest := goodIn_r _ [801, 162, 802, 697, 803, 76, 83, 171, 538, 539, 540, 5, 541, 389, 390, 391, 392, 475, 476, 477, 478, 554, 555, 556, 557, 79, 401, 402, 403, 404, 80, 81, 405, 406, 407, 408, 217, 218, 219, 220, 179, 180, 181, 804, 805, 806, 807, 512, 513, 514, 515, 397, 398, 399, 400, 82, 409, 410, 411, 412, 413, 414, 415, 416, 574, 575, 576, 577, 471, 472, 473, 474, 814, 815, 816, 817, 818, 819, 820, 821, 822, 823, 824, 825, 826, 827, 828, 829] (by decide +kernel) (by decide +kernel)
set_option maxRecDepth 20000 in
theorem gL_law_X5_digest : GoodIn wsL_law (wsV RL 179 RX5 yX5_digest wsX5_digest) := goodIn_app (goodIn_of _ (by decide +kernel)) ggL_law_X5_digest
theorem dL_law_0 : decode cL_law 0 = .ok (.new 8, 3) := by decide +kernel
theorem dL_law_3 : decode cL_law 3 = .ok (.dup, 1) := by decide +kernel
theorem dL_law_4 : decode cL_law 4 = .ok (.invokespecial 76, 3) := by decide +kernel
theorem dL_law_7 : decode cL_law 7 = .ok (.astore_n 1, 1) := by decide +kernel
theorem dL_law_8 : decode cL_law 8 = .ok (.new 77, 3) := by decide +kernel
theorem dL_law_11 : decode cL_law 11 = .ok (.dup, 1) := by decide +kernel
theorem dL_law_12 : decode cL_law 12 = .ok (.invokespecial 79, 3) := by decide +kernel
theorem dL_law_15 : decode cL_law 15 = .ok (.astore_n 2, 1) := by decide +kernel
theorem dL_law_16 : decode cL_law 16 = .ok (.iconst 1, 1) := by decide +kernel
theorem dL_law_17 : decode cL_law 17 = .ok (.newarray .long, 2) := by decide +kernel
