set_option maxRecDepth 20000 in
theorem ggL_law_X2_init : GoodIn wsL_law wsX2_init := goodIn_r _ [10, 11, 12, 13, 14, 15, 16, 17, 18, 19, 20, 21, 761, 762, 763, 770] (by decide +kernel) (by decide +kernel)
set_option maxRecDepth 20000 in
theorem gL_law_X2_init : GoodIn wsL_law (wsX2_init) := ggL_law_X2_init
set_option maxRecDepth 20000 in
theorem ggL_law_X3_init : GoodIn wsL_law wsX3_init := goodIn_r _ [24, 25, 12, 13, 26, 27, 28, 764, 765, 766, 767, 768, 769] (by decide +kernel) (by decide +kernel)
set_option maxRecDepth 20000 in
theorem gL_law_X3_init : GoodIn wsL_law (wsX3_init) := ggL_law_X3_init
set_option maxRecDepth 20000 in
theorem ggL_law_L_plant : GoodIn wsL_law wsL_plant := goodIn_ca (goodIn_ca (goodIn_ca (goodIn_r _ [32, 33, 34, 35, 36, 37, 38, 2, 39, 40, 41, 42, 43, 44, 45, 46, 47, 48, 49, 50, 15, 51, 52, 53, 54, 55, 56, 57, 58, 59, 60, 61, 62, 17, 63, 64, 65, 66, 67, 68, 69, 70, 71, 72, 73, 74, 75, 76, 77, 78, 79, 80, 81, 82, 83, 84, 85, 86, 87, 88, 89, 90, 91, 92, 93, 94, 95, 96, 97, 98, 99, 100, 101, 12, 13, 102, 103, 104, 105, 106, 107, 108, 109, 110, 111, 112, 113, 114, 115, 116, 117, 118, 119, 120, 121, 122, 123, 124, 125, 126, 127, 128, 129, 130, 131, 132, 133, 134, 135, 136, 137, 138, 139, 140, 141, 142, 143, 771, 772, 773, 774, 775, 776, 761, 762, 763, 770] (by decide +kernel) (by decide +kernel)) (goodIn_sub (fun _ h => List.mem_append_left _ (List.mem_append_left _ (List.mem_append_right _ h))) (by decide +kernel))) (goodIn_sub (fun _ h => List.mem_append_left _ (List.mem_append_right _ h)) (by decide +kernel))) (goodIn_sub (fun _ h => List.mem_append_right _ h) (by decide +kernel))
set_option maxRecDepth 20000 in
theorem gL_law_L_plant : GoodIn wsL_law (va_wsS RL 114 yL_plant wsL_plant) := goodIn_app (goodIn_of _ (by decide +kernel)) ggL_law_L_plant
set_option maxRecDepth 20000 in
theorem ggL_law_X3_plant : GoodIn wsL_law wsX3_plant := goodIn_r _ [147, 148, 149, 150, 151, 5, 152, 153, 154, 155, 156, 157, 158, 159, 160, 161, 162, 163, 27, 164, 165, 166, 167, 168, 169, 170, 171, 172, 173, 174, 175, 176, 177, 178, 179, 180, 181, 182, 183, 184, 185, 186, 187, 188, 189, 190, 191, 192, 193, 194, 195, 196, 197, 198, 199, 764, 765, 766, 767, 768, 769] (by decide +kernel) (by decide +kernel)
set_option maxRecDepth 20000 in
theorem gL_law_X3_plant : GoodIn wsL_law (wsV RL 119 RX3 yX3_plant wsX3_plant) := goodIn_app (goodIn_of _ (by decide +kernel)) ggL_law_X3_plant
set_option maxRecDepth 20000 in
theorem ggL_law_X3_thrown : GoodIn wsL_law wsX3_thrown := goodIn_r _ [203, 148, 764, 765, 766, 767, 768, 769] (by decide +kernel) (by decide +kernel)
set_option maxRecDepth 20000 in
theorem gL_law_X3_thrown : GoodIn wsL_law (wsV RL 120 RX3 yX3_thrown wsX3_thrown) := goodIn_app (goodIn_of _ (by decide +kernel)) ggL_law_X3_thrown
set_option maxRecDepth 20000 in
theorem ggL_law_L_eat : GoodIn wsL_law wsL_eat := goodIn_ca (goodIn_ca (goodIn_r _ [206, 33, 35, 207, 208, 209, 2, 210, 211, 45, 46, 47, 48, 49, 50, 15, 212, 213, 214, 40, 41, 84, 85, 86, 17, 87, 88, 89, 90, 91, 92, 64, 93, 94, 95, 44, 96, 97, 78, 73, 120, 121, 122, 123, 124, 125, 126, 127, 128, 111, 129, 130, 131, 132, 83, 133, 134, 135, 136, 137, 138, 139, 140, 141, 142, 113, 114, 115, 143, 117, 118, 119, 771, 772, 773, 774, 775, 776, 761, 762, 763, 770] (by decide +kernel) (by decide +kernel)) (goodIn_sub (fun _ h => List.mem_append_left _ (List.mem_append_right _ h)) (by decide +kernel))) (goodIn_sub (fun _ h => List.mem_append_left _ (List.mem_append_left _ (List.mem_append_right _ h))) (by decide +kernel))
set_option maxRecDepth 20000 in
theorem gL_law_L_eat : GoodIn wsL_law (va_wsS RL 124 yL_eat wsL_eat) := goodIn_app (goodIn_of _ (by decide +kernel)) ggL_law_L_eat
set_option maxRecDepth 20000 in
theorem ggL_law_X3_eat : GoodIn wsL_law wsX3_eat := goodIn_r _ [218, 148, 150, 151, 5, 152, 153, 154, 155, 156, 160, 161, 162, 163, 27, 219, 220, 221, 222, 176, 177, 178, 179, 180, 181, 182, 183, 184, 185, 186, 187, 188, 189, 190, 191, 192, 193, 194, 195, 196, 197, 198, 199, 172, 173, 174, 175, 764, 765, 766, 767, 768, 769] (by decide +kernel) (by decide +kernel)
set_option maxRecDepth 20000 in
theorem gL_law_X3_eat : GoodIn wsL_law (wsV RL 126 RX3 yX3_eat wsX3_eat) := goodIn_app (goodIn_of _ (by decide +kernel)) ggL_law_X3_eat
set_option maxRecDepth 20000 in
theorem ggL_law_L_pick : GoodIn wsL_law wsL_pick := goodIn_ca (goodIn_ca (goodIn_r _ [225, 33, 35, 226, 227, 228, 2, 229, 230, 231, 211, 45, 46, 47, 48, 49, 50, 15, 212, 213, 214, 40, 41, 84, 85, 86, 17, 87, 88, 89, 90, 91, 92, 64, 93, 94, 95, 44, 96, 97, 78, 73, 120, 121, 122, 123, 124, 125, 126, 127, 128, 111, 129, 130, 131, 132, 83, 133, 134, 135, 136, 137, 138, 139, 140, 141, 142, 113, 114, 115, 143, 117, 118, 119, 232, 108, 109, 110, 233, 234, 235, 236, 237, 238, 239, 240, 241, 70, 71, 72, 242, 771, 772, 773, 774, 775, 776, 761, 762, 763, 770] (by decide +kernel) (by decide +kernel)) (goodIn_sub (fun _ h => List.mem_append_left _ (List.mem_append_right _ h)) (by decide +kernel))) (goodIn_sub (fun _ h => List.mem_append_left _ (List.mem_append_left _ (List.mem_append_right _ h))) (by decide +kernel))
set_option maxRecDepth 20000 in
theorem gL_law_L_pick : GoodIn wsL_law (va_wsS RL 127 yL_pick wsL_pick) := goodIn_app (goodIn_of _ (by decide +kernel)) ggL_law_L_pick
set_option maxRecDepth 20000 in
theorem ggL_law_X3_pick : GoodIn wsL_law wsX3_pick := goodIn_r _ [246, 148, 150, 151, 5, 152, 153, 154, 155, 156, 160, 161, 162, 163, 27, 247, 248, 249, 250, 149, 180, 181, 182, 183, 184, 185, 186, 187, 188, 189, 190, 191, 192, 193, 194, 195, 196, 197, 198, 199, 172, 173, 174, 175, 251, 252, 253, 254, 255, 256, 257, 258, 259, 260, 261, 262, 764, 765, 766, 767, 768, 769] (by decide +kernel) (by decide +kernel)
set_option maxRecDepth 20000 in
theorem gL_law_X3_pick : GoodIn wsL_law (wsV RL 129 RX3 yX3_pick wsX3_pick) := goodIn_app (goodIn_of _ (by decide +kernel)) ggL_law_X3_pick
set_option maxRecDepth 20000 in
theorem ggL_law_L_split : GoodIn wsL_law wsL_split := goodIn_ca (goodIn_ca (goodIn_ca (goodIn_r _ [265, 33, 34, 35, 266, 267, 268, 2, 269, 40, 41, 270, 231, 45, 46, 47, 48, 49, 50, 15, 51, 52, 53, 54, 55, 271, 272, 273, 17, 274, 88, 275, 276, 277, 278, 64, 279, 75, 76, 44, 77, 78, 280, 80, 81, 82, 73, 83, 74, 232, 108, 109, 110, 111, 120, 121, 122, 123, 124, 125, 126, 127, 128, 129, 130, 131, 132, 133, 134, 135, 136, 137, 138, 139, 140, 141, 142, 113, 114, 115, 143, 117, 118, 119, 242, 60, 61, 62, 63, 65, 66, 67, 68, 69, 70, 71, 72, 79, 770, 771, 772, 773, 774, 775, 776, 761, 762, 763] (by decide +kernel) (by decide +kernel)) (goodIn_sub (fun _ h => List.mem_append_left _ (List.mem_append_left _ (List.mem_append_right _ h))) (by decide +kernel))) (goodIn_sub (fun _ h => List.mem_append_left _ (List.mem_append_right _ h)) (by decide +kernel))) (goodIn_sub (fun _ h => List.mem_append_right _ h) (by decide +kernel))
set_option maxRecDepth 20000 in
theorem gL_law_L_split : GoodIn wsL_law (va_wsS RL 130 yL_split wsL_split) := goodIn_app (goodIn_of _ (by decide +kernel)) ggL_law_L_split
set_option maxRecDepth 20000 in
theorem ggL_law_X3_split : GoodIn wsL_law wsX3_split := goodIn_r _ [284, 148, 27, 150, 151, 5, 152, 153, 154, 155, 156, 157, 158, 159, 285, 286, 287, 288, 289, 290, 291, 292, 293, 294, 295, 296, 297, 298, 299, 300, 180, 181, 182, 183, 184, 185, 186, 187, 188, 189, 190, 191, 192, 193, 194, 195, 196, 197, 198, 199, 172, 173, 174, 175, 251, 252, 253, 254, 764, 765, 766, 767, 768, 769] (by decide +kernel) (by decide +kernel)
set_option maxRecDepth 20000 in
theorem gL_law_X3_split : GoodIn wsL_law (wsV RL 133 RX3 yX3_split wsX3_split) := goodIn_app (goodIn_of _ (by decide +kernel)) ggL_law_X3_split
set_option maxRecDepth 20000 in
theorem ggL_law_L_join : GoodIn wsL_law wsL_join := goodIn_ca (goodIn_ca (goodIn_r _ [303, 33, 35, 304, 305, 306, 2, 307, 40, 41, 270, 45, 46, 47, 48, 49, 50, 15, 308, 309, 310, 311, 237, 238, 239, 17, 240, 64, 241, 70, 71, 44, 72, 73, 312, 276, 277, 278, 279, 75, 76, 77, 78, 233, 234, 235, 236, 232, 108, 109, 110, 111, 120, 121, 122, 123, 124, 125, 126, 127, 128, 129, 130, 131, 132, 83, 133, 134, 135, 136, 137, 138, 139, 140, 141, 142, 113, 114, 115, 143, 117, 118, 119, 242, 60, 61, 62, 63, 65, 66, 67, 68, 69, 74, 79, 80, 81, 82, 770, 761, 762, 763, 771, 772, 773, 774, 775, 776] (by decide +kernel) (by decide +kernel)) (goodIn_sub (fun _ h => List.mem_append_left _ (List.mem_append_left _ (List.mem_append_right _ h))) (by decide +kernel))) (goodIn_sub (fun _ h => List.mem_append_left _ (List.mem_append_right _ h)) (by decide +kernel))
set_option maxRecDepth 20000 in
theorem gL_law_L_join : GoodIn wsL_law (va_wsS RL 134 yL_join wsL_join) := goodIn_app (goodIn_of _ (by decide +kernel)) ggL_law_L_join
set_option maxRecDepth 20000 in
theorem ggL_law_X3_join : GoodIn wsL_law wsX3_join := goodIn_r _ [316, 148, 27, 150, 151, 5, 152, 153, 154, 155, 156, 317, 318, 319, 320, 259, 260, 261, 262, 255, 256, 257, 258, 184, 185, 186, 187, 188, 189, 190, 191, 192, 193, 194, 195, 196, 197, 198, 199, 172, 173, 174, 175, 293, 294, 295, 296, 764, 765, 766, 767, 768, 769] (by decide +kernel) (by decide +kernel)
set_option maxRecDepth 20000 in
theorem gL_law_X3_join : GoodIn wsL_law (wsV RL 136 RX3 yX3_join wsX3_join) := goodIn_app (goodIn_of _ (by decide +kernel)) ggL_law_X3_join
set_option maxRecDepth 20000 in
theorem ggL_law_X2_apples : GoodIn wsL_law wsX2_apples := goodIn_r _ [59, 15, 60, 61, 62, 17, 63, 64, 65, 66, 67, 44, 68, 69, 70, 71, 72, 73, 74, 75, 76, 77, 78, 79, 80, 81, 82, 83, 761, 762, 763, 770, 771, 772, 773, 774, 775, 776] (by decide +kernel) (by decide +kernel)
set_option maxRecDepth 20000 in
theorem gL_law_X2_apples : GoodIn wsL_law (wsV RL 137 RX2 yX2_apples wsX2_apples) := goodIn_app (goodIn_of _ (by decide +kernel)) ggL_law_X2_apples
set_option maxRecDepth 20000 in
theorem ggL_law_X3_apples : GoodIn wsL_law wsX3_apples := goodIn_r _ [325, 149, 326, 327, 328, 5, 329, 148, 764, 765, 766, 767, 768, 769] (by decide +kernel) (by decide +kernel)
set_option maxRecDepth 20000 in
theorem gL_law_X3_apples : GoodIn wsL_law (wsV RL 140 RX3 yX3_apples wsX3_apples) := goodIn_app (goodIn_of _ (by decide +kernel)) ggL_law_X3_apples
set_option maxRecDepth 20000 in
theorem ggL_law_X2_turnings : GoodIn wsL_law wsX2_turnings := goodIn_r _ [333, 124, 761, 762, 763] (by decide +kernel) (by decide +kernel)
set_option maxRecDepth 20000 in
theorem gL_law_X2_turnings : GoodIn wsL_law (wsV RL 141 RX2 yX2_turnings wsX2_turnings) := goodIn_app (goodIn_of _ (by decide +kernel)) ggL_law_X2_turnings
set_option maxRecDepth 20000 in
theorem ggL_law_X3_turnings : GoodIn wsL_law wsX3_turnings := goodIn_r _ [337, 196, 326, 327, 328, 5, 329, 148, 764, 765, 766, 767, 768, 769] (by decide +kernel) (by decide +kernel)
set_option maxRecDepth 20000 in
theorem gL_law_X3_turnings : GoodIn wsL_law (wsV RL 144 RX3 yX3_turnings wsX3_turnings) := goodIn_app (goodIn_of _ (by decide +kernel)) ggL_law_X3_turnings
set_option maxRecDepth 20000 in
theorem ggL_law_L_sizeOf : GoodIn wsL_law wsL_sizeOf := goodIn_ca (goodIn_r _ [340, 33, 341, 342, 343, 2, 344, 45, 46, 47, 48, 49, 50, 15, 60, 61, 62, 17, 63, 64, 65, 66, 67, 44, 68, 69, 70, 71, 72, 73, 74, 75, 76, 77, 78, 79, 80, 81, 82, 83, 761, 762, 763, 770, 771, 772, 773, 774, 775, 776] (by decide +kernel) (by decide +kernel)) (goodIn_sub (fun _ h => List.mem_append_left _ (List.mem_append_right _ h)) (by decide +kernel))
set_option maxRecDepth 20000 in
theorem gL_law_L_sizeOf : GoodIn wsL_law (va_wsS RL 145 yL_sizeOf wsL_sizeOf) := goodIn_app (goodIn_of _ (by decide +kernel)) ggL_law_L_sizeOf
set_option maxRecDepth 20000 in
theorem ggL_law_X3_sizeOf : GoodIn wsL_law wsX3_sizeOf := goodIn_r _ [348, 148, 27, 150, 151, 5, 152, 293, 294, 295, 296, 153, 154, 155, 156, 764, 765, 766, 767, 768, 769] (by decide +kernel) (by decide +kernel)
set_option maxRecDepth 20000 in
theorem gL_law_X3_sizeOf : GoodIn wsL_law (wsV RL 148 RX3 yX3_sizeOf wsX3_sizeOf) := goodIn_app (goodIn_of _ (by decide +kernel)) ggL_law_X3_sizeOf
set_option maxRecDepth 20000 in
theorem ggL_law_L_top : GoodIn wsL_law wsL_top := goodIn_ca (goodIn_r _ [351, 33, 352, 353, 354, 2, 355, 270, 45, 46, 47, 48, 49, 50, 15, 356, 357, 358, 311, 770, 761, 762, 763, 771, 772, 773, 774, 775, 776] (by decide +kernel) (by decide +kernel)) (goodIn_sub (fun _ h => List.mem_append_left _ (List.mem_append_right _ h)) (by decide +kernel))
set_option maxRecDepth 20000 in
theorem gL_law_L_top : GoodIn wsL_law (va_wsS RL 149 yL_top wsL_top) := goodIn_app (goodIn_of _ (by decide +kernel)) ggL_law_L_top
set_option maxRecDepth 20000 in
theorem ggL_law_X3_top : GoodIn wsL_law wsX3_top := goodIn_r _ [362, 148, 27, 150, 151, 5, 152, 363, 364, 365, 366, 153, 154, 155, 156, 764, 765, 766, 767, 768, 769] (by decide +kernel) (by decide +kernel)
set_option maxRecDepth 20000 in
theorem gL_law_X3_top : GoodIn wsL_law (wsV RL 151 RX3 yX3_top wsX3_top) := goodIn_app (goodIn_of _ (by decide +kernel)) ggL_law_X3_top
set_option maxRecDepth 20000 in
theorem ggL_law_L_height : GoodIn wsL_law wsL_height := goodIn_ca (goodIn_r _ [369, 33, 370, 371, 372, 2, 373, 45, 46, 47, 48, 49, 50, 15, 374, 375, 376, 17, 377, 378, 379, 380, 381, 275, 276, 277, 278, 64, 279, 75, 76, 44, 77, 78, 129, 130, 131, 132, 83, 280, 80, 81, 82, 73, 74, 761, 762, 763, 770, 771, 772, 773, 774, 775, 776] (by decide +kernel) (by decide +kernel)) (goodIn_sub (fun _ h => List.mem_append_left _ (List.mem_append_right _ h)) (by decide +kernel))
set_option maxRecDepth 20000 in
theorem gL_law_L_height : GoodIn wsL_law (va_wsS RL 152 yL_height wsL_height) := goodIn_app (goodIn_of _ (by decide +kernel)) ggL_law_L_height
set_option maxRecDepth 20000 in
theorem ggL_law_X3_height : GoodIn wsL_law wsX3_height := goodIn_r _ [385, 148, 27, 150, 151, 5, 152, 386, 387, 388, 389, 390, 379, 380, 381, 153, 154, 155, 156, 764, 765, 766, 767, 768, 769] (by decide +kernel) (by decide +kernel)
set_option maxRecDepth 20000 in
theorem gL_law_X3_height : GoodIn wsL_law (wsV RL 154 RX3 yX3_height wsX3_height) := goodIn_app (goodIn_of _ (by decide +kernel)) ggL_law_X3_height
set_option maxRecDepth 20000 in
theorem ggL_law_L_leastHeight : GoodIn wsL_law wsL_leastHeight := goodIn_ca (goodIn_r _ [393, 33, 394, 395, 396, 2, 397, 45, 46, 47, 48, 49, 50, 15, 60, 61, 62, 17, 63, 64, 65, 66, 67, 44, 68, 69, 70, 71, 72, 73, 74, 75, 76, 77, 78, 79, 80, 81, 82, 83, 761, 762, 763, 770, 771, 772, 773, 774, 775, 776] (by decide +kernel) (by decide +kernel)) (goodIn_sub (fun _ h => List.mem_append_left _ (List.mem_append_right _ h)) (by decide +kernel))
set_option maxRecDepth 20000 in
theorem gL_law_L_leastHeight : GoodIn wsL_law (va_wsS RL 155 yL_leastHeight wsL_leastHeight) := goodIn_app (goodIn_of _ (by decide +kernel)) ggL_law_L_leastHeight
set_option maxRecDepth 20000 in
theorem ggL_law_X3_leastHeight : GoodIn wsL_law wsX3_leastHeight := goodIn_r _ [401, 148, 150, 151, 5, 152, 402, 403, 404, 405, 27, 293, 294, 295, 296, 153, 154, 155, 156, 764, 765, 766, 767, 768, 769] (by decide +kernel) (by decide +kernel)
set_option maxRecDepth 20000 in
theorem gL_law_X3_leastHeight : GoodIn wsL_law (wsV RL 157 RX3 yX3_leastHeight wsX3_leastHeight) := goodIn_app (goodIn_of _ (by decide +kernel)) ggL_law_X3_leastHeight
set_option maxRecDepth 20000 in
theorem ggL_law_L_depths : GoodIn wsL_law wsL_depths := goodIn_ca (goodIn_r _ [408, 33, 409, 410, 411, 2, 412, 45, 46, 47, 48, 49, 50, 15, 413, 414, 415, 17, 416, 275, 276, 277, 278, 64, 279, 75, 76, 44, 77, 78, 129, 130, 131, 132, 83, 280, 80, 81, 82, 73, 74, 761, 762, 763, 770, 771, 772, 773, 774, 775, 776] (by decide +kernel) (by decide +kernel)) (goodIn_sub (fun _ h => List.mem_append_left _ (List.mem_append_right _ h)) (by decide +kernel))
set_option maxRecDepth 20000 in
theorem gL_law_L_depths : GoodIn wsL_law (va_wsS RL 158 yL_depths wsL_depths) := goodIn_app (goodIn_of _ (by decide +kernel)) ggL_law_L_depths
set_option maxRecDepth 20000 in
theorem ggL_law_X3_depths : GoodIn wsL_law wsX3_depths := goodIn_r _ [420, 148, 27, 150, 151, 5, 152, 421, 422, 423, 424, 153, 154, 155, 156, 764, 765, 766, 767, 768, 769] (by decide +kernel) (by decide +kernel)
set_option maxRecDepth 20000 in
theorem gL_law_X3_depths : GoodIn wsL_law (wsV RL 160 RX3 yX3_depths wsX3_depths) := goodIn_app (goodIn_of _ (by decide +kernel)) ggL_law_X3_depths
set_option maxRecDepth 20000 in
theorem ggL_law_L_smallest : GoodIn wsL_law wsL_smallest := goodIn_ca (goodIn_r _ [427, 33, 428, 429, 430, 2, 431, 45, 46, 47, 48, 49, 50, 15, 312, 276, 277, 17, 278, 64, 279, 75, 76, 44, 77, 78, 356, 357, 358, 311, 761, 762, 763, 770, 771, 772, 773, 774, 775, 776] (by decide +kernel) (by decide +kernel)) (goodIn_sub (fun _ h => List.mem_append_left _ (List.mem_append_right _ h)) (by decide +kernel))
set_option maxRecDepth 20000 in
theorem gL_law_L_smallest : GoodIn wsL_law (va_wsS RL 161 yL_smallest wsL_smallest) := goodIn_app (goodIn_of _ (by decide +kernel)) ggL_law_L_smallest
set_option maxRecDepth 20000 in
theorem ggL_law_X3_smallest : GoodIn wsL_law wsX3_smallest := goodIn_r _ [435, 148, 27, 150, 151, 5, 152, 259, 260, 261, 262, 363, 364, 365, 366, 153, 154, 155, 156, 764, 765, 766, 767, 768, 769] (by decide +kernel) (by decide +kernel)
set_option maxRecDepth 20000 in
theorem gL_law_X3_smallest : GoodIn wsL_law (wsV RL 163 RX3 yX3_smallest wsX3_smallest) := goodIn_app (goodIn_of _ (by decide +kernel)) ggL_law_X3_smallest
set_option maxRecDepth 20000 in
theorem ggL_law_L_greatest : GoodIn wsL_law wsL_greatest := goodIn_ca (goodIn_r _ [438, 33, 439, 440, 441, 2, 442, 45, 46, 47, 48, 49, 50, 15, 237, 238, 239, 17, 240, 64, 241, 70, 71, 44, 72, 73, 356, 357, 358, 311, 761, 762, 763, 770, 771, 772, 773, 774, 775, 776] (by decide +kernel) (by decide +kernel)) (goodIn_sub (fun _ h => List.mem_append_left _ (List.mem_append_right _ h)) (by decide +kernel))
set_option maxRecDepth 20000 in
theorem gL_law_L_greatest : GoodIn wsL_law (va_wsS RL 164 yL_greatest wsL_greatest) := goodIn_app (goodIn_of _ (by decide +kernel)) ggL_law_L_greatest
set_option maxRecDepth 20000 in
theorem ggL_law_X3_greatest : GoodIn wsL_law wsX3_greatest := goodIn_r _ [446, 148, 27, 150, 151, 5, 152, 259, 260, 261, 262, 363, 364, 365, 366, 153, 154, 155, 156, 764, 765, 766, 767, 768, 769] (by decide +kernel) (by decide +kernel)
set_option maxRecDepth 20000 in
theorem gL_law_X3_greatest : GoodIn wsL_law (wsV RL 166 RX3 yX3_greatest wsX3_greatest) := goodIn_app (goodIn_of _ (by decide +kernel)) ggL_law_X3_greatest
set_option maxRecDepth 20000 in
theorem ggL_law_L_inOrder : GoodIn wsL_law wsL_inOrder := goodIn_ca (goodIn_r _ [449, 33, 450, 451, 452, 2, 453, 49, 50, 311, 45, 46, 47, 48, 15, 454, 455, 456, 17, 457, 275, 276, 277, 278, 64, 279, 75, 76, 44, 77, 78, 280, 80, 81, 82, 73, 83, 74, 771, 772, 773, 774, 775, 776, 761, 762, 763, 770] (by decide +kernel) (by decide +kernel)) (goodIn_sub (fun _ h => List.mem_append_left _ (List.mem_append_right _ h)) (by decide +kernel))
set_option maxRecDepth 20000 in
theorem gL_law_L_inOrder : GoodIn wsL_law (va_wsS RL 167 yL_inOrder wsL_inOrder) := goodIn_app (goodIn_of _ (by decide +kernel)) ggL_law_L_inOrder
set_option maxRecDepth 20000 in
theorem ggL_law_X3_inOrder : GoodIn wsL_law wsX3_inOrder := goodIn_r _ [461, 148, 27, 150, 151, 5, 152, 293, 294, 295, 296, 153, 154, 155, 156, 297, 298, 299, 300, 764, 765, 766, 767, 768, 769] (by decide +kernel) (by decide +kernel)
set_option maxRecDepth 20000 in
theorem gL_law_X3_inOrder : GoodIn wsL_law (wsV RL 169 RX3 yX3_inOrder wsX3_inOrder) := goodIn_app (goodIn_of _ (by decide +kernel)) ggL_law_X3_inOrder
set_option maxRecDepth 20000 in
theorem ggL_law_L_leaves : GoodIn wsL_law wsL_leaves := goodIn_ca (goodIn_r _ [464, 33, 465, 466, 467, 2, 468, 45, 46, 47, 48, 49, 50, 15, 469, 470, 471, 17, 472, 473, 474, 275, 276, 277, 278, 64, 279, 75, 76, 44, 77, 78, 280, 80, 81, 82, 73, 83, 74, 761, 762, 763, 771, 772, 773, 774, 775, 776, 770] (by decide +kernel) (by decide +kernel)) (goodIn_sub (fun _ h => List.mem_append_left _ (List.mem_append_right _ h)) (by decide +kernel))
set_option maxRecDepth 20000 in
theorem gL_law_L_leaves : GoodIn wsL_law (va_wsS RL 170 yL_leaves wsL_leaves) := goodIn_app (goodIn_of _ (by decide +kernel)) ggL_law_L_leaves
set_option maxRecDepth 20000 in
theorem ggL_law_X3_leaves : GoodIn wsL_law wsX3_leaves := goodIn_r _ [478, 148, 27, 150, 151, 5, 152, 479, 480, 481, 482, 153, 154, 155, 156, 764, 765, 766, 767, 768, 769] (by decide +kernel) (by decide +kernel)
set_option maxRecDepth 20000 in
theorem gL_law_X3_leaves : GoodIn wsL_law (wsV RL 172 RX3 yX3_leaves wsX3_leaves) := goodIn_app (goodIn_of _ (by decide +kernel)) ggL_law_X3_leaves
set_option maxRecDepth 20000 in
theorem ggL_law_L_has : GoodIn wsL_law wsL_has := goodIn_ca (goodIn_r _ [485, 33, 486, 487, 488, 2, 489, 45, 46, 47, 48, 49, 50, 15, 84, 85, 86, 17, 87, 88, 89, 90, 91, 92, 64, 93, 94, 95, 44, 96, 97, 78, 73, 761, 762, 763, 771, 772, 773, 774, 775, 776, 770] (by decide +kernel) (by decide +kernel)) (goodIn_sub (fun _ h => List.mem_append_left _ (List.mem_append_right _ h)) (by decide +kernel))
set_option maxRecDepth 20000 in
theorem gL_law_L_has : GoodIn wsL_law (va_wsS RL 173 yL_has wsL_has) := goodIn_app (goodIn_of _ (by decide +kernel)) ggL_law_L_has
set_option maxRecDepth 20000 in
theorem ggL_law_X3_has : GoodIn wsL_law wsX3_has := goodIn_r _ [493, 148, 150, 151, 5, 152, 160, 161, 162, 163, 27, 494, 495, 496, 497, 764, 765, 766, 767, 768, 769] (by decide +kernel) (by decide +kernel)
set_option maxRecDepth 20000 in
theorem gL_law_X3_has : GoodIn wsL_law (wsV RL 175 RX3 yX3_has wsX3_has) := goodIn_app (goodIn_of _ (by decide +kernel)) ggL_law_X3_has
set_option maxRecDepth 20000 in
theorem ggL_law_L_smaller : GoodIn wsL_law wsL_smaller := goodIn_ca (goodIn_r _ [500, 33, 501, 502, 503, 2, 504, 45, 46, 47, 48, 49, 50, 15, 505, 506, 507, 17, 508, 88, 275, 276, 277, 278, 64, 279, 75, 76, 44, 77, 78, 280, 80, 81, 82, 73, 83, 74, 761, 762, 763, 771, 772, 773, 774, 775, 776, 770] (by decide +kernel) (by decide +kernel)) (goodIn_sub (fun _ h => List.mem_append_left _ (List.mem_append_right _ h)) (by decide +kernel))
set_option maxRecDepth 20000 in
theorem gL_law_L_smaller : GoodIn wsL_law (va_wsS RL 176 yL_smaller wsL_smaller) := goodIn_app (goodIn_of _ (by decide +kernel)) ggL_law_L_smaller
set_option maxRecDepth 20000 in
theorem ggL_law_X3_smaller : GoodIn wsL_law wsX3_smaller := goodIn_r _ [512, 148, 27, 150, 151, 5, 152, 289, 290, 291, 292, 293, 294, 295, 296, 153, 154, 155, 156, 764, 765, 766, 767, 768, 769] (by decide +kernel) (by decide +kernel)
set_option maxRecDepth 20000 in
theorem gL_law_X3_smaller : GoodIn wsL_law (wsV RL 178 RX3 yX3_smaller wsX3_smaller) := goodIn_app (goodIn_of _ (by decide +kernel)) ggL_law_X3_smaller
set_option maxRecDepth 20000 in
theorem ggL_law_L_depthOf : GoodIn wsL_law wsL_depthOf := goodIn_ca (goodIn_ca (goodIn_r _ [515, 33, 35, 516, 517, 518, 2, 519, 45, 46, 47, 48, 49, 50, 15, 212, 213, 214, 40, 41, 84, 85, 86, 17, 87, 88, 89, 90, 91, 92, 64, 93, 94, 95, 44, 96, 97, 78, 73, 520, 130, 131, 132, 83, 761, 762, 763, 771, 772, 773, 774, 775, 776, 770] (by decide +kernel) (by decide +kernel)) (goodIn_sub (fun _ h => List.mem_append_left _ (List.mem_append_right _ h)) (by decide +kernel))) (goodIn_sub (fun _ h => List.mem_append_left _ (List.mem_append_left _ (List.mem_append_right _ h))) (by decide +kernel))
set_option maxRecDepth 20000 in
theorem gL_law_L_depthOf : GoodIn wsL_law (va_wsS RL 179 yL_depthOf wsL_depthOf) := goodIn_app (goodIn_of _ (by decide +kernel)) ggL_law_L_depthOf
set_option maxRecDepth 20000 in
theorem ggL_law_X3_depthOf : GoodIn wsL_law wsX3_depthOf := goodIn_r _ [524, 525, 526, 527, 5, 528, 148, 150, 151, 152, 153, 154, 155, 156, 160, 161, 162, 163, 27, 176, 177, 178, 179, 764, 765, 766, 767, 768, 769] (by decide +kernel) (by decide +kernel)
set_option maxRecDepth 20000 in
theorem gL_law_X3_depthOf : GoodIn wsL_law (wsV RL 181 RX3 yX3_depthOf wsX3_depthOf) := goodIn_app (goodIn_of _ (by decide +kernel)) ggL_law_X3_depthOf
set_option maxRecDepth 20000 in
theorem ggL_law_L_above : GoodIn wsL_law wsL_above := goodIn_ca (goodIn_ca (goodIn_r _ [531, 33, 35, 532, 533, 534, 2, 535, 536, 45, 46, 47, 48, 49, 50, 15, 212, 213, 214, 40, 41, 84, 85, 86, 17, 87, 88, 89, 90, 91, 92, 64, 93, 94, 95, 44, 96, 97, 78, 73, 356, 357, 358, 311, 771, 772, 773, 774, 775, 776, 761, 762, 763, 770] (by decide +kernel) (by decide +kernel)) (goodIn_sub (fun _ h => List.mem_append_left _ (List.mem_append_right _ h)) (by decide +kernel))) (goodIn_sub (fun _ h => List.mem_append_left _ (List.mem_append_left _ (List.mem_append_right _ h))) (by decide +kernel))
set_option maxRecDepth 20000 in
theorem gL_law_L_above : GoodIn wsL_law (va_wsS RL 182 yL_above wsL_above) := goodIn_app (goodIn_of _ (by decide +kernel)) ggL_law_L_above
set_option maxRecDepth 20000 in
theorem ggL_law_X3_above : GoodIn wsL_law wsX3_above := goodIn_r _ [540, 27, 525, 526, 527, 5, 528, 148, 150, 151, 152, 153, 154, 155, 156, 160, 161, 162, 163, 363, 364, 365, 366, 764, 765, 766, 767, 768, 769] (by decide +kernel) (by decide +kernel)
set_option maxRecDepth 20000 in
theorem gL_law_X3_above : GoodIn wsL_law (wsV RL 184 RX3 yX3_above wsX3_above) := goodIn_app (goodIn_of _ (by decide +kernel)) ggL_law_X3_above
set_option maxRecDepth 20000 in
theorem ggL_law_L_leftOf : GoodIn wsL_law wsL_leftOf := goodIn_ca (goodIn_ca (goodIn_r _ [543, 33, 35, 544, 545, 546, 2, 547, 230, 45, 46, 47, 48, 49, 50, 15, 212, 213, 214, 40, 41, 84, 85, 86, 17, 87, 88, 89, 90, 91, 92, 64, 93, 94, 95, 44, 96, 97, 78, 73, 356, 357, 358, 311, 771, 772, 773, 774, 775, 776, 761, 762, 763, 770] (by decide +kernel) (by decide +kernel)) (goodIn_sub (fun _ h => List.mem_append_left _ (List.mem_append_right _ h)) (by decide +kernel))) (goodIn_sub (fun _ h => List.mem_append_left _ (List.mem_append_left _ (List.mem_append_right _ h))) (by decide +kernel))
set_option maxRecDepth 20000 in
theorem gL_law_L_leftOf : GoodIn wsL_law (va_wsS RL 185 yL_leftOf wsL_leftOf) := goodIn_app (goodIn_of _ (by decide +kernel)) ggL_law_L_leftOf
set_option maxRecDepth 20000 in
theorem ggL_law_X3_leftOf : GoodIn wsL_law wsX3_leftOf := goodIn_r _ [551, 27, 525, 526, 527, 5, 528, 148, 150, 151, 152, 153, 154, 155, 156, 160, 161, 162, 163, 363, 364, 365, 366, 764, 765, 766, 767, 768, 769] (by decide +kernel) (by decide +kernel)
set_option maxRecDepth 20000 in
theorem gL_law_X3_leftOf : GoodIn wsL_law (wsV RL 187 RX3 yX3_leftOf wsX3_leftOf) := goodIn_app (goodIn_of _ (by decide +kernel)) ggL_law_X3_leftOf
set_option maxRecDepth 20000 in
theorem ggL_law_L_rightOf : GoodIn wsL_law wsL_rightOf := goodIn_ca (goodIn_ca (goodIn_r _ [554, 33, 35, 555, 556, 557, 2, 558, 231, 45, 46, 47, 48, 49, 50, 15, 212, 213, 214, 40, 41, 84, 85, 86, 17, 87, 88, 89, 90, 91, 92, 64, 93, 94, 95, 44, 96, 97, 78, 73, 356, 357, 358, 311, 771, 772, 773, 774, 775, 776, 761, 762, 763, 770] (by decide +kernel) (by decide +kernel)) (goodIn_sub (fun _ h => List.mem_append_left _ (List.mem_append_right _ h)) (by decide +kernel))) (goodIn_sub (fun _ h => List.mem_append_left _ (List.mem_append_left _ (List.mem_append_right _ h))) (by decide +kernel))
set_option maxRecDepth 20000 in
theorem gL_law_L_rightOf : GoodIn wsL_law (va_wsS RL 188 yL_rightOf wsL_rightOf) := goodIn_app (goodIn_of _ (by decide +kernel)) ggL_law_L_rightOf
set_option maxRecDepth 20000 in
theorem ggL_law_X3_rightOf : GoodIn wsL_law wsX3_rightOf := goodIn_r _ [562, 27, 525, 526, 527, 5, 528, 148, 150, 151, 152, 153, 154, 155, 156, 160, 161, 162, 163, 363, 364, 365, 366, 764, 765, 766, 767, 768, 769] (by decide +kernel) (by decide +kernel)
set_option maxRecDepth 20000 in
theorem gL_law_X3_rightOf : GoodIn wsL_law (wsV RL 190 RX3 yX3_rightOf wsX3_rightOf) := goodIn_app (goodIn_of _ (by decide +kernel)) ggL_law_X3_rightOf
set_option maxRecDepth 20000 in
theorem ggL_law_L_below : GoodIn wsL_law wsL_below := goodIn_ca (goodIn_ca (goodIn_r _ [565, 33, 35, 566, 567, 568, 2, 569, 45, 46, 47, 48, 49, 50, 15, 212, 213, 214, 40, 41, 84, 85, 86, 17, 87, 88, 89, 90, 91, 92, 64, 93, 94, 95, 44, 96, 97, 78, 73, 570, 66, 67, 68, 69, 70, 71, 72, 74, 75, 76, 77, 79, 80, 81, 82, 83, 761, 762, 763, 771, 772, 773, 774, 775, 776, 770] (by decide +kernel) (by decide +kernel)) (goodIn_sub (fun _ h => List.mem_append_left _ (List.mem_append_right _ h)) (by decide +kernel))) (goodIn_sub (fun _ h => List.mem_append_left _ (List.mem_append_left _ (List.mem_append_right _ h))) (by decide +kernel))
set_option maxRecDepth 20000 in
theorem gL_law_L_below : GoodIn wsL_law (va_wsS RL 191 yL_below wsL_below) := goodIn_app (goodIn_of _ (by decide +kernel)) ggL_law_L_below
set_option maxRecDepth 20000 in
theorem ggL_law_X3_below : GoodIn wsL_law wsX3_below := goodIn_r _ [574, 525, 526, 527, 5, 528, 148, 150, 151, 152, 153, 154, 155, 156, 160, 161, 162, 163, 27, 293, 294, 295, 296, 764, 765, 766, 767, 768, 769] (by decide +kernel) (by decide +kernel)
set_option maxRecDepth 20000 in
theorem gL_law_X3_below : GoodIn wsL_law (wsV RL 193 RX3 yX3_below wsX3_below) := goodIn_app (goodIn_of _ (by decide +kernel)) ggL_law_X3_below
set_option maxRecDepth 20000 in
theorem ggL_law_L_eaten : GoodIn wsL_law wsL_eaten := goodIn_ca (goodIn_ca (goodIn_r _ [577, 33, 35, 578, 579, 580, 2, 581, 211, 45, 46, 47, 48, 49, 50, 15, 212, 213, 214, 40, 41, 84, 85, 86, 17, 87, 88, 89, 90, 91, 92, 64, 93, 94, 95, 44, 96, 97, 78, 73, 771, 772, 773, 774, 775, 776, 761, 762, 763, 770] (by decide +kernel) (by decide +kernel)) (goodIn_sub (fun _ h => List.mem_append_left _ (List.mem_append_right _ h)) (by decide +kernel))) (goodIn_sub (fun _ h => List.mem_append_left _ (List.mem_append_left _ (List.mem_append_right _ h))) (by decide +kernel))
set_option maxRecDepth 20000 in
theorem gL_law_L_eaten : GoodIn wsL_law (va_wsS RL 194 yL_eaten wsL_eaten) := goodIn_app (goodIn_of _ (by decide +kernel)) ggL_law_L_eaten
set_option maxRecDepth 20000 in
theorem ggL_law_X3_eaten : GoodIn wsL_law wsX3_eaten := goodIn_r _ [585, 27, 525, 526, 527, 5, 528, 148, 150, 151, 152, 153, 154, 155, 156, 160, 161, 162, 163, 764, 765, 766, 767, 768, 769] (by decide +kernel) (by decide +kernel)
set_option maxRecDepth 20000 in
theorem gL_law_X3_eaten : GoodIn wsL_law (wsV RL 196 RX3 yX3_eaten wsX3_eaten) := goodIn_app (goodIn_of _ (by decide +kernel)) ggL_law_X3_eaten
set_option maxRecDepth 20000 in
theorem ggL_law_L_favourite : GoodIn wsL_law wsL_favourite := goodIn_ca (goodIn_r _ [588, 33, 589, 590, 591, 2, 592, 45, 46, 47, 48, 49, 50, 15, 593, 594, 595, 17, 596, 597, 275, 276, 277, 278, 64, 279, 75, 76, 44, 77, 78, 280, 80, 81, 82, 73, 83, 74, 356, 357, 358, 311, 761, 762, 763, 771, 772, 773, 774, 775, 776, 770] (by decide +kernel) (by decide +kernel)) (goodIn_sub (fun _ h => List.mem_append_left _ (List.mem_append_right _ h)) (by decide +kernel))
set_option maxRecDepth 20000 in
theorem gL_law_L_favourite : GoodIn wsL_law (va_wsS RL 197 yL_favourite wsL_favourite) := goodIn_app (goodIn_of _ (by decide +kernel)) ggL_law_L_favourite
set_option maxRecDepth 20000 in
theorem ggL_law_X3_favourite : GoodIn wsL_law wsX3_favourite := goodIn_r _ [601, 148, 150, 151, 5, 152, 602, 603, 604, 605, 27, 293, 294, 295, 296, 297, 298, 299, 300, 363, 364, 365, 366, 153, 154, 155, 156, 764, 765, 766, 767, 768, 769] (by decide +kernel) (by decide +kernel)
set_option maxRecDepth 20000 in
theorem gL_law_X3_favourite : GoodIn wsL_law (wsV RL 199 RX3 yX3_favourite wsX3_favourite) := goodIn_app (goodIn_of _ (by decide +kernel)) ggL_law_X3_favourite
set_option maxRecDepth 20000 in
theorem ggL_law_L_meet : GoodIn wsL_law wsL_meet := goodIn_ca (goodIn_ca (goodIn_r _ [608, 33, 35, 609, 610, 611, 2, 612, 45, 46, 47, 48, 49, 50, 15, 212, 213, 214, 40, 41, 84, 85, 86, 17, 87, 88, 89, 90, 91, 92, 64, 93, 94, 95, 44, 96, 97, 78, 73, 613, 614, 615, 616, 617, 618, 380, 619, 378, 379, 381, 356, 357, 358, 311, 761, 762, 763, 771, 772, 773, 774, 775, 776, 770] (by decide +kernel) (by decide +kernel)) (goodIn_sub (fun _ h => List.mem_append_left _ (List.mem_append_right _ h)) (by decide +kernel))) (goodIn_sub (fun _ h => List.mem_append_left _ (List.mem_append_left _ (List.mem_append_right _ h))) (by decide +kernel))
set_option maxRecDepth 20000 in
theorem gL_law_L_meet : GoodIn wsL_law (va_wsS RL 200 yL_meet wsL_meet) := goodIn_app (goodIn_of _ (by decide +kernel)) ggL_law_L_meet
set_option maxRecDepth 20000 in
theorem ggL_law_X3_meet : GoodIn wsL_law wsX3_meet := goodIn_r _ [623, 27, 525, 526, 527, 5, 528, 148, 150, 151, 152, 153, 154, 155, 156, 160, 161, 162, 163, 176, 177, 178, 179, 764, 765, 766, 767, 768, 769] (by decide +kernel) (by decide +kernel)
set_option maxRecDepth 20000 in
theorem gL_law_X3_meet : GoodIn wsL_law (wsV RL 202 RX3 yX3_meet wsX3_meet) := goodIn_app (goodIn_of _ (by decide +kernel)) ggL_law_X3_meet
set_option maxRecDepth 20000 in
theorem ggL_law_L_depthBehind : GoodIn wsL_law wsL_depthBehind := goodIn_ca (goodIn_ca (goodIn_r _ [626, 33, 35, 627, 628, 629, 2, 630, 18, 45, 46, 47, 48, 49, 50, 15, 212, 213, 214, 40, 41, 84, 85, 86, 17, 87, 88, 89, 90, 91, 92, 64, 93, 94, 95, 44, 96, 97, 78, 73, 631, 632, 633, 634, 635, 636, 637, 638, 639, 275, 276, 277, 278, 279, 75, 76, 77, 640, 641, 642, 643, 102, 83, 644, 645, 646, 280, 80, 81, 82, 74, 647, 125, 126, 127, 128, 111, 129, 130, 131, 132, 133, 134, 135, 136, 137, 138, 139, 140, 141, 142, 113, 114, 115, 143, 117, 118, 119, 520, 761, 762, 763, 771, 772, 773, 774, 775, 776, 770] (by decide +kernel) (by decide +kernel)) (goodIn_sub (fun _ h => List.mem_append_left _ (List.mem_append_right _ h)) (by decide +kernel))) (goodIn_sub (fun _ h => List.mem_append_left _ (List.mem_append_left _ (List.mem_append_right _ h))) (by decide +kernel))
set_option maxRecDepth 20000 in
theorem gL_law_L_depthBehind : GoodIn wsL_law (va_wsS RL 203 yL_depthBehind wsL_depthBehind) := goodIn_app (goodIn_of _ (by decide +kernel)) ggL_law_L_depthBehind
set_option maxRecDepth 20000 in
theorem ggL_law_X3_depthBehind : GoodIn wsL_law wsX3_depthBehind := goodIn_r _ [651, 525, 526, 527, 5, 528, 148, 150, 151, 152, 153, 154, 155, 156, 160, 161, 162, 163, 27, 652, 653, 654, 655, 28, 656, 657, 658, 659, 196, 660, 184, 185, 186, 187, 188, 189, 190, 191, 192, 193, 194, 195, 197, 198, 199, 172, 173, 174, 175, 176, 177, 178, 179, 661, 662, 663, 664, 764, 765, 766, 767, 768, 769] (by decide +kernel) (by decide +kernel)
set_option maxRecDepth 20000 in
theorem gL_law_X3_depthBehind : GoodIn wsL_law (wsV RL 205 RX3 yX3_depthBehind wsX3_depthBehind) := goodIn_app (goodIn_of _ (by decide +kernel)) ggL_law_X3_depthBehind
set_option maxRecDepth 20000 in
theorem ggL_law_L_heightBehind : GoodIn wsL_law wsL_heightBehind := goodIn_ca (goodIn_ca (goodIn_r _ [667, 33, 35, 668, 669, 670, 2, 671, 18, 45, 46, 47, 48, 49, 50, 15, 212, 213, 214, 40, 41, 84, 85, 86, 17, 87, 88, 89, 90, 91, 92, 64, 93, 94, 95, 44, 96, 97, 78, 73, 631, 632, 633, 634, 635, 636, 637, 638, 639, 275, 276, 277, 278, 279, 75, 76, 77, 640, 641, 642, 643, 102, 83, 644, 645, 646, 280, 80, 81, 82, 74, 647, 125, 126, 127, 128, 111, 129, 130, 131, 132, 133, 134, 135, 136, 137, 138, 139, 140, 141, 142, 113, 114, 115, 143, 117, 118, 119, 374, 375, 376, 377, 378, 379, 380, 381, 761, 762, 763, 771, 772, 773, 774, 775, 776, 770] (by decide +kernel) (by decide +kernel)) (goodIn_sub (fun _ h => List.mem_append_left _ (List.mem_append_right _ h)) (by decide +kernel))) (goodIn_sub (fun _ h => List.mem_append_left _ (List.mem_append_left _ (List.mem_append_right _ h))) (by decide +kernel))
set_option maxRecDepth 20000 in
theorem gL_law_L_heightBehind : GoodIn wsL_law (va_wsS RL 206 yL_heightBehind wsL_heightBehind) := goodIn_app (goodIn_of _ (by decide +kernel)) ggL_law_L_heightBehind
set_option maxRecDepth 20000 in
theorem ggL_law_X3_heightBehind : GoodIn wsL_law wsX3_heightBehind := goodIn_r _ [675, 525, 526, 527, 5, 528, 148, 150, 151, 152, 153, 154, 155, 156, 160, 161, 162, 163, 27, 652, 653, 654, 655, 28, 656, 657, 658, 659, 196, 660, 184, 185, 186, 187, 188, 189, 190, 191, 192, 193, 194, 195, 197, 198, 199, 172, 173, 174, 175, 386, 387, 388, 389, 390, 379, 380, 381, 661, 662, 663, 664, 764, 765, 766, 767, 768, 769] (by decide +kernel) (by decide +kernel)
set_option maxRecDepth 20000 in
theorem gL_law_X3_heightBehind : GoodIn wsL_law (wsV RL 208 RX3 yX3_heightBehind wsX3_heightBehind) := goodIn_app (goodIn_of _ (by decide +kernel)) ggL_law_X3_heightBehind
set_option maxRecDepth 20000 in
theorem ggL_law_L_bestToEat : GoodIn wsL_law wsL_bestToEat := goodIn_ca (goodIn_r _ [678, 33, 679, 680, 681, 2, 682, 18, 45, 46, 47, 48, 49, 50, 15, 312, 276, 277, 17, 278, 64, 279, 75, 76, 44, 77, 78, 631, 632, 633, 634, 635, 636, 637, 638, 639, 275, 640, 641, 642, 643, 102, 83, 73, 644, 645, 646, 280, 80, 81, 82, 74, 647, 125, 126, 127, 128, 111, 129, 130, 131, 132, 133, 134, 135, 136, 137, 138, 139, 140, 141, 142, 113, 114, 115, 143, 117, 118, 119, 413, 414, 415, 416, 683, 356, 357, 358, 311, 761, 762, 763, 770, 771, 772, 773, 774, 775, 776] (by decide +kernel) (by decide +kernel)) (goodIn_sub (fun _ h => List.mem_append_left _ (List.mem_append_right _ h)) (by decide +kernel))
set_option maxRecDepth 20000 in
theorem gL_law_L_bestToEat : GoodIn wsL_law (va_wsS RL 209 yL_bestToEat wsL_bestToEat) := goodIn_app (goodIn_of _ (by decide +kernel)) ggL_law_L_bestToEat
set_option maxRecDepth 20000 in
theorem ggL_law_X3_bestToEat : GoodIn wsL_law wsX3_bestToEat := goodIn_r _ [687, 148, 150, 151, 5, 152, 688, 689, 690, 691, 27, 293, 294, 295, 296, 297, 298, 299, 300, 652, 653, 654, 655, 28, 656, 657, 658, 659, 196, 660, 184, 185, 186, 187, 188, 189, 190, 191, 192, 193, 194, 195, 197, 198, 199, 172, 173, 174, 175, 421, 422, 423, 424, 661, 662, 663, 664, 363, 364, 365, 366, 153, 154, 155, 156, 764, 765, 766, 767, 768, 769] (by decide +kernel) (by decide +kernel)
set_option maxRecDepth 20000 in
theorem gL_law_X3_bestToEat : GoodIn wsL_law (wsV RL 211 RX3 yX3_bestToEat wsX3_bestToEat) := goodIn_app (goodIn_of _ (by decide +kernel)) ggL_law_X3_bestToEat
set_option maxRecDepth 20000 in
theorem ggL_law_L_plantDepth : GoodIn wsL_law wsL_plantDepth := goodIn_ca (goodIn_ca (goodIn_r _ [694, 33, 34, 695, 696, 697, 2, 698, 311, 45, 46, 47, 48, 49, 50, 15, 51, 52, 53, 54, 55, 699, 90, 91, 17, 92, 64, 93, 94, 95, 44, 96, 97, 78, 73, 520, 130, 131, 132, 83, 771, 772, 773, 774, 775, 776, 761, 762, 763, 770] (by decide +kernel) (by decide +kernel)) (goodIn_sub (fun _ h => List.mem_append_left _ (List.mem_append_right _ h)) (by decide +kernel))) (goodIn_sub (fun _ h => List.mem_append_right _ h) (by decide +kernel))
set_option maxRecDepth 20000 in
theorem gL_law_L_plantDepth : GoodIn wsL_law (va_wsS RL 212 yL_plantDepth wsL_plantDepth) := goodIn_app (goodIn_of _ (by decide +kernel)) ggL_law_L_plantDepth
set_option maxRecDepth 20000 in
theorem ggL_law_X3_plantDepth : GoodIn wsL_law wsX3_plantDepth := goodIn_r _ [703, 148, 150, 151, 5, 152, 153, 154, 155, 156, 157, 158, 159, 704, 705, 706, 707, 27, 764, 765, 766, 767, 768, 769] (by decide +kernel) (by decide +kernel)
set_option maxRecDepth 20000 in
theorem gL_law_X3_plantDepth : GoodIn wsL_law (wsV RL 214 RX3 yX3_plantDepth wsX3_plantDepth) := goodIn_app (goodIn_of _ (by decide +kernel)) ggL_law_X3_plantDepth
set_option maxRecDepth 20000 in
theorem ggL_law_L_canJoin : GoodIn wsL_law wsL_canJoin := goodIn_ca (goodIn_r _ [710, 33, 711, 712, 713, 2, 714, 45, 46, 47, 48, 49, 50, 15, 308, 309, 310, 311, 237, 238, 239, 17, 240, 64, 241, 70, 71, 44, 72, 73, 312, 276, 277, 278, 279, 75, 76, 77, 78, 761, 762, 763, 771, 772, 773, 774, 775, 776, 770] (by decide +kernel) (by decide +kernel)) (goodIn_sub (fun _ h => List.mem_append_left _ (List.mem_append_right _ h)) (by decide +kernel))
set_option maxRecDepth 20000 in
theorem gL_law_L_canJoin : GoodIn wsL_law (va_wsS RL 215 yL_canJoin wsL_canJoin) := goodIn_app (goodIn_of _ (by decide +kernel)) ggL_law_L_canJoin
set_option maxRecDepth 20000 in
theorem ggL_law_X3_canJoin : GoodIn wsL_law wsX3_canJoin := goodIn_r _ [718, 148, 150, 151, 5, 152, 317, 318, 319, 320, 27, 259, 260, 261, 262, 494, 495, 496, 497, 764, 765, 766, 767, 768, 769] (by decide +kernel) (by decide +kernel)
set_option maxRecDepth 20000 in
theorem gL_law_X3_canJoin : GoodIn wsL_law (wsV RL 217 RX3 yX3_canJoin wsX3_canJoin) := goodIn_app (goodIn_of _ (by decide +kernel)) ggL_law_X3_canJoin
set_option maxRecDepth 20000 in
theorem ggL_law_L_meanDepth : GoodIn wsL_law wsL_meanDepth := goodIn_ca (goodIn_r _ [721, 33, 722, 723, 724, 2, 725, 45, 46, 47, 48, 49, 50, 15, 60, 61, 62, 17, 63, 64, 65, 66, 67, 44, 68, 69, 70, 71, 72, 73, 74, 75, 76, 77, 78, 79, 80, 81, 82, 83, 413, 414, 415, 416, 275, 276, 277, 278, 279, 129, 130, 131, 132, 280, 761, 762, 763, 770, 771, 772, 773, 774, 775, 776] (by decide +kernel) (by decide +kernel)) (goodIn_sub (fun _ h => List.mem_append_left _ (List.mem_append_right _ h)) (by decide +kernel))
set_option maxRecDepth 20000 in
theorem gL_law_L_meanDepth : GoodIn wsL_law (va_wsS RL 218 yL_meanDepth wsL_meanDepth) := goodIn_app (goodIn_of _ (by decide +kernel)) ggL_law_L_meanDepth
set_option maxRecDepth 20000 in
theorem ggL_law_X3_meanDepth : GoodIn wsL_law wsX3_meanDepth := goodIn_r _ [729, 148, 27, 150, 151, 5, 152, 421, 422, 423, 424, 293, 294, 295, 296, 764, 765, 766, 767, 768, 769] (by decide +kernel) (by decide +kernel)
set_option maxRecDepth 20000 in
theorem gL_law_X3_meanDepth : GoodIn wsL_law (wsV RL 221 RX3 yX3_meanDepth wsX3_meanDepth) := goodIn_app (goodIn_of _ (by decide +kernel)) ggL_law_X3_meanDepth
set_option maxRecDepth 20000 in
theorem ggL_law_X2_digest : GoodIn wsL_law wsX2_digest := goodIn_ca (goodIn_r _ [733, 734, 15, 56, 57, 58, 2, 59, 60, 61, 62, 17, 63, 64, 65, 66, 67, 44, 68, 69, 70, 71, 72, 73, 74, 75, 76, 77, 78, 79, 80, 81, 82, 83, 735, 736, 737, 738, 739, 331, 332, 333, 124, 740, 741, 742, 743, 744, 342, 343, 344, 45, 46, 47, 48, 49, 50, 745, 353, 354, 355, 270, 356, 357, 358, 311, 746, 371, 372, 373, 374, 375, 376, 377, 378, 379, 380, 381, 275, 276, 277, 278, 279, 129, 130, 131, 132, 280, 747, 395, 396, 397, 748, 410, 411, 412, 413, 414, 415, 416, 749, 466, 467, 468, 469, 470, 471, 472, 473, 474, 750, 590, 591, 592, 593, 594, 595, 596, 597, 751, 680, 681, 682, 18, 312, 631, 632, 633, 634, 635, 636, 637, 638, 639, 640, 641, 642, 643, 102, 644, 645, 646, 647, 125, 126, 127, 128, 111, 133, 134, 135, 136, 137, 138, 139, 140, 141, 142, 113, 114, 115, 143, 117, 118, 119, 683, 752, 753, 754, 536, 230, 231, 211, 520, 570, 761, 762, 763, 770, 771, 772, 773, 774, 775, 776] (by decide +kernel) (by decide +kernel)) (goodIn_sub (fun _ h => List.mem_append_left _ (List.mem_append_right _ h)) (by decide +kernel))
set_option maxRecDepth 20000 in
theorem gL_law_X2_digest : GoodIn wsL_law (wsV RL 222 RX2 yX2_digest wsX2_digest) := goodIn_app (goodIn_of _ (by decide +kernel)) ggL_law_X2_digest
set_option maxRecDepth 20000 in
theorem ggL_law_X3_digest : GoodIn wsL_law wsX3_digest := goodIn_r _ [758, 148, 759, 149, 760, 196, 27, 293, 294, 295, 5, 296, 363, 364, 365, 366, 386, 387, 388, 389, 390, 379, 380, 381, 402, 403, 404, 405, 421, 422, 423, 424, 479, 480, 481, 482, 602, 603, 604, 605, 297, 298, 299, 300, 688, 689, 690, 691, 652, 653, 654, 655, 28, 656, 657, 658, 659, 660, 184, 185, 186, 187, 188, 189, 190, 191, 192, 193, 194, 195, 197, 198, 199, 172, 173, 174, 175, 661, 662, 663, 664, 176, 177, 178, 179, 764, 765, 766, 767, 768, 769] (by decide +kernel) (by decide +kernel)
set_option maxRecDepth 20000 in
theorem gL_law_X3_digest : GoodIn wsL_law (wsV RL 226 RX3 yX3_digest wsX3_digest) := goodIn_app (goodIn_of _ (by decide +kernel)) ggL_law_X3_digest
