set_option maxRecDepth 20000 in
theorem ggL_law_X2_init : GoodIn wsL_law wsX2_init := goodIn_r _ [13, 14, 15, 16, 17, 18, 19, 20, 21, 22, 23, 24, 507, 508, 509, 512] (by decide +kernel) (by decide +kernel)
set_option maxRecDepth 20000 in
theorem gL_law_X2_init : GoodIn wsL_law (wsX2_init) := ggL_law_X2_init
theorem gcL_law_L_build_m0 : ∀ w ∈ (vx_atS RX2 36 "java/lang/IllegalStateException" ["java/lang/RuntimeException", "java/lang/Exception"]).filter goodWord, w ∈ wsL_law := fun _ h => (List.mem_append_left _ (List.mem_append_left _ (List.mem_append_right _ h)))
theorem gcL_law_L_build_m1 : ∀ w ∈ (vx_atS RX2 129 "java/lang/IndexOutOfBoundsException" ["java/lang/RuntimeException", "java/lang/Exception"]).filter goodWord, w ∈ wsL_law := fun _ h => (List.mem_append_left _ (List.mem_append_right _ h))
theorem gcL_law_L_build_m2 : ∀ w ∈ (vx_atS RX2 212 "java/lang/IllegalArgumentException" ["java/lang/RuntimeException", "java/lang/Exception"]).filter goodWord, w ∈ wsL_law := fun _ h => (List.mem_append_right _ h)
set_option maxRecDepth 20000 in
theorem gcL_law_L_build_h : GoodIn wsL_law ([.code yL_build cL_build 6 (some (.object "SplayOrchardLaw$Sim"))]) := goodIn_r _ [28] (by decide +kernel) (by decide +kernel)
set_option maxRecDepth 20000 in
theorem gcL_law_L_build_r1 : GoodIn wsL_law (wsL_build_r1) := goodIn_r _ [29, 30, 31, 32, 33, 34, 15, 16, 35, 36, 37, 38, 27, 39, 40, 41, 42, 43, 44, 45, 46, 47, 48, 10] (by decide +kernel) (by decide +kernel)
set_option maxRecDepth 20000 in
theorem gcL_law_L_build_r2 : GoodIn wsL_law (wsL_build_r2) := goodIn_r _ [49, 50, 51, 52, 53, 54, 55, 56, 57, 58, 59, 60, 61, 62, 63, 64, 65, 66, 67, 68, 69, 70, 71, 72] (by decide +kernel) (by decide +kernel)
set_option maxRecDepth 20000 in
theorem gcL_law_L_build_r3 : GoodIn wsL_law (wsL_build_r3) := goodIn_r _ [73, 74, 75, 76, 77, 78, 79, 80, 81, 82, 83, 84, 85, 86, 87, 88, 89, 90, 91, 92, 93, 94, 2, 95] (by decide +kernel) (by decide +kernel)
set_option maxRecDepth 20000 in
theorem gcL_law_L_build_r4 : GoodIn wsL_law (wsL_build_r4) := goodIn_r _ [96, 97, 98, 99, 100, 101, 102, 103, 104, 105, 106, 18, 107, 108, 109, 110, 111, 112, 113, 114, 115, 116, 117, 118] (by decide +kernel) (by decide +kernel)
set_option maxRecDepth 20000 in
theorem gcL_law_L_build_r5 : GoodIn wsL_law (wsL_build_r5) := goodIn_r _ [20, 119, 120, 121, 122, 123, 124, 125, 126, 127, 128, 129, 130, 131, 132, 133, 134, 135, 136, 137, 138, 139, 140, 141] (by decide +kernel) (by decide +kernel)
set_option maxRecDepth 20000 in
theorem gcL_law_L_build_r6 : GoodIn wsL_law (wsL_build_r6) := goodIn_r _ [142, 143, 144, 145, 146, 147, 148, 149, 150, 151, 152, 153, 154, 155, 156, 157, 158, 159, 160, 161, 162, 163, 164, 165] (by decide +kernel) (by decide +kernel)
set_option maxRecDepth 20000 in
theorem gcL_law_L_build_r7 : GoodIn wsL_law (wsL_build_r7) := goodIn_r _ [166, 167, 168, 169, 170, 171, 172, 173, 174, 175, 176, 177, 178, 179, 180, 181, 182, 183, 184, 185, 186, 187, 188, 189] (by decide +kernel) (by decide +kernel)
set_option maxRecDepth 20000 in
theorem gcL_law_L_build_r8 : GoodIn wsL_law (wsL_build_r8) := goodIn_r _ [190, 191, 192, 193, 194, 195, 196, 197, 198, 199, 200, 201, 202, 203, 204, 205, 206, 207, 208, 209, 210, 211, 212, 213] (by decide +kernel) (by decide +kernel)
set_option maxRecDepth 20000 in
theorem gcL_law_L_build_r9 : GoodIn wsL_law (wsL_build_r9) := goodIn_r _ [214, 215, 216, 217, 218, 219, 220, 221, 222, 223, 224, 225, 226, 227, 228, 229, 230, 231, 232, 233, 234, 235, 236, 237] (by decide +kernel) (by decide +kernel)
set_option maxRecDepth 20000 in
theorem gcL_law_L_build_r10 : GoodIn wsL_law (wsL_build_r10) := goodIn_r _ [238, 239, 240, 241, 242, 243, 244, 245, 246, 247, 248, 249, 250, 251, 252, 253, 254, 255, 256, 257, 258, 259, 260, 261] (by decide +kernel) (by decide +kernel)
set_option maxRecDepth 20000 in
theorem gcL_law_L_build_r11 : GoodIn wsL_law (wsL_build_r11) := goodIn_r _ [262, 263, 264, 265, 266, 267, 268, 269, 270, 271, 272, 273, 274, 275, 276, 277, 278, 279, 280, 281, 282, 283, 284] (by decide +kernel) (by decide +kernel)
set_option maxRecDepth 20000 in
theorem gcL_law_L_build_wsX40 : GoodIn wsL_law (wsX40) := goodIn_r _ [510, 511] (by decide +kernel) (by decide +kernel)
set_option maxRecDepth 20000 in
theorem gcL_law_L_build_wsX30 : GoodIn wsL_law (wsX30) := goodIn_r _ [513, 514, 515, 516] (by decide +kernel) (by decide +kernel)
set_option maxRecDepth 20000 in
theorem gcL_law_L_build_wsX00 : GoodIn wsL_law (wsX00) := goodIn_r _ [517, 518, 519, 520, 521, 522] (by decide +kernel) (by decide +kernel)
set_option maxRecDepth 20000 in
theorem gcL_law_L_build_wsX20 : GoodIn wsL_law (wsX20) := goodIn_r _ [507, 508, 509] (by decide +kernel) (by decide +kernel)
set_option maxRecDepth 20000 in
theorem gcL_law_L_build_wsX10 : GoodIn wsL_law (wsX10) := goodIn_r _ [512] (by decide +kernel) (by decide +kernel)
theorem ggL_law_L_build : GoodIn wsL_law wsL_build := goodIn_app (a := [.code yL_build cL_build 6 (some (.object "SplayOrchardLaw$Sim"))]) gcL_law_L_build_h (goodIn_app (goodIn_app (goodIn_app (goodIn_app (goodIn_app (goodIn_app (goodIn_app (goodIn_app (goodIn_app gcL_law_L_build_r1 (goodIn_app gcL_law_L_build_r2 (goodIn_app gcL_law_L_build_r3 (goodIn_app gcL_law_L_build_r4 (goodIn_app gcL_law_L_build_r5 (goodIn_app gcL_law_L_build_r6 (goodIn_app gcL_law_L_build_r7 (goodIn_app gcL_law_L_build_r8 (goodIn_app gcL_law_L_build_r9 (goodIn_app gcL_law_L_build_r10 gcL_law_L_build_r11)))))))))) gcL_law_L_build_wsX40) gcL_law_L_build_wsX30) gcL_law_L_build_wsX00) gcL_law_L_build_wsX20) gcL_law_L_build_wsX10) (goodIn_sub (big := wsL_law) (fun w h => gcL_law_L_build_m0 w h) (by decide +kernel))) (goodIn_sub (big := wsL_law) (fun w h => gcL_law_L_build_m1 w h) (by decide +kernel))) (goodIn_sub (big := wsL_law) (fun w h => gcL_law_L_build_m2 w h) (by decide +kernel)))
set_option maxRecDepth 20000 in
theorem gL_law_L_build : GoodIn wsL_law (va_wsS RL 85 yL_build wsL_build) := goodIn_app (goodIn_of _ (by decide +kernel)) ggL_law_L_build
set_option maxRecDepth 20000 in
theorem ggL_law_L_cell : GoodIn wsL_law wsL_cell := goodIn_r _ [39, 40] (by decide +kernel) (by decide +kernel)
set_option maxRecDepth 20000 in
theorem gL_law_L_cell : GoodIn wsL_law (va_wsS RL 76 yL_cell wsL_cell) := goodIn_app (goodIn_of _ (by decide +kernel)) ggL_law_L_cell
theorem gcL_law_L_act_m0 : ∀ w ∈ (vx_atS RX2 36 "java/lang/IllegalStateException" ["java/lang/RuntimeException", "java/lang/Exception"]).filter goodWord, w ∈ wsL_law := fun _ h => (List.mem_append_left _ (List.mem_append_left _ (List.mem_append_right _ h)))
theorem gcL_law_L_act_m1 : ∀ w ∈ (vx_atS RX2 129 "java/lang/IndexOutOfBoundsException" ["java/lang/RuntimeException", "java/lang/Exception"]).filter goodWord, w ∈ wsL_law := fun _ h => (List.mem_append_left _ (List.mem_append_right _ h))
theorem gcL_law_L_act_m2 : ∀ w ∈ (vx_atS RX2 212 "java/lang/IllegalArgumentException" ["java/lang/RuntimeException", "java/lang/Exception"]).filter goodWord, w ∈ wsL_law := fun _ h => (List.mem_append_right _ h)
set_option maxRecDepth 20000 in
theorem gcL_law_L_act_h : GoodIn wsL_law ([.codeWith yL_act cL_act 10 (some .boolean) [(116, 254, 495, 73), (255, 308, 495, 73), (309, 362, 495, 73), (363, 430, 495, 73), (431, 453, 495, 73), (454, 494, 495, 73)]]) := goodIn_r _ [47] (by decide +kernel) (by decide +kernel)
set_option maxRecDepth 20000 in
theorem gcL_law_L_act_r1 : GoodIn wsL_law (wsL_act_r1) := goodIn_r _ [48, 10, 49, 50, 41, 42, 27, 43, 44, 51, 52, 31, 53, 54, 55, 56, 57, 58, 59, 60, 61, 62, 63, 64] (by decide +kernel) (by decide +kernel)
set_option maxRecDepth 20000 in
theorem gcL_law_L_act_r2 : GoodIn wsL_law (wsL_act_r2) := goodIn_r _ [36, 65, 66, 67, 68, 69, 70, 71, 35, 72, 73, 74, 75, 76, 77, 78, 79, 80, 81, 15, 16, 82, 83, 84] (by decide +kernel) (by decide +kernel)
set_option maxRecDepth 20000 in
theorem gcL_law_L_act_r3 : GoodIn wsL_law (wsL_act_r3) := goodIn_r _ [85, 86, 87, 88, 89, 90, 91, 92, 93, 94, 2, 95, 96, 97, 98, 99, 100, 101, 102, 103, 104, 105, 106, 18] (by decide +kernel) (by decide +kernel)
set_option maxRecDepth 20000 in
theorem gcL_law_L_act_r4 : GoodIn wsL_law (wsL_act_r4) := goodIn_r _ [107, 108, 109, 110, 111, 112, 113, 114, 115, 116, 117, 118, 20, 119, 120, 121, 122, 123, 124, 125, 126, 127, 128, 129] (by decide +kernel) (by decide +kernel)
set_option maxRecDepth 20000 in
theorem gcL_law_L_act_r5 : GoodIn wsL_law (wsL_act_r5) := goodIn_r _ [130, 131, 132, 133, 134, 135, 136, 137, 138, 139, 140, 141, 142, 143, 144, 145, 146, 147, 148, 149, 150, 151, 152, 153] (by decide +kernel) (by decide +kernel)
set_option maxRecDepth 20000 in
theorem gcL_law_L_act_r6 : GoodIn wsL_law (wsL_act_r6) := goodIn_r _ [154, 155, 156, 157, 158, 159, 160, 161, 162, 163, 164, 165, 166, 167, 168, 169, 170, 171, 172, 173, 174, 175, 176, 177] (by decide +kernel) (by decide +kernel)
set_option maxRecDepth 20000 in
theorem gcL_law_L_act_r7 : GoodIn wsL_law (wsL_act_r7) := goodIn_r _ [178, 179, 180, 181, 182, 183, 184, 185, 186, 187, 188, 189, 190, 191, 192, 193, 194, 195, 196, 197, 198, 199, 200, 201] (by decide +kernel) (by decide +kernel)
set_option maxRecDepth 20000 in
theorem gcL_law_L_act_r8 : GoodIn wsL_law (wsL_act_r8) := goodIn_r _ [202, 203, 204, 205, 206, 207, 208, 209, 210, 211, 212, 213, 214, 215, 216, 217, 218, 219, 220, 221, 222, 223, 224, 225] (by decide +kernel) (by decide +kernel)
set_option maxRecDepth 20000 in
theorem gcL_law_L_act_r9 : GoodIn wsL_law (wsL_act_r9) := goodIn_r _ [226, 227, 228, 229, 230, 231, 232, 233, 234, 235, 236, 237, 238, 239, 240, 241, 242, 243, 244, 245, 246, 247, 248, 249] (by decide +kernel) (by decide +kernel)
set_option maxRecDepth 20000 in
theorem gcL_law_L_act_r10 : GoodIn wsL_law (wsL_act_r10) := goodIn_r _ [250, 251, 252, 253, 254, 255, 256, 257, 258, 259, 260, 261, 262, 263, 264, 265, 266, 267, 268, 269, 270, 271, 272, 273] (by decide +kernel) (by decide +kernel)
set_option maxRecDepth 20000 in
theorem gcL_law_L_act_r11 : GoodIn wsL_law (wsL_act_r11) := goodIn_r _ [274, 275, 276, 277, 278, 279, 280, 281, 282, 283, 284] (by decide +kernel) (by decide +kernel)
set_option maxRecDepth 20000 in
theorem gcL_law_L_act_wsX40 : GoodIn wsL_law (wsX40) := goodIn_r _ [510, 511] (by decide +kernel) (by decide +kernel)
set_option maxRecDepth 20000 in
theorem gcL_law_L_act_wsX30 : GoodIn wsL_law (wsX30) := goodIn_r _ [513, 514, 515, 516] (by decide +kernel) (by decide +kernel)
set_option maxRecDepth 20000 in
theorem gcL_law_L_act_wsX00 : GoodIn wsL_law (wsX00) := goodIn_r _ [517, 518, 519, 520, 521, 522] (by decide +kernel) (by decide +kernel)
set_option maxRecDepth 20000 in
theorem gcL_law_L_act_wsX20 : GoodIn wsL_law (wsX20) := goodIn_r _ [507, 508, 509] (by decide +kernel) (by decide +kernel)
set_option maxRecDepth 20000 in
theorem gcL_law_L_act_wsX10 : GoodIn wsL_law (wsX10) := goodIn_r _ [512] (by decide +kernel) (by decide +kernel)
theorem ggL_law_L_act : GoodIn wsL_law wsL_act := goodIn_app (a := [.codeWith yL_act cL_act 10 (some .boolean) [(116, 254, 495, 73), (255, 308, 495, 73), (309, 362, 495, 73), (363, 430, 495, 73), (431, 453, 495, 73), (454, 494, 495, 73)]]) gcL_law_L_act_h (goodIn_app (goodIn_app (goodIn_app (goodIn_app (goodIn_app (goodIn_app (goodIn_app (goodIn_app (goodIn_app gcL_law_L_act_r1 (goodIn_app gcL_law_L_act_r2 (goodIn_app gcL_law_L_act_r3 (goodIn_app gcL_law_L_act_r4 (goodIn_app gcL_law_L_act_r5 (goodIn_app gcL_law_L_act_r6 (goodIn_app gcL_law_L_act_r7 (goodIn_app gcL_law_L_act_r8 (goodIn_app gcL_law_L_act_r9 (goodIn_app gcL_law_L_act_r10 gcL_law_L_act_r11)))))))))) gcL_law_L_act_wsX40) gcL_law_L_act_wsX30) gcL_law_L_act_wsX00) gcL_law_L_act_wsX20) gcL_law_L_act_wsX10) (goodIn_sub (big := wsL_law) (fun w h => gcL_law_L_act_m0 w h) (by decide +kernel))) (goodIn_sub (big := wsL_law) (fun w h => gcL_law_L_act_m1 w h) (by decide +kernel))) (goodIn_sub (big := wsL_law) (fun w h => gcL_law_L_act_m2 w h) (by decide +kernel)))
set_option maxRecDepth 20000 in
theorem gL_law_L_act : GoodIn wsL_law (va_wsS RL 80 yL_act wsL_act) := goodIn_app (goodIn_of _ (by decide +kernel)) ggL_law_L_act
theorem gcL_law_X2_digest_m0 : ∀ w ∈ (vx_atS RX2 129 "java/lang/IndexOutOfBoundsException" ["java/lang/RuntimeException", "java/lang/Exception"]).filter goodWord, w ∈ wsL_law := fun _ h => (List.mem_append_left _ (List.mem_append_right _ h))
set_option maxRecDepth 20000 in
theorem gcL_law_X2_digest_h : GoodIn wsL_law ([.code yX2_digest cX2_digest 5 (some .long)]) := goodIn_r _ [288] (by decide +kernel) (by decide +kernel)
set_option maxRecDepth 20000 in
theorem gcL_law_X2_digest_r1 : GoodIn wsL_law (wsX2_digest_r1) := goodIn_r _ [289, 18, 112, 113, 114, 2, 115, 116, 117, 118, 20, 119, 120, 121, 122, 123, 100, 124, 125, 126, 127, 128, 129, 130] (by decide +kernel) (by decide +kernel)
set_option maxRecDepth 20000 in
theorem gcL_law_X2_digest_r2 : GoodIn wsL_law (wsX2_digest_r2) := goodIn_r _ [131, 132, 133, 134, 135, 136, 137, 138, 139, 290, 291, 292, 293, 294, 295, 296, 297, 180, 298, 299, 300, 301, 302, 303] (by decide +kernel) (by decide +kernel)
set_option maxRecDepth 20000 in
theorem gcL_law_X2_digest_r3 : GoodIn wsL_law (wsX2_digest_r3) := goodIn_r _ [304, 305, 101, 102, 103, 104, 105, 106, 306, 307, 308, 309, 250, 310, 311, 312, 275, 313, 314, 315, 316, 317, 318, 319] (by decide +kernel) (by decide +kernel)
set_option maxRecDepth 20000 in
theorem gcL_law_X2_digest_r4 : GoodIn wsL_law (wsX2_digest_r4) := goodIn_r _ [320, 321, 4, 5, 6, 255, 256, 257, 258, 259, 185, 186, 187, 188, 260, 322, 323, 324, 325, 326, 327, 328, 329, 330] (by decide +kernel) (by decide +kernel)
set_option maxRecDepth 20000 in
theorem gcL_law_X2_digest_r5 : GoodIn wsL_law (wsX2_digest_r5) := goodIn_r _ [331, 332, 333, 334, 335, 336, 337, 338, 339, 340, 341, 342, 343, 344, 345, 346, 347, 348, 349, 350, 351, 352, 353, 354] (by decide +kernel) (by decide +kernel)
set_option maxRecDepth 20000 in
theorem gcL_law_X2_digest_r6 : GoodIn wsL_law (wsX2_digest_r6) := goodIn_r _ [355, 356, 21, 276, 357, 358, 359, 360, 361, 362, 363, 364, 365, 366, 367, 368, 369, 158, 370, 371, 372, 373, 181, 182] (by decide +kernel) (by decide +kernel)
set_option maxRecDepth 20000 in
theorem gcL_law_X2_digest_r7 : GoodIn wsL_law (wsX2_digest_r7) := goodIn_r _ [183, 184, 167, 189, 190, 191, 192, 193, 194, 195, 196, 197, 198, 169, 170, 171, 199, 173, 174, 175, 374, 375, 376, 377] (by decide +kernel) (by decide +kernel)
set_option maxRecDepth 20000 in
theorem gcL_law_X2_digest_r8 : GoodIn wsL_law (wsX2_digest_r8) := goodIn_r _ [378, 228, 229, 209, 379, 380] (by decide +kernel) (by decide +kernel)
set_option maxRecDepth 20000 in
theorem gcL_law_X2_digest_wsX20 : GoodIn wsL_law (wsX20) := goodIn_r _ [507, 508, 509] (by decide +kernel) (by decide +kernel)
set_option maxRecDepth 20000 in
theorem gcL_law_X2_digest_wsX10 : GoodIn wsL_law (wsX10) := goodIn_r _ [512] (by decide +kernel) (by decide +kernel)
set_option maxRecDepth 20000 in
theorem gcL_law_X2_digest_wsX00 : GoodIn wsL_law (wsX00) := goodIn_r _ [517, 518, 519, 520, 521, 522] (by decide +kernel) (by decide +kernel)
theorem ggL_law_X2_digest : GoodIn wsL_law wsX2_digest := goodIn_app (a := [.code yX2_digest cX2_digest 5 (some .long)]) gcL_law_X2_digest_h (goodIn_app (goodIn_app (goodIn_app (goodIn_app (goodIn_app gcL_law_X2_digest_r1 (goodIn_app gcL_law_X2_digest_r2 (goodIn_app gcL_law_X2_digest_r3 (goodIn_app gcL_law_X2_digest_r4 (goodIn_app gcL_law_X2_digest_r5 (goodIn_app gcL_law_X2_digest_r6 (goodIn_app gcL_law_X2_digest_r7 gcL_law_X2_digest_r8))))))) gcL_law_X2_digest_wsX20) gcL_law_X2_digest_wsX10) gcL_law_X2_digest_wsX00) (goodIn_sub (big := wsL_law) (fun w h => gcL_law_X2_digest_m0 w h) (by decide +kernel)))
set_option maxRecDepth 20000 in
theorem gL_law_X2_digest : GoodIn wsL_law (wsV RL 89 RX2 yX2_digest wsX2_digest) := goodIn_app (goodIn_of _ (by decide +kernel)) ggL_law_X2_digest
set_option maxRecDepth 20000 in
theorem ggL_law_X2_sizeOf : GoodIn wsL_law wsX2_sizeOf := goodIn_ca (goodIn_r _ [305, 101, 102, 103, 2, 104, 105, 106, 18, 116, 117, 118, 20, 119, 120, 121, 122, 123, 100, 124, 125, 126, 127, 128, 129, 130, 131, 132, 133, 134, 135, 136, 137, 138, 139, 507, 508, 509, 512, 517, 518, 519, 520, 521, 522] (by decide +kernel) (by decide +kernel)) (goodIn_sub (fun _ h => List.mem_append_left _ (List.mem_append_right _ h)) (by decide +kernel))
set_option maxRecDepth 20000 in
theorem gL_law_X2_sizeOf : GoodIn wsL_law (wsV RL 93 RX2 yX2_sizeOf wsX2_sizeOf) := goodIn_app (goodIn_of _ (by decide +kernel)) ggL_law_X2_sizeOf
set_option maxRecDepth 20000 in
theorem ggL_law_X2_inOrder : GoodIn wsL_law wsX2_inOrder := goodIn_ca (goodIn_r _ [385, 105, 106, 275, 101, 102, 103, 2, 104, 18, 386, 387, 388, 20, 389, 255, 256, 257, 258, 120, 259, 131, 132, 100, 133, 134, 260, 136, 137, 138, 129, 139, 130, 517, 518, 519, 520, 521, 522, 507, 508, 509, 512] (by decide +kernel) (by decide +kernel)) (goodIn_sub (fun _ h => List.mem_append_left _ (List.mem_append_right _ h)) (by decide +kernel))
set_option maxRecDepth 20000 in
theorem gL_law_X2_inOrder : GoodIn wsL_law (wsV RL 97 RX2 yX2_inOrder wsX2_inOrder) := goodIn_app (goodIn_of _ (by decide +kernel)) ggL_law_X2_inOrder
set_option maxRecDepth 20000 in
theorem ggL_law_X2_above : GoodIn wsL_law wsX2_above := goodIn_ca (goodIn_ca (goodIn_r _ [393, 378, 101, 102, 103, 2, 104, 105, 106, 18, 210, 211, 212, 96, 97, 140, 141, 142, 20, 143, 144, 145, 146, 147, 148, 120, 149, 150, 151, 100, 152, 153, 134, 129, 310, 311, 312, 275, 517, 518, 519, 520, 521, 522, 507, 508, 509, 512] (by decide +kernel) (by decide +kernel)) (goodIn_sub (fun _ h => List.mem_append_left _ (List.mem_append_right _ h)) (by decide +kernel))) (goodIn_sub (fun _ h => List.mem_append_left _ (List.mem_append_left _ (List.mem_append_right _ h))) (by decide +kernel))
set_option maxRecDepth 20000 in
theorem gL_law_X2_above : GoodIn wsL_law (wsV RL 100 RX2 yX2_above wsX2_above) := goodIn_app (goodIn_of _ (by decide +kernel)) ggL_law_X2_above
set_option maxRecDepth 20000 in
theorem ggL_law_X2_leftOf : GoodIn wsL_law wsX2_leftOf := goodIn_ca (goodIn_ca (goodIn_r _ [397, 228, 101, 102, 103, 2, 104, 105, 106, 18, 210, 211, 212, 96, 97, 140, 141, 142, 20, 143, 144, 145, 146, 147, 148, 120, 149, 150, 151, 100, 152, 153, 134, 129, 310, 311, 312, 275, 517, 518, 519, 520, 521, 522, 507, 508, 509, 512] (by decide +kernel) (by decide +kernel)) (goodIn_sub (fun _ h => List.mem_append_left _ (List.mem_append_right _ h)) (by decide +kernel))) (goodIn_sub (fun _ h => List.mem_append_left _ (List.mem_append_left _ (List.mem_append_right _ h))) (by decide +kernel))
set_option maxRecDepth 20000 in
theorem gL_law_X2_leftOf : GoodIn wsL_law (wsV RL 103 RX2 yX2_leftOf wsX2_leftOf) := goodIn_app (goodIn_of _ (by decide +kernel)) ggL_law_X2_leftOf
set_option maxRecDepth 20000 in
theorem ggL_law_X2_rightOf : GoodIn wsL_law wsX2_rightOf := goodIn_ca (goodIn_ca (goodIn_r _ [401, 229, 101, 102, 103, 2, 104, 105, 106, 18, 210, 211, 212, 96, 97, 140, 141, 142, 20, 143, 144, 145, 146, 147, 148, 120, 149, 150, 151, 100, 152, 153, 134, 129, 310, 311, 312, 275, 517, 518, 519, 520, 521, 522, 507, 508, 509, 512] (by decide +kernel) (by decide +kernel)) (goodIn_sub (fun _ h => List.mem_append_left _ (List.mem_append_right _ h)) (by decide +kernel))) (goodIn_sub (fun _ h => List.mem_append_left _ (List.mem_append_left _ (List.mem_append_right _ h))) (by decide +kernel))
set_option maxRecDepth 20000 in
theorem gL_law_X2_rightOf : GoodIn wsL_law (wsV RL 106 RX2 yX2_rightOf wsX2_rightOf) := goodIn_app (goodIn_of _ (by decide +kernel)) ggL_law_X2_rightOf
set_option maxRecDepth 20000 in
theorem ggL_law_X2_depthOf : GoodIn wsL_law wsX2_depthOf := goodIn_ca (goodIn_ca (goodIn_r _ [405, 101, 102, 103, 2, 104, 105, 106, 18, 210, 211, 212, 96, 97, 140, 141, 142, 20, 143, 144, 145, 146, 147, 148, 120, 149, 150, 151, 100, 152, 153, 134, 129, 379, 186, 187, 188, 139, 507, 508, 509, 517, 518, 519, 520, 521, 522, 512] (by decide +kernel) (by decide +kernel)) (goodIn_sub (fun _ h => List.mem_append_left _ (List.mem_append_right _ h)) (by decide +kernel))) (goodIn_sub (fun _ h => List.mem_append_left _ (List.mem_append_left _ (List.mem_append_right _ h))) (by decide +kernel))
set_option maxRecDepth 20000 in
theorem gL_law_X2_depthOf : GoodIn wsL_law (wsV RL 109 RX2 yX2_depthOf wsX2_depthOf) := goodIn_app (goodIn_of _ (by decide +kernel)) ggL_law_X2_depthOf
set_option maxRecDepth 20000 in
theorem ggL_law_X2_below : GoodIn wsL_law wsX2_below := goodIn_ca (goodIn_ca (goodIn_r _ [409, 101, 102, 103, 2, 104, 105, 106, 18, 210, 211, 212, 96, 97, 140, 141, 142, 20, 143, 144, 145, 146, 147, 148, 120, 149, 150, 151, 100, 152, 153, 134, 129, 380, 122, 123, 124, 125, 126, 127, 128, 130, 131, 132, 133, 135, 136, 137, 138, 139, 507, 508, 509, 517, 518, 519, 520, 521, 522, 512] (by decide +kernel) (by decide +kernel)) (goodIn_sub (fun _ h => List.mem_append_left _ (List.mem_append_right _ h)) (by decide +kernel))) (goodIn_sub (fun _ h => List.mem_append_left _ (List.mem_append_left _ (List.mem_append_right _ h))) (by decide +kernel))
set_option maxRecDepth 20000 in
theorem gL_law_X2_below : GoodIn wsL_law (wsV RL 112 RX2 yX2_below wsX2_below) := goodIn_app (goodIn_of _ (by decide +kernel)) ggL_law_X2_below
set_option maxRecDepth 20000 in
theorem ggL_law_X2_has : GoodIn wsL_law wsX2_has := goodIn_ca (goodIn_r _ [413, 101, 102, 103, 2, 104, 105, 106, 18, 140, 141, 142, 20, 143, 144, 145, 146, 147, 148, 120, 149, 150, 151, 100, 152, 153, 134, 129, 507, 508, 509, 517, 518, 519, 520, 521, 522, 512] (by decide +kernel) (by decide +kernel)) (goodIn_sub (fun _ h => List.mem_append_left _ (List.mem_append_right _ h)) (by decide +kernel))
set_option maxRecDepth 20000 in
theorem gL_law_X2_has : GoodIn wsL_law (wsV RL 118 RX2 yX2_has wsX2_has) := goodIn_app (goodIn_of _ (by decide +kernel)) ggL_law_X2_has
set_option maxRecDepth 20000 in
theorem ggL_law_X2_smaller : GoodIn wsL_law wsX2_smaller := goodIn_ca (goodIn_r _ [417, 101, 102, 103, 2, 104, 105, 106, 18, 418, 419, 420, 20, 421, 144, 255, 256, 257, 258, 120, 259, 131, 132, 100, 133, 134, 260, 136, 137, 138, 129, 139, 130, 507, 508, 509, 517, 518, 519, 520, 521, 522, 512] (by decide +kernel) (by decide +kernel)) (goodIn_sub (fun _ h => List.mem_append_left _ (List.mem_append_right _ h)) (by decide +kernel))
set_option maxRecDepth 20000 in
theorem gL_law_X2_smaller : GoodIn wsL_law (wsV RL 120 RX2 yX2_smaller wsX2_smaller) := goodIn_app (goodIn_of _ (by decide +kernel)) ggL_law_X2_smaller
set_option maxRecDepth 20000 in
theorem ggL_law_X2_eaten : GoodIn wsL_law wsX2_eaten := goodIn_ca (goodIn_ca (goodIn_r _ [425, 209, 101, 102, 103, 2, 104, 105, 106, 18, 210, 211, 212, 96, 97, 140, 141, 142, 20, 143, 144, 145, 146, 147, 148, 120, 149, 150, 151, 100, 152, 153, 134, 129, 517, 518, 519, 520, 521, 522, 507, 508, 509, 512] (by decide +kernel) (by decide +kernel)) (goodIn_sub (fun _ h => List.mem_append_left _ (List.mem_append_right _ h)) (by decide +kernel))) (goodIn_sub (fun _ h => List.mem_append_left _ (List.mem_append_left _ (List.mem_append_right _ h))) (by decide +kernel))
set_option maxRecDepth 20000 in
theorem gL_law_X2_eaten : GoodIn wsL_law (wsV RL 123 RX2 yX2_eaten wsX2_eaten) := goodIn_app (goodIn_of _ (by decide +kernel)) ggL_law_X2_eaten
set_option maxRecDepth 20000 in
theorem ggL_law_X2_top : GoodIn wsL_law wsX2_top := goodIn_ca (goodIn_r _ [309, 250, 101, 102, 103, 2, 104, 105, 106, 18, 310, 311, 312, 275, 512, 507, 508, 509, 517, 518, 519, 520, 521, 522] (by decide +kernel) (by decide +kernel)) (goodIn_sub (fun _ h => List.mem_append_left _ (List.mem_append_right _ h)) (by decide +kernel))
set_option maxRecDepth 20000 in
theorem gL_law_X2_top : GoodIn wsL_law (wsV RL 126 RX2 yX2_top wsX2_top) := goodIn_app (goodIn_of _ (by decide +kernel)) ggL_law_X2_top
set_option maxRecDepth 20000 in
theorem ggL_law_X2_depths : GoodIn wsL_law wsX2_depths := goodIn_ca (goodIn_r _ [329, 101, 102, 103, 2, 104, 105, 106, 18, 330, 331, 332, 20, 333, 255, 256, 257, 258, 120, 259, 131, 132, 100, 133, 134, 185, 186, 187, 188, 139, 260, 136, 137, 138, 129, 130, 507, 508, 509, 512, 517, 518, 519, 520, 521, 522] (by decide +kernel) (by decide +kernel)) (goodIn_sub (fun _ h => List.mem_append_left _ (List.mem_append_right _ h)) (by decide +kernel))
set_option maxRecDepth 20000 in
theorem gL_law_X2_depths : GoodIn wsL_law (wsV RL 129 RX2 yX2_depths wsX2_depths) := goodIn_app (goodIn_of _ (by decide +kernel)) ggL_law_X2_depths
set_option maxRecDepth 20000 in
theorem ggL_law_X2_leaves : GoodIn wsL_law wsX2_leaves := goodIn_ca (goodIn_r _ [337, 101, 102, 103, 2, 104, 105, 106, 18, 338, 339, 340, 20, 341, 342, 343, 255, 256, 257, 258, 120, 259, 131, 132, 100, 133, 134, 260, 136, 137, 138, 129, 139, 130, 507, 508, 509, 517, 518, 519, 520, 521, 522, 512] (by decide +kernel) (by decide +kernel)) (goodIn_sub (fun _ h => List.mem_append_left _ (List.mem_append_right _ h)) (by decide +kernel))
set_option maxRecDepth 20000 in
theorem gL_law_X2_leaves : GoodIn wsL_law (wsV RL 132 RX2 yX2_leaves wsX2_leaves) := goodIn_app (goodIn_of _ (by decide +kernel)) ggL_law_X2_leaves
set_option maxRecDepth 20000 in
theorem ggL_law_X2_height : GoodIn wsL_law wsX2_height := goodIn_ca (goodIn_r _ [316, 101, 102, 103, 2, 104, 105, 106, 18, 317, 318, 319, 20, 320, 321, 4, 5, 6, 255, 256, 257, 258, 120, 259, 131, 132, 100, 133, 134, 185, 186, 187, 188, 139, 260, 136, 137, 138, 129, 130, 507, 508, 509, 512, 517, 518, 519, 520, 521, 522] (by decide +kernel) (by decide +kernel)) (goodIn_sub (fun _ h => List.mem_append_left _ (List.mem_append_right _ h)) (by decide +kernel))
set_option maxRecDepth 20000 in
theorem gL_law_X2_height : GoodIn wsL_law (wsV RL 135 RX2 yX2_height wsX2_height) := goodIn_app (goodIn_of _ (by decide +kernel)) ggL_law_X2_height
set_option maxRecDepth 20000 in
theorem ggL_law_X2_leastHeight : GoodIn wsL_law wsX2_leastHeight := goodIn_ca (goodIn_r _ [325, 101, 102, 103, 2, 104, 105, 106, 18, 116, 117, 118, 20, 119, 120, 121, 122, 123, 100, 124, 125, 126, 127, 128, 129, 130, 131, 132, 133, 134, 135, 136, 137, 138, 139, 507, 508, 509, 512, 517, 518, 519, 520, 521, 522] (by decide +kernel) (by decide +kernel)) (goodIn_sub (fun _ h => List.mem_append_left _ (List.mem_append_right _ h)) (by decide +kernel))
set_option maxRecDepth 20000 in
theorem gL_law_X2_leastHeight : GoodIn wsL_law (wsV RL 138 RX2 yX2_leastHeight wsX2_leastHeight) := goodIn_app (goodIn_of _ (by decide +kernel)) ggL_law_X2_leastHeight
set_option maxRecDepth 20000 in
theorem ggL_law_L_below : GoodIn wsL_law wsL_below := goodIn_r _ [43, 44] (by decide +kernel) (by decide +kernel)
set_option maxRecDepth 20000 in
theorem gL_law_L_below : GoodIn wsL_law (va_wsS RL 9 yL_below wsL_below) := goodIn_app (goodIn_of _ (by decide +kernel)) ggL_law_L_below
set_option maxRecDepth 20000 in
theorem ggL_law_X2_meet : GoodIn wsL_law wsX2_meet := goodIn_ca (goodIn_ca (goodIn_r _ [434, 101, 102, 103, 2, 104, 105, 106, 18, 210, 211, 212, 96, 97, 140, 141, 142, 20, 143, 144, 145, 146, 147, 148, 120, 149, 150, 151, 100, 152, 153, 134, 129, 435, 436, 437, 438, 439, 8, 5, 9, 321, 4, 6, 310, 311, 312, 275, 507, 508, 509, 517, 518, 519, 520, 521, 522, 512] (by decide +kernel) (by decide +kernel)) (goodIn_sub (fun _ h => List.mem_append_left _ (List.mem_append_right _ h)) (by decide +kernel))) (goodIn_sub (fun _ h => List.mem_append_left _ (List.mem_append_left _ (List.mem_append_right _ h))) (by decide +kernel))
set_option maxRecDepth 20000 in
theorem gL_law_X2_meet : GoodIn wsL_law (wsV RL 141 RX2 yX2_meet wsX2_meet) := goodIn_app (goodIn_of _ (by decide +kernel)) ggL_law_X2_meet
set_option maxRecDepth 20000 in
theorem ggL_law_X2_apples : GoodIn wsL_law wsX2_apples := goodIn_r _ [115, 18, 116, 117, 118, 20, 119, 120, 121, 122, 123, 100, 124, 125, 126, 127, 128, 129, 130, 131, 132, 133, 134, 135, 136, 137, 138, 139, 507, 508, 509, 512, 517, 518, 519, 520, 521, 522] (by decide +kernel) (by decide +kernel)
set_option maxRecDepth 20000 in
theorem gL_law_X2_apples : GoodIn wsL_law (wsV RL 147 RX2 yX2_apples wsX2_apples) := goodIn_app (goodIn_of _ (by decide +kernel)) ggL_law_X2_apples
set_option maxRecDepth 20000 in
theorem ggL_law_X2_bestToEat : GoodIn wsL_law wsX2_bestToEat := goodIn_ca (goodIn_r _ [356, 21, 101, 102, 103, 2, 104, 105, 106, 18, 276, 256, 257, 20, 258, 120, 259, 131, 132, 100, 133, 134, 357, 358, 359, 360, 361, 362, 363, 364, 365, 255, 366, 367, 368, 369, 158, 139, 129, 370, 371, 372, 260, 136, 137, 138, 130, 373, 181, 182, 183, 184, 167, 185, 186, 187, 188, 189, 190, 191, 192, 193, 194, 195, 196, 197, 198, 169, 170, 171, 199, 173, 174, 175, 330, 331, 332, 333, 374, 310, 311, 312, 275, 507, 508, 509, 512, 517, 518, 519, 520, 521, 522] (by decide +kernel) (by decide +kernel)) (goodIn_sub (fun _ h => List.mem_append_left _ (List.mem_append_right _ h)) (by decide +kernel))
set_option maxRecDepth 20000 in
theorem gL_law_X2_bestToEat : GoodIn wsL_law (wsV RL 150 RX2 yX2_bestToEat wsX2_bestToEat) := goodIn_app (goodIn_of _ (by decide +kernel)) ggL_law_X2_bestToEat
theorem gcL_law_X2_depthBehind_m0 : ∀ w ∈ (vx_atS RX2 129 "java/lang/IndexOutOfBoundsException" ["java/lang/RuntimeException", "java/lang/Exception"]).filter goodWord, w ∈ wsL_law := fun _ h => (List.mem_append_left _ (List.mem_append_right _ h))
theorem gcL_law_X2_depthBehind_m1 : ∀ w ∈ (vx_atS RX2 36 "java/lang/IllegalStateException" ["java/lang/RuntimeException", "java/lang/Exception"]).filter goodWord, w ∈ wsL_law := fun _ h => (List.mem_append_left _ (List.mem_append_left _ (List.mem_append_right _ h)))
set_option maxRecDepth 20000 in
theorem gcL_law_X2_depthBehind_h : GoodIn wsL_law ([.code yX2_depthBehind cX2_depthBehind 5 (some .int)]) := goodIn_r _ [445] (by decide +kernel) (by decide +kernel)
set_option maxRecDepth 20000 in
theorem gcL_law_X2_depthBehind_r1 : GoodIn wsL_law (wsX2_depthBehind_r1) := goodIn_r _ [21, 101, 102, 103, 2, 104, 105, 106, 18, 210, 211, 212, 96, 97, 140, 141, 142, 20, 143, 144, 145, 146, 147, 148] (by decide +kernel) (by decide +kernel)
set_option maxRecDepth 20000 in
theorem gcL_law_X2_depthBehind_r2 : GoodIn wsL_law (wsX2_depthBehind_r2) := goodIn_r _ [120, 149, 150, 151, 100, 152, 153, 134, 129, 357, 358, 359, 360, 361, 362, 363, 364, 365, 255, 256, 257, 258, 259, 131] (by decide +kernel) (by decide +kernel)
set_option maxRecDepth 20000 in
theorem gcL_law_X2_depthBehind_r3 : GoodIn wsL_law (wsX2_depthBehind_r3) := goodIn_r _ [132, 133, 366, 367, 368, 369, 158, 139, 370, 371, 372, 260, 136, 137, 138, 130, 373, 181, 182, 183, 184, 167, 185, 186] (by decide +kernel) (by decide +kernel)
set_option maxRecDepth 20000 in
theorem gcL_law_X2_depthBehind_r4 : GoodIn wsL_law (wsX2_depthBehind_r4) := goodIn_r _ [187, 188, 189, 190, 191, 192, 193, 194, 195, 196, 197, 198, 169, 170, 171, 199, 173, 174, 175, 379] (by decide +kernel) (by decide +kernel)
set_option maxRecDepth 20000 in
theorem gcL_law_X2_depthBehind_wsX20 : GoodIn wsL_law (wsX20) := goodIn_r _ [507, 508, 509] (by decide +kernel) (by decide +kernel)
set_option maxRecDepth 20000 in
theorem gcL_law_X2_depthBehind_wsX00 : GoodIn wsL_law (wsX00) := goodIn_r _ [517, 518, 519, 520, 521, 522] (by decide +kernel) (by decide +kernel)
set_option maxRecDepth 20000 in
theorem gcL_law_X2_depthBehind_wsX10 : GoodIn wsL_law (wsX10) := goodIn_r _ [512] (by decide +kernel) (by decide +kernel)
theorem ggL_law_X2_depthBehind : GoodIn wsL_law wsX2_depthBehind := goodIn_app (a := [.code yX2_depthBehind cX2_depthBehind 5 (some .int)]) gcL_law_X2_depthBehind_h (goodIn_app (goodIn_app (goodIn_app (goodIn_app (goodIn_app (goodIn_app gcL_law_X2_depthBehind_r1 (goodIn_app gcL_law_X2_depthBehind_r2 (goodIn_app gcL_law_X2_depthBehind_r3 gcL_law_X2_depthBehind_r4))) gcL_law_X2_depthBehind_wsX20) gcL_law_X2_depthBehind_wsX00) gcL_law_X2_depthBehind_wsX10) (goodIn_sub (big := wsL_law) (fun w h => gcL_law_X2_depthBehind_m0 w h) (by decide +kernel))) (goodIn_sub (big := wsL_law) (fun w h => gcL_law_X2_depthBehind_m1 w h) (by decide +kernel)))
set_option maxRecDepth 20000 in
theorem gL_law_X2_depthBehind : GoodIn wsL_law (wsV RL 153 RX2 yX2_depthBehind wsX2_depthBehind) := goodIn_app (goodIn_of _ (by decide +kernel)) ggL_law_X2_depthBehind
theorem gcL_law_X2_heightBehind_m0 : ∀ w ∈ (vx_atS RX2 129 "java/lang/IndexOutOfBoundsException" ["java/lang/RuntimeException", "java/lang/Exception"]).filter goodWord, w ∈ wsL_law := fun _ h => (List.mem_append_left _ (List.mem_append_right _ h))
theorem gcL_law_X2_heightBehind_m1 : ∀ w ∈ (vx_atS RX2 36 "java/lang/IllegalStateException" ["java/lang/RuntimeException", "java/lang/Exception"]).filter goodWord, w ∈ wsL_law := fun _ h => (List.mem_append_left _ (List.mem_append_left _ (List.mem_append_right _ h)))
set_option maxRecDepth 20000 in
theorem gcL_law_X2_heightBehind_h : GoodIn wsL_law ([.code yX2_heightBehind cX2_heightBehind 4 (some .int)]) := goodIn_r _ [449] (by decide +kernel) (by decide +kernel)
set_option maxRecDepth 20000 in
theorem gcL_law_X2_heightBehind_r1 : GoodIn wsL_law (wsX2_heightBehind_r1) := goodIn_r _ [21, 101, 102, 103, 2, 104, 105, 106, 18, 210, 211, 212, 96, 97, 140, 141, 142, 20, 143, 144, 145, 146, 147, 148] (by decide +kernel) (by decide +kernel)
set_option maxRecDepth 20000 in
theorem gcL_law_X2_heightBehind_r2 : GoodIn wsL_law (wsX2_heightBehind_r2) := goodIn_r _ [120, 149, 150, 151, 100, 152, 153, 134, 129, 357, 358, 359, 360, 361, 362, 363, 364, 365, 255, 256, 257, 258, 259, 131] (by decide +kernel) (by decide +kernel)
set_option maxRecDepth 20000 in
theorem gcL_law_X2_heightBehind_r3 : GoodIn wsL_law (wsX2_heightBehind_r3) := goodIn_r _ [132, 133, 366, 367, 368, 369, 158, 139, 370, 371, 372, 260, 136, 137, 138, 130, 373, 181, 182, 183, 184, 167, 185, 186] (by decide +kernel) (by decide +kernel)
set_option maxRecDepth 20000 in
theorem gcL_law_X2_heightBehind_r4 : GoodIn wsL_law (wsX2_heightBehind_r4) := goodIn_r _ [187, 188, 189, 190, 191, 192, 193, 194, 195, 196, 197, 198, 169, 170, 171, 199, 173, 174, 175, 317, 318, 319, 320, 321] (by decide +kernel) (by decide +kernel)
set_option maxRecDepth 20000 in
theorem gcL_law_X2_heightBehind_r5 : GoodIn wsL_law (wsX2_heightBehind_r5) := goodIn_r _ [4, 5, 6] (by decide +kernel) (by decide +kernel)
set_option maxRecDepth 20000 in
theorem gcL_law_X2_heightBehind_wsX20 : GoodIn wsL_law (wsX20) := goodIn_r _ [507, 508, 509] (by decide +kernel) (by decide +kernel)
set_option maxRecDepth 20000 in
theorem gcL_law_X2_heightBehind_wsX00 : GoodIn wsL_law (wsX00) := goodIn_r _ [517, 518, 519, 520, 521, 522] (by decide +kernel) (by decide +kernel)
set_option maxRecDepth 20000 in
theorem gcL_law_X2_heightBehind_wsX10 : GoodIn wsL_law (wsX10) := goodIn_r _ [512] (by decide +kernel) (by decide +kernel)
theorem ggL_law_X2_heightBehind : GoodIn wsL_law wsX2_heightBehind := goodIn_app (a := [.code yX2_heightBehind cX2_heightBehind 4 (some .int)]) gcL_law_X2_heightBehind_h (goodIn_app (goodIn_app (goodIn_app (goodIn_app (goodIn_app (goodIn_app gcL_law_X2_heightBehind_r1 (goodIn_app gcL_law_X2_heightBehind_r2 (goodIn_app gcL_law_X2_heightBehind_r3 (goodIn_app gcL_law_X2_heightBehind_r4 gcL_law_X2_heightBehind_r5)))) gcL_law_X2_heightBehind_wsX20) gcL_law_X2_heightBehind_wsX00) gcL_law_X2_heightBehind_wsX10) (goodIn_sub (big := wsL_law) (fun w h => gcL_law_X2_heightBehind_m0 w h) (by decide +kernel))) (goodIn_sub (big := wsL_law) (fun w h => gcL_law_X2_heightBehind_m1 w h) (by decide +kernel)))
set_option maxRecDepth 20000 in
theorem gL_law_X2_heightBehind : GoodIn wsL_law (wsV RL 156 RX2 yX2_heightBehind wsX2_heightBehind) := goodIn_app (goodIn_of _ (by decide +kernel)) ggL_law_X2_heightBehind
set_option maxRecDepth 20000 in
theorem ggL_law_X2_turnings : GoodIn wsL_law wsX2_turnings := goodIn_r _ [297, 180, 507, 508, 509] (by decide +kernel) (by decide +kernel)
set_option maxRecDepth 20000 in
theorem gL_law_X2_turnings : GoodIn wsL_law (wsV RL 159 RX2 yX2_turnings wsX2_turnings) := goodIn_app (goodIn_of _ (by decide +kernel)) ggL_law_X2_turnings
set_option maxRecDepth 20000 in
theorem ggL_law_X4_copy : GoodIn wsL_law wsX4_copy := goodIn_r _ [454, 455, 30, 31, 36, 91, 456, 32, 33, 34, 15, 16, 35, 457, 458, 459, 76, 77, 68, 204, 54, 55, 78, 79, 80, 81, 82, 510, 511, 513, 514, 515, 516] (by decide +kernel) (by decide +kernel)
set_option maxRecDepth 20000 in
theorem gL_law_X4_copy : GoodIn wsL_law (wsV RL 162 RX4 yX4_copy wsX4_copy) := goodIn_app (goodIn_of _ (by decide +kernel)) ggL_law_X4_copy
set_option maxRecDepth 20000 in
theorem ggL_law_X4_eat : GoodIn wsL_law wsX4_eat := goodIn_r _ [203, 36, 204, 69, 70, 31, 71, 68, 54, 55, 35, 83, 84, 85, 86, 87, 88, 89, 90, 91, 510, 511, 513, 514, 515, 516] (by decide +kernel) (by decide +kernel)
set_option maxRecDepth 20000 in
theorem gL_law_X4_eat : GoodIn wsL_law (wsV RL 49 RX4 yX4_eat wsX4_eat) := goodIn_app (goodIn_of _ (by decide +kernel)) ggL_law_X4_eat
set_option maxRecDepth 20000 in
theorem ggL_law_X4_depths : GoodIn wsL_law wsX4_depths := goodIn_r _ [462, 54, 55, 463, 461, 31, 56, 52, 53, 513, 514, 515, 516] (by decide +kernel) (by decide +kernel)
set_option maxRecDepth 20000 in
theorem gL_law_X4_depths : GoodIn wsL_law (va_wsS RL 166 yX4_depths wsX4_depths) := goodIn_app (goodIn_of _ (by decide +kernel)) ggL_law_X4_depths
set_option maxRecDepth 20000 in
theorem ggL_law_X2_eat : GoodIn wsL_law wsX2_eat := goodIn_ca (goodIn_ca (goodIn_r _ [208, 209, 101, 102, 103, 2, 104, 105, 106, 18, 210, 211, 212, 96, 97, 140, 141, 142, 20, 143, 144, 145, 146, 147, 148, 120, 149, 150, 151, 100, 152, 153, 134, 129, 176, 177, 178, 179, 180, 181, 182, 183, 184, 167, 185, 186, 187, 188, 139, 189, 190, 191, 192, 193, 194, 195, 196, 197, 198, 169, 170, 171, 199, 173, 174, 175, 517, 518, 519, 520, 521, 522, 507, 508, 509, 512] (by decide +kernel) (by decide +kernel)) (goodIn_sub (fun _ h => List.mem_append_left _ (List.mem_append_right _ h)) (by decide +kernel))) (goodIn_sub (fun _ h => List.mem_append_left _ (List.mem_append_left _ (List.mem_append_right _ h))) (by decide +kernel))
set_option maxRecDepth 20000 in
theorem gL_law_X2_eat : GoodIn wsL_law (wsV RL 52 RX2 yX2_eat wsX2_eat) := goodIn_app (goodIn_of _ (by decide +kernel)) ggL_law_X2_eat
set_option maxRecDepth 20000 in
theorem ggL_law_X2_plantDepth : GoodIn wsL_law wsX2_plantDepth := goodIn_ca (goodIn_ca (goodIn_r _ [467, 275, 101, 102, 103, 2, 104, 105, 106, 18, 107, 108, 109, 110, 111, 468, 146, 147, 20, 148, 120, 149, 150, 151, 100, 152, 153, 134, 129, 379, 186, 187, 188, 139, 517, 518, 519, 520, 521, 522, 507, 508, 509, 512] (by decide +kernel) (by decide +kernel)) (goodIn_sub (fun _ h => List.mem_append_left _ (List.mem_append_right _ h)) (by decide +kernel))) (goodIn_sub (fun _ h => List.mem_append_right _ h) (by decide +kernel))
set_option maxRecDepth 20000 in
theorem gL_law_X2_plantDepth : GoodIn wsL_law (wsV RL 168 RX2 yX2_plantDepth wsX2_plantDepth) := goodIn_app (goodIn_of _ (by decide +kernel)) ggL_law_X2_plantDepth
set_option maxRecDepth 20000 in
theorem ggL_law_X4_plant : GoodIn wsL_law wsX4_plant := goodIn_r _ [75, 36, 35, 76, 77, 68, 54, 55, 69, 70, 31, 71, 78, 79, 80, 81, 15, 16, 82, 83, 84, 85, 86, 87, 88, 89, 90, 91, 510, 511, 513, 514, 515, 516] (by decide +kernel) (by decide +kernel)
set_option maxRecDepth 20000 in
theorem gL_law_X4_plant : GoodIn wsL_law (wsV RL 43 RX4 yX4_plant wsX4_plant) := goodIn_app (goodIn_of _ (by decide +kernel)) ggL_law_X4_plant
theorem gcL_law_X2_plant_m0 : ∀ w ∈ (vx_atS RX2 36 "java/lang/IllegalStateException" ["java/lang/RuntimeException", "java/lang/Exception"]).filter goodWord, w ∈ wsL_law := fun _ h => (List.mem_append_left _ (List.mem_append_left _ (List.mem_append_right _ h)))
theorem gcL_law_X2_plant_m1 : ∀ w ∈ (vx_atS RX2 129 "java/lang/IndexOutOfBoundsException" ["java/lang/RuntimeException", "java/lang/Exception"]).filter goodWord, w ∈ wsL_law := fun _ h => (List.mem_append_left _ (List.mem_append_right _ h))
theorem gcL_law_X2_plant_m2 : ∀ w ∈ (vx_atS RX2 212 "java/lang/IllegalArgumentException" ["java/lang/RuntimeException", "java/lang/Exception"]).filter goodWord, w ∈ wsL_law := fun _ h => (List.mem_append_right _ h)
set_option maxRecDepth 20000 in
theorem gcL_law_X2_plant_h : GoodIn wsL_law ([.code yX2_plant cX2_plant 5 (some .int)]) := goodIn_r _ [95] (by decide +kernel) (by decide +kernel)
set_option maxRecDepth 20000 in
theorem gcL_law_X2_plant_r1 : GoodIn wsL_law (wsX2_plant_r1) := goodIn_r _ [96, 97, 98, 99, 100, 101, 102, 103, 2, 104, 105, 106, 18, 107, 108, 109, 110, 111, 112, 113, 114, 115, 116, 117] (by decide +kernel) (by decide +kernel)
set_option maxRecDepth 20000 in
theorem gcL_law_X2_plant_r2 : GoodIn wsL_law (wsX2_plant_r2) := goodIn_r _ [118, 20, 119, 120, 121, 122, 123, 124, 125, 126, 127, 128, 129, 130, 131, 132, 133, 134, 135, 136, 137, 138, 139, 140] (by decide +kernel) (by decide +kernel)
set_option maxRecDepth 20000 in
theorem gcL_law_X2_plant_r3 : GoodIn wsL_law (wsX2_plant_r3) := goodIn_r _ [141, 142, 143, 144, 145, 146, 147, 148, 149, 150, 151, 152, 153, 154, 155, 156, 157, 15, 16, 158, 159, 160, 161, 162] (by decide +kernel) (by decide +kernel)
set_option maxRecDepth 20000 in
theorem gcL_law_X2_plant_r4 : GoodIn wsL_law (wsX2_plant_r4) := goodIn_r _ [163, 164, 165, 166, 167, 168, 169, 170, 171, 172, 173, 174, 175, 176, 177, 178, 179, 180, 181, 182, 183, 184, 185, 186] (by decide +kernel) (by decide +kernel)
set_option maxRecDepth 20000 in
theorem gcL_law_X2_plant_r5 : GoodIn wsL_law (wsX2_plant_r5) := goodIn_r _ [187, 188, 189, 190, 191, 192, 193, 194, 195, 196, 197, 198, 199] (by decide +kernel) (by decide +kernel)
set_option maxRecDepth 20000 in
theorem gcL_law_X2_plant_wsX00 : GoodIn wsL_law (wsX00) := goodIn_r _ [517, 518, 519, 520, 521, 522] (by decide +kernel) (by decide +kernel)
set_option maxRecDepth 20000 in
theorem gcL_law_X2_plant_wsX20 : GoodIn wsL_law (wsX20) := goodIn_r _ [507, 508, 509] (by decide +kernel) (by decide +kernel)
set_option maxRecDepth 20000 in
theorem gcL_law_X2_plant_wsX10 : GoodIn wsL_law (wsX10) := goodIn_r _ [512] (by decide +kernel) (by decide +kernel)
theorem ggL_law_X2_plant : GoodIn wsL_law wsX2_plant := goodIn_app (a := [.code yX2_plant cX2_plant 5 (some .int)]) gcL_law_X2_plant_h (goodIn_app (goodIn_app (goodIn_app (goodIn_app (goodIn_app (goodIn_app (goodIn_app gcL_law_X2_plant_r1 (goodIn_app gcL_law_X2_plant_r2 (goodIn_app gcL_law_X2_plant_r3 (goodIn_app gcL_law_X2_plant_r4 gcL_law_X2_plant_r5)))) gcL_law_X2_plant_wsX00) gcL_law_X2_plant_wsX20) gcL_law_X2_plant_wsX10) (goodIn_sub (big := wsL_law) (fun w h => gcL_law_X2_plant_m0 w h) (by decide +kernel))) (goodIn_sub (big := wsL_law) (fun w h => gcL_law_X2_plant_m1 w h) (by decide +kernel))) (goodIn_sub (big := wsL_law) (fun w h => gcL_law_X2_plant_m2 w h) (by decide +kernel)))
set_option maxRecDepth 20000 in
theorem gL_law_X2_plant : GoodIn wsL_law (wsV RL 46 RX2 yX2_plant wsX2_plant) := goodIn_app (goodIn_of _ (by decide +kernel)) ggL_law_X2_plant
set_option maxRecDepth 20000 in
theorem ggL_law_X4_pick : GoodIn wsL_law wsX4_pick := goodIn_r _ [216, 36, 54, 55, 204, 83, 84, 85, 31, 86, 69, 70, 71, 68, 35, 87, 88, 89, 90, 91, 217, 218, 219, 220, 221, 222, 223, 510, 511, 513, 514, 515, 516] (by decide +kernel) (by decide +kernel)
set_option maxRecDepth 20000 in
theorem gL_law_X4_pick : GoodIn wsL_law (wsV RL 53 RX4 yX4_pick wsX4_pick) := goodIn_app (goodIn_of _ (by decide +kernel)) ggL_law_X4_pick
set_option maxRecDepth 20000 in
theorem ggL_law_X2_pick : GoodIn wsL_law wsX2_pick := goodIn_ca (goodIn_ca (goodIn_r _ [227, 228, 229, 209, 101, 102, 103, 2, 104, 105, 106, 18, 210, 211, 212, 96, 97, 140, 141, 142, 20, 143, 144, 145, 146, 147, 148, 120, 149, 150, 151, 100, 152, 153, 134, 129, 176, 177, 178, 179, 180, 181, 182, 183, 184, 167, 185, 186, 187, 188, 139, 189, 190, 191, 192, 193, 194, 195, 196, 197, 198, 169, 170, 171, 199, 173, 174, 175, 230, 164, 165, 166, 231, 232, 233, 234, 235, 236, 237, 238, 239, 126, 127, 128, 240, 517, 518, 519, 520, 521, 522, 507, 508, 509, 512] (by decide +kernel) (by decide +kernel)) (goodIn_sub (fun _ h => List.mem_append_left _ (List.mem_append_right _ h)) (by decide +kernel))) (goodIn_sub (fun _ h => List.mem_append_left _ (List.mem_append_left _ (List.mem_append_right _ h))) (by decide +kernel))
set_option maxRecDepth 20000 in
theorem gL_law_X2_pick : GoodIn wsL_law (wsV RL 56 RX2 yX2_pick wsX2_pick) := goodIn_app (goodIn_of _ (by decide +kernel)) ggL_law_X2_pick
theorem gcL_law_X4_isSame_m0 : ∀ w ∈ (vx_atS RX2 129 "java/lang/IndexOutOfBoundsException" ["java/lang/RuntimeException", "java/lang/Exception"]).filter goodWord, w ∈ wsL_law := fun _ h => (List.mem_append_left _ (List.mem_append_right _ h))
theorem gcL_law_X4_isSame_m1 : ∀ w ∈ (vx_atS RX2 36 "java/lang/IllegalStateException" ["java/lang/RuntimeException", "java/lang/Exception"]).filter goodWord, w ∈ wsL_law := fun _ h => (List.mem_append_left _ (List.mem_append_left _ (List.mem_append_right _ h)))
set_option maxRecDepth 20000 in
theorem gcL_law_X4_isSame_h : GoodIn wsL_law ([.code yX4_isSame cX4_isSame 9 (some .boolean)]) := goodIn_r _ [472] (by decide +kernel) (by decide +kernel)
set_option maxRecDepth 20000 in
theorem gcL_law_X4_isSame_r1 : GoodIn wsL_law (wsX4_isSame_r1) := goodIn_r _ [36, 35, 68, 54, 55, 204, 91, 56, 52, 31, 53, 60, 58, 59, 473, 303, 304, 2, 305, 101, 102, 103, 104, 105] (by decide +kernel) (by decide +kernel)
set_option maxRecDepth 20000 in
theorem gcL_law_X4_isSame_r2 : GoodIn wsL_law (wsX4_isSame_r2) := goodIn_r _ [106, 18, 116, 117, 118, 20, 119, 120, 121, 122, 123, 100, 124, 125, 126, 127, 128, 129, 130, 131, 132, 133, 134, 135] (by decide +kernel) (by decide +kernel)
set_option maxRecDepth 20000 in
theorem gcL_law_X4_isSame_r3 : GoodIn wsL_law (wsX4_isSame_r3) := goodIn_r _ [136, 137, 138, 139, 474, 307, 308, 309, 250, 310, 311, 312, 275, 475, 314, 315, 316, 317, 318, 319, 320, 321, 4, 5] (by decide +kernel) (by decide +kernel)
set_option maxRecDepth 20000 in
theorem gcL_law_X4_isSame_r4 : GoodIn wsL_law (wsX4_isSame_r4) := goodIn_r _ [6, 255, 256, 257, 258, 259, 185, 186, 187, 188, 260, 476, 477, 478, 479, 480, 327, 328, 329, 330, 331, 332, 333, 463] (by decide +kernel) (by decide +kernel)
set_option maxRecDepth 20000 in
theorem gcL_law_X4_isSame_r5 : GoodIn wsL_law (wsX4_isSame_r5) := goodIn_r _ [461, 462, 481, 335, 336, 337, 338, 339, 340, 341, 342, 343, 482, 483, 484, 485, 486, 487, 488, 276, 489, 490, 491, 492] (by decide +kernel) (by decide +kernel)
set_option maxRecDepth 20000 in
theorem gcL_law_X4_isSame_r6 : GoodIn wsL_law (wsX4_isSame_r6) := goodIn_r _ [235, 236, 237, 238, 239, 493, 494, 495, 496, 69, 70, 71, 497, 383, 384, 385, 386, 387, 388, 389, 498, 403, 404, 405] (by decide +kernel) (by decide +kernel)
set_option maxRecDepth 20000 in
theorem gcL_law_X4_isSame_r7 : GoodIn wsL_law (wsX4_isSame_r7) := goodIn_r _ [210, 211, 212, 96, 97, 140, 141, 142, 143, 144, 145, 146, 147, 148, 149, 150, 151, 152, 153, 379, 499, 391, 392, 393] (by decide +kernel) (by decide +kernel)
set_option maxRecDepth 20000 in
theorem gcL_law_X4_isSame_r8 : GoodIn wsL_law (wsX4_isSame_r8) := goodIn_r _ [378, 500, 395, 396, 397, 228, 501, 399, 400, 401, 229, 502, 407, 408, 409, 380, 503, 423, 424, 425, 209, 504, 113, 114] (by decide +kernel) (by decide +kernel)
set_option maxRecDepth 20000 in
theorem gcL_law_X4_isSame_r9 : GoodIn wsL_law (wsX4_isSame_r9) := goodIn_r _ [115, 505, 62, 63, 64, 506, 295, 296, 297, 180] (by decide +kernel) (by decide +kernel)
set_option maxRecDepth 20000 in
theorem gcL_law_X4_isSame_wsX40 : GoodIn wsL_law (wsX40) := goodIn_r _ [510, 511] (by decide +kernel) (by decide +kernel)
set_option maxRecDepth 20000 in
theorem gcL_law_X4_isSame_wsX30 : GoodIn wsL_law (wsX30) := goodIn_r _ [513, 514, 515, 516] (by decide +kernel) (by decide +kernel)
set_option maxRecDepth 20000 in
theorem gcL_law_X4_isSame_wsX20 : GoodIn wsL_law (wsX20) := goodIn_r _ [507, 508, 509] (by decide +kernel) (by decide +kernel)
set_option maxRecDepth 20000 in
theorem gcL_law_X4_isSame_wsX10 : GoodIn wsL_law (wsX10) := goodIn_r _ [512] (by decide +kernel) (by decide +kernel)
set_option maxRecDepth 20000 in
theorem gcL_law_X4_isSame_wsX00 : GoodIn wsL_law (wsX00) := goodIn_r _ [517, 518, 519, 520, 521, 522] (by decide +kernel) (by decide +kernel)
theorem ggL_law_X4_isSame : GoodIn wsL_law wsX4_isSame := goodIn_app (a := [.code yX4_isSame cX4_isSame 9 (some .boolean)]) gcL_law_X4_isSame_h (goodIn_app (goodIn_app (goodIn_app (goodIn_app (goodIn_app (goodIn_app (goodIn_app (goodIn_app gcL_law_X4_isSame_r1 (goodIn_app gcL_law_X4_isSame_r2 (goodIn_app gcL_law_X4_isSame_r3 (goodIn_app gcL_law_X4_isSame_r4 (goodIn_app gcL_law_X4_isSame_r5 (goodIn_app gcL_law_X4_isSame_r6 (goodIn_app gcL_law_X4_isSame_r7 (goodIn_app gcL_law_X4_isSame_r8 gcL_law_X4_isSame_r9)))))))) gcL_law_X4_isSame_wsX40) gcL_law_X4_isSame_wsX30) gcL_law_X4_isSame_wsX20) gcL_law_X4_isSame_wsX10) gcL_law_X4_isSame_wsX00) (goodIn_sub (big := wsL_law) (fun w h => gcL_law_X4_isSame_m0 w h) (by decide +kernel))) (goodIn_sub (big := wsL_law) (fun w h => gcL_law_X4_isSame_m1 w h) (by decide +kernel)))
set_option maxRecDepth 20000 in
theorem gL_law_X4_isSame : GoodIn wsL_law (wsV RL 171 RX4 yX4_isSame wsX4_isSame) := goodIn_app (goodIn_of _ (by decide +kernel)) ggL_law_X4_isSame
