set_option maxRecDepth 20000 in
theorem wl_1 : wsL_law0_r1 = ([20, 21, 8, 659, 325, 19, 326, 660, 404, 405, 486, 22, 23, 24, 25, 26, 27, 28, 40, 30, 9, 41, 32, 33] : List Nat).filterMap (fun i => lw_tbl[i]?) := by decide +kernel
set_option maxRecDepth 20000 in
theorem wl_2 : wsL_law0_r2 = ([34, 654, 655, 7, 656, 657, 478, 10, 480, 481, 482, 483, 485, 601, 602, 603, 604, 597, 598, 599, 600, 605, 606, 607] : List Nat).filterMap (fun i => lw_tbl[i]?) := by decide +kernel
set_option maxRecDepth 20000 in
theorem wl_3 : wsL_law0_r3 = ([608, 610, 503, 609, 521, 522, 505, 506, 520, 611, 558, 559, 557, 612, 593, 594, 595, 613, 614, 615, 502, 527, 528, 529] : List Nat).filterMap (fun i => lw_tbl[i]?) := by decide +kernel
set_option maxRecDepth 20000 in
theorem wl_4 : wsL_law0_r4 = ([523, 524, 525, 526, 496, 11, 497, 498, 499, 500, 501, 530, 531, 532, 533, 534, 536, 6, 537, 487, 50, 51, 52, 53] : List Nat).filterMap (fun i => lw_tbl[i]?) := by decide +kernel
set_option maxRecDepth 20000 in
theorem wl_5 : wsL_law0_r5 = ([169, 17, 198, 199, 18, 54, 56, 0, 57, 58, 15, 126, 127, 128, 129, 16, 145, 146, 147, 148, 149, 150, 151, 152] : List Nat).filterMap (fun i => lw_tbl[i]?) := by decide +kernel
set_option maxRecDepth 20000 in
theorem wl_6 : wsL_law0_r6 = ([35, 153, 154, 155, 156, 157, 158, 159, 160, 215, 161, 162, 163, 164, 212, 165, 166, 167, 168, 210, 185, 186, 187, 188] : List Nat).filterMap (fun i => lw_tbl[i]?) := by decide +kernel
set_option maxRecDepth 20000 in
theorem wl_7 : wsL_law0_r7 = ([205, 189, 190, 191, 192, 193, 194, 195, 196, 204, 200, 201, 202, 203, 207, 233, 234, 235, 236, 237, 238, 239, 240, 209] : List Nat).filterMap (fun i => lw_tbl[i]?) := by decide +kernel
set_option maxRecDepth 20000 in
theorem wl_8 : wsL_law0_r8 = ([241, 242, 243, 244, 245, 246, 247, 248, 249, 251, 2, 252, 42, 253, 254, 255, 256, 257, 258, 259, 260, 261, 262, 263] : List Nat).filterMap (fun i => lw_tbl[i]?) := by decide +kernel
set_option maxRecDepth 20000 in
theorem wl_9 : wsL_law0_r9 = ([264, 265, 266, 267, 268, 269, 270, 271, 538, 539, 540, 541, 504, 272, 273, 274, 275, 218, 276, 277, 278, 542, 543, 544] : List Nat).filterMap (fun i => lw_tbl[i]?) := by decide +kernel
set_option maxRecDepth 20000 in
theorem wl_10 : wsL_law0_r10 = ([545, 546, 547, 548, 549, 550, 551, 552, 280, 281, 282, 283, 213, 216, 284, 285, 287, 3, 288, 289, 290, 291, 292, 293] : List Nat).filterMap (fun i => lw_tbl[i]?) := by decide +kernel
set_option maxRecDepth 20000 in
theorem wl_11 : wsL_law0_r11 = ([294, 616, 617, 618, 619, 620, 621, 622, 623, 624, 36, 627, 628, 629, 630, 319, 320, 321, 322, 323, 327, 631, 632, 633] : List Nat).filterMap (fun i => lw_tbl[i]?) := by decide +kernel
set_option maxRecDepth 20000 in
theorem wl_12 : wsL_law0_r12 = ([634, 635, 636, 637, 638, 639, 640, 641, 642, 643, 644, 206, 434, 645, 646, 647, 648, 649, 650, 651, 652, 441, 442, 443] : List Nat).filterMap (fun i => lw_tbl[i]?) := by decide +kernel
set_option maxRecDepth 20000 in
theorem wl_13 : wsL_law0_r13 = ([444, 445, 446, 447, 448, 449, 450, 297, 298, 299, 451, 453, 5, 454, 455, 301, 302, 303, 456, 305, 306, 307, 308, 309] : List Nat).filterMap (fun i => lw_tbl[i]?) := by decide +kernel
set_option maxRecDepth 20000 in
theorem wl_14 : wsL_law0_r14 = ([310, 457, 312, 313, 314, 315, 316, 317, 318, 324, 458, 329, 330, 331, 459, 333, 334, 335, 336, 337, 338, 339, 460, 350] : List Nat).filterMap (fun i => lw_tbl[i]?) := by decide +kernel
set_option maxRecDepth 20000 in
theorem wl_15 : wsL_law0_r15 = ([351, 352, 353, 354, 355, 356, 214, 217, 461, 462, 463, 464, 465, 466, 467, 468, 219, 469, 431, 432, 433, 410, 412, 4] : List Nat).filterMap (fun i => lw_tbl[i]?) := by decide +kernel
set_option maxRecDepth 20000 in
theorem wl_16 : wsL_law0_r16 = ([413, 208, 414, 415, 416, 417, 418, 419, 420, 421, 422, 423, 424, 425, 435, 470, 471, 472, 211, 373, 390, 300, 340, 341] : List Nat).filterMap (fun i => lw_tbl[i]?) := by decide +kernel
set_option maxRecDepth 20000 in
theorem wl_17 : wsL_law0_r17 = ([342, 343, 344, 345, 346, 347, 374, 375, 376, 377, 378, 379, 380, 381, 382, 383, 384, 385, 369, 370, 371, 372, 386, 387] : List Nat).filterMap (fun i => lw_tbl[i]?) := by decide +kernel
set_option maxRecDepth 20000 in
theorem wl_18 : wsL_law0_r18 = ([388, 389, 357, 358, 359, 360, 361, 362, 363, 364, 365, 366, 367, 368, 391, 392, 393, 394, 304, 332, 349, 311, 328, 395] : List Nat).filterMap (fun i => lw_tbl[i]?) := by decide +kernel
set_option maxRecDepth 20000 in
theorem wl_19 : wsL_law0_r19 = ([396, 397, 398, 399, 400, 401, 402, 403, 295, 430, 406, 407, 408, 409, 426, 427, 428, 429, 296, 473, 474, 475, 476, 477] : List Nat).filterMap (fun i => lw_tbl[i]?) := by decide +kernel
set_option maxRecDepth 20000 in
theorem wl_20 : wsL_law0_r20 = ([479, 493, 494, 495, 516, 517, 518, 519, 436, 437, 438, 439, 440, 553, 554, 555, 556, 560, 561, 562, 563, 564, 565, 566] : List Nat).filterMap (fun i => lw_tbl[i]?) := by decide +kernel
set_option maxRecDepth 20000 in
theorem wl_21 : wsL_law0_r21 = ([567, 568, 569, 570, 571, 572, 573, 574, 575, 576, 577, 578, 579, 580, 581, 582, 583, 584, 585, 586, 587, 588, 589, 590] : List Nat).filterMap (fun i => lw_tbl[i]?) := by decide +kernel
set_option maxRecDepth 20000 in
theorem wl_22 : wsL_law0_r22 = ([591, 592, 596] : List Nat).filterMap (fun i => lw_tbl[i]?) := by decide +kernel
set_option maxRecDepth 20000 in
theorem wl_X2 : wsX20 = ([43, 45, 47] : List Nat).filterMap (fun i => lw_tbl[i]?) := by decide +kernel
set_option maxRecDepth 20000 in
theorem wl_X4 : wsX40 = ([488, 490] : List Nat).filterMap (fun i => lw_tbl[i]?) := by decide +kernel
set_option maxRecDepth 20000 in
theorem wl_X1 : wsX10 = ([37] : List Nat).filterMap (fun i => lw_tbl[i]?) := by decide +kernel
set_option maxRecDepth 20000 in
theorem wl_X3 : wsX30 = ([507, 509, 511, 513] : List Nat).filterMap (fun i => lw_tbl[i]?) := by decide +kernel
set_option maxRecDepth 20000 in
theorem wl_X0 : wsX00 = ([220, 222, 224, 226, 228, 230] : List Nat).filterMap (fun i => lw_tbl[i]?) := by decide +kernel
theorem wl_in {ws : List Cond} {ps : List Nat} (hp : ws = ps.filterMap (fun i => lw_tbl[i]?)) : ∀ w ∈ ws, w ∈ lw_tbl := fun w h => by
  rw [hp] at h
  obtain ⟨i, -, hi⟩ := List.mem_filterMap.mp h
  exact List.mem_of_getElem? hi
theorem wsL_law_in0 : ∀ w ∈ wsL_law0, w ∈ lw_tbl := List.forall_mem_append.mpr ⟨List.forall_mem_append.mpr ⟨List.forall_mem_append.mpr ⟨List.forall_mem_append.mpr ⟨List.forall_mem_append.mpr ⟨List.forall_mem_append.mpr ⟨List.forall_mem_append.mpr ⟨wl_in wl_1, List.forall_mem_append.mpr ⟨wl_in wl_2, List.forall_mem_append.mpr ⟨wl_in wl_3, List.forall_mem_append.mpr ⟨wl_in wl_4, List.forall_mem_append.mpr ⟨wl_in wl_5, List.forall_mem_append.mpr ⟨wl_in wl_6, List.forall_mem_append.mpr ⟨wl_in wl_7, List.forall_mem_append.mpr ⟨wl_in wl_8, List.forall_mem_append.mpr ⟨wl_in wl_9, List.forall_mem_append.mpr ⟨wl_in wl_10, List.forall_mem_append.mpr ⟨wl_in wl_11, List.forall_mem_append.mpr ⟨wl_in wl_12, List.forall_mem_append.mpr ⟨wl_in wl_13, List.forall_mem_append.mpr ⟨wl_in wl_14, List.forall_mem_append.mpr ⟨wl_in wl_15, List.forall_mem_append.mpr ⟨wl_in wl_16, List.forall_mem_append.mpr ⟨wl_in wl_17, List.forall_mem_append.mpr ⟨wl_in wl_18, List.forall_mem_append.mpr ⟨wl_in wl_19, List.forall_mem_append.mpr ⟨wl_in wl_20, List.forall_mem_append.mpr ⟨wl_in wl_21, wl_in wl_22⟩⟩⟩⟩⟩⟩⟩⟩⟩⟩⟩⟩⟩⟩⟩⟩⟩⟩⟩⟩⟩, wl_in wl_X2⟩, wl_in wl_X4⟩, wl_in wl_X1⟩, wl_in wl_X3⟩, wl_in wl_X0⟩, fun _ h => absurd h List.not_mem_nil⟩
theorem wsL_law_x0 : ∀ w ∈ (vx_atS RX2 36 "java/lang/IllegalStateException" ["java/lang/RuntimeException", "java/lang/Exception"]).filter goodWord, w ∈ lw_tbl := by decide +kernel
theorem wsL_law_x1 : ∀ w ∈ (vx_atS RX2 129 "java/lang/IndexOutOfBoundsException" ["java/lang/RuntimeException", "java/lang/Exception"]).filter goodWord, w ∈ lw_tbl := by decide +kernel
theorem wsL_law_x2 : ∀ w ∈ (vx_atS RX2 212 "java/lang/IllegalArgumentException" ["java/lang/RuntimeException", "java/lang/Exception"]).filter goodWord, w ∈ lw_tbl := by decide +kernel
theorem wsL_law_in : ∀ w ∈ wsL_law, w ∈ lw_tbl := fun w h => (List.mem_append.mp h).elim (fun h => (List.mem_append.mp h).elim (fun h => (List.mem_append.mp h).elim (fun h => wsL_law_in0 w h) (fun h => wsL_law_x0 w h)) (fun h => wsL_law_x1 w h)) (fun h => wsL_law_x2 w h)
theorem inlX0 : ∀ w ∈ wsX00, w ∈ wsL_law := fun _ h => List.mem_append_left _ (List.mem_append_left _ (List.mem_append_left _ (List.mem_append_left _ (List.mem_append_right _ h))))
theorem inX0 : ∀ w ∈ wsX00, w ∈ lw_tbl := fun w h => wsL_law_in w (inlX0 w h)
theorem inlX1 : ∀ w ∈ wsX10, w ∈ wsL_law := fun _ h => List.mem_append_left _ (List.mem_append_left _ (List.mem_append_left _ (List.mem_append_left _ (List.mem_append_left _ (List.mem_append_left _ (List.mem_append_right _ h))))))
theorem inX1 : ∀ w ∈ wsX10, w ∈ lw_tbl := fun w h => wsL_law_in w (inlX1 w h)
theorem inlX2 : ∀ w ∈ wsX20, w ∈ wsL_law := fun _ h => List.mem_append_left _ (List.mem_append_left _ (List.mem_append_left _ (List.mem_append_left _ (List.mem_append_left _ (List.mem_append_left _ (List.mem_append_left _ (List.mem_append_left _ (List.mem_append_right _ h))))))))
theorem inX2 : ∀ w ∈ wsX20, w ∈ lw_tbl := fun w h => wsL_law_in w (inlX2 w h)
theorem inlX3 : ∀ w ∈ wsX30, w ∈ wsL_law := fun _ h => List.mem_append_left _ (List.mem_append_left _ (List.mem_append_left _ (List.mem_append_left _ (List.mem_append_left _ (List.mem_append_right _ h)))))
theorem inX3 : ∀ w ∈ wsX30, w ∈ lw_tbl := fun w h => wsL_law_in w (inlX3 w h)
theorem inlX4 : ∀ w ∈ wsX40, w ∈ wsL_law := fun _ h => List.mem_append_left _ (List.mem_append_left _ (List.mem_append_left _ (List.mem_append_left _ (List.mem_append_left _ (List.mem_append_left _ (List.mem_append_left _ (List.mem_append_right _ h)))))))
theorem inX4 : ∀ w ∈ wsX40, w ∈ lw_tbl := fun w h => wsL_law_in w (inlX4 w h)
