set_option maxRecDepth 20000 in
theorem wl_1 : wsL_law0_r1 = ([52, 53, 40, 633, 634, 42, 942, 943, 54, 55, 56, 57, 58, 59, 60, 72, 62, 41, 73, 64, 65, 66, 635, 636] : List Nat).filterMap (fun i => lw_tbl[i]?) := by decide +kernel
set_option maxRecDepth 20000 in
theorem wl_2 : wsL_law0_r2 = ([637, 638, 658, 642, 643, 305, 306, 39, 307, 308, 309, 310, 311, 312, 313, 314, 334, 48, 363, 364, 49, 129, 131, 1] : List Nat).filterMap (fun i => lw_tbl[i]?) := by decide +kernel
set_option maxRecDepth 20000 in
theorem wl_3 : wsL_law0_r3 = ([132, 133, 46, 315, 316, 317, 318, 47, 115, 83, 84, 85, 86, 87, 88, 89, 67, 90, 91, 92, 93, 94, 95, 96] : List Nat).filterMap (fun i => lw_tbl[i]?) := by decide +kernel
set_option maxRecDepth 20000 in
theorem wl_4 : wsL_law0_r4 = ([97, 380, 98, 99, 100, 101, 377, 102, 103, 104, 105, 375, 350, 351, 352, 353, 370, 354, 355, 356, 357, 358, 359, 360] : List Nat).filterMap (fun i => lw_tbl[i]?) := by decide +kernel
set_option maxRecDepth 20000 in
theorem wl_5 : wsL_law0_r5 = ([361, 369, 365, 366, 367, 368, 372, 398, 399, 400, 401, 402, 403, 404, 405, 374, 406, 292, 293, 294, 407, 296, 297, 298] : List Nat).filterMap (fun i => lw_tbl[i]?) := by decide +kernel
set_option maxRecDepth 20000 in
theorem wl_6 : wsL_law0_r6 = ([408, 410, 4, 411, 74, 278, 279, 280, 281, 221, 222, 223, 224, 282, 283, 284, 285, 286, 287, 288, 289, 290, 291, 295] : List Nat).filterMap (fun i => lw_tbl[i]?) := by decide +kernel
set_option maxRecDepth 20000 in
theorem wl_7 : wsL_law0_r7 = ([663, 664, 665, 666, 639, 640, 667, 668, 669, 670, 672, 6, 673, 674, 675, 676, 677, 679, 7, 680, 681, 683, 8, 684] : List Nat).filterMap (fun i => lw_tbl[i]?) := by decide +kernel
set_option maxRecDepth 20000 in
theorem wl_8 : wsL_law0_r8 = ([685, 687, 9, 688, 689, 691, 10, 692, 693, 695, 11, 696, 697, 699, 12, 700, 701, 703, 13, 704, 705, 707, 14, 708] : List Nat).filterMap (fun i => lw_tbl[i]?) := by decide +kernel
set_option maxRecDepth 20000 in
theorem wl_9 : wsL_law0_r9 = ([709, 711, 15, 712, 641, 713, 714, 715, 659, 660, 661, 662, 412, 413, 414, 415, 416, 417, 418, 383, 419, 420, 421, 716] : List Nat).filterMap (fun i => lw_tbl[i]?) := by decide +kernel
set_option maxRecDepth 20000 in
theorem wl_10 : wsL_law0_r10 = ([717, 718, 719, 720, 722, 16, 723, 423, 424, 425, 426, 427, 428, 429, 378, 381, 430, 431, 433, 5, 434, 435, 436, 437] : List Nat).filterMap (fun i => lw_tbl[i]?) := by decide +kernel
set_option maxRecDepth 20000 in
theorem wl_11 : wsL_law0_r11 = ([438, 439, 440, 724, 725, 726, 727, 728, 730, 17, 731, 732, 734, 18, 735, 736, 738, 19, 739, 740, 742, 20, 743, 441] : List Nat).filterMap (fun i => lw_tbl[i]?) := by decide +kernel
set_option maxRecDepth 20000 in
theorem wl_12 : wsL_law0_r12 = ([442, 443, 444, 445, 446, 447, 68, 450, 451, 452, 453, 216, 217, 218, 219, 220, 228, 744, 745, 746, 747, 748, 750, 21] : List Nat).filterMap (fun i => lw_tbl[i]?) := by decide +kernel
set_option maxRecDepth 20000 in
theorem wl_13 : wsL_law0_r13 = ([751, 752, 754, 22, 755, 756, 758, 23, 759, 760, 762, 24, 763, 454, 455, 456, 457, 458, 459, 460, 461, 462, 463, 371] : List Nat).filterMap (fun i => lw_tbl[i]?) := by decide +kernel
set_option maxRecDepth 20000 in
theorem wl_14 : wsL_law0_r14 = ([261, 764, 765, 766, 767, 768, 770, 25, 771, 82, 772, 773, 774, 775, 776, 778, 26, 779, 106, 107, 108, 109, 780, 781] : List Nat).filterMap (fun i => lw_tbl[i]?) := by decide +kernel
set_option maxRecDepth 20000 in
theorem wl_15 : wsL_law0_r15 = ([782, 783, 465, 466, 467, 468, 126, 127, 128, 784, 785, 786, 787, 469, 470, 471, 472, 202, 203, 204, 205, 206, 207, 788] : List Nat).filterMap (fun i => lw_tbl[i]?) := by decide +kernel
set_option maxRecDepth 20000 in
theorem wl_16 : wsL_law0_r16 = ([789, 790, 791, 792, 794, 27, 795, 473, 474, 475, 476, 209, 210, 211, 212, 213, 214, 215, 225, 226, 50, 227, 796, 797] : List Nat).filterMap (fun i => lw_tbl[i]?) := by decide +kernel
set_option maxRecDepth 20000 in
theorem wl_17 : wsL_law0_r17 = ([798, 799, 800, 802, 28, 803, 804, 477, 478, 479, 480, 230, 231, 232, 805, 806, 807, 808, 809, 811, 29, 812, 481, 482] : List Nat).filterMap (fun i => lw_tbl[i]?) := by decide +kernel
set_option maxRecDepth 20000 in
theorem wl_18 : wsL_law0_r18 = ([483, 484, 234, 235, 236, 237, 238, 239, 240, 813, 814, 815, 816, 817, 819, 30, 820, 485, 486, 487, 488, 489, 490, 491] : List Nat).filterMap (fun i => lw_tbl[i]?) := by decide +kernel
set_option maxRecDepth 20000 in
theorem wl_19 : wsL_law0_r19 = ([821, 822, 823, 824, 492, 493, 494, 495, 496, 497, 498, 825, 826, 827, 828, 499, 500, 501, 502, 503, 504, 505, 506, 507] : List Nat).filterMap (fun i => lw_tbl[i]?) := by decide +kernel
set_option maxRecDepth 20000 in
theorem wl_20 : wsL_law0_r20 = ([508, 509, 829, 830, 831, 832, 511, 512, 513, 514, 242, 243, 244, 245, 246, 247, 248, 379, 382, 833, 834, 835, 836, 837] : List Nat).filterMap (fun i => lw_tbl[i]?) := by decide +kernel
set_option maxRecDepth 20000 in
theorem wl_21 : wsL_law0_r21 = ([839, 31, 840, 515, 516, 517, 518, 519, 520, 521, 841, 842, 843, 844, 845, 847, 32, 848, 522, 523, 524, 525, 526, 527] : List Nat).filterMap (fun i => lw_tbl[i]?) := by decide +kernel
set_option maxRecDepth 20000 in
theorem wl_22 : wsL_law0_r22 = ([528, 529, 530, 531, 532, 849, 850, 851, 852, 533, 534, 535, 536, 537, 538, 539, 303, 853, 854, 855, 856, 857, 859, 33] : List Nat).filterMap (fun i => lw_tbl[i]?) := by decide +kernel
set_option maxRecDepth 20000 in
theorem wl_23 : wsL_law0_r23 = ([860, 540, 541, 542, 543, 544, 545, 546, 376, 861, 862, 863, 864, 547, 548, 549, 550, 551, 552, 553, 865, 866, 867, 868] : List Nat).filterMap (fun i => lw_tbl[i]?) := by decide +kernel
set_option maxRecDepth 20000 in
theorem wl_24 : wsL_law0_r24 = ([554, 555, 556, 557, 558, 559, 560, 869, 870, 871, 872, 561, 562, 563, 564, 565, 566, 567, 304, 873, 874, 875, 876, 568] : List Nat).filterMap (fun i => lw_tbl[i]?) := by decide +kernel
set_option maxRecDepth 20000 in
theorem wl_25 : wsL_law0_r25 = ([569, 570, 571, 572, 573, 574, 877, 878, 879, 880, 575, 576, 577, 578, 250, 251, 252, 253, 254, 255, 256, 384, 881, 882] : List Nat).filterMap (fun i => lw_tbl[i]?) := by decide +kernel
set_option maxRecDepth 20000 in
theorem wl_26 : wsL_law0_r26 = ([883, 884, 885, 887, 34, 888, 579, 580, 581, 582, 583, 584, 585, 586, 587, 588, 589, 590, 591, 592, 889, 890, 891, 892] : List Nat).filterMap (fun i => lw_tbl[i]?) := by decide +kernel
set_option maxRecDepth 20000 in
theorem wl_27 : wsL_law0_r27 = ([593, 594, 595, 596, 597, 598, 599, 262, 264, 3, 265, 373, 266, 267, 268, 269, 270, 271, 272, 273, 274, 275, 276, 277] : List Nat).filterMap (fun i => lw_tbl[i]?) := by decide +kernel
set_option maxRecDepth 20000 in
theorem wl_28 : wsL_law0_r28 = ([893, 894, 895, 896, 897, 899, 35, 900, 901, 903, 902, 51, 644, 904, 906, 36, 907, 600, 601, 602, 603, 604, 605, 606] : List Nat).filterMap (fun i => lw_tbl[i]?) := by decide +kernel
set_option maxRecDepth 20000 in
theorem wl_29 : wsL_law0_r29 = ([908, 909, 910, 911, 607, 608, 609, 610, 258, 259, 260, 299, 912, 913, 914, 915, 916, 918, 37, 919, 611, 612, 613, 614] : List Nat).filterMap (fun i => lw_tbl[i]?) := by decide +kernel
set_option maxRecDepth 20000 in
theorem wl_30 : wsL_law0_r30 = ([615, 616, 617, 618, 920, 921, 922, 923, 924, 926, 38, 927, 619, 620, 621, 622, 623, 624, 625, 928, 929, 930, 931, 626] : List Nat).filterMap (fun i => lw_tbl[i]?) := by decide +kernel
set_option maxRecDepth 20000 in
theorem wl_31 : wsL_law0_r31 = ([627, 628, 629, 630, 631, 632, 932, 933, 934, 935, 110, 111, 112, 113, 114, 116, 117, 118, 119, 120, 121, 123, 0, 124] : List Nat).filterMap (fun i => lw_tbl[i]?) := by decide +kernel
set_option maxRecDepth 20000 in
theorem wl_32 : wsL_law0_r32 = ([125, 201, 208, 229, 233, 241, 249, 257, 300, 301, 302, 936, 937, 938, 939, 940, 941] : List Nat).filterMap (fun i => lw_tbl[i]?) := by decide +kernel
set_option maxRecDepth 20000 in
theorem wl_X2 : wsX20 = ([75, 77, 79] : List Nat).filterMap (fun i => lw_tbl[i]?) := by decide +kernel
set_option maxRecDepth 20000 in
theorem wl_X3 : wsX30 = ([645, 647, 649, 651, 653, 655] : List Nat).filterMap (fun i => lw_tbl[i]?) := by decide +kernel
set_option maxRecDepth 20000 in
theorem wl_X1 : wsX10 = ([69] : List Nat).filterMap (fun i => lw_tbl[i]?) := by decide +kernel
set_option maxRecDepth 20000 in
theorem wl_X0 : wsX00 = ([385, 387, 389, 391, 393, 395] : List Nat).filterMap (fun i => lw_tbl[i]?) := by decide +kernel
theorem wl_in {ws : List Cond} {ps : List Nat} (hp : ws = ps.filterMap (fun i => lw_tbl[i]?)) : ∀ w ∈ ws, w ∈ lw_tbl := fun w h => by
  rw [hp] at h
  obtain ⟨i, -, hi⟩ := List.mem_filterMap.mp h
  exact List.mem_of_getElem? hi
theorem wsL_law_in0 : ∀ w ∈ wsL_law0, w ∈ lw_tbl := List.forall_mem_append.mpr ⟨List.forall_mem_append.mpr ⟨List.forall_mem_append.mpr ⟨List.forall_mem_append.mpr ⟨List.forall_mem_append.mpr ⟨List.forall_mem_append.mpr ⟨wl_in wl_1, List.forall_mem_append.mpr ⟨wl_in wl_2, List.forall_mem_append.mpr ⟨wl_in wl_3, List.forall_mem_append.mpr ⟨wl_in wl_4, List.forall_mem_append.mpr ⟨wl_in wl_5, List.forall_mem_append.mpr ⟨wl_in wl_6, List.forall_mem_append.mpr ⟨wl_in wl_7, List.forall_mem_append.mpr ⟨wl_in wl_8, List.forall_mem_append.mpr ⟨wl_in wl_9, List.forall_mem_append.mpr ⟨wl_in wl_10, List.forall_mem_append.mpr ⟨wl_in wl_11, List.forall_mem_append.mpr ⟨wl_in wl_12, List.forall_mem_append.mpr ⟨wl_in wl_13, List.forall_mem_append.mpr ⟨wl_in wl_14, List.forall_mem_append.mpr ⟨wl_in wl_15, List.forall_mem_append.mpr ⟨wl_in wl_16, List.forall_mem_append.mpr ⟨wl_in wl_17, List.forall_mem_append.mpr ⟨wl_in wl_18, List.forall_mem_append.mpr ⟨wl_in wl_19, List.forall_mem_append.mpr ⟨wl_in wl_20, List.forall_mem_append.mpr ⟨wl_in wl_21, List.forall_mem_append.mpr ⟨wl_in wl_22, List.forall_mem_append.mpr ⟨wl_in wl_23, List.forall_mem_append.mpr ⟨wl_in wl_24, List.forall_mem_append.mpr ⟨wl_in wl_25, List.forall_mem_append.mpr ⟨wl_in wl_26, List.forall_mem_append.mpr ⟨wl_in wl_27, List.forall_mem_append.mpr ⟨wl_in wl_28, List.forall_mem_append.mpr ⟨wl_in wl_29, List.forall_mem_append.mpr ⟨wl_in wl_30, List.forall_mem_append.mpr ⟨wl_in wl_31, wl_in wl_32⟩⟩⟩⟩⟩⟩⟩⟩⟩⟩⟩⟩⟩⟩⟩⟩⟩⟩⟩⟩⟩⟩⟩⟩⟩⟩⟩⟩⟩⟩⟩, wl_in wl_X2⟩, wl_in wl_X3⟩, wl_in wl_X1⟩, wl_in wl_X0⟩, fun _ h => absurd h List.not_mem_nil⟩
