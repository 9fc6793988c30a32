theorem pz_pl {big : List Cond} (ws : List Cond) (ps : List Nat) (hp : ws = ps.filterMap (fun i => big[i]?)) : ∀ w ∈ ws, w ∈ big := by
  intro w hw
  rw [hp] at hw
  obtain ⟨i, -, hi⟩ := List.mem_filterMap.mp hw
  exact List.mem_of_getElem? hi
theorem pz_ap {big a b : List Cond} (ha : ∀ w ∈ a, w ∈ big) (hb : ∀ w ∈ b, w ∈ big) : ∀ w ∈ a ++ b, w ∈ big := fun w h => (List.mem_append.mp h).elim (ha w) (hb w)
set_option maxRecDepth 20000 in
theorem in_wsL_law_r1 : ∀ w ∈ wsL_law_r1, w ∈ lw_tbl := pz_pl _ [71, 72, 57, 640, 641, 61, 73, 74, 75, 76, 77, 78, 79, 80, 60, 105, 106, 107, 108, 145, 109, 111, 112, 113] (by decide +kernel)
set_option maxRecDepth 20000 in
theorem in_wsL_law_r2 : ∀ w ∈ wsL_law_r2, w ∈ lw_tbl := pz_pl _ [81, 82, 83, 91, 93, 84, 85, 59, 86, 95, 87, 88, 58, 89, 90, 642, 643, 644, 645, 646, 651, 652, 657, 658] (by decide +kernel)
set_option maxRecDepth 20000 in
theorem in_wsL_law_r3 : ∀ w ∈ wsL_law_r3, w ∈ lw_tbl := pz_pl _ [659, 660, 661, 662, 663, 664, 665, 666, 667, 668, 669, 670, 671, 672, 673, 674, 675, 676, 677, 678, 679, 680, 681, 776] (by decide +kernel)
set_option maxRecDepth 20000 in
theorem in_wsL_law_r4 : ∀ w ∈ wsL_law_r4, w ∈ lw_tbl := pz_pl _ [682, 683, 684, 685, 686, 687, 146, 147, 148, 149, 158, 159, 62, 165, 150, 152, 0, 153, 154, 155, 156, 157, 94, 160] (by decide +kernel)
set_option maxRecDepth 20000 in
theorem in_wsL_law_r5 : ∀ w ∈ wsL_law_r5, w ∈ lw_tbl := pz_pl _ [161, 162, 163, 164, 169, 167, 171, 172, 173, 175, 189, 229, 230, 231, 232, 96, 97, 233, 235, 1, 236, 237, 239, 2] (by decide +kernel)
set_option maxRecDepth 20000 in
theorem in_wsL_law_r6 : ∀ w ∈ wsL_law_r6, w ∈ lw_tbl := pz_pl _ [240, 241, 243, 3, 244, 280, 249, 64, 250, 281, 245, 246, 63, 247, 248, 251, 252, 253, 254, 255, 256, 65, 257, 258] (by decide +kernel)
set_option maxRecDepth 20000 in
theorem in_wsL_law_r7 : ∀ w ∈ wsL_law_r7, w ∈ lw_tbl := pz_pl _ [960, 259, 267, 268, 269, 270, 271, 273, 274, 275, 276, 277, 279, 278, 66, 777, 778, 779, 780, 648, 781, 782, 783, 784] (by decide +kernel)
set_option maxRecDepth 20000 in
theorem in_wsL_law_r8 : ∀ w ∈ wsL_law_r8, w ∈ lw_tbl := pz_pl _ [786, 33, 787, 282, 283, 284, 285, 176, 286, 288, 4, 289, 158, 290, 291, 292, 293, 294, 295, 67, 296, 297, 298, 68] (by decide +kernel)
set_option maxRecDepth 20000 in
theorem in_wsL_law_r9 : ∀ w ∈ wsL_law_r9, w ∈ lw_tbl := pz_pl _ [299, 300, 301, 302, 303, 304, 305, 306, 307, 308, 309, 310, 311, 312, 313, 314, 315, 316, 174, 317, 318, 319, 320, 177] (by decide +kernel)
set_option maxRecDepth 20000 in
theorem in_wsL_law_r10 : ∀ w ∈ wsL_law_r10, w ∈ lw_tbl := pz_pl _ [180, 182, 183, 186, 187, 191, 192, 321, 788, 789, 790, 791, 792, 794, 34, 795, 796, 797, 798, 799, 800, 322, 323, 324] (by decide +kernel)
set_option maxRecDepth 20000 in
theorem in_wsL_law_r11 : ∀ w ∈ wsL_law_r11, w ∈ lw_tbl := pz_pl _ [325, 178, 801, 802, 803, 804, 326, 327, 328, 329, 185, 190, 805, 806, 807, 808, 330, 331, 332, 333, 809, 810, 811, 812] (by decide +kernel)
set_option maxRecDepth 20000 in
theorem in_wsL_law_r12 : ∀ w ∈ wsL_law_r12, w ∈ lw_tbl := pz_pl _ [650, 334, 335, 336, 337, 813, 814, 815, 816, 338, 339, 340, 341, 817, 818, 819, 820, 342, 343, 344, 345, 114, 821, 822] (by decide +kernel)
set_option maxRecDepth 20000 in
theorem in_wsL_law_r13 : ∀ w ∈ wsL_law_r13, w ∈ lw_tbl := pz_pl _ [823, 824, 653, 346, 347, 348, 349, 350, 351, 352, 69, 110, 358, 353, 354, 355, 356, 357, 359, 361, 362, 363, 365, 367] (by decide +kernel)
set_option maxRecDepth 20000 in
theorem in_wsL_law_r14 : ∀ w ∈ wsL_law_r14, w ∈ lw_tbl := pz_pl _ [371, 373, 404, 406, 5, 407, 360, 370, 408, 410, 6, 411, 412, 414, 7, 415, 193, 170, 416, 417, 418, 419, 420, 422] (by decide +kernel)
set_option maxRecDepth 20000 in
theorem in_wsL_law_r15 : ∀ w ∈ wsL_law_r15, w ∈ lw_tbl := pz_pl _ [8, 423, 424, 425, 426, 427, 428, 429, 435, 430, 431, 432, 433, 434, 436, 438, 9, 439, 168, 440, 442, 10, 443, 444] (by decide +kernel)
set_option maxRecDepth 20000 in
theorem in_wsL_law_r16 : ∀ w ∈ wsL_law_r16, w ∈ lw_tbl := pz_pl _ [445, 446, 447, 448, 449, 70, 450, 451, 452, 453, 454, 457, 459, 461, 472, 473, 474, 475, 375, 377, 369, 455, 166, 476] (by decide +kernel)
set_option maxRecDepth 20000 in
theorem in_wsL_law_r17 : ∀ w ∈ wsL_law_r17, w ∈ lw_tbl := pz_pl _ [478, 11, 479, 368, 351, 480, 481, 482, 483, 484, 485, 486, 487, 492, 488, 490, 12, 491, 825, 826, 827, 828, 829, 649] (by decide +kernel)
set_option maxRecDepth 20000 in
theorem in_wsL_law_r18 : ∀ w ∈ wsL_law_r18, w ∈ lw_tbl := pz_pl _ [647, 830, 832, 35, 833, 834, 836, 36, 837, 838, 840, 37, 841, 842, 844, 38, 845, 846, 848, 39, 849, 850, 852, 40] (by decide +kernel)
set_option maxRecDepth 20000 in
theorem in_wsL_law_r19 : ∀ w ∈ wsL_law_r19, w ∈ lw_tbl := pz_pl _ [853, 854, 855, 856, 857, 858, 860, 41, 861, 862, 864, 42, 865, 654, 866, 493, 494, 495, 496, 497, 499, 13, 500, 501] (by decide +kernel)
set_option maxRecDepth 20000 in
theorem in_wsL_law_r20 : ∀ w ∈ wsL_law_r20, w ∈ lw_tbl := pz_pl _ [502, 503, 504, 505, 507, 14, 508, 509, 510, 511, 512, 513, 515, 15, 516, 517, 518, 519, 520, 521, 522, 523, 524, 179] (by decide +kernel)
set_option maxRecDepth 20000 in
theorem in_wsL_law_r21 : ∀ w ∈ wsL_law_r21, w ∈ lw_tbl := pz_pl _ [525, 527, 16, 528, 372, 117, 529, 531, 17, 532, 867, 868, 869, 870, 871, 873, 43, 874, 875, 877, 44, 878, 879, 881] (by decide +kernel)
set_option maxRecDepth 20000 in
theorem in_wsL_law_r22 : ∀ w ∈ wsL_law_r22, w ∈ lw_tbl := pz_pl _ [45, 882, 533, 534, 535, 536, 537, 539, 18, 540, 541, 543, 19, 544, 376, 378, 460, 545, 547, 20, 548, 462, 456, 374] (by decide +kernel)
set_option maxRecDepth 20000 in
theorem in_wsL_law_r23 : ∀ w ∈ wsL_law_r23, w ∈ lw_tbl := pz_pl _ [366, 364, 115, 549, 550, 551, 552, 553, 554, 556, 21, 557, 184, 558, 560, 22, 561, 562, 563, 564, 565, 566, 568, 23] (by decide +kernel)
set_option maxRecDepth 20000 in
theorem in_wsL_law_r24 : ∀ w ∈ wsL_law_r24, w ∈ lw_tbl := pz_pl _ [569, 570, 572, 24, 573, 574, 576, 25, 577, 578, 580, 26, 581, 188, 582, 584, 27, 585, 458, 116, 586, 588, 28, 589] (by decide +kernel)
set_option maxRecDepth 20000 in
theorem in_wsL_law_r25 : ∀ w ∈ wsL_law_r25, w ∈ lw_tbl := pz_pl _ [590, 592, 29, 593, 883, 884, 885, 886, 887, 889, 46, 890, 688, 891, 893, 47, 894, 655, 895, 897, 48, 898, 899, 901] (by decide +kernel)
set_option maxRecDepth 20000 in
theorem in_wsL_law_r26 : ∀ w ∈ wsL_law_r26, w ∈ lw_tbl := pz_pl _ [49, 902, 907, 903, 905, 50, 906, 908, 910, 51, 911, 912, 914, 52, 915, 656, 916, 918, 53, 919, 920, 922, 54, 923] (by decide +kernel)
set_option maxRecDepth 20000 in
theorem in_wsL_law_r27 : ∀ w ∈ wsL_law_r27, w ∈ lw_tbl := pz_pl _ [594, 595, 596, 597, 924, 925, 926, 927, 598, 599, 600, 601, 602, 603, 604, 605, 928, 929, 930, 931, 606, 607, 608, 609] (by decide +kernel)
set_option maxRecDepth 20000 in
theorem in_wsL_law_r28 : ∀ w ∈ wsL_law_r28, w ∈ lw_tbl := pz_pl _ [610, 932, 611, 612, 613, 614, 615, 933, 934, 935, 936, 616, 617, 618, 619, 937, 938, 939, 940, 620, 621, 622, 623, 181] (by decide +kernel)
set_option maxRecDepth 20000 in
theorem in_wsL_law_r29 : ∀ w ∈ wsL_law_r29, w ∈ lw_tbl := pz_pl _ [624, 626, 30, 627, 941, 942, 943, 944, 628, 629, 630, 631, 632, 634, 31, 635, 636, 638, 32, 639, 945, 946, 947, 948] (by decide +kernel)
set_option maxRecDepth 20000 in
theorem in_wsL_law_r30 : ∀ w ∈ wsL_law_r30, w ∈ lw_tbl := pz_pl _ [949, 951, 55, 952] (by decide +kernel)
set_option maxRecDepth 20000 in
theorem in_wsX30 : ∀ w ∈ wsX30, w ∈ lw_tbl := pz_pl _ [118, 120, 122, 124, 126, 128, 130, 132, 134, 136, 138, 140, 142] (by decide +kernel)
set_option maxRecDepth 20000 in
theorem in_wsX40 : ∀ w ∈ wsX40, w ∈ lw_tbl := pz_pl _ [689, 691, 693, 695, 697, 699, 701, 703, 705, 707, 709, 711, 713, 715, 717, 719, 721, 723, 725, 727, 729, 731, 733, 735, 737, 739, 741, 743, 745, 747, 749, 751, 753, 755, 757, 759, 761, 763, 765, 767, 769, 771, 773] (by decide +kernel)
set_option maxRecDepth 20000 in
theorem in_wsJx4a65c0 : ∀ w ∈ wsJx4a65c0, w ∈ lw_tbl := pz_pl _ [102, 98, 100] (by decide +kernel)
set_option maxRecDepth 20000 in
theorem in_wsX20 : ∀ w ∈ wsX20, w ∈ lw_tbl := pz_pl _ [194, 196, 198, 200, 202, 204, 206, 208, 210, 212, 214, 216, 218, 220, 222, 224, 226] (by decide +kernel)
set_option maxRecDepth 20000 in
theorem in_wsX10 : ∀ w ∈ wsX10, w ∈ lw_tbl := pz_pl _ [379, 381, 383, 385, 387, 389, 391, 393, 395, 397, 399, 401] (by decide +kernel)
set_option maxRecDepth 20000 in
theorem in_wsX00 : ∀ w ∈ wsX00, w ∈ lw_tbl := pz_pl _ [463, 465, 467, 469] (by decide +kernel)
theorem in_nil9 : ∀ w ∈ ([] : List Cond), w ∈ lw_tbl := fun w h => absurd h List.not_mem_nil
theorem wsL_law_in : ∀ w ∈ wsL_law, w ∈ lw_tbl := pz_ap (pz_ap (pz_ap (pz_ap (pz_ap (pz_ap (pz_ap (pz_ap (in_wsL_law_r1) (pz_ap (in_wsL_law_r2) (pz_ap (in_wsL_law_r3) (pz_ap (in_wsL_law_r4) (pz_ap (in_wsL_law_r5) (pz_ap (in_wsL_law_r6) (pz_ap (in_wsL_law_r7) (pz_ap (in_wsL_law_r8) (pz_ap (in_wsL_law_r9) (pz_ap (in_wsL_law_r10) (pz_ap (in_wsL_law_r11) (pz_ap (in_wsL_law_r12) (pz_ap (in_wsL_law_r13) (pz_ap (in_wsL_law_r14) (pz_ap (in_wsL_law_r15) (pz_ap (in_wsL_law_r16) (pz_ap (in_wsL_law_r17) (pz_ap (in_wsL_law_r18) (pz_ap (in_wsL_law_r19) (pz_ap (in_wsL_law_r20) (pz_ap (in_wsL_law_r21) (pz_ap (in_wsL_law_r22) (pz_ap (in_wsL_law_r23) (pz_ap (in_wsL_law_r24) (pz_ap (in_wsL_law_r25) (pz_ap (in_wsL_law_r26) (pz_ap (in_wsL_law_r27) (pz_ap (in_wsL_law_r28) (pz_ap (in_wsL_law_r29) (in_wsL_law_r30)))))))))))))))))))))))))))))) (in_wsX30)) (in_wsX40)) (in_wsJx4a65c0)) (in_wsX20)) (in_wsX10)) (in_wsX00)) (in_nil9)
theorem inlX0 : ∀ w ∈ wsX00, w ∈ wsL_law := fun _ h => List.mem_append_left _ (List.mem_append_right _ h)
theorem inX0 : ∀ w ∈ wsX00, w ∈ lw_tbl := fun w h => wsL_law_in w (inlX0 w h)
theorem inlX1 : ∀ w ∈ wsX10, w ∈ wsL_law := fun _ h => List.mem_append_left _ (List.mem_append_left _ (List.mem_append_right _ h))
theorem inX1 : ∀ w ∈ wsX10, w ∈ lw_tbl := fun w h => wsL_law_in w (inlX1 w h)
theorem inlX2 : ∀ w ∈ wsX20, w ∈ wsL_law := fun _ h => List.mem_append_left _ (List.mem_append_left _ (List.mem_append_left _ (List.mem_append_right _ h)))
theorem inX2 : ∀ w ∈ wsX20, w ∈ lw_tbl := fun w h => wsL_law_in w (inlX2 w h)
theorem inlX3 : ∀ w ∈ wsX30, w ∈ wsL_law := fun _ h => List.mem_append_left _ (List.mem_append_left _ (List.mem_append_left _ (List.mem_append_left _ (List.mem_append_left _ (List.mem_append_left _ (List.mem_append_right _ h))))))
theorem inX3 : ∀ w ∈ wsX30, w ∈ lw_tbl := fun w h => wsL_law_in w (inlX3 w h)
theorem inlX4 : ∀ w ∈ wsX40, w ∈ wsL_law := fun _ h => List.mem_append_left _ (List.mem_append_left _ (List.mem_append_left _ (List.mem_append_left _ (List.mem_append_left _ (List.mem_append_right _ h)))))
theorem inX4 : ∀ w ∈ wsX40, w ∈ lw_tbl := fun w h => wsL_law_in w (inlX4 w h)
theorem inJx145de : ∀ w ∈ wsJx145de0, w ∈ lw_tbl := by decide +kernel
theorem inJx8e188 : ∀ w ∈ wsJx8e1880, w ∈ lw_tbl := by decide +kernel
theorem inJxab1ab : ∀ w ∈ wsJxab1ab0, w ∈ lw_tbl := by decide +kernel
theorem inJ9 : ∀ w ∈ wsJ90, w ∈ lw_tbl := by decide +kernel
theorem inJ10 : ∀ w ∈ wsJ100, w ∈ lw_tbl := by decide +kernel
theorem inJxa1e45 : ∀ w ∈ wsJxa1e450, w ∈ lw_tbl := by decide +kernel
theorem inJxc12de : ∀ w ∈ wsJxc12de0, w ∈ lw_tbl := by decide +kernel
theorem inlJx4a65c : ∀ w ∈ wsJx4a65c0, w ∈ wsL_law := fun _ h => List.mem_append_left _ (List.mem_append_left _ (List.mem_append_left _ (List.mem_append_left _ (List.mem_append_right _ h))))
theorem inJx4a65c : ∀ w ∈ wsJx4a65c0, w ∈ lw_tbl := fun w h => wsL_law_in w (inlJx4a65c w h)
theorem inJ7 : ∀ w ∈ wsJ70, w ∈ lw_tbl := by decide +kernel
theorem inJx5ef63 : ∀ w ∈ wsJx5ef630, w ∈ lw_tbl := by decide +kernel
theorem inJxbd725 : ∀ w ∈ wsJxbd7250, w ∈ lw_tbl := by decide +kernel
theorem inJ15 : ∀ w ∈ wsJ150, w ∈ lw_tbl := by decide +kernel
theorem inJxf0a74 : ∀ w ∈ wsJxf0a740, w ∈ lw_tbl := by decide +kernel
theorem inJxa66e6 : ∀ w ∈ wsJxa66e60, w ∈ lw_tbl := by decide +kernel
theorem inJ8 : ∀ w ∈ wsJ80, w ∈ lw_tbl := by decide +kernel
theorem inJ3 : ∀ w ∈ wsJ30, w ∈ lw_tbl := by decide +kernel
abbrev vwCl : List vw_C := [(RJx4a65c, TJx4a65c, 3), (RX0, TX0, 4), (RX1, TX1, 12), (RX2, TX2, 17), (RX3, TX3, 13), (RX4, TX4, 43)]
