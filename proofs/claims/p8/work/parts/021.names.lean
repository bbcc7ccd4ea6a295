theorem in_by {big : List Cond} (ws : List Cond) (ps : List Nat) (hp : ws = ps.filterMap (fun i => big[i]?)) : ∀ w ∈ ws, w ∈ big := by
  intro w hw
  rw [hp] at hw
  obtain ⟨i, -, hi⟩ := List.mem_filterMap.mp hw
  first | exact List.mem_of_getElem? hi | exact List.getElem?_mem hi
set_option maxRecDepth 20000 in
theorem wsL_law_r1_in : ∀ w ∈ wsL_law_r1, w ∈ lw_tbl := in_by _ [45, 46, 30, 659, 660, 35, 47, 48, 49, 50, 51, 52, 53, 54, 31, 121, 83, 122, 85, 123, 87, 124, 89, 125] (by decide +kernel)
set_option maxRecDepth 20000 in
theorem wsL_law_r2_in : ∀ w ∈ wsL_law_r2, w ∈ lw_tbl := in_by _ [91, 93, 33, 126, 110, 111, 34, 127, 133, 55, 56, 57, 58, 82, 62, 64, 67, 68, 69, 59, 60, 32, 61, 95] (by decide +kernel)
set_option maxRecDepth 20000 in
theorem wsL_law_r3_in : ∀ w ∈ wsL_law_r3, w ∈ lw_tbl := in_by _ [96, 97, 98, 100, 113, 114, 115, 661, 662, 663, 664, 667, 668, 669, 670, 672, 673, 674, 675, 677, 678, 679, 680, 681] (by decide +kernel)
set_option maxRecDepth 20000 in
theorem wsL_law_r4_in : ∀ w ∈ wsL_law_r4, w ∈ lw_tbl := in_by _ [683, 783, 684, 690, 691, 692, 784, 693, 694, 695, 696, 697, 698, 700, 701, 702, 666, 685, 161, 162, 163, 164, 70, 165] (by decide +kernel)
set_option maxRecDepth 20000 in
theorem wsL_law_r5_in : ∀ w ∈ wsL_law_r5, w ∈ lw_tbl := in_by _ [166, 167, 169, 170, 171, 172, 173, 174, 175, 176, 178, 177, 36, 179, 180, 181, 182, 183, 184, 185, 186, 187, 37, 188] (by decide +kernel)
set_option maxRecDepth 20000 in
theorem wsL_law_r6_in : ∀ w ∈ wsL_law_r6, w ∈ lw_tbl := in_by _ [189, 190, 191, 192, 193, 194, 195, 196, 198, 0, 199, 200, 202, 1, 203, 204, 785, 786, 787, 788, 797, 789, 790, 791] (by decide +kernel)
set_option maxRecDepth 20000 in
theorem wsL_law_r7_in : ∀ w ∈ wsL_law_r7, w ∈ lw_tbl := in_by _ [792, 796, 793, 794, 795, 798, 800, 8, 801, 802, 804, 9, 805, 671, 806, 808, 10, 809, 810, 812, 11, 813, 205, 206] (by decide +kernel)
set_option maxRecDepth 20000 in
theorem wsL_law_r8_in : ∀ w ∈ wsL_law_r8, w ∈ lw_tbl := in_by _ [207, 208, 814, 815, 816, 817, 209, 210, 211, 212, 63, 66, 818, 819, 820, 821, 213, 214, 215, 216, 99, 217, 219, 2] (by decide +kernel)
set_option maxRecDepth 20000 in
theorem wsL_law_r9_in : ∀ w ∈ wsL_law_r9, w ∈ lw_tbl := in_by _ [220, 221, 222, 223, 225, 226, 227, 228, 229, 230, 231, 232, 233, 234, 235, 236, 237, 238, 239, 102, 240, 242, 3, 243] (by decide +kernel)
set_option maxRecDepth 20000 in
theorem wsL_law_r10_in : ∀ w ∈ wsL_law_r10, w ∈ lw_tbl := in_by _ [244, 245, 246, 247, 870, 871, 872, 873, 874, 834, 826, 827, 828, 829, 830, 832, 12, 833, 665, 835, 837, 13, 838, 867] (by decide +kernel)
set_option maxRecDepth 20000 in
theorem wsL_law_r11_in : ∀ w ∈ wsL_law_r11, w ∈ lw_tbl := in_by _ [868, 869, 248, 249, 250, 251, 128, 260, 38, 252, 254, 4, 255, 256, 257, 258, 259, 267, 271, 269, 273, 261, 262, 263] (by decide +kernel)
set_option maxRecDepth 20000 in
theorem wsL_law_r12_in : ∀ w ∈ wsL_law_r12, w ∈ lw_tbl := in_by _ [264, 265, 275, 875, 876, 877, 878, 879, 676, 298, 299, 300, 301, 306, 302, 304, 5, 305, 307, 308, 309, 310, 311, 880] (by decide +kernel)
set_option maxRecDepth 20000 in
theorem wsL_law_r13_in : ∀ w ∈ wsL_law_r13, w ∈ lw_tbl := in_by _ [881, 882, 883, 884, 886, 16, 887, 855, 856, 857, 858, 888, 890, 17, 891, 892, 894, 18, 895, 312, 313, 314, 315, 129] (by decide +kernel)
set_option maxRecDepth 20000 in
theorem wsL_law_r14_in : ∀ w ∈ wsL_law_r14, w ∈ lw_tbl := in_by _ [316, 317, 318, 319, 320, 41, 351, 352, 40, 359, 39, 321, 322, 323, 324, 325, 326, 327, 328, 329, 330, 331, 353, 360] (by decide +kernel)
set_option maxRecDepth 20000 in
theorem wsL_law_r15_in : ∀ w ∈ wsL_law_r15, w ∈ lw_tbl := in_by _ [896, 897, 898, 899, 682, 366, 367, 368, 369, 280, 132, 370, 371, 42, 372, 373, 374, 375, 376, 378, 900, 901, 902, 903] (by decide +kernel)
set_option maxRecDepth 20000 in
theorem wsL_law_r16_in : ∀ w ∈ wsL_law_r16, w ∈ lw_tbl := in_by _ [904, 686, 687, 688, 905, 907, 19, 908, 689, 392, 393, 394, 395, 382, 336, 381, 379, 396, 398, 6, 399, 400, 401, 402] (by decide +kernel)
set_option maxRecDepth 20000 in
theorem wsL_law_r17_in : ∀ w ∈ wsL_law_r17, w ∈ lw_tbl := in_by _ [403, 380, 909, 910, 911, 912, 913, 915, 20, 916, 917, 919, 21, 920, 404, 405, 406, 407, 377, 130, 408, 43, 421, 422] (by decide +kernel)
set_option maxRecDepth 20000 in
theorem wsL_law_r18_in : ∀ w ∈ wsL_law_r18, w ∈ lw_tbl := in_by _ [409, 410, 411, 412, 413, 417, 419, 415, 459, 460, 461, 462, 279, 277, 333, 335, 921, 922, 923, 924, 463, 464, 465, 466] (by decide +kernel)
set_option maxRecDepth 20000 in
theorem wsL_law_r19_in : ∀ w ∈ wsL_law_r19, w ∈ lw_tbl := in_by _ [268, 270, 272, 274, 276, 414, 278, 925, 926, 927, 928, 929, 931, 22, 932, 467, 468, 469, 470, 433, 131, 475, 44, 420] (by decide +kernel)
set_option maxRecDepth 20000 in
theorem wsL_law_r20_in : ∀ w ∈ wsL_law_r20, w ∈ lw_tbl := in_by _ [431, 424, 471, 473, 7, 474, 476, 477, 478, 479, 480, 481, 933, 934, 935, 936, 699, 937, 939, 23, 940, 487, 488, 489] (by decide +kernel)
set_option maxRecDepth 20000 in
theorem wsL_law_r21_in : ∀ w ∈ wsL_law_r21, w ∈ lw_tbl := in_by _ [490, 491, 426, 428, 941, 942, 943, 944, 945, 492, 493, 494, 495, 430, 496, 497, 498, 499, 423, 510, 425, 427, 521, 522] (by decide +kernel)
set_option maxRecDepth 20000 in
theorem wsL_law_r22_in : ∀ w ∈ wsL_law_r22, w ∈ lw_tbl := in_by _ [523, 429, 340, 432, 500, 503, 504, 501, 509, 339, 500, 502, 501, 505, 506, 507, 337, 338, 508, 511, 514, 512, 515, 516] (by decide +kernel)
set_option maxRecDepth 20000 in
theorem wsL_law_r23_in : ∀ w ∈ wsL_law_r23, w ∈ lw_tbl := in_by _ [517, 518, 520, 511, 512, 513, 519, 946, 947, 948, 949, 950, 952, 24, 953, 524, 525, 526, 527, 418, 332, 266, 416, 954] (by decide +kernel)
set_option maxRecDepth 20000 in
theorem wsL_law_r24_in : ∀ w ∈ wsL_law_r24, w ∈ lw_tbl := in_by _ [955, 956, 957, 958, 960, 25, 961, 528, 529, 530, 531, 962, 963, 964, 965, 532, 533, 534, 535, 341, 966, 967, 968, 969] (by decide +kernel)
set_option maxRecDepth 20000 in
theorem wsL_law_r25_in : ∀ w ∈ wsL_law_r25, w ∈ lw_tbl := in_by _ [536, 537, 538, 539, 540, 541, 542, 543, 65, 544, 545, 546, 547, 548, 970, 971, 972, 973, 974, 976, 26, 977, 549, 550] (by decide +kernel)
set_option maxRecDepth 20000 in
theorem wsL_law_r26_in : ∀ w ∈ wsL_law_r26, w ∈ lw_tbl := in_by _ [551, 552, 978, 979, 980, 981, 553, 554, 555, 556, 557, 558, 559, 560, 982, 983, 984, 985, 986, 987, 988, 561, 562, 563] (by decide +kernel)
set_option maxRecDepth 20000 in
theorem wsL_law_r27_in : ∀ w ∈ wsL_law_r27, w ∈ lw_tbl := in_by _ [564, 565, 566, 567, 568, 569, 822, 823, 824, 825, 570, 571, 572, 573, 574, 839, 840, 841, 842, 575, 576, 577, 578, 579] (by decide +kernel)
set_option maxRecDepth 20000 in
theorem wsL_law_r28_in : ∀ w ∈ wsL_law_r28, w ∈ lw_tbl := in_by _ [580, 581, 582, 843, 844, 845, 846, 847, 849, 14, 850, 583, 584, 585, 586, 851, 852, 853, 854, 859, 861, 15, 862, 587] (by decide +kernel)
set_option maxRecDepth 20000 in
theorem wsL_law_r29_in : ∀ w ∈ wsL_law_r29, w ∈ lw_tbl := in_by _ [588, 589, 590, 101, 591, 863, 864, 865, 866, 592, 593, 594, 595, 596, 599, 597, 600, 601, 602, 603, 604, 605, 606, 116] (by decide +kernel)
set_option maxRecDepth 20000 in
theorem wsL_law_r30_in : ∀ w ∈ wsL_law_r30, w ∈ lw_tbl := in_by _ [607, 608, 610, 612, 613, 334, 614, 611, 622, 596, 597, 598, 623, 1021, 1022, 623, 1023, 1024, 615, 616, 617, 618, 619, 620] (by decide +kernel)
set_option maxRecDepth 20000 in
theorem wsL_law_r31_in : ∀ w ∈ wsL_law_r31, w ∈ lw_tbl := in_by _ [621, 989, 990, 991, 992, 993, 995, 27, 996, 703, 997, 999, 28, 1000, 624, 625, 626, 627, 628, 631, 629, 632, 633, 634] (by decide +kernel)
set_option maxRecDepth 20000 in
theorem wsL_law_r32_in : ∀ w ∈ wsL_law_r32, w ∈ lw_tbl := in_by _ [639, 628, 629, 630, 635, 636, 637, 638, 1025, 350, 1001, 1002, 1003, 1004, 640, 641, 642, 643, 644, 645, 646, 319, 351, 1005] (by decide +kernel)
set_option maxRecDepth 20000 in
theorem wsL_law_r33_in : ∀ w ∈ wsL_law_r33, w ∈ lw_tbl := in_by _ [1006, 1007, 1008, 647, 648, 649, 650, 117, 1009, 1010, 1011, 1012, 651, 652, 653, 654, 1013, 1014, 1015, 1016, 655, 656, 657, 658] (by decide +kernel)
set_option maxRecDepth 20000 in
theorem wsL_law_r34_in : ∀ w ∈ wsL_law_r34, w ∈ lw_tbl := in_by _ [1017, 1018, 1019, 1020] (by decide +kernel)
set_option maxRecDepth 20000 in
theorem wsX100_in : ∀ w ∈ wsX100, w ∈ lw_tbl := in_by _ [134, 136, 138, 140, 142, 144, 146, 148, 150, 152, 154, 156, 158] (by decide +kernel)
set_option maxRecDepth 20000 in
theorem wsX110_in : ∀ w ∈ wsX110, w ∈ lw_tbl := in_by _ [704, 706, 708, 710, 712, 714, 716, 718, 720, 722, 724, 726, 728, 730, 732, 734, 736, 738, 740, 742, 744, 746, 748, 750, 752, 754, 756, 758, 760, 762, 764, 766, 768, 770, 772, 774, 776, 778, 780] (by decide +kernel)
set_option maxRecDepth 20000 in
theorem wsX30_in : ∀ w ∈ wsX30, w ∈ lw_tbl := in_by _ [71, 73, 75, 77, 79] (by decide +kernel)
set_option maxRecDepth 20000 in
theorem wsX70_in : ∀ w ∈ wsX70, w ∈ lw_tbl := in_by _ [103, 105, 107] (by decide +kernel)
set_option maxRecDepth 20000 in
theorem wsX90_in : ∀ w ∈ wsX90, w ∈ lw_tbl := in_by _ [118] (by decide +kernel)
set_option maxRecDepth 20000 in
theorem wsX60_in : ∀ w ∈ wsX60, w ∈ lw_tbl := in_by _ [281, 283, 285, 287, 289, 291, 293, 295] (by decide +kernel)
set_option maxRecDepth 20000 in
theorem wsX40_in : ∀ w ∈ wsX40, w ∈ lw_tbl := in_by _ [342, 344, 346, 348] (by decide +kernel)
set_option maxRecDepth 20000 in
theorem wsX10_in : ∀ w ∈ wsX10, w ∈ lw_tbl := in_by _ [354, 355, 356, 357] (by decide +kernel)
set_option maxRecDepth 20000 in
theorem wsX20_in : ∀ w ∈ wsX20, w ∈ lw_tbl := in_by _ [361, 362, 363, 364] (by decide +kernel)
set_option maxRecDepth 20000 in
theorem wsX00_in : ∀ w ∈ wsX00, w ∈ lw_tbl := in_by _ [383, 385, 387, 389] (by decide +kernel)
set_option maxRecDepth 20000 in
theorem wsX80_in : ∀ w ∈ wsX80, w ∈ lw_tbl := in_by _ [434, 436, 438, 440, 442, 444, 446, 448, 450, 452, 454, 456] (by decide +kernel)
set_option maxRecDepth 20000 in
theorem wsX50_in : ∀ w ∈ wsX50, w ∈ lw_tbl := in_by _ [482, 484] (by decide +kernel)
theorem wsL_law_in : ∀ w ∈ wsL_law, w ∈ lw_tbl := List.forall_mem_append.mpr ⟨(List.forall_mem_append.mpr ⟨(List.forall_mem_append.mpr ⟨(List.forall_mem_append.mpr ⟨(List.forall_mem_append.mpr ⟨(List.forall_mem_append.mpr ⟨(List.forall_mem_append.mpr ⟨(List.forall_mem_append.mpr ⟨(List.forall_mem_append.mpr ⟨(List.forall_mem_append.mpr ⟨(List.forall_mem_append.mpr ⟨(List.forall_mem_append.mpr ⟨(List.forall_mem_append.mpr ⟨(List.forall_mem_append.mpr ⟨wsL_law_r1_in, (List.forall_mem_append.mpr ⟨wsL_law_r2_in, (List.forall_mem_append.mpr ⟨wsL_law_r3_in, (List.forall_mem_append.mpr ⟨wsL_law_r4_in, (List.forall_mem_append.mpr ⟨wsL_law_r5_in, (List.forall_mem_append.mpr ⟨wsL_law_r6_in, (List.forall_mem_append.mpr ⟨wsL_law_r7_in, (List.forall_mem_append.mpr ⟨wsL_law_r8_in, (List.forall_mem_append.mpr ⟨wsL_law_r9_in, (List.forall_mem_append.mpr ⟨wsL_law_r10_in, (List.forall_mem_append.mpr ⟨wsL_law_r11_in, (List.forall_mem_append.mpr ⟨wsL_law_r12_in, (List.forall_mem_append.mpr ⟨wsL_law_r13_in, (List.forall_mem_append.mpr ⟨wsL_law_r14_in, (List.forall_mem_append.mpr ⟨wsL_law_r15_in, (List.forall_mem_append.mpr ⟨wsL_law_r16_in, (List.forall_mem_append.mpr ⟨wsL_law_r17_in, (List.forall_mem_append.mpr ⟨wsL_law_r18_in, (List.forall_mem_append.mpr ⟨wsL_law_r19_in, (List.forall_mem_append.mpr ⟨wsL_law_r20_in, (List.forall_mem_append.mpr ⟨wsL_law_r21_in, (List.forall_mem_append.mpr ⟨wsL_law_r22_in, (List.forall_mem_append.mpr ⟨wsL_law_r23_in, (List.forall_mem_append.mpr ⟨wsL_law_r24_in, (List.forall_mem_append.mpr ⟨wsL_law_r25_in, (List.forall_mem_append.mpr ⟨wsL_law_r26_in, (List.forall_mem_append.mpr ⟨wsL_law_r27_in, (List.forall_mem_append.mpr ⟨wsL_law_r28_in, (List.forall_mem_append.mpr ⟨wsL_law_r29_in, (List.forall_mem_append.mpr ⟨wsL_law_r30_in, (List.forall_mem_append.mpr ⟨wsL_law_r31_in, (List.forall_mem_append.mpr ⟨wsL_law_r32_in, (List.forall_mem_append.mpr ⟨wsL_law_r33_in, wsL_law_r34_in⟩)⟩)⟩)⟩)⟩)⟩)⟩)⟩)⟩)⟩)⟩)⟩)⟩)⟩)⟩)⟩)⟩)⟩)⟩)⟩)⟩)⟩)⟩)⟩)⟩)⟩)⟩)⟩)⟩)⟩)⟩)⟩)⟩), wsX100_in⟩), wsX110_in⟩), wsX30_in⟩), wsX70_in⟩), wsX90_in⟩), wsX60_in⟩), wsX40_in⟩), wsX10_in⟩), wsX20_in⟩), wsX00_in⟩), wsX80_in⟩), wsX50_in⟩), fun _ h => absurd h List.not_mem_nil⟩
theorem inlX0 : ∀ w ∈ wsX00, w ∈ wsL_law := fun _ h => List.mem_append_left _ (List.mem_append_left _ (List.mem_append_left _ (List.mem_append_right _ h)))
theorem inX0 : ∀ w ∈ wsX00, w ∈ lw_tbl := fun w h => wsL_law_in w (inlX0 w h)
theorem inlX1 : ∀ w ∈ wsX10, w ∈ wsL_law := fun _ h => List.mem_append_left _ (List.mem_append_left _ (List.mem_append_left _ (List.mem_append_left _ (List.mem_append_left _ (List.mem_append_right _ h)))))
theorem inX1 : ∀ w ∈ wsX10, w ∈ lw_tbl := fun w h => wsL_law_in w (inlX1 w h)
theorem inlX2 : ∀ w ∈ wsX20, w ∈ wsL_law := fun _ h => List.mem_append_left _ (List.mem_append_left _ (List.mem_append_left _ (List.mem_append_left _ (List.mem_append_right _ h))))
theorem inX2 : ∀ w ∈ wsX20, w ∈ lw_tbl := fun w h => wsL_law_in w (inlX2 w h)
theorem inlX3 : ∀ w ∈ wsX30, w ∈ wsL_law := fun _ h => List.mem_append_left _ (List.mem_append_left _ (List.mem_append_left _ (List.mem_append_left _ (List.mem_append_left _ (List.mem_append_left _ (List.mem_append_left _ (List.mem_append_left _ (List.mem_append_left _ (List.mem_append_left _ (List.mem_append_right _ h))))))))))
theorem inX3 : ∀ w ∈ wsX30, w ∈ lw_tbl := fun w h => wsL_law_in w (inlX3 w h)
theorem inlX4 : ∀ w ∈ wsX40, w ∈ wsL_law := fun _ h => List.mem_append_left _ (List.mem_append_left _ (List.mem_append_left _ (List.mem_append_left _ (List.mem_append_left _ (List.mem_append_left _ (List.mem_append_right _ h))))))
theorem inX4 : ∀ w ∈ wsX40, w ∈ lw_tbl := fun w h => wsL_law_in w (inlX4 w h)
theorem inlX5 : ∀ w ∈ wsX50, w ∈ wsL_law := fun _ h => List.mem_append_left _ (List.mem_append_right _ h)
theorem inX5 : ∀ w ∈ wsX50, w ∈ lw_tbl := fun w h => wsL_law_in w (inlX5 w h)
theorem inlX6 : ∀ w ∈ wsX60, w ∈ wsL_law := fun _ h => List.mem_append_left _ (List.mem_append_left _ (List.mem_append_left _ (List.mem_append_left _ (List.mem_append_left _ (List.mem_append_left _ (List.mem_append_left _ (List.mem_append_right _ h)))))))
theorem inX6 : ∀ w ∈ wsX60, w ∈ lw_tbl := fun w h => wsL_law_in w (inlX6 w h)
theorem inlX7 : ∀ w ∈ wsX70, w ∈ wsL_law := fun _ h => List.mem_append_left _ (List.mem_append_left _ (List.mem_append_left _ (List.mem_append_left _ (List.mem_append_left _ (List.mem_append_left _ (List.mem_append_left _ (List.mem_append_left _ (List.mem_append_left _ (List.mem_append_right _ h)))))))))
theorem inX7 : ∀ w ∈ wsX70, w ∈ lw_tbl := fun w h => wsL_law_in w (inlX7 w h)
theorem inlX8 : ∀ w ∈ wsX80, w ∈ wsL_law := fun _ h => List.mem_append_left _ (List.mem_append_left _ (List.mem_append_right _ h))
theorem inX8 : ∀ w ∈ wsX80, w ∈ lw_tbl := fun w h => wsL_law_in w (inlX8 w h)
theorem inlX9 : ∀ w ∈ wsX90, w ∈ wsL_law := fun _ h => List.mem_append_left _ (List.mem_append_left _ (List.mem_append_left _ (List.mem_append_left _ (List.mem_append_left _ (List.mem_append_left _ (List.mem_append_left _ (List.mem_append_left _ (List.mem_append_right _ h))))))))
theorem inX9 : ∀ w ∈ wsX90, w ∈ lw_tbl := fun w h => wsL_law_in w (inlX9 w h)
theorem inlX10 : ∀ w ∈ wsX100, w ∈ wsL_law := fun _ h => List.mem_append_left _ (List.mem_append_left _ (List.mem_append_left _ (List.mem_append_left _ (List.mem_append_left _ (List.mem_append_left _ (List.mem_append_left _ (List.mem_append_left _ (List.mem_append_left _ (List.mem_append_left _ (List.mem_append_left _ (List.mem_append_left _ (List.mem_append_right _ h))))))))))))
theorem inX10 : ∀ w ∈ wsX100, w ∈ lw_tbl := fun w h => wsL_law_in w (inlX10 w h)
theorem inlX11 : ∀ w ∈ wsX110, w ∈ wsL_law := fun _ h => List.mem_append_left _ (List.mem_append_left _ (List.mem_append_left _ (List.mem_append_left _ (List.mem_append_left _ (List.mem_append_left _ (List.mem_append_left _ (List.mem_append_left _ (List.mem_append_left _ (List.mem_append_left _ (List.mem_append_left _ (List.mem_append_right _ h)))))))))))
theorem inX11 : ∀ w ∈ wsX110, w ∈ lw_tbl := fun w h => wsL_law_in w (inlX11 w h)
theorem inJ9 : ∀ w ∈ wsJ90, w ∈ lw_tbl := by decide +kernel
theorem inJ10 : ∀ w ∈ wsJ100, w ∈ lw_tbl := by decide +kernel
theorem inJ7 : ∀ w ∈ wsJ70, w ∈ lw_tbl := by decide +kernel
theorem dX0_init_0 : decode cX0_init 0 = .ok (.aload_n 0, 1) := by decide +kernel
theorem dX0_init_1 : decode cX0_init 1 = .ok (.invokespecial 1, 3) := by decide +kernel
theorem dX0_init_4 : decode cX0_init 4 = .ok (.aload_n 0, 1) := by decide +kernel
theorem dX0_init_5 : decode cX0_init 5 = .ok (.aload_n 1, 1) := by decide +kernel
theorem dX0_init_6 : decode cX0_init 6 = .ok (.putfield 7, 3) := by decide +kernel
theorem dX0_init_9 : decode cX0_init 9 = .ok (.aload_n 0, 1) := by decide +kernel
theorem dX0_init_10 : decode cX0_init 10 = .ok (.iload_n 2, 1) := by decide +kernel
theorem dX0_init_11 : decode cX0_init 11 = .ok (.putfield 13, 3) := by decide +kernel
theorem dX0_init_14 : decode cX0_init 14 = .ok (.return_, 1) := by decide +kernel
theorem dX0_mostShare_0 : decode cX0_mostShare 0 = .ok (.aload_n 0, 1) := by decide +kernel
theorem dX0_mostShare_1 : decode cX0_mostShare 1 = .ok (.getfield 17, 3) := by decide +kernel
theorem dX0_mostShare_4 : decode cX0_mostShare 4 = .ok (.ifCond .ne 10, 3) := by decide +kernel
theorem dX0_mostShare_7 : decode cX0_mostShare 7 = .ok (.aload_n 0, 1) := by decide +kernel
theorem dX0_mostShare_8 : decode cX0_mostShare 8 = .ok (.getfield 13, 3) := by decide +kernel
theorem dX0_mostShare_11 : decode cX0_mostShare 11 = .ok (.goto 9, 3) := by decide +kernel
theorem dX0_mostShare_14 : decode cX0_mostShare 14 = .ok (.aload_n 0, 1) := by decide +kernel
theorem dX0_mostShare_15 : decode cX0_mostShare 15 = .ok (.getfield 13, 3) := by decide +kernel
theorem dX0_mostShare_18 : decode cX0_mostShare 18 = .ok (.iconst 1, 1) := by decide +kernel
theorem dX0_mostShare_19 : decode cX0_mostShare 19 = .ok (.isub, 1) := by decide +kernel
theorem dX0_mostShare_20 : decode cX0_mostShare 20 = .ok (.ireturn, 1) := by decide +kernel
set_option maxRecDepth 20000 in
theorem ggX1_init_X2_init : GoodIn wsX1_init wsX2_init := goodIn_r _ [4, 5, 6, 7, 8, 9, 10, 11, 12, 13, 14, 15, 16, 17, 18, 19, 20] (by decide +kernel) (by decide +kernel)
set_option maxRecDepth 20000 in
theorem gX1_init_X2_init : GoodIn wsX1_init (wsX2_init) := ggX1_init_X2_init
theorem dX1_init_0 : decode cX1_init 0 = .ok (.aload_n 0, 1) := by decide +kernel
theorem dX1_init_1 : decode cX1_init 1 = .ok (.iload_n 1, 1) := by decide +kernel
theorem dX1_init_2 : decode cX1_init 2 = .ok (.invokespecial 1, 3) := by decide +kernel
theorem dX1_init_5 : decode cX1_init 5 = .ok (.return_, 1) := by decide +kernel
theorem dX1_costsBorne_0 : decode cX1_costsBorne 0 = .ok (.lload_n 1, 1) := by decide +kernel
theorem dX1_costsBorne_1 : decode cX1_costsBorne 1 = .ok (.ldc2_w 7, 3) := by decide +kernel
theorem dX1_costsBorne_4 : decode cX1_costsBorne 4 = .ok (.ldiv, 1) := by decide +kernel
theorem dX1_costsBorne_5 : decode cX1_costsBorne 5 = .ok (.lreturn, 1) := by decide +kernel
set_option maxRecDepth 20000 in
theorem ggX1_telling_X9_leave : GoodIn wsX1_telling wsX9_leave := goodIn_r _ [5, 6, 16] (by decide +kernel) (by decide +kernel)
set_option maxRecDepth 20000 in
theorem gX1_telling_X9_leave : GoodIn wsX1_telling (wsV RX1 9 RX9 yX9_leave wsX9_leave) := goodIn_app (goodIn_r _ [1, 2, 3, 4] (by decide +kernel) (by decide +kernel)) ggX1_telling_X9_leave
set_option maxRecDepth 20000 in
theorem ggX1_telling_X2_tellingOfAnyGang : GoodIn wsX1_telling wsX2_tellingOfAnyGang := goodIn_r _ [12, 13, 14, 2, 3, 4, 5, 6, 17, 18, 19, 20, 21, 22, 23, 24, 25, 26, 27, 28, 16] (by decide +kernel) (by decide +kernel)
set_option maxRecDepth 20000 in
theorem gX1_telling_X2_tellingOfAnyGang_u14X1 : GoodIn wsX1_telling (va_wsU RX1 14 RX1 "TributePitches$Gang" ⟨"TributePitches$Family", "tellingOfAnyGang", "(LTributePitches$Trace;)I"⟩ yX2_tellingOfAnyGang wsX2_tellingOfAnyGang) := goodIn_app (goodIn_of _ (by decide +kernel)) ggX1_telling_X2_tellingOfAnyGang
set_option maxRecDepth 20000 in
theorem gX1_telling_X2_tellingOfAnyGang_u14X4 : GoodIn wsX1_telling (va_wsU RX1 14 RX4 "TributePitches$Gang" ⟨"TributePitches$Family", "tellingOfAnyGang", "(LTributePitches$Trace;)I"⟩ yX2_tellingOfAnyGang wsX2_tellingOfAnyGang) := goodIn_app (goodIn_of _ (by decide +kernel)) ggX1_telling_X2_tellingOfAnyGang
theorem dX1_telling_0 : decode cX1_telling 0 = .ok (.aload_n 1, 1) := by decide +kernel
theorem dX1_telling_1 : decode cX1_telling 1 = .ok (.iconst 2, 1) := by decide +kernel
theorem dX1_telling_2 : decode cX1_telling 2 = .ok (.invokevirtual 9, 3) := by decide +kernel
theorem dX1_telling_5 : decode cX1_telling 5 = .ok (.bipush 10, 2) := by decide +kernel
theorem dX1_telling_7 : decode cX1_telling 7 = .ok (.aload_n 0, 1) := by decide +kernel
theorem dX1_telling_8 : decode cX1_telling 8 = .ok (.aload_n 1, 1) := by decide +kernel
theorem dX1_telling_9 : decode cX1_telling 9 = .ok (.invokevirtual 14, 3) := by decide +kernel
theorem dX1_telling_12 : decode cX1_telling 12 = .ok (.iadd, 1) := by decide +kernel
theorem dX1_telling_13 : decode cX1_telling 13 = .ok (.ireturn, 1) := by decide +kernel
set_option maxRecDepth 20000 in
theorem ggX1_greeting_X9_leave : GoodIn wsX1_greeting wsX9_leave := goodIn_r _ [5, 6, 7] (by decide +kernel) (by decide +kernel)
set_option maxRecDepth 20000 in
theorem gX1_greeting_X9_leave : GoodIn wsX1_greeting (wsV RX1 9 RX9 yX9_leave wsX9_leave) := goodIn_app (goodIn_r _ [1, 2, 3, 4] (by decide +kernel) (by decide +kernel)) ggX1_greeting_X9_leave
theorem dX1_greeting_0 : decode cX1_greeting 0 = .ok (.aload_n 1, 1) := by decide +kernel
theorem dX1_greeting_1 : decode cX1_greeting 1 = .ok (.iconst 5, 1) := by decide +kernel
theorem dX1_greeting_2 : decode cX1_greeting 2 = .ok (.invokevirtual 9, 3) := by decide +kernel
theorem dX1_greeting_5 : decode cX1_greeting 5 = .ok (.bipush 6, 2) := by decide +kernel
theorem dX1_greeting_7 : decode cX1_greeting 7 = .ok (.ireturn, 1) := by decide +kernel
theorem dX2_init_0 : decode cX2_init 0 = .ok (.aload_n 0, 1) := by decide +kernel
theorem dX2_init_1 : decode cX2_init 1 = .ok (.invokespecial 3, 3) := by decide +kernel
theorem dX2_init_4 : decode cX2_init 4 = .ok (.aload_n 0, 1) := by decide +kernel
theorem dX2_init_5 : decode cX2_init 5 = .ok (.iload_n 1, 1) := by decide +kernel
theorem dX2_init_6 : decode cX2_init 6 = .ok (.putfield 9, 3) := by decide +kernel
theorem dX2_init_9 : decode cX2_init 9 = .ok (.return_, 1) := by decide +kernel
theorem dX2_costsBorne_0 : decode cX2_costsBorne 0 = .ok (.lload_n 1, 1) := by decide +kernel
theorem dX2_costsBorne_1 : decode cX2_costsBorne 1 = .ok (.lreturn, 1) := by decide +kernel
theorem dX2_debtTaken_0 : decode cX2_debtTaken 0 = .ok (.aload_n 0, 1) := by decide +kernel
theorem dX2_debtTaken_1 : decode cX2_debtTaken 1 = .ok (.getfield 15, 3) := by decide +kernel
theorem dX2_debtTaken_4 : decode cX2_debtTaken 4 = .ok (.lreturn, 1) := by decide +kernel
set_option maxRecDepth 20000 in
theorem ggX2_telling_X2_tellingOfAnyGang : GoodIn wsX2_telling wsX2_tellingOfAnyGang := goodIn_r _ [6, 7, 8, 9, 10, 11, 12, 13, 17, 18, 19, 20, 21, 22, 23, 24, 25, 26, 27, 28, 29] (by decide +kernel) (by decide +kernel)
set_option maxRecDepth 20000 in
theorem gX2_telling_X2_tellingOfAnyGang_u19X1 : GoodIn wsX2_telling (va_wsU RX2 19 RX1 "TributePitches$Gang" ⟨"TributePitches$Gang", "tellingOfAnyGang", "(LTributePitches$Trace;)I"⟩ yX2_tellingOfAnyGang wsX2_tellingOfAnyGang) := goodIn_app (goodIn_of _ (by decide +kernel)) ggX2_telling_X2_tellingOfAnyGang
set_option maxRecDepth 20000 in
theorem gX2_telling_X2_tellingOfAnyGang : GoodIn wsX2_telling (wsV RX2 19 RX2 yX2_tellingOfAnyGang wsX2_tellingOfAnyGang) := goodIn_app (goodIn_r _ [14, 4, 15, 5] (by decide +kernel) (by decide +kernel)) ggX2_telling_X2_tellingOfAnyGang
set_option maxRecDepth 20000 in
theorem gX2_telling_X2_tellingOfAnyGang_u19X4 : GoodIn wsX2_telling (va_wsU RX2 19 RX4 "TributePitches$Gang" ⟨"TributePitches$Gang", "tellingOfAnyGang", "(LTributePitches$Trace;)I"⟩ yX2_tellingOfAnyGang wsX2_tellingOfAnyGang) := goodIn_app (goodIn_of _ (by decide +kernel)) ggX2_telling_X2_tellingOfAnyGang
theorem dX2_telling_0 : decode cX2_telling 0 = .ok (.aload_n 0, 1) := by decide +kernel
theorem dX2_telling_1 : decode cX2_telling 1 = .ok (.aload_n 1, 1) := by decide +kernel
theorem dX2_telling_2 : decode cX2_telling 2 = .ok (.invokevirtual 19, 3) := by decide +kernel
theorem dX2_telling_5 : decode cX2_telling 5 = .ok (.ireturn, 1) := by decide +kernel
set_option maxRecDepth 20000 in
theorem ggX2_tellingOfAnyGang_X9_leave : GoodIn wsX2_tellingOfAnyGang wsX9_leave := goodIn_r _ [6, 7, 20] (by decide +kernel) (by decide +kernel)
set_option maxRecDepth 20000 in
theorem gX2_tellingOfAnyGang_X9_leave : GoodIn wsX2_tellingOfAnyGang (wsV RX2 23 RX9 yX9_leave wsX9_leave) := goodIn_app (goodIn_r _ [2, 3, 4, 5] (by decide +kernel) (by decide +kernel)) ggX2_tellingOfAnyGang_X9_leave
theorem dX2_tellingOfAnyGang_0 : decode cX2_tellingOfAnyGang 0 = .ok (.aload_n 1, 1) := by decide +kernel
theorem dX2_tellingOfAnyGang_1 : decode cX2_tellingOfAnyGang 1 = .ok (.iconst 1, 1) := by decide +kernel
theorem dX2_tellingOfAnyGang_2 : decode cX2_tellingOfAnyGang 2 = .ok (.invokevirtual 23, 3) := by decide +kernel
theorem dX2_tellingOfAnyGang_5 : decode cX2_tellingOfAnyGang 5 = .ok (.aload_n 0, 1) := by decide +kernel
theorem dX2_tellingOfAnyGang_6 : decode cX2_tellingOfAnyGang 6 = .ok (.getfield 29, 3) := by decide +kernel
theorem dX2_tellingOfAnyGang_9 : decode cX2_tellingOfAnyGang 9 = .ok (.ireturn, 1) := by decide +kernel
set_option maxRecDepth 20000 in
theorem ggX2_greeting_X9_leave : GoodIn wsX2_greeting wsX9_leave := goodIn_r _ [6, 7, 20] (by decide +kernel) (by decide +kernel)
set_option maxRecDepth 20000 in
theorem gX2_greeting_X9_leave : GoodIn wsX2_greeting (wsV RX2 23 RX9 yX9_leave wsX9_leave) := goodIn_app (goodIn_r _ [2, 3, 4, 5] (by decide +kernel) (by decide +kernel)) ggX2_greeting_X9_leave
theorem dX2_greeting_0 : decode cX2_greeting 0 = .ok (.aload_n 1, 1) := by decide +kernel
theorem dX2_greeting_1 : decode cX2_greeting 1 = .ok (.iconst 4, 1) := by decide +kernel
theorem dX2_greeting_2 : decode cX2_greeting 2 = .ok (.invokevirtual 23, 3) := by decide +kernel
theorem dX2_greeting_5 : decode cX2_greeting 5 = .ok (.bipush 10, 2) := by decide +kernel
theorem dX2_greeting_7 : decode cX2_greeting 7 = .ok (.aload_n 0, 1) := by decide +kernel
theorem dX2_greeting_8 : decode cX2_greeting 8 = .ok (.getfield 9, 3) := by decide +kernel
theorem dX2_greeting_11 : decode cX2_greeting 11 = .ok (.imul, 1) := by decide +kernel
theorem dX2_greeting_12 : decode cX2_greeting 12 = .ok (.iconst 0, 1) := by decide +kernel
theorem dX2_greeting_13 : decode cX2_greeting 13 = .ok (.iadd, 1) := by decide +kernel
theorem dX2_greeting_14 : decode cX2_greeting 14 = .ok (.ireturn, 1) := by decide +kernel
set_option maxRecDepth 20000 in
theorem ggX3_init_J7_fill_53178 : GoodIn wsX3_init wsJ7_fill_53178 := goodIn_r _ [13] (by decide +kernel) (by decide +kernel)
set_option maxRecDepth 20000 in
theorem gX3_init_J7_fill_53178 : GoodIn wsX3_init (va_wsS RX3 28 yJ7_fill_53178 wsJ7_fill_53178) := goodIn_app (goodIn_r _ [10, 11, 12] (by decide +kernel) (by decide +kernel)) ggX3_init_J7_fill_53178
theorem dX3_init_0 : decode cX3_init 0 = .ok (.aload_n 0, 1) := by decide +kernel
theorem dX3_init_1 : decode cX3_init 1 = .ok (.invokespecial 5, 3) := by decide +kernel
theorem dX3_init_4 : decode cX3_init 4 = .ok (.aload_n 0, 1) := by decide +kernel
theorem dX3_init_5 : decode cX3_init 5 = .ok (.bipush 48, 2) := by decide +kernel
theorem dX3_init_7 : decode cX3_init 7 = .ok (.newarray .int, 2) := by decide +kernel
theorem dX3_init_9 : decode cX3_init 9 = .ok (.putfield 11, 3) := by decide +kernel
theorem dX3_init_12 : decode cX3_init 12 = .ok (.aload_n 0, 1) := by decide +kernel
theorem dX3_init_13 : decode cX3_init 13 = .ok (.bipush 48, 2) := by decide +kernel
theorem dX3_init_15 : decode cX3_init 15 = .ok (.newarray .int, 2) := by decide +kernel
theorem dX3_init_17 : decode cX3_init 17 = .ok (.putfield 15, 3) := by decide +kernel
theorem dX3_init_20 : decode cX3_init 20 = .ok (.aload_n 0, 1) := by decide +kernel
theorem dX3_init_21 : decode cX3_init 21 = .ok (.bipush 48, 2) := by decide +kernel
theorem dX3_init_23 : decode cX3_init 23 = .ok (.newarray .int, 2) := by decide +kernel
theorem dX3_init_25 : decode cX3_init 25 = .ok (.putfield 18, 3) := by decide +kernel
theorem dX3_init_28 : decode cX3_init 28 = .ok (.aload_n 0, 1) := by decide +kernel
theorem dX3_init_29 : decode cX3_init 29 = .ok (.bipush 48, 2) := by decide +kernel
theorem dX3_init_31 : decode cX3_init 31 = .ok (.newarray .int, 2) := by decide +kernel
theorem dX3_init_33 : decode cX3_init 33 = .ok (.putfield 21, 3) := by decide +kernel
theorem dX3_init_36 : decode cX3_init 36 = .ok (.aload_n 0, 1) := by decide +kernel
theorem dX3_init_37 : decode cX3_init 37 = .ok (.sipush 1000, 3) := by decide +kernel
theorem dX3_init_40 : decode cX3_init 40 = .ok (.putfield 24, 3) := by decide +kernel
theorem dX3_init_43 : decode cX3_init 43 = .ok (.aload_n 0, 1) := by decide +kernel
theorem dX3_init_44 : decode cX3_init 44 = .ok (.getfield 15, 3) := by decide +kernel
theorem dX3_init_47 : decode cX3_init 47 = .ok (.sipush 1000, 3) := by decide +kernel
theorem dX3_init_50 : decode cX3_init 50 = .ok (.invokestatic 28, 3) := by decide +kernel
theorem dX3_init_53 : decode cX3_init 53 = .ok (.return_, 1) := by decide +kernel
set_option maxRecDepth 20000 in
theorem ggX3_hasSquare_X10_isWithin : GoodIn wsX3_hasSquare wsX10_isWithin := goodIn_r _ [3] (by decide +kernel) (by decide +kernel)
set_option maxRecDepth 20000 in
theorem gX3_hasSquare_X10_isWithin_n34 : GoodIn wsX3_hasSquare (wsX10_isWithin) := ggX3_hasSquare_X10_isWithin
theorem dX3_hasSquare_0 : decode cX3_hasSquare 0 = .ok (.iload_n 0, 1) := by decide +kernel
theorem dX3_hasSquare_1 : decode cX3_hasSquare 1 = .ok (.iconst 0, 1) := by decide +kernel
theorem dX3_hasSquare_2 : decode cX3_hasSquare 2 = .ok (.bipush 7, 2) := by decide +kernel
theorem dX3_hasSquare_4 : decode cX3_hasSquare 4 = .ok (.invokestatic 34, 3) := by decide +kernel
theorem dX3_hasSquare_7 : decode cX3_hasSquare 7 = .ok (.ifCond .eq 16, 3) := by decide +kernel
theorem dX3_hasSquare_10 : decode cX3_hasSquare 10 = .ok (.iload_n 1, 1) := by decide +kernel
theorem dX3_hasSquare_11 : decode cX3_hasSquare 11 = .ok (.iconst 0, 1) := by decide +kernel
theorem dX3_hasSquare_12 : decode cX3_hasSquare 12 = .ok (.iconst 5, 1) := by decide +kernel
theorem dX3_hasSquare_13 : decode cX3_hasSquare 13 = .ok (.invokestatic 34, 3) := by decide +kernel
theorem dX3_hasSquare_16 : decode cX3_hasSquare 16 = .ok (.ifCond .eq 7, 3) := by decide +kernel
theorem dX3_hasSquare_19 : decode cX3_hasSquare 19 = .ok (.iconst 1, 1) := by decide +kernel
theorem dX3_hasSquare_20 : decode cX3_hasSquare 20 = .ok (.goto 4, 3) := by decide +kernel
theorem dX3_hasSquare_23 : decode cX3_hasSquare 23 = .ok (.iconst 0, 1) := by decide +kernel
theorem dX3_hasSquare_24 : decode cX3_hasSquare 24 = .ok (.ireturn, 1) := by decide +kernel
theorem dX3_numberOf_0 : decode cX3_numberOf 0 = .ok (.bipush 8, 2) := by decide +kernel
theorem dX3_numberOf_2 : decode cX3_numberOf 2 = .ok (.iload_n 1, 1) := by decide +kernel
theorem dX3_numberOf_3 : decode cX3_numberOf 3 = .ok (.imul, 1) := by decide +kernel
theorem dX3_numberOf_4 : decode cX3_numberOf 4 = .ok (.iload_n 0, 1) := by decide +kernel
theorem dX3_numberOf_5 : decode cX3_numberOf 5 = .ok (.iadd, 1) := by decide +kernel
theorem dX3_numberOf_6 : decode cX3_numberOf 6 = .ok (.ireturn, 1) := by decide +kernel
theorem dX3_beginTrial_0 : decode cX3_beginTrial 0 = .ok (.aload_n 0, 1) := by decide +kernel
theorem dX3_beginTrial_1 : decode cX3_beginTrial 1 = .ok (.getfield 11, 3) := by decide +kernel
theorem dX3_beginTrial_4 : decode cX3_beginTrial 4 = .ok (.iconst 0, 1) := by decide +kernel
theorem dX3_beginTrial_5 : decode cX3_beginTrial 5 = .ok (.aload_n 0, 1) := by decide +kernel
theorem dX3_beginTrial_6 : decode cX3_beginTrial 6 = .ok (.getfield 18, 3) := by decide +kernel
theorem dX3_beginTrial_9 : decode cX3_beginTrial 9 = .ok (.iconst 0, 1) := by decide +kernel
theorem dX3_beginTrial_10 : decode cX3_beginTrial 10 = .ok (.bipush 48, 2) := by decide +kernel
theorem dX3_beginTrial_12 : decode cX3_beginTrial 12 = .ok (.invokestatic 38, 3) := by decide +kernel
theorem dX3_beginTrial_15 : decode cX3_beginTrial 15 = .ok (.aload_n 0, 1) := by decide +kernel
theorem dX3_beginTrial_16 : decode cX3_beginTrial 16 = .ok (.getfield 15, 3) := by decide +kernel
theorem dX3_beginTrial_19 : decode cX3_beginTrial 19 = .ok (.iconst 0, 1) := by decide +kernel
theorem dX3_beginTrial_20 : decode cX3_beginTrial 20 = .ok (.aload_n 0, 1) := by decide +kernel
theorem dX3_beginTrial_21 : decode cX3_beginTrial 21 = .ok (.getfield 21, 3) := by decide +kernel
theorem dX3_beginTrial_24 : decode cX3_beginTrial 24 = .ok (.iconst 0, 1) := by decide +kernel
theorem dX3_beginTrial_25 : decode cX3_beginTrial 25 = .ok (.bipush 48, 2) := by decide +kernel
theorem dX3_beginTrial_27 : decode cX3_beginTrial 27 = .ok (.invokestatic 38, 3) := by decide +kernel
theorem dX3_beginTrial_30 : decode cX3_beginTrial 30 = .ok (.return_, 1) := by decide +kernel
theorem dX3_tryCommon_0 : decode cX3_tryCommon 0 = .ok (.aload_n 0, 1) := by decide +kernel
theorem dX3_tryCommon_1 : decode cX3_tryCommon 1 = .ok (.getfield 18, 3) := by decide +kernel
theorem dX3_tryCommon_4 : decode cX3_tryCommon 4 = .ok (.iload_n 1, 1) := by decide +kernel
theorem dX3_tryCommon_5 : decode cX3_tryCommon 5 = .ok (.aload_n 0, 1) := by decide +kernel
theorem dX3_tryCommon_6 : decode cX3_tryCommon 6 = .ok (.getfield 18, 3) := by decide +kernel
theorem dX3_tryCommon_9 : decode cX3_tryCommon 9 = .ok (.iload_n 1, 1) := by decide +kernel
theorem dX3_tryCommon_10 : decode cX3_tryCommon 10 = .ok (.iaload, 1) := by decide +kernel
theorem dX3_tryCommon_11 : decode cX3_tryCommon 11 = .ok (.iload_n 2, 1) := by decide +kernel
theorem dX3_tryCommon_12 : decode cX3_tryCommon 12 = .ok (.invokestatic 44, 3) := by decide +kernel
theorem dX3_tryCommon_15 : decode cX3_tryCommon 15 = .ok (.iastore, 1) := by decide +kernel
theorem dX3_tryCommon_16 : decode cX3_tryCommon 16 = .ok (.aload_n 0, 1) := by decide +kernel
theorem dX3_tryCommon_17 : decode cX3_tryCommon 17 = .ok (.getfield 21, 3) := by decide +kernel
theorem dX3_tryCommon_20 : decode cX3_tryCommon 20 = .ok (.iload_n 1, 1) := by decide +kernel
theorem dX3_tryCommon_21 : decode cX3_tryCommon 21 = .ok (.aload_n 0, 1) := by decide +kernel
theorem dX3_tryCommon_22 : decode cX3_tryCommon 22 = .ok (.getfield 21, 3) := by decide +kernel
theorem dX3_tryCommon_25 : decode cX3_tryCommon 25 = .ok (.iload_n 1, 1) := by decide +kernel
theorem dX3_tryCommon_26 : decode cX3_tryCommon 26 = .ok (.iaload, 1) := by decide +kernel
theorem dX3_tryCommon_27 : decode cX3_tryCommon 27 = .ok (.iload_n 3, 1) := by decide +kernel
theorem dX3_tryCommon_28 : decode cX3_tryCommon 28 = .ok (.invokestatic 50, 3) := by decide +kernel
theorem dX3_tryCommon_31 : decode cX3_tryCommon 31 = .ok (.iastore, 1) := by decide +kernel
theorem dX3_tryCommon_32 : decode cX3_tryCommon 32 = .ok (.return_, 1) := by decide +kernel
set_option maxRecDepth 20000 in
theorem ggX3_endTrial_X3_narrowTrial : GoodIn wsX3_endTrial wsX3_narrowTrial := goodIn_r _ [14, 15, 16, 17, 13, 18, 1, 2, 19, 20, 21, 22, 23, 24, 25, 26, 27, 28, 29, 30, 31, 32, 33, 34] (by decide +kernel) (by decide +kernel)
set_option maxRecDepth 20000 in
theorem gX3_endTrial_X3_narrowTrial : GoodIn wsX3_endTrial (wsV RX3 53 RX3 yX3_narrowTrial wsX3_narrowTrial) := goodIn_app (goodIn_r _ [10, 11, 12, 13] (by decide +kernel) (by decide +kernel)) ggX3_endTrial_X3_narrowTrial
theorem dX3_endTrial_0 : decode cX3_endTrial 0 = .ok (.aload_n 0, 1) := by decide +kernel
theorem dX3_endTrial_1 : decode cX3_endTrial 1 = .ok (.iload_n 1, 1) := by decide +kernel
theorem dX3_endTrial_2 : decode cX3_endTrial 2 = .ok (.invokevirtual 53, 3) := by decide +kernel
theorem dX3_endTrial_5 : decode cX3_endTrial 5 = .ok (.iconst 0, 1) := by decide +kernel
theorem dX3_endTrial_6 : decode cX3_endTrial 6 = .ok (.istore_n 2, 1) := by decide +kernel
theorem dX3_endTrial_7 : decode cX3_endTrial 7 = .ok (.iconst 0, 1) := by decide +kernel
theorem dX3_endTrial_8 : decode cX3_endTrial 8 = .ok (.istore_n 3, 1) := by decide +kernel
theorem dX3_endTrial_9 : decode cX3_endTrial 9 = .ok (.iload_n 3, 1) := by decide +kernel
theorem dX3_endTrial_10 : decode cX3_endTrial 10 = .ok (.bipush 48, 2) := by decide +kernel
theorem dX3_endTrial_12 : decode cX3_endTrial 12 = .ok (.if_icmp .ge 60, 3) := by decide +kernel
theorem dX3_endTrial_15 : decode cX3_endTrial 15 = .ok (.aload_n 0, 1) := by decide +kernel
theorem dX3_endTrial_16 : decode cX3_endTrial 16 = .ok (.getfield 18, 3) := by decide +kernel
theorem dX3_endTrial_19 : decode cX3_endTrial 19 = .ok (.iload_n 3, 1) := by decide +kernel
theorem dX3_endTrial_20 : decode cX3_endTrial 20 = .ok (.iaload, 1) := by decide +kernel
theorem dX3_endTrial_21 : decode cX3_endTrial 21 = .ok (.aload_n 0, 1) := by decide +kernel
theorem dX3_endTrial_22 : decode cX3_endTrial 22 = .ok (.getfield 21, 3) := by decide +kernel
theorem dX3_endTrial_25 : decode cX3_endTrial 25 = .ok (.iload_n 3, 1) := by decide +kernel
theorem dX3_endTrial_26 : decode cX3_endTrial 26 = .ok (.iaload, 1) := by decide +kernel
theorem dX3_endTrial_27 : decode cX3_endTrial 27 = .ok (.if_icmp .le 6, 3) := by decide +kernel
theorem dX3_endTrial_30 : decode cX3_endTrial 30 = .ok (.bipush (-3), 2) := by decide +kernel
theorem dX3_endTrial_32 : decode cX3_endTrial 32 = .ok (.ireturn, 1) := by decide +kernel
theorem dX3_endTrial_33 : decode cX3_endTrial 33 = .ok (.aload_n 0, 1) := by decide +kernel
theorem dX3_endTrial_34 : decode cX3_endTrial 34 = .ok (.getfield 18, 3) := by decide +kernel
theorem dX3_endTrial_37 : decode cX3_endTrial 37 = .ok (.iload_n 3, 1) := by decide +kernel
theorem dX3_endTrial_38 : decode cX3_endTrial 38 = .ok (.iaload, 1) := by decide +kernel
theorem dX3_endTrial_39 : decode cX3_endTrial 39 = .ok (.aload_n 0, 1) := by decide +kernel
theorem dX3_endTrial_40 : decode cX3_endTrial 40 = .ok (.getfield 11, 3) := by decide +kernel
theorem dX3_endTrial_43 : decode cX3_endTrial 43 = .ok (.iload_n 3, 1) := by decide +kernel
theorem dX3_endTrial_44 : decode cX3_endTrial 44 = .ok (.iaload, 1) := by decide +kernel
theorem dX3_endTrial_45 : decode cX3_endTrial 45 = .ok (.if_icmp .ne 18, 3) := by decide +kernel
theorem dX3_endTrial_48 : decode cX3_endTrial 48 = .ok (.aload_n 0, 1) := by decide +kernel
theorem dX3_endTrial_49 : decode cX3_endTrial 49 = .ok (.getfield 21, 3) := by decide +kernel
theorem dX3_endTrial_52 : decode cX3_endTrial 52 = .ok (.iload_n 3, 1) := by decide +kernel
theorem dX3_endTrial_53 : decode cX3_endTrial 53 = .ok (.iaload, 1) := by decide +kernel
theorem dX3_endTrial_54 : decode cX3_endTrial 54 = .ok (.aload_n 0, 1) := by decide +kernel
theorem dX3_endTrial_55 : decode cX3_endTrial 55 = .ok (.getfield 15, 3) := by decide +kernel
theorem dX3_endTrial_58 : decode cX3_endTrial 58 = .ok (.iload_n 3, 1) := by decide +kernel
theorem dX3_endTrial_59 : decode cX3_endTrial 59 = .ok (.iaload, 1) := by decide +kernel
theorem dX3_endTrial_60 : decode cX3_endTrial 60 = .ok (.if_icmp .eq 6, 3) := by decide +kernel
theorem dX3_endTrial_63 : decode cX3_endTrial 63 = .ok (.iinc 2 1, 3) := by decide +kernel
theorem dX3_endTrial_66 : decode cX3_endTrial 66 = .ok (.iinc 3 1, 3) := by decide +kernel
theorem dX3_endTrial_69 : decode cX3_endTrial 69 = .ok (.goto (-60), 3) := by decide +kernel
theorem dX3_endTrial_72 : decode cX3_endTrial 72 = .ok (.aload_n 0, 1) := by decide +kernel
theorem dX3_endTrial_73 : decode cX3_endTrial 73 = .ok (.getfield 18, 3) := by decide +kernel
theorem dX3_endTrial_76 : decode cX3_endTrial 76 = .ok (.iconst 0, 1) := by decide +kernel
theorem dX3_endTrial_77 : decode cX3_endTrial 77 = .ok (.aload_n 0, 1) := by decide +kernel
theorem dX3_endTrial_78 : decode cX3_endTrial 78 = .ok (.getfield 11, 3) := by decide +kernel
theorem dX3_endTrial_81 : decode cX3_endTrial 81 = .ok (.iconst 0, 1) := by decide +kernel
theorem dX3_endTrial_82 : decode cX3_endTrial 82 = .ok (.bipush 48, 2) := by decide +kernel
theorem dX3_endTrial_84 : decode cX3_endTrial 84 = .ok (.invokestatic 38, 3) := by decide +kernel
theorem dX3_endTrial_87 : decode cX3_endTrial 87 = .ok (.aload_n 0, 1) := by decide +kernel
theorem dX3_endTrial_88 : decode cX3_endTrial 88 = .ok (.getfield 21, 3) := by decide +kernel
theorem dX3_endTrial_91 : decode cX3_endTrial 91 = .ok (.iconst 0, 1) := by decide +kernel
theorem dX3_endTrial_92 : decode cX3_endTrial 92 = .ok (.aload_n 0, 1) := by decide +kernel
theorem dX3_endTrial_93 : decode cX3_endTrial 93 = .ok (.getfield 15, 3) := by decide +kernel
theorem dX3_endTrial_96 : decode cX3_endTrial 96 = .ok (.iconst 0, 1) := by decide +kernel
theorem dX3_endTrial_97 : decode cX3_endTrial 97 = .ok (.bipush 48, 2) := by decide +kernel
theorem dX3_endTrial_99 : decode cX3_endTrial 99 = .ok (.invokestatic 38, 3) := by decide +kernel
theorem dX3_endTrial_102 : decode cX3_endTrial 102 = .ok (.aload_n 0, 1) := by decide +kernel
theorem dX3_endTrial_103 : decode cX3_endTrial 103 = .ok (.iload_n 1, 1) := by decide +kernel
theorem dX3_endTrial_104 : decode cX3_endTrial 104 = .ok (.putfield 24, 3) := by decide +kernel
theorem dX3_endTrial_107 : decode cX3_endTrial 107 = .ok (.iload_n 2, 1) := by decide +kernel
theorem dX3_endTrial_108 : decode cX3_endTrial 108 = .ok (.ireturn, 1) := by decide +kernel
set_option maxRecDepth 20000 in
theorem ggX3_narrowTrial_X3_tryNeighbour : GoodIn wsX3_narrowTrial wsX3_tryNeighbour := goodIn_r _ [5, 6, 7, 8, 9, 10, 4, 11, 12, 13, 14, 15, 16, 17, 18, 19, 20, 21, 22, 23] (by decide +kernel) (by decide +kernel)
set_option maxRecDepth 20000 in
theorem gX3_narrowTrial_X3_tryNeighbour : GoodIn wsX3_narrowTrial (wsV RX3 57 RX3 yX3_tryNeighbour wsX3_tryNeighbour) := goodIn_app (goodIn_r _ [1, 2, 3, 4] (by decide +kernel) (by decide +kernel)) ggX3_narrowTrial_X3_tryNeighbour
theorem dX3_narrowTrial_0 : decode cX3_narrowTrial 0 = .ok (.iconst 0, 1) := by decide +kernel
theorem dX3_narrowTrial_1 : decode cX3_narrowTrial 1 = .ok (.istore_n 2, 1) := by decide +kernel
theorem dX3_narrowTrial_2 : decode cX3_narrowTrial 2 = .ok (.iload_n 2, 1) := by decide +kernel
theorem dX3_narrowTrial_3 : decode cX3_narrowTrial 3 = .ok (.bipush 48, 2) := by decide +kernel
theorem dX3_narrowTrial_5 : decode cX3_narrowTrial 5 = .ok (.if_icmp .ge 41, 3) := by decide +kernel
theorem dX3_narrowTrial_8 : decode cX3_narrowTrial 8 = .ok (.iload_n 2, 1) := by decide +kernel
theorem dX3_narrowTrial_9 : decode cX3_narrowTrial 9 = .ok (.bipush 8, 2) := by decide +kernel
theorem dX3_narrowTrial_11 : decode cX3_narrowTrial 11 = .ok (.irem, 1) := by decide +kernel
theorem dX3_narrowTrial_12 : decode cX3_narrowTrial 12 = .ok (.ifCond .le 12, 3) := by decide +kernel
theorem dX3_narrowTrial_15 : decode cX3_narrowTrial 15 = .ok (.aload_n 0, 1) := by decide +kernel
theorem dX3_narrowTrial_16 : decode cX3_narrowTrial 16 = .ok (.iload_n 2, 1) := by decide +kernel
theorem dX3_narrowTrial_17 : decode cX3_narrowTrial 17 = .ok (.iload_n 2, 1) := by decide +kernel
theorem dX3_narrowTrial_18 : decode cX3_narrowTrial 18 = .ok (.iconst 1, 1) := by decide +kernel
theorem dX3_narrowTrial_19 : decode cX3_narrowTrial 19 = .ok (.isub, 1) := by decide +kernel
theorem dX3_narrowTrial_20 : decode cX3_narrowTrial 20 = .ok (.iload_n 1, 1) := by decide +kernel
theorem dX3_narrowTrial_21 : decode cX3_narrowTrial 21 = .ok (.invokevirtual 57, 3) := by decide +kernel
theorem dX3_narrowTrial_24 : decode cX3_narrowTrial 24 = .ok (.iload_n 2, 1) := by decide +kernel
theorem dX3_narrowTrial_25 : decode cX3_narrowTrial 25 = .ok (.bipush 8, 2) := by decide +kernel
theorem dX3_narrowTrial_27 : decode cX3_narrowTrial 27 = .ok (.if_icmp .lt 13, 3) := by decide +kernel
theorem dX3_narrowTrial_30 : decode cX3_narrowTrial 30 = .ok (.aload_n 0, 1) := by decide +kernel
theorem dX3_narrowTrial_31 : decode cX3_narrowTrial 31 = .ok (.iload_n 2, 1) := by decide +kernel
theorem dX3_narrowTrial_32 : decode cX3_narrowTrial 32 = .ok (.iload_n 2, 1) := by decide +kernel
theorem dX3_narrowTrial_33 : decode cX3_narrowTrial 33 = .ok (.bipush 8, 2) := by decide +kernel
theorem dX3_narrowTrial_35 : decode cX3_narrowTrial 35 = .ok (.isub, 1) := by decide +kernel
theorem dX3_narrowTrial_36 : decode cX3_narrowTrial 36 = .ok (.iload_n 1, 1) := by decide +kernel
theorem dX3_narrowTrial_37 : decode cX3_narrowTrial 37 = .ok (.invokevirtual 57, 3) := by decide +kernel
theorem dX3_narrowTrial_40 : decode cX3_narrowTrial 40 = .ok (.iinc 2 1, 3) := by decide +kernel
theorem dX3_narrowTrial_43 : decode cX3_narrowTrial 43 = .ok (.goto (-41), 3) := by decide +kernel
theorem dX3_narrowTrial_46 : decode cX3_narrowTrial 46 = .ok (.bipush 47, 2) := by decide +kernel
theorem dX3_narrowTrial_48 : decode cX3_narrowTrial 48 = .ok (.istore_n 2, 1) := by decide +kernel
theorem dX3_narrowTrial_49 : decode cX3_narrowTrial 49 = .ok (.iload_n 2, 1) := by decide +kernel
theorem dX3_narrowTrial_50 : decode cX3_narrowTrial 50 = .ok (.ifCond .lt 43, 3) := by decide +kernel
theorem dX3_narrowTrial_53 : decode cX3_narrowTrial 53 = .ok (.iload_n 2, 1) := by decide +kernel
theorem dX3_narrowTrial_54 : decode cX3_narrowTrial 54 = .ok (.bipush 8, 2) := by decide +kernel
theorem dX3_narrowTrial_56 : decode cX3_narrowTrial 56 = .ok (.irem, 1) := by decide +kernel
theorem dX3_narrowTrial_57 : decode cX3_narrowTrial 57 = .ok (.bipush 7, 2) := by decide +kernel
theorem dX3_narrowTrial_59 : decode cX3_narrowTrial 59 = .ok (.if_icmp .ge 12, 3) := by decide +kernel
theorem dX3_narrowTrial_62 : decode cX3_narrowTrial 62 = .ok (.aload_n 0, 1) := by decide +kernel
theorem dX3_narrowTrial_63 : decode cX3_narrowTrial 63 = .ok (.iload_n 2, 1) := by decide +kernel
theorem dX3_narrowTrial_64 : decode cX3_narrowTrial 64 = .ok (.iload_n 2, 1) := by decide +kernel
theorem dX3_narrowTrial_65 : decode cX3_narrowTrial 65 = .ok (.iconst 1, 1) := by decide +kernel
theorem dX3_narrowTrial_66 : decode cX3_narrowTrial 66 = .ok (.iadd, 1) := by decide +kernel
theorem dX3_narrowTrial_67 : decode cX3_narrowTrial 67 = .ok (.iload_n 1, 1) := by decide +kernel
theorem dX3_narrowTrial_68 : decode cX3_narrowTrial 68 = .ok (.invokevirtual 57, 3) := by decide +kernel
theorem dX3_narrowTrial_71 : decode cX3_narrowTrial 71 = .ok (.iload_n 2, 1) := by decide +kernel
theorem dX3_narrowTrial_72 : decode cX3_narrowTrial 72 = .ok (.bipush 40, 2) := by decide +kernel
theorem dX3_narrowTrial_74 : decode cX3_narrowTrial 74 = .ok (.if_icmp .ge 13, 3) := by decide +kernel
theorem dX3_narrowTrial_77 : decode cX3_narrowTrial 77 = .ok (.aload_n 0, 1) := by decide +kernel
theorem dX3_narrowTrial_78 : decode cX3_narrowTrial 78 = .ok (.iload_n 2, 1) := by decide +kernel
theorem dX3_narrowTrial_79 : decode cX3_narrowTrial 79 = .ok (.iload_n 2, 1) := by decide +kernel
theorem dX3_narrowTrial_80 : decode cX3_narrowTrial 80 = .ok (.bipush 8, 2) := by decide +kernel
theorem dX3_narrowTrial_82 : decode cX3_narrowTrial 82 = .ok (.iadd, 1) := by decide +kernel
theorem dX3_narrowTrial_83 : decode cX3_narrowTrial 83 = .ok (.iload_n 1, 1) := by decide +kernel
theorem dX3_narrowTrial_84 : decode cX3_narrowTrial 84 = .ok (.invokevirtual 57, 3) := by decide +kernel
theorem dX3_narrowTrial_87 : decode cX3_narrowTrial 87 = .ok (.iinc 2 (-1), 3) := by decide +kernel
theorem dX3_narrowTrial_90 : decode cX3_narrowTrial 90 = .ok (.goto (-41), 3) := by decide +kernel
theorem dX3_narrowTrial_93 : decode cX3_narrowTrial 93 = .ok (.return_, 1) := by decide +kernel
set_option maxRecDepth 20000 in
theorem ggX3_tryNeighbour_X3_tryCommon : GoodIn wsX3_tryNeighbour wsX3_tryCommon := goodIn_r _ [7, 1, 8, 9, 10, 11, 2, 12, 13, 14, 15, 16, 17, 18, 19] (by decide +kernel) (by decide +kernel)
set_option maxRecDepth 20000 in
theorem gX3_tryNeighbour_X3_tryCommon : GoodIn wsX3_tryNeighbour (wsV RX3 61 RX3 yX3_tryCommon wsX3_tryCommon) := goodIn_app (goodIn_r _ [3, 4, 5, 6] (by decide +kernel) (by decide +kernel)) ggX3_tryNeighbour_X3_tryCommon
theorem dX3_tryNeighbour_0 : decode cX3_tryNeighbour 0 = .ok (.aload_n 0, 1) := by decide +kernel
theorem dX3_tryNeighbour_1 : decode cX3_tryNeighbour 1 = .ok (.iload_n 1, 1) := by decide +kernel
theorem dX3_tryNeighbour_2 : decode cX3_tryNeighbour 2 = .ok (.aload_n 0, 1) := by decide +kernel
theorem dX3_tryNeighbour_3 : decode cX3_tryNeighbour 3 = .ok (.getfield 18, 3) := by decide +kernel
theorem dX3_tryNeighbour_6 : decode cX3_tryNeighbour 6 = .ok (.iload_n 2, 1) := by decide +kernel
theorem dX3_tryNeighbour_7 : decode cX3_tryNeighbour 7 = .ok (.iaload, 1) := by decide +kernel
theorem dX3_tryNeighbour_8 : decode cX3_tryNeighbour 8 = .ok (.iload_n 3, 1) := by decide +kernel
theorem dX3_tryNeighbour_9 : decode cX3_tryNeighbour 9 = .ok (.isub, 1) := by decide +kernel
theorem dX3_tryNeighbour_10 : decode cX3_tryNeighbour 10 = .ok (.aload_n 0, 1) := by decide +kernel
theorem dX3_tryNeighbour_11 : decode cX3_tryNeighbour 11 = .ok (.getfield 21, 3) := by decide +kernel
theorem dX3_tryNeighbour_14 : decode cX3_tryNeighbour 14 = .ok (.iload_n 2, 1) := by decide +kernel
theorem dX3_tryNeighbour_15 : decode cX3_tryNeighbour 15 = .ok (.iaload, 1) := by decide +kernel
theorem dX3_tryNeighbour_16 : decode cX3_tryNeighbour 16 = .ok (.iload_n 3, 1) := by decide +kernel
theorem dX3_tryNeighbour_17 : decode cX3_tryNeighbour 17 = .ok (.iadd, 1) := by decide +kernel
theorem dX3_tryNeighbour_18 : decode cX3_tryNeighbour 18 = .ok (.invokevirtual 61, 3) := by decide +kernel
theorem dX3_tryNeighbour_21 : decode cX3_tryNeighbour 21 = .ok (.return_, 1) := by decide +kernel
set_option maxRecDepth 20000 in
theorem ggX4_init_X1_init : GoodIn wsX4_init wsX1_init := goodIn_r _ [4, 5, 6, 7, 8, 9, 10, 11, 12, 13, 14, 15, 16, 17, 18, 19, 20, 21, 22, 23, 24] (by decide +kernel) (by decide +kernel)
set_option maxRecDepth 20000 in
theorem gX4_init_X1_init : GoodIn wsX4_init (wsX1_init) := ggX4_init_X1_init
theorem dX4_init_0 : decode cX4_init 0 = .ok (.aload_n 0, 1) := by decide +kernel
theorem dX4_init_1 : decode cX4_init 1 = .ok (.iload_n 1, 1) := by decide +kernel
theorem dX4_init_2 : decode cX4_init 2 = .ok (.invokespecial 1, 3) := by decide +kernel
theorem dX4_init_5 : decode cX4_init 5 = .ok (.return_, 1) := by decide +kernel
theorem dX4_debtTaken_0 : decode cX4_debtTaken 0 = .ok (.aload_n 0, 1) := by decide +kernel
theorem dX4_debtTaken_1 : decode cX4_debtTaken 1 = .ok (.getfield 7, 3) := by decide +kernel
theorem dX4_debtTaken_4 : decode cX4_debtTaken 4 = .ok (.ldc2_w 13, 3) := by decide +kernel
theorem dX4_debtTaken_7 : decode cX4_debtTaken 7 = .ok (.ldiv, 1) := by decide +kernel
theorem dX4_debtTaken_8 : decode cX4_debtTaken 8 = .ok (.lreturn, 1) := by decide +kernel
set_option maxRecDepth 20000 in
theorem ggX4_telling_X9_leave : GoodIn wsX4_telling wsX9_leave := goodIn_r _ [5, 6, 15] (by decide +kernel) (by decide +kernel)
set_option maxRecDepth 20000 in
theorem gX4_telling_X9_leave : GoodIn wsX4_telling (wsV RX4 15 RX9 yX9_leave wsX9_leave) := goodIn_app (goodIn_r _ [1, 2, 3, 4] (by decide +kernel) (by decide +kernel)) ggX4_telling_X9_leave
set_option maxRecDepth 20000 in
theorem ggX4_telling_X2_tellingOfAnyGang : GoodIn wsX4_telling wsX2_tellingOfAnyGang := goodIn_r _ [12, 13, 14, 2, 3, 4, 5, 6, 16, 17, 18, 19, 20, 21, 22, 23, 24, 25, 26, 27, 15] (by decide +kernel) (by decide +kernel)
set_option maxRecDepth 20000 in
theorem gX4_telling_X2_tellingOfAnyGang_u20X4 : GoodIn wsX4_telling (va_wsU RX4 20 RX4 "TributePitches$Gang" ⟨"TributePitches$OldHands", "tellingOfAnyGang", "(LTributePitches$Trace;)I"⟩ yX2_tellingOfAnyGang wsX2_tellingOfAnyGang) := goodIn_app (goodIn_of _ (by decide +kernel)) ggX4_telling_X2_tellingOfAnyGang
theorem dX4_telling_0 : decode cX4_telling 0 = .ok (.aload_n 1, 1) := by decide +kernel
theorem dX4_telling_1 : decode cX4_telling 1 = .ok (.iconst 3, 1) := by decide +kernel
theorem dX4_telling_2 : decode cX4_telling 2 = .ok (.invokevirtual 15, 3) := by decide +kernel
theorem dX4_telling_5 : decode cX4_telling 5 = .ok (.iconst 3, 1) := by decide +kernel
theorem dX4_telling_6 : decode cX4_telling 6 = .ok (.aload_n 0, 1) := by decide +kernel
theorem dX4_telling_7 : decode cX4_telling 7 = .ok (.aload_n 1, 1) := by decide +kernel
theorem dX4_telling_8 : decode cX4_telling 8 = .ok (.invokevirtual 20, 3) := by decide +kernel
theorem dX4_telling_11 : decode cX4_telling 11 = .ok (.imul, 1) := by decide +kernel
theorem dX4_telling_12 : decode cX4_telling 12 = .ok (.ireturn, 1) := by decide +kernel
set_option maxRecDepth 20000 in
theorem ggX4_greeting_X9_leave : GoodIn wsX4_greeting wsX9_leave := goodIn_r _ [5, 6, 14] (by decide +kernel) (by decide +kernel)
set_option maxRecDepth 20000 in
theorem gX4_greeting_X9_leave : GoodIn wsX4_greeting (wsV RX4 15 RX9 yX9_leave wsX9_leave) := goodIn_app (goodIn_r _ [1, 2, 3, 4] (by decide +kernel) (by decide +kernel)) ggX4_greeting_X9_leave
set_option maxRecDepth 20000 in
theorem ggX4_greeting_X1_greeting : GoodIn wsX4_greeting wsX1_greeting := goodIn_r _ [12, 13, 2, 3, 4, 5, 6, 14] (by decide +kernel) (by decide +kernel)
set_option maxRecDepth 20000 in
theorem gX4_greeting_X1_greeting_s24 : GoodIn wsX4_greeting (va_wsSU RX4 24 yX1_greeting wsX1_greeting) := goodIn_app (goodIn_of _ (by decide +kernel)) ggX4_greeting_X1_greeting
theorem dX4_greeting_0 : decode cX4_greeting 0 = .ok (.aload_n 1, 1) := by decide +kernel
theorem dX4_greeting_1 : decode cX4_greeting 1 = .ok (.bipush 6, 2) := by decide +kernel
theorem dX4_greeting_3 : decode cX4_greeting 3 = .ok (.invokevirtual 15, 3) := by decide +kernel
theorem dX4_greeting_6 : decode cX4_greeting 6 = .ok (.aload_n 0, 1) := by decide +kernel
theorem dX4_greeting_7 : decode cX4_greeting 7 = .ok (.aload_n 1, 1) := by decide +kernel
theorem dX4_greeting_8 : decode cX4_greeting 8 = .ok (.invokespecial 24, 3) := by decide +kernel
theorem dX4_greeting_11 : decode cX4_greeting 11 = .ok (.iconst 1, 1) := by decide +kernel
theorem dX4_greeting_12 : decode cX4_greeting 12 = .ok (.iadd, 1) := by decide +kernel
theorem dX4_greeting_13 : decode cX4_greeting 13 = .ok (.ireturn, 1) := by decide +kernel
theorem dX5_init_0 : decode cX5_init 0 = .ok (.aload_n 0, 1) := by decide +kernel
theorem dX5_init_1 : decode cX5_init 1 = .ok (.invokespecial 1, 3) := by decide +kernel
theorem dX5_init_4 : decode cX5_init 4 = .ok (.aload_n 0, 1) := by decide +kernel
theorem dX5_init_5 : decode cX5_init 5 = .ok (.aload_n 1, 1) := by decide +kernel
theorem dX5_init_6 : decode cX5_init 6 = .ok (.putfield 7, 3) := by decide +kernel
theorem dX5_init_9 : decode cX5_init 9 = .ok (.aload_n 0, 1) := by decide +kernel
theorem dX5_init_10 : decode cX5_init 10 = .ok (.iload_n 2, 1) := by decide +kernel
theorem dX5_init_11 : decode cX5_init 11 = .ok (.putfield 13, 3) := by decide +kernel
theorem dX5_init_14 : decode cX5_init 14 = .ok (.return_, 1) := by decide +kernel
set_option maxRecDepth 20000 in
theorem ggX5_isSuspect_X6_greatestOf : GoodIn wsX5_isSuspect wsX6_greatestOf := goodIn_r _ [8, 9, 10, 11, 12, 13, 14, 15, 16, 17, 18, 19, 20, 28, 29, 30, 31, 32, 33, 34, 35] (by decide +kernel) (by decide +kernel)
set_option maxRecDepth 20000 in
theorem gX5_isSuspect_X6_greatestOf : GoodIn wsX5_isSuspect (wsV RX5 23 RX6 yX6_greatestOf wsX6_greatestOf) := goodIn_app (goodIn_r _ [4, 5, 6, 7] (by decide +kernel) (by decide +kernel)) ggX5_isSuspect_X6_greatestOf
theorem dX5_isSuspect_0 : decode cX5_isSuspect 0 = .ok (.aload_n 0, 1) := by decide +kernel
theorem dX5_isSuspect_1 : decode cX5_isSuspect 1 = .ok (.getfield 13, 3) := by decide +kernel
theorem dX5_isSuspect_4 : decode cX5_isSuspect 4 = .ok (.aload_n 0, 1) := by decide +kernel
theorem dX5_isSuspect_5 : decode cX5_isSuspect 5 = .ok (.getfield 7, 3) := by decide +kernel
theorem dX5_isSuspect_8 : decode cX5_isSuspect 8 = .ok (.aload_n 1, 1) := by decide +kernel
theorem dX5_isSuspect_9 : decode cX5_isSuspect 9 = .ok (.getfield 17, 3) := by decide +kernel
theorem dX5_isSuspect_12 : decode cX5_isSuspect 12 = .ok (.invokevirtual 23, 3) := by decide +kernel
theorem dX5_isSuspect_15 : decode cX5_isSuspect 15 = .ok (.if_icmp .le 7, 3) := by decide +kernel
theorem dX5_isSuspect_18 : decode cX5_isSuspect 18 = .ok (.iconst 1, 1) := by decide +kernel
theorem dX5_isSuspect_19 : decode cX5_isSuspect 19 = .ok (.goto 4, 3) := by decide +kernel
theorem dX5_isSuspect_22 : decode cX5_isSuspect 22 = .ok (.iconst 0, 1) := by decide +kernel
theorem dX5_isSuspect_23 : decode cX5_isSuspect 23 = .ok (.ireturn, 1) := by decide +kernel
theorem dX6_init_0 : decode cX6_init 0 = .ok (.aload_n 0, 1) := by decide +kernel
theorem dX6_init_1 : decode cX6_init 1 = .ok (.invokespecial 1, 3) := by decide +kernel
theorem dX6_init_4 : decode cX6_init 4 = .ok (.aload_n 0, 1) := by decide +kernel
theorem dX6_init_5 : decode cX6_init 5 = .ok (.iload_n 1, 1) := by decide +kernel
theorem dX6_init_6 : decode cX6_init 6 = .ok (.putfield 7, 3) := by decide +kernel
theorem dX6_init_9 : decode cX6_init 9 = .ok (.aload_n 0, 1) := by decide +kernel
theorem dX6_init_10 : decode cX6_init 10 = .ok (.iload_n 2, 1) := by decide +kernel
theorem dX6_init_11 : decode cX6_init 11 = .ok (.putfield 13, 3) := by decide +kernel
theorem dX6_init_14 : decode cX6_init 14 = .ok (.aload_n 0, 1) := by decide +kernel
theorem dX6_init_15 : decode cX6_init 15 = .ok (.iload_n 3, 1) := by decide +kernel
theorem dX6_init_16 : decode cX6_init 16 = .ok (.putfield 16, 3) := by decide +kernel
theorem dX6_init_19 : decode cX6_init 19 = .ok (.aload_n 0, 1) := by decide +kernel
theorem dX6_init_20 : decode cX6_init 20 = .ok (.iload 4, 2) := by decide +kernel
theorem dX6_init_22 : decode cX6_init 22 = .ok (.putfield 19, 3) := by decide +kernel
theorem dX6_init_25 : decode cX6_init 25 = .ok (.aload_n 0, 1) := by decide +kernel
theorem dX6_init_26 : decode cX6_init 26 = .ok (.iload 5, 2) := by decide +kernel
theorem dX6_init_28 : decode cX6_init 28 = .ok (.putfield 22, 3) := by decide +kernel
theorem dX6_init_31 : decode cX6_init 31 = .ok (.aload_n 0, 1) := by decide +kernel
theorem dX6_init_32 : decode cX6_init 32 = .ok (.iload 6, 2) := by decide +kernel
theorem dX6_init_34 : decode cX6_init 34 = .ok (.putfield 25, 3) := by decide +kernel
theorem dX6_init_37 : decode cX6_init 37 = .ok (.return_, 1) := by decide +kernel
theorem dX6_meets_0 : decode cX6_meets 0 = .ok (.aload_n 0, 1) := by decide +kernel
theorem dX6_meets_1 : decode cX6_meets 1 = .ok (.getfield 13, 3) := by decide +kernel
theorem dX6_meets_4 : decode cX6_meets 4 = .ok (.iload_n 3, 1) := by decide +kernel
theorem dX6_meets_5 : decode cX6_meets 5 = .ok (.if_icmp .gt 32, 3) := by decide +kernel
theorem dX6_meets_8 : decode cX6_meets 8 = .ok (.iload_n 1, 1) := by decide +kernel
theorem dX6_meets_9 : decode cX6_meets 9 = .ok (.aload_n 0, 1) := by decide +kernel
theorem dX6_meets_10 : decode cX6_meets 10 = .ok (.getfield 19, 3) := by decide +kernel
theorem dX6_meets_13 : decode cX6_meets 13 = .ok (.if_icmp .gt 24, 3) := by decide +kernel
theorem dX6_meets_16 : decode cX6_meets 16 = .ok (.aload_n 0, 1) := by decide +kernel
theorem dX6_meets_17 : decode cX6_meets 17 = .ok (.getfield 16, 3) := by decide +kernel
theorem dX6_meets_20 : decode cX6_meets 20 = .ok (.iload 4, 2) := by decide +kernel
theorem dX6_meets_22 : decode cX6_meets 22 = .ok (.if_icmp .gt 15, 3) := by decide +kernel
theorem dX6_meets_25 : decode cX6_meets 25 = .ok (.iload_n 2, 1) := by decide +kernel
theorem dX6_meets_26 : decode cX6_meets 26 = .ok (.aload_n 0, 1) := by decide +kernel
theorem dX6_meets_27 : decode cX6_meets 27 = .ok (.getfield 22, 3) := by decide +kernel
theorem dX6_meets_30 : decode cX6_meets 30 = .ok (.if_icmp .gt 7, 3) := by decide +kernel
theorem dX6_meets_33 : decode cX6_meets 33 = .ok (.iconst 1, 1) := by decide +kernel
theorem dX6_meets_34 : decode cX6_meets 34 = .ok (.goto 4, 3) := by decide +kernel
theorem dX6_meets_37 : decode cX6_meets 37 = .ok (.iconst 0, 1) := by decide +kernel
theorem dX6_meets_38 : decode cX6_meets 38 = .ok (.ireturn, 1) := by decide +kernel
set_option maxRecDepth 20000 in
theorem ggX6_foretoldBy_X3_numberOf : GoodIn wsX6_foretoldBy wsX3_numberOf := goodIn_r _ [9] (by decide +kernel) (by decide +kernel)
set_option maxRecDepth 20000 in
theorem gX6_foretoldBy_X3_numberOf : GoodIn wsX6_foretoldBy (va_wsS RX6 28 yX3_numberOf wsX3_numberOf) := goodIn_app (goodIn_r _ [6, 7, 8] (by decide +kernel) (by decide +kernel)) ggX6_foretoldBy_X3_numberOf
theorem dX6_foretoldBy_0 : decode cX6_foretoldBy 0 = .ok (.lconst 0, 1) := by decide +kernel
theorem dX6_foretoldBy_1 : decode cX6_foretoldBy 1 = .ok (.lstore_n 2, 1) := by decide +kernel
theorem dX6_foretoldBy_2 : decode cX6_foretoldBy 2 = .ok (.aload_n 0, 1) := by decide +kernel
theorem dX6_foretoldBy_3 : decode cX6_foretoldBy 3 = .ok (.getfield 16, 3) := by decide +kernel
theorem dX6_foretoldBy_6 : decode cX6_foretoldBy 6 = .ok (.istore 4, 2) := by decide +kernel
theorem dX6_foretoldBy_8 : decode cX6_foretoldBy 8 = .ok (.iload 4, 2) := by decide +kernel
theorem dX6_foretoldBy_10 : decode cX6_foretoldBy 10 = .ok (.aload_n 0, 1) := by decide +kernel
theorem dX6_foretoldBy_11 : decode cX6_foretoldBy 11 = .ok (.getfield 22, 3) := by decide +kernel
theorem dX6_foretoldBy_14 : decode cX6_foretoldBy 14 = .ok (.if_icmp .gt 43, 3) := by decide +kernel
theorem dX6_foretoldBy_17 : decode cX6_foretoldBy 17 = .ok (.aload_n 0, 1) := by decide +kernel
theorem dX6_foretoldBy_18 : decode cX6_foretoldBy 18 = .ok (.getfield 13, 3) := by decide +kernel
theorem dX6_foretoldBy_21 : decode cX6_foretoldBy 21 = .ok (.istore 5, 2) := by decide +kernel
theorem dX6_foretoldBy_23 : decode cX6_foretoldBy 23 = .ok (.iload 5, 2) := by decide +kernel
theorem dX6_foretoldBy_25 : decode cX6_foretoldBy 25 = .ok (.aload_n 0, 1) := by decide +kernel
theorem dX6_foretoldBy_26 : decode cX6_foretoldBy 26 = .ok (.getfield 19, 3) := by decide +kernel
theorem dX6_foretoldBy_29 : decode cX6_foretoldBy 29 = .ok (.if_icmp .gt 22, 3) := by decide +kernel
theorem dX6_foretoldBy_32 : decode cX6_foretoldBy 32 = .ok (.lload_n 2, 1) := by decide +kernel
theorem dX6_foretoldBy_33 : decode cX6_foretoldBy 33 = .ok (.aload_n 1, 1) := by decide +kernel
theorem dX6_foretoldBy_34 : decode cX6_foretoldBy 34 = .ok (.iload 5, 2) := by decide +kernel
theorem dX6_foretoldBy_36 : decode cX6_foretoldBy 36 = .ok (.iload 4, 2) := by decide +kernel
theorem dX6_foretoldBy_38 : decode cX6_foretoldBy 38 = .ok (.invokestatic 28, 3) := by decide +kernel
theorem dX6_foretoldBy_41 : decode cX6_foretoldBy 41 = .ok (.iaload, 1) := by decide +kernel
theorem dX6_foretoldBy_42 : decode cX6_foretoldBy 42 = .ok (.i2l, 1) := by decide +kernel
theorem dX6_foretoldBy_43 : decode cX6_foretoldBy 43 = .ok (.ladd, 1) := by decide +kernel
theorem dX6_foretoldBy_44 : decode cX6_foretoldBy 44 = .ok (.lstore_n 2, 1) := by decide +kernel
theorem dX6_foretoldBy_45 : decode cX6_foretoldBy 45 = .ok (.iinc 5 1, 3) := by decide +kernel
theorem dX6_foretoldBy_48 : decode cX6_foretoldBy 48 = .ok (.goto (-25), 3) := by decide +kernel
theorem dX6_foretoldBy_51 : decode cX6_foretoldBy 51 = .ok (.iinc 4 1, 3) := by decide +kernel
theorem dX6_foretoldBy_54 : decode cX6_foretoldBy 54 = .ok (.goto (-46), 3) := by decide +kernel
theorem dX6_foretoldBy_57 : decode cX6_foretoldBy 57 = .ok (.lload_n 2, 1) := by decide +kernel
theorem dX6_foretoldBy_58 : decode cX6_foretoldBy 58 = .ok (.aload_n 0, 1) := by decide +kernel
theorem dX6_foretoldBy_59 : decode cX6_foretoldBy 59 = .ok (.getfield 25, 3) := by decide +kernel
theorem dX6_foretoldBy_62 : decode cX6_foretoldBy 62 = .ok (.i2l, 1) := by decide +kernel
theorem dX6_foretoldBy_63 : decode cX6_foretoldBy 63 = .ok (.lmul, 1) := by decide +kernel
theorem dX6_foretoldBy_64 : decode cX6_foretoldBy 64 = .ok (.lreturn, 1) := by decide +kernel
set_option maxRecDepth 20000 in
theorem ggX6_greatestOf_X3_numberOf : GoodIn wsX6_greatestOf wsX3_numberOf := goodIn_r _ [12] (by decide +kernel) (by decide +kernel)
set_option maxRecDepth 20000 in
theorem gX6_greatestOf_X3_numberOf : GoodIn wsX6_greatestOf (va_wsS RX6 28 yX3_numberOf wsX3_numberOf) := goodIn_app (goodIn_r _ [9, 10, 11] (by decide +kernel) (by decide +kernel)) ggX6_greatestOf_X3_numberOf
theorem dX6_greatestOf_0 : decode cX6_greatestOf 0 = .ok (.iconst 0, 1) := by decide +kernel
theorem dX6_greatestOf_1 : decode cX6_greatestOf 1 = .ok (.istore_n 2, 1) := by decide +kernel
theorem dX6_greatestOf_2 : decode cX6_greatestOf 2 = .ok (.aload_n 0, 1) := by decide +kernel
theorem dX6_greatestOf_3 : decode cX6_greatestOf 3 = .ok (.getfield 16, 3) := by decide +kernel
theorem dX6_greatestOf_6 : decode cX6_greatestOf 6 = .ok (.istore_n 3, 1) := by decide +kernel
theorem dX6_greatestOf_7 : decode cX6_greatestOf 7 = .ok (.iload_n 3, 1) := by decide +kernel
theorem dX6_greatestOf_8 : decode cX6_greatestOf 8 = .ok (.aload_n 0, 1) := by decide +kernel
theorem dX6_greatestOf_9 : decode cX6_greatestOf 9 = .ok (.getfield 22, 3) := by decide +kernel
theorem dX6_greatestOf_12 : decode cX6_greatestOf 12 = .ok (.if_icmp .gt 43, 3) := by decide +kernel
theorem dX6_greatestOf_15 : decode cX6_greatestOf 15 = .ok (.aload_n 0, 1) := by decide +kernel
theorem dX6_greatestOf_16 : decode cX6_greatestOf 16 = .ok (.getfield 13, 3) := by decide +kernel
theorem dX6_greatestOf_19 : decode cX6_greatestOf 19 = .ok (.istore 4, 2) := by decide +kernel
theorem dX6_greatestOf_21 : decode cX6_greatestOf 21 = .ok (.iload 4, 2) := by decide +kernel
theorem dX6_greatestOf_23 : decode cX6_greatestOf 23 = .ok (.aload_n 0, 1) := by decide +kernel
theorem dX6_greatestOf_24 : decode cX6_greatestOf 24 = .ok (.getfield 19, 3) := by decide +kernel
theorem dX6_greatestOf_27 : decode cX6_greatestOf 27 = .ok (.if_icmp .gt 22, 3) := by decide +kernel
theorem dX6_greatestOf_30 : decode cX6_greatestOf 30 = .ok (.iload_n 2, 1) := by decide +kernel
theorem dX6_greatestOf_31 : decode cX6_greatestOf 31 = .ok (.aload_n 1, 1) := by decide +kernel
theorem dX6_greatestOf_32 : decode cX6_greatestOf 32 = .ok (.iload 4, 2) := by decide +kernel
theorem dX6_greatestOf_34 : decode cX6_greatestOf 34 = .ok (.iload_n 3, 1) := by decide +kernel
theorem dX6_greatestOf_35 : decode cX6_greatestOf 35 = .ok (.invokestatic 28, 3) := by decide +kernel
theorem dX6_greatestOf_38 : decode cX6_greatestOf 38 = .ok (.iaload, 1) := by decide +kernel
theorem dX6_greatestOf_39 : decode cX6_greatestOf 39 = .ok (.invokestatic 34, 3) := by decide +kernel
theorem dX6_greatestOf_42 : decode cX6_greatestOf 42 = .ok (.istore_n 2, 1) := by decide +kernel
theorem dX6_greatestOf_43 : decode cX6_greatestOf 43 = .ok (.iinc 4 1, 3) := by decide +kernel
theorem dX6_greatestOf_46 : decode cX6_greatestOf 46 = .ok (.goto (-25), 3) := by decide +kernel
theorem dX6_greatestOf_49 : decode cX6_greatestOf 49 = .ok (.iinc 3 1, 3) := by decide +kernel
theorem dX6_greatestOf_52 : decode cX6_greatestOf 52 = .ok (.goto (-45), 3) := by decide +kernel
theorem dX6_greatestOf_55 : decode cX6_greatestOf 55 = .ok (.iload_n 2, 1) := by decide +kernel
theorem dX6_greatestOf_56 : decode cX6_greatestOf 56 = .ok (.ireturn, 1) := by decide +kernel
theorem dX7_init_0 : decode cX7_init 0 = .ok (.aload_n 0, 1) := by decide +kernel
theorem dX7_init_1 : decode cX7_init 1 = .ok (.invokespecial 3, 3) := by decide +kernel
theorem dX7_init_4 : decode cX7_init 4 = .ok (.aload_n 0, 1) := by decide +kernel
theorem dX7_init_5 : decode cX7_init 5 = .ok (.bipush 48, 2) := by decide +kernel
theorem dX7_init_7 : decode cX7_init 7 = .ok (.newarray .int, 2) := by decide +kernel
theorem dX7_init_9 : decode cX7_init 9 = .ok (.putfield 11, 3) := by decide +kernel
theorem dX7_init_12 : decode cX7_init 12 = .ok (.aload_n 0, 1) := by decide +kernel
theorem dX7_init_13 : decode cX7_init 13 = .ok (.iconst (-1), 1) := by decide +kernel
theorem dX7_init_14 : decode cX7_init 14 = .ok (.putfield 15, 3) := by decide +kernel
theorem dX7_init_17 : decode cX7_init 17 = .ok (.return_, 1) := by decide +kernel
set_option maxRecDepth 20000 in
theorem ggX7_isLane_X10_isWithin : GoodIn wsX7_isLane wsX10_isWithin := goodIn_r _ [3] (by decide +kernel) (by decide +kernel)
set_option maxRecDepth 20000 in
theorem gX7_isLane_X10_isWithin_n19 : GoodIn wsX7_isLane (wsX10_isWithin) := ggX7_isLane_X10_isWithin
theorem dX7_isLane_0 : decode cX7_isLane 0 = .ok (.iload_n 0, 1) := by decide +kernel
theorem dX7_isLane_1 : decode cX7_isLane 1 = .ok (.iconst 0, 1) := by decide +kernel
theorem dX7_isLane_2 : decode cX7_isLane 2 = .ok (.iconst 2, 1) := by decide +kernel
theorem dX7_isLane_3 : decode cX7_isLane 3 = .ok (.invokestatic 19, 3) := by decide +kernel
theorem dX7_isLane_6 : decode cX7_isLane 6 = .ok (.ireturn, 1) := by decide +kernel
set_option maxRecDepth 20000 in
theorem ggX7_renew_J7_fill_53178 : GoodIn wsX7_renew wsJ7_fill_53178 := goodIn_r _ [7] (by decide +kernel) (by decide +kernel)
set_option maxRecDepth 20000 in
theorem gX7_renew_J7_fill_53178 : GoodIn wsX7_renew (va_wsS RX7 23 yJ7_fill_53178 wsJ7_fill_53178) := goodIn_app (goodIn_r _ [4, 5, 6] (by decide +kernel) (by decide +kernel)) ggX7_renew_J7_fill_53178
theorem dX7_renew_0 : decode cX7_renew 0 = .ok (.aload_n 0, 1) := by decide +kernel
theorem dX7_renew_1 : decode cX7_renew 1 = .ok (.getfield 11, 3) := by decide +kernel
theorem dX7_renew_4 : decode cX7_renew 4 = .ok (.iconst 0, 1) := by decide +kernel
theorem dX7_renew_5 : decode cX7_renew 5 = .ok (.invokestatic 23, 3) := by decide +kernel
theorem dX7_renew_8 : decode cX7_renew 8 = .ok (.aload_n 0, 1) := by decide +kernel
theorem dX7_renew_9 : decode cX7_renew 9 = .ok (.iload_n 1, 1) := by decide +kernel
theorem dX7_renew_10 : decode cX7_renew 10 = .ok (.putfield 15, 3) := by decide +kernel
theorem dX7_renew_13 : decode cX7_renew 13 = .ok (.aload_n 0, 1) := by decide +kernel
theorem dX7_renew_14 : decode cX7_renew 14 = .ok (.iload_n 2, 1) := by decide +kernel
theorem dX7_renew_15 : decode cX7_renew 15 = .ok (.putfield 29, 3) := by decide +kernel
theorem dX7_renew_18 : decode cX7_renew 18 = .ok (.return_, 1) := by decide +kernel
theorem dX7_hasNothing_0 : decode cX7_hasNothing 0 = .ok (.aload_n 0, 1) := by decide +kernel
theorem dX7_hasNothing_1 : decode cX7_hasNothing 1 = .ok (.getfield 15, 3) := by decide +kernel
theorem dX7_hasNothing_4 : decode cX7_hasNothing 4 = .ok (.iconst (-1), 1) := by decide +kernel
theorem dX7_hasNothing_5 : decode cX7_hasNothing 5 = .ok (.if_icmp .ne 7, 3) := by decide +kernel
theorem dX7_hasNothing_8 : decode cX7_hasNothing 8 = .ok (.iconst 1, 1) := by decide +kernel
theorem dX7_hasNothing_9 : decode cX7_hasNothing 9 = .ok (.goto 4, 3) := by decide +kernel
theorem dX7_hasNothing_12 : decode cX7_hasNothing 12 = .ok (.iconst 0, 1) := by decide +kernel
theorem dX7_hasNothing_13 : decode cX7_hasNothing 13 = .ok (.ireturn, 1) := by decide +kernel
set_option maxRecDepth 20000 in
theorem ggX7_faultAs_X7_hasNothing : GoodIn wsX7_faultAs wsX7_hasNothing := goodIn_r _ [6, 1, 7, 8, 9] (by decide +kernel) (by decide +kernel)
set_option maxRecDepth 20000 in
theorem gX7_faultAs_X7_hasNothing : GoodIn wsX7_faultAs (wsV RX7 32 RX7 yX7_hasNothing wsX7_hasNothing) := goodIn_app (goodIn_r _ [2, 3, 4, 5] (by decide +kernel) (by decide +kernel)) ggX7_faultAs_X7_hasNothing
theorem dX7_faultAs_0 : decode cX7_faultAs 0 = .ok (.aload_n 0, 1) := by decide +kernel
theorem dX7_faultAs_1 : decode cX7_faultAs 1 = .ok (.invokevirtual 32, 3) := by decide +kernel
theorem dX7_faultAs_4 : decode cX7_faultAs 4 = .ok (.ifCond .eq 5, 3) := by decide +kernel
theorem dX7_faultAs_7 : decode cX7_faultAs 7 = .ok (.iconst 1, 1) := by decide +kernel
theorem dX7_faultAs_8 : decode cX7_faultAs 8 = .ok (.ireturn, 1) := by decide +kernel
theorem dX7_faultAs_9 : decode cX7_faultAs 9 = .ok (.aload_n 0, 1) := by decide +kernel
theorem dX7_faultAs_10 : decode cX7_faultAs 10 = .ok (.getfield 15, 3) := by decide +kernel
theorem dX7_faultAs_13 : decode cX7_faultAs 13 = .ok (.iload_n 1, 1) := by decide +kernel
theorem dX7_faultAs_14 : decode cX7_faultAs 14 = .ok (.if_icmp .ne 7, 3) := by decide +kernel
theorem dX7_faultAs_17 : decode cX7_faultAs 17 = .ok (.iconst 0, 1) := by decide +kernel
theorem dX7_faultAs_18 : decode cX7_faultAs 18 = .ok (.goto 4, 3) := by decide +kernel
theorem dX7_faultAs_21 : decode cX7_faultAs 21 = .ok (.iconst 2, 1) := by decide +kernel
theorem dX7_faultAs_22 : decode cX7_faultAs 22 = .ok (.ireturn, 1) := by decide +kernel
theorem dX7_holds_0 : decode cX7_holds 0 = .ok (.iload_n 1, 1) := by decide +kernel
theorem dX7_holds_1 : decode cX7_holds 1 = .ok (.ifCond .lt 25, 3) := by decide +kernel
theorem dX7_holds_4 : decode cX7_holds 4 = .ok (.iload_n 2, 1) := by decide +kernel
theorem dX7_holds_5 : decode cX7_holds 5 = .ok (.ifCond .lt 21, 3) := by decide +kernel
theorem dX7_holds_8 : decode cX7_holds 8 = .ok (.iload_n 1, 1) := by decide +kernel
theorem dX7_holds_9 : decode cX7_holds 9 = .ok (.i2l, 1) := by decide +kernel
theorem dX7_holds_10 : decode cX7_holds 10 = .ok (.iload_n 2, 1) := by decide +kernel
theorem dX7_holds_11 : decode cX7_holds 11 = .ok (.i2l, 1) := by decide +kernel
theorem dX7_holds_12 : decode cX7_holds 12 = .ok (.ladd, 1) := by decide +kernel
theorem dX7_holds_13 : decode cX7_holds 13 = .ok (.aload_n 0, 1) := by decide +kernel
theorem dX7_holds_14 : decode cX7_holds 14 = .ok (.getfield 29, 3) := by decide +kernel
theorem dX7_holds_17 : decode cX7_holds 17 = .ok (.i2l, 1) := by decide +kernel
theorem dX7_holds_18 : decode cX7_holds 18 = .ok (.lcmp, 1) := by decide +kernel
theorem dX7_holds_19 : decode cX7_holds 19 = .ok (.ifCond .gt 7, 3) := by decide +kernel
theorem dX7_holds_22 : decode cX7_holds 22 = .ok (.iconst 1, 1) := by decide +kernel
theorem dX7_holds_23 : decode cX7_holds 23 = .ok (.goto 4, 3) := by decide +kernel
theorem dX7_holds_26 : decode cX7_holds 26 = .ok (.iconst 0, 1) := by decide +kernel
theorem dX7_holds_27 : decode cX7_holds 27 = .ok (.ireturn, 1) := by decide +kernel
theorem dX7_hasAbove_0 : decode cX7_hasAbove 0 = .ok (.iconst 0, 1) := by decide +kernel
theorem dX7_hasAbove_1 : decode cX7_hasAbove 1 = .ok (.istore 4, 2) := by decide +kernel
theorem dX7_hasAbove_3 : decode cX7_hasAbove 3 = .ok (.iload 4, 2) := by decide +kernel
theorem dX7_hasAbove_5 : decode cX7_hasAbove 5 = .ok (.iload_n 3, 1) := by decide +kernel
theorem dX7_hasAbove_6 : decode cX7_hasAbove 6 = .ok (.if_icmp .ge 24, 3) := by decide +kernel
theorem dX7_hasAbove_9 : decode cX7_hasAbove 9 = .ok (.aload_n 0, 1) := by decide +kernel
theorem dX7_hasAbove_10 : decode cX7_hasAbove 10 = .ok (.getfield 11, 3) := by decide +kernel
theorem dX7_hasAbove_13 : decode cX7_hasAbove 13 = .ok (.iload_n 2, 1) := by decide +kernel
theorem dX7_hasAbove_14 : decode cX7_hasAbove 14 = .ok (.iload 4, 2) := by decide +kernel
theorem dX7_hasAbove_16 : decode cX7_hasAbove 16 = .ok (.iadd, 1) := by decide +kernel
theorem dX7_hasAbove_17 : decode cX7_hasAbove 17 = .ok (.iaload, 1) := by decide +kernel
theorem dX7_hasAbove_18 : decode cX7_hasAbove 18 = .ok (.iload_n 1, 1) := by decide +kernel
theorem dX7_hasAbove_19 : decode cX7_hasAbove 19 = .ok (.if_icmp .le 5, 3) := by decide +kernel
theorem dX7_hasAbove_22 : decode cX7_hasAbove 22 = .ok (.iconst 1, 1) := by decide +kernel
theorem dX7_hasAbove_23 : decode cX7_hasAbove 23 = .ok (.ireturn, 1) := by decide +kernel
theorem dX7_hasAbove_24 : decode cX7_hasAbove 24 = .ok (.iinc 4 1, 3) := by decide +kernel
theorem dX7_hasAbove_27 : decode cX7_hasAbove 27 = .ok (.goto (-24), 3) := by decide +kernel
theorem dX7_hasAbove_30 : decode cX7_hasAbove 30 = .ok (.iconst 0, 1) := by decide +kernel
theorem dX7_hasAbove_31 : decode cX7_hasAbove 31 = .ok (.ireturn, 1) := by decide +kernel
theorem dX7_cut_0 : decode cX7_cut 0 = .ok (.aload_n 0, 1) := by decide +kernel
theorem dX7_cut_1 : decode cX7_cut 1 = .ok (.getfield 15, 3) := by decide +kernel
theorem dX7_cut_4 : decode cX7_cut 4 = .ok (.lookupswitch 34 #[(0, 28), (1, 31)], 28) := by decide +kernel
theorem dX7_cut_32 : decode cX7_cut 32 = .ok (.iload_n 1, 1) := by decide +kernel
theorem dX7_cut_33 : decode cX7_cut 33 = .ok (.i2b, 1) := by decide +kernel
theorem dX7_cut_34 : decode cX7_cut 34 = .ok (.ireturn, 1) := by decide +kernel
theorem dX7_cut_35 : decode cX7_cut 35 = .ok (.iload_n 1, 1) := by decide +kernel
theorem dX7_cut_36 : decode cX7_cut 36 = .ok (.i2s, 1) := by decide +kernel
theorem dX7_cut_37 : decode cX7_cut 37 = .ok (.ireturn, 1) := by decide +kernel
theorem dX7_cut_38 : decode cX7_cut 38 = .ok (.iload_n 1, 1) := by decide +kernel
theorem dX7_cut_39 : decode cX7_cut 39 = .ok (.ireturn, 1) := by decide +kernel
theorem dX8_init_0 : decode cX8_init 0 = .ok (.aload_n 0, 1) := by decide +kernel
theorem dX8_init_1 : decode cX8_init 1 = .ok (.invokespecial 3, 3) := by decide +kernel
theorem dX8_init_4 : decode cX8_init 4 = .ok (.aload_n 0, 1) := by decide +kernel
theorem dX8_init_5 : decode cX8_init 5 = .ok (.iload_n 1, 1) := by decide +kernel
theorem dX8_init_6 : decode cX8_init 6 = .ok (.putfield 9, 3) := by decide +kernel
theorem dX8_init_9 : decode cX8_init 9 = .ok (.aload_n 0, 1) := by decide +kernel
theorem dX8_init_10 : decode cX8_init 10 = .ok (.aload_n 2, 1) := by decide +kernel
theorem dX8_init_11 : decode cX8_init 11 = .ok (.putfield 15, 3) := by decide +kernel
theorem dX8_init_14 : decode cX8_init 14 = .ok (.aload_n 0, 1) := by decide +kernel
theorem dX8_init_15 : decode cX8_init 15 = .ok (.aload_n 3, 1) := by decide +kernel
theorem dX8_init_16 : decode cX8_init 16 = .ok (.putfield 19, 3) := by decide +kernel
theorem dX8_init_19 : decode cX8_init 19 = .ok (.aload_n 0, 1) := by decide +kernel
theorem dX8_init_20 : decode cX8_init 20 = .ok (.iload 4, 2) := by decide +kernel
theorem dX8_init_22 : decode cX8_init 22 = .ok (.putfield 23, 3) := by decide +kernel
theorem dX8_init_25 : decode cX8_init 25 = .ok (.return_, 1) := by decide +kernel
theorem dX8_begin_0 : decode cX8_begin 0 = .ok (.aload_n 0, 1) := by decide +kernel
theorem dX8_begin_1 : decode cX8_begin 1 = .ok (.getfield 19, 3) := by decide +kernel
theorem dX8_begin_4 : decode cX8_begin 4 = .ok (.aload_n 0, 1) := by decide +kernel
theorem dX8_begin_5 : decode cX8_begin 5 = .ok (.putfield 26, 3) := by decide +kernel
theorem dX8_begin_8 : decode cX8_begin 8 = .ok (.aload_n 0, 1) := by decide +kernel
theorem dX8_begin_9 : decode cX8_begin 9 = .ok (.getfield 19, 3) := by decide +kernel
theorem dX8_begin_12 : decode cX8_begin 12 = .ok (.dup, 1) := by decide +kernel
theorem dX8_begin_13 : decode cX8_begin 13 = .ok (.getfield 32, 3) := by decide +kernel
theorem dX8_begin_16 : decode cX8_begin 16 = .ok (.iconst 1, 1) := by decide +kernel
theorem dX8_begin_17 : decode cX8_begin 17 = .ok (.iadd, 1) := by decide +kernel
theorem dX8_begin_18 : decode cX8_begin 18 = .ok (.putfield 32, 3) := by decide +kernel
theorem dX8_begin_21 : decode cX8_begin 21 = .ok (.aload_n 0, 1) := by decide +kernel
theorem dX8_begin_22 : decode cX8_begin 22 = .ok (.getfield 15, 3) := by decide +kernel
theorem dX8_begin_25 : decode cX8_begin 25 = .ok (.dup, 1) := by decide +kernel
theorem dX8_begin_26 : decode cX8_begin 26 = .ok (.getfield 35, 3) := by decide +kernel
theorem dX8_begin_29 : decode cX8_begin 29 = .ok (.iconst 1, 1) := by decide +kernel
theorem dX8_begin_30 : decode cX8_begin 30 = .ok (.iadd, 1) := by decide +kernel
theorem dX8_begin_31 : decode cX8_begin 31 = .ok (.putfield 35, 3) := by decide +kernel
theorem dX8_begin_34 : decode cX8_begin 34 = .ok (.aload_n 0, 1) := by decide +kernel
theorem dX8_begin_35 : decode cX8_begin 35 = .ok (.getfield 15, 3) := by decide +kernel
theorem dX8_begin_38 : decode cX8_begin 38 = .ok (.dup, 1) := by decide +kernel
theorem dX8_begin_39 : decode cX8_begin 39 = .ok (.getfield 38, 3) := by decide +kernel
theorem dX8_begin_42 : decode cX8_begin 42 = .ok (.iconst 1, 1) := by decide +kernel
theorem dX8_begin_43 : decode cX8_begin 43 = .ok (.iadd, 1) := by decide +kernel
theorem dX8_begin_44 : decode cX8_begin 44 = .ok (.putfield 38, 3) := by decide +kernel
theorem dX8_begin_47 : decode cX8_begin 47 = .ok (.return_, 1) := by decide +kernel
set_option maxRecDepth 20000 in
theorem ggX8_end_X2_debtTaken : GoodIn wsX8_end wsX2_debtTaken := goodIn_r _ [22, 23, 59, 60, 61, 62, 63, 64, 65, 66, 67, 68, 69, 70] (by decide +kernel) (by decide +kernel)
set_option maxRecDepth 20000 in
theorem gX8_end_X2_debtTaken_u41X1 : GoodIn wsX8_end (va_wsU RX8 41 RX1 "TributePitches$Gang" ⟨"TributePitches$Gang", "debtTaken", "()J"⟩ yX2_debtTaken wsX2_debtTaken) := goodIn_app (goodIn_of _ (by decide +kernel)) ggX8_end_X2_debtTaken
set_option maxRecDepth 20000 in
theorem gX8_end_X2_debtTaken : GoodIn wsX8_end (wsV RX8 41 RX2 yX2_debtTaken wsX2_debtTaken) := goodIn_app (goodIn_r _ [24, 20, 25, 21] (by decide +kernel) (by decide +kernel)) ggX8_end_X2_debtTaken
set_option maxRecDepth 20000 in
theorem ggX8_end_X4_debtTaken : GoodIn wsX8_end wsX4_debtTaken := goodIn_r _ [30, 31, 32, 33, 59, 60, 61, 62, 63, 64, 65, 66, 67, 68, 69, 70] (by decide +kernel) (by decide +kernel)
set_option maxRecDepth 20000 in
theorem gX8_end_X4_debtTaken_u41X4 : GoodIn wsX8_end (va_wsO RX8 41 RX4 "TributePitches$Gang" ⟨"TributePitches$Gang", "debtTaken", "()J"⟩ yX4_debtTaken wsX4_debtTaken) := goodIn_app (goodIn_of _ (by decide +kernel)) ggX8_end_X4_debtTaken
set_option maxRecDepth 20000 in
theorem ggX8_end_X1_costsBorne : GoodIn wsX8_end wsX1_costsBorne := goodIn_r _ [40, 41] (by decide +kernel) (by decide +kernel)
set_option maxRecDepth 20000 in
theorem gX8_end_X1_costsBorne_u54X1 : GoodIn wsX8_end (va_wsO RX8 54 RX1 "TributePitches$Gang" ⟨"TributePitches$Gang", "costsBorne", "(J)J"⟩ yX1_costsBorne wsX1_costsBorne) := goodIn_app (goodIn_of _ (by decide +kernel)) ggX8_end_X1_costsBorne
set_option maxRecDepth 20000 in
theorem ggX8_end_X2_costsBorne : GoodIn wsX8_end wsX2_costsBorne := goodIn_r _ [42] (by decide +kernel) (by decide +kernel)
set_option maxRecDepth 20000 in
theorem gX8_end_X2_costsBorne : GoodIn wsX8_end (wsV RX8 54 RX2 yX2_costsBorne wsX2_costsBorne) := goodIn_app (goodIn_r _ [43, 44, 45, 21] (by decide +kernel) (by decide +kernel)) ggX8_end_X2_costsBorne
set_option maxRecDepth 20000 in
theorem gX8_end_X1_costsBorne_u54X4 : GoodIn wsX8_end (va_wsO RX8 54 RX4 "TributePitches$Gang" ⟨"TributePitches$Gang", "costsBorne", "(J)J"⟩ yX1_costsBorne wsX1_costsBorne) := goodIn_app (goodIn_of _ (by decide +kernel)) ggX8_end_X1_costsBorne
theorem dX8_end_0 : decode cX8_end 0 = .ok (.aload_n 0, 1) := by decide +kernel
theorem dX8_end_1 : decode cX8_end 1 = .ok (.getfield 15, 3) := by decide +kernel
theorem dX8_end_4 : decode cX8_end 4 = .ok (.invokevirtual 41, 3) := by decide +kernel
theorem dX8_end_7 : decode cX8_end 7 = .ok (.lstore_n 1, 1) := by decide +kernel
theorem dX8_end_8 : decode cX8_end 8 = .ok (.aload_n 0, 1) := by decide +kernel
theorem dX8_end_9 : decode cX8_end 9 = .ok (.getfield 23, 3) := by decide +kernel
theorem dX8_end_12 : decode cX8_end 12 = .ok (.i2l, 1) := by decide +kernel
theorem dX8_end_13 : decode cX8_end 13 = .ok (.aload_n 0, 1) := by decide +kernel
theorem dX8_end_14 : decode cX8_end 14 = .ok (.getfield 45, 3) := by decide +kernel
theorem dX8_end_17 : decode cX8_end 17 = .ok (.lmul, 1) := by decide +kernel
theorem dX8_end_18 : decode cX8_end 18 = .ok (.ldc2_w 49, 3) := by decide +kernel
theorem dX8_end_21 : decode cX8_end 21 = .ok (.ldiv, 1) := by decide +kernel
theorem dX8_end_22 : decode cX8_end 22 = .ok (.aload_n 0, 1) := by decide +kernel
theorem dX8_end_23 : decode cX8_end 23 = .ok (.getfield 15, 3) := by decide +kernel
theorem dX8_end_26 : decode cX8_end 26 = .ok (.aload_n 0, 1) := by decide +kernel
theorem dX8_end_27 : decode cX8_end 27 = .ok (.getfield 51, 3) := by decide +kernel
theorem dX8_end_30 : decode cX8_end 30 = .ok (.invokevirtual 54, 3) := by decide +kernel
theorem dX8_end_33 : decode cX8_end 33 = .ok (.lsub, 1) := by decide +kernel
theorem dX8_end_34 : decode cX8_end 34 = .ok (.aload_n 0, 1) := by decide +kernel
theorem dX8_end_35 : decode cX8_end 35 = .ok (.getfield 58, 3) := by decide +kernel
theorem dX8_end_38 : decode cX8_end 38 = .ok (.lsub, 1) := by decide +kernel
theorem dX8_end_39 : decode cX8_end 39 = .ok (.lload_n 1, 1) := by decide +kernel
theorem dX8_end_40 : decode cX8_end 40 = .ok (.lsub, 1) := by decide +kernel
theorem dX8_end_41 : decode cX8_end 41 = .ok (.lstore_n 3, 1) := by decide +kernel
theorem dX8_end_42 : decode cX8_end 42 = .ok (.aload_n 0, 1) := by decide +kernel
theorem dX8_end_43 : decode cX8_end 43 = .ok (.lload_n 3, 1) := by decide +kernel
theorem dX8_end_44 : decode cX8_end 44 = .ok (.lconst 0, 1) := by decide +kernel
theorem dX8_end_45 : decode cX8_end 45 = .ok (.invokestatic 61, 3) := by decide +kernel
theorem dX8_end_48 : decode cX8_end 48 = .ok (.putfield 67, 3) := by decide +kernel
theorem dX8_end_51 : decode cX8_end 51 = .ok (.aload_n 0, 1) := by decide +kernel
theorem dX8_end_52 : decode cX8_end 52 = .ok (.getfield 15, 3) := by decide +kernel
theorem dX8_end_55 : decode cX8_end 55 = .ok (.dup, 1) := by decide +kernel
theorem dX8_end_56 : decode cX8_end 56 = .ok (.getfield 70, 3) := by decide +kernel
theorem dX8_end_59 : decode cX8_end 59 = .ok (.aload_n 0, 1) := by decide +kernel
theorem dX8_end_60 : decode cX8_end 60 = .ok (.getfield 67, 3) := by decide +kernel
theorem dX8_end_63 : decode cX8_end 63 = .ok (.lload_n 3, 1) := by decide +kernel
theorem dX8_end_64 : decode cX8_end 64 = .ok (.lsub, 1) := by decide +kernel
theorem dX8_end_65 : decode cX8_end 65 = .ok (.lload_n 1, 1) := by decide +kernel
theorem dX8_end_66 : decode cX8_end 66 = .ok (.lsub, 1) := by decide +kernel
theorem dX8_end_67 : decode cX8_end 67 = .ok (.ladd, 1) := by decide +kernel
theorem dX8_end_68 : decode cX8_end 68 = .ok (.putfield 70, 3) := by decide +kernel
theorem dX8_end_71 : decode cX8_end 71 = .ok (.aload_n 0, 1) := by decide +kernel
theorem dX8_end_72 : decode cX8_end 72 = .ok (.iconst 1, 1) := by decide +kernel
theorem dX8_end_73 : decode cX8_end 73 = .ok (.putfield 73, 3) := by decide +kernel
theorem dX8_end_76 : decode cX8_end 76 = .ok (.aload_n 0, 1) := by decide +kernel
theorem dX8_end_77 : decode cX8_end 77 = .ok (.getfield 15, 3) := by decide +kernel
theorem dX8_end_80 : decode cX8_end 80 = .ok (.dup, 1) := by decide +kernel
theorem dX8_end_81 : decode cX8_end 81 = .ok (.getfield 38, 3) := by decide +kernel
theorem dX8_end_84 : decode cX8_end 84 = .ok (.iconst 1, 1) := by decide +kernel
theorem dX8_end_85 : decode cX8_end 85 = .ok (.isub, 1) := by decide +kernel
theorem dX8_end_86 : decode cX8_end 86 = .ok (.putfield 38, 3) := by decide +kernel
theorem dX8_end_89 : decode cX8_end 89 = .ok (.aload_n 0, 1) := by decide +kernel
theorem dX8_end_90 : decode cX8_end 90 = .ok (.getfield 19, 3) := by decide +kernel
theorem dX8_end_93 : decode cX8_end 93 = .ok (.aconst_null, 1) := by decide +kernel
theorem dX8_end_94 : decode cX8_end 94 = .ok (.putfield 26, 3) := by decide +kernel
theorem dX8_end_97 : decode cX8_end 97 = .ok (.return_, 1) := by decide +kernel
theorem dX9_init_0 : decode cX9_init 0 = .ok (.aload_n 0, 1) := by decide +kernel
theorem dX9_init_1 : decode cX9_init 1 = .ok (.invokespecial 1, 3) := by decide +kernel
theorem dX9_init_4 : decode cX9_init 4 = .ok (.return_, 1) := by decide +kernel
theorem dX9_leave_0 : decode cX9_leave 0 = .ok (.aload_n 0, 1) := by decide +kernel
theorem dX9_leave_1 : decode cX9_leave 1 = .ok (.bipush 31, 2) := by decide +kernel
theorem dX9_leave_3 : decode cX9_leave 3 = .ok (.aload_n 0, 1) := by decide +kernel
theorem dX9_leave_4 : decode cX9_leave 4 = .ok (.getfield 7, 3) := by decide +kernel
theorem dX9_leave_7 : decode cX9_leave 7 = .ok (.imul, 1) := by decide +kernel
theorem dX9_leave_8 : decode cX9_leave 8 = .ok (.iload_n 1, 1) := by decide +kernel
theorem dX9_leave_9 : decode cX9_leave 9 = .ok (.iadd, 1) := by decide +kernel
theorem dX9_leave_10 : decode cX9_leave 10 = .ok (.putfield 7, 3) := by decide +kernel
theorem dX9_leave_13 : decode cX9_leave 13 = .ok (.return_, 1) := by decide +kernel
set_option maxRecDepth 20000 in
theorem ggX10_init_X3_init : GoodIn wsX10_init wsX3_init := goodIn_r _ [27, 28, 2, 3, 29, 30, 31, 32, 33, 34, 35, 36, 37, 38, 47, 48, 49, 50, 51] (by decide +kernel) (by decide +kernel)
set_option maxRecDepth 20000 in
theorem gX10_init_X3_init : GoodIn wsX10_init (wsX3_init) := ggX10_init_X3_init
set_option maxRecDepth 20000 in
theorem ggX10_init_X7_init : GoodIn wsX10_init wsX7_init := goodIn_r _ [40, 41, 2, 3, 29, 42, 43, 65, 66, 67] (by decide +kernel) (by decide +kernel)
set_option maxRecDepth 20000 in
theorem gX10_init_X7_init_n44 : GoodIn wsX10_init (wsX7_init) := ggX10_init_X7_init
set_option maxRecDepth 20000 in
theorem ggX10_init_X9_init : GoodIn wsX10_init wsX9_init := goodIn_r _ [45, 46, 2, 3] (by decide +kernel) (by decide +kernel)
set_option maxRecDepth 20000 in
theorem gX10_init_X9_init_n51 : GoodIn wsX10_init (wsX9_init) := ggX10_init_X9_init
theorem dX10_init_0 : decode cX10_init 0 = .ok (.aload_n 0, 1) := by decide +kernel
theorem dX10_init_1 : decode cX10_init 1 = .ok (.invokespecial 3, 3) := by decide +kernel
theorem dX10_init_4 : decode cX10_init 4 = .ok (.aload_n 0, 1) := by decide +kernel
theorem dX10_init_5 : decode cX10_init 5 = .ok (.new 9, 3) := by decide +kernel
theorem dX10_init_8 : decode cX10_init 8 = .ok (.dup, 1) := by decide +kernel
theorem dX10_init_9 : decode cX10_init 9 = .ok (.invokespecial 11, 3) := by decide +kernel
theorem dX10_init_12 : decode cX10_init 12 = .ok (.putfield 12, 3) := by decide +kernel
theorem dX10_init_15 : decode cX10_init 15 = .ok (.aload_n 0, 1) := by decide +kernel
theorem dX10_init_16 : decode cX10_init 16 = .ok (.bipush 12, 2) := by decide +kernel
theorem dX10_init_18 : decode cX10_init 18 = .ok (.anewarray 18, 3) := by decide +kernel
theorem dX10_init_21 : decode cX10_init 21 = .ok (.putfield 20, 3) := by decide +kernel
theorem dX10_init_24 : decode cX10_init 24 = .ok (.aload_n 0, 1) := by decide +kernel
theorem dX10_init_25 : decode cX10_init 25 = .ok (.bipush 8, 2) := by decide +kernel
theorem dX10_init_27 : decode cX10_init 27 = .ok (.anewarray 24, 3) := by decide +kernel
theorem dX10_init_30 : decode cX10_init 30 = .ok (.putfield 26, 3) := by decide +kernel
theorem dX10_init_33 : decode cX10_init 33 = .ok (.aload_n 0, 1) := by decide +kernel
theorem dX10_init_34 : decode cX10_init 34 = .ok (.bipush 40, 2) := by decide +kernel
theorem dX10_init_36 : decode cX10_init 36 = .ok (.anewarray 30, 3) := by decide +kernel
theorem dX10_init_39 : decode cX10_init 39 = .ok (.putfield 32, 3) := by decide +kernel
theorem dX10_init_42 : decode cX10_init 42 = .ok (.aload_n 0, 1) := by decide +kernel
theorem dX10_init_43 : decode cX10_init 43 = .ok (.bipush 80, 2) := by decide +kernel
theorem dX10_init_45 : decode cX10_init 45 = .ok (.anewarray 36, 3) := by decide +kernel
theorem dX10_init_48 : decode cX10_init 48 = .ok (.putfield 38, 3) := by decide +kernel
theorem dX10_init_51 : decode cX10_init 51 = .ok (.aload_n 0, 1) := by decide +kernel
theorem dX10_init_52 : decode cX10_init 52 = .ok (.iconst 4, 1) := by decide +kernel
theorem dX10_init_53 : decode cX10_init 53 = .ok (.anewarray 42, 3) := by decide +kernel
theorem dX10_init_56 : decode cX10_init 56 = .ok (.dup, 1) := by decide +kernel
theorem dX10_init_57 : decode cX10_init 57 = .ok (.iconst 0, 1) := by decide +kernel
theorem dX10_init_58 : decode cX10_init 58 = .ok (.new 42, 3) := by decide +kernel
theorem dX10_init_61 : decode cX10_init 61 = .ok (.dup, 1) := by decide +kernel
theorem dX10_init_62 : decode cX10_init 62 = .ok (.invokespecial 44, 3) := by decide +kernel
theorem dX10_init_65 : decode cX10_init 65 = .ok (.aastore, 1) := by decide +kernel
theorem dX10_init_66 : decode cX10_init 66 = .ok (.dup, 1) := by decide +kernel
theorem dX10_init_67 : decode cX10_init 67 = .ok (.iconst 1, 1) := by decide +kernel
theorem dX10_init_68 : decode cX10_init 68 = .ok (.new 42, 3) := by decide +kernel
theorem dX10_init_71 : decode cX10_init 71 = .ok (.dup, 1) := by decide +kernel
theorem dX10_init_72 : decode cX10_init 72 = .ok (.invokespecial 44, 3) := by decide +kernel
theorem dX10_init_75 : decode cX10_init 75 = .ok (.aastore, 1) := by decide +kernel
theorem dX10_init_76 : decode cX10_init 76 = .ok (.dup, 1) := by decide +kernel
theorem dX10_init_77 : decode cX10_init 77 = .ok (.iconst 2, 1) := by decide +kernel
theorem dX10_init_78 : decode cX10_init 78 = .ok (.new 42, 3) := by decide +kernel
theorem dX10_init_81 : decode cX10_init 81 = .ok (.dup, 1) := by decide +kernel
theorem dX10_init_82 : decode cX10_init 82 = .ok (.invokespecial 44, 3) := by decide +kernel
theorem dX10_init_85 : decode cX10_init 85 = .ok (.aastore, 1) := by decide +kernel
theorem dX10_init_86 : decode cX10_init 86 = .ok (.dup, 1) := by decide +kernel
theorem dX10_init_87 : decode cX10_init 87 = .ok (.iconst 3, 1) := by decide +kernel
theorem dX10_init_88 : decode cX10_init 88 = .ok (.new 42, 3) := by decide +kernel
theorem dX10_init_91 : decode cX10_init 91 = .ok (.dup, 1) := by decide +kernel
theorem dX10_init_92 : decode cX10_init 92 = .ok (.invokespecial 44, 3) := by decide +kernel
theorem dX10_init_95 : decode cX10_init 95 = .ok (.aastore, 1) := by decide +kernel
theorem dX10_init_96 : decode cX10_init 96 = .ok (.putfield 45, 3) := by decide +kernel
theorem dX10_init_99 : decode cX10_init 99 = .ok (.aload_n 0, 1) := by decide +kernel
theorem dX10_init_100 : decode cX10_init 100 = .ok (.new 49, 3) := by decide +kernel
theorem dX10_init_103 : decode cX10_init 103 = .ok (.dup, 1) := by decide +kernel
theorem dX10_init_104 : decode cX10_init 104 = .ok (.invokespecial 51, 3) := by decide +kernel
theorem dX10_init_107 : decode cX10_init 107 = .ok (.putfield 52, 3) := by decide +kernel
theorem dX10_init_110 : decode cX10_init 110 = .ok (.aload_n 0, 1) := by decide +kernel
theorem dX10_init_111 : decode cX10_init 111 = .ok (.iconst 0, 1) := by decide +kernel
theorem dX10_init_112 : decode cX10_init 112 = .ok (.putfield 56, 3) := by decide +kernel
theorem dX10_init_115 : decode cX10_init 115 = .ok (.return_, 1) := by decide +kernel
set_option maxRecDepth 20000 in
theorem ggX10_find_X3_hasSquare : GoodIn wsX10_find wsX3_hasSquare := goodIn_r _ [6, 7, 8, 9] (by decide +kernel) (by decide +kernel)
set_option maxRecDepth 20000 in
theorem gX10_find_X3_hasSquare : GoodIn wsX10_find (va_wsS RX10 60 yX3_hasSquare wsX3_hasSquare) := goodIn_app (goodIn_r _ [3, 4, 5] (by decide +kernel) (by decide +kernel)) ggX10_find_X3_hasSquare
set_option maxRecDepth 20000 in
theorem ggX10_find_X10_isWithin : GoodIn wsX10_find wsX10_isWithin := goodIn_r _ [9] (by decide +kernel) (by decide +kernel)
set_option maxRecDepth 20000 in
theorem gX10_find_X10_isWithin : GoodIn wsX10_find (va_wsS RX10 64 yX10_isWithin wsX10_isWithin) := goodIn_app (goodIn_r _ [10, 7, 8] (by decide +kernel) (by decide +kernel)) ggX10_find_X10_isWithin
set_option maxRecDepth 20000 in
theorem ggX10_find_X3_beginTrial : GoodIn wsX10_find wsX3_beginTrial := goodIn_r _ [14, 15, 16, 17, 18, 19, 20, 21, 22, 64, 65, 66, 67, 68] (by decide +kernel) (by decide +kernel)
set_option maxRecDepth 20000 in
theorem gX10_find_X3_beginTrial : GoodIn wsX10_find (wsV RX10 68 RX3 yX3_beginTrial wsX3_beginTrial) := goodIn_app (goodIn_r _ [11, 12, 13, 5] (by decide +kernel) (by decide +kernel)) ggX10_find_X3_beginTrial
set_option maxRecDepth 20000 in
theorem ggX10_find_X3_numberOf : GoodIn wsX10_find wsX3_numberOf := goodIn_r _ [25] (by decide +kernel) (by decide +kernel)
set_option maxRecDepth 20000 in
theorem gX10_find_X3_numberOf : GoodIn wsX10_find (va_wsS RX10 71 yX3_numberOf wsX3_numberOf) := goodIn_app (goodIn_r _ [23, 24, 5] (by decide +kernel) (by decide +kernel)) ggX10_find_X3_numberOf
set_option maxRecDepth 20000 in
theorem ggX10_find_X3_tryCommon : GoodIn wsX10_find wsX3_tryCommon := goodIn_r _ [29, 16, 30, 31, 32, 33, 22, 34, 35, 36, 64, 65, 66, 67, 68] (by decide +kernel) (by decide +kernel)
set_option maxRecDepth 20000 in
theorem gX10_find_X3_tryCommon : GoodIn wsX10_find (wsV RX10 75 RX3 yX3_tryCommon wsX3_tryCommon) := goodIn_app (goodIn_r _ [26, 27, 28, 5] (by decide +kernel) (by decide +kernel)) ggX10_find_X3_tryCommon
set_option maxRecDepth 20000 in
theorem ggX10_find_X3_endTrial : GoodIn wsX10_find wsX3_endTrial := goodIn_r _ [40, 16, 22, 15, 21, 17, 18, 19, 20, 41, 42, 43, 44, 5, 45, 46, 47, 48, 49, 50, 27, 28, 29, 30, 31, 32, 33, 34, 35, 36, 64, 65, 66, 67, 68] (by decide +kernel) (by decide +kernel)
set_option maxRecDepth 20000 in
theorem gX10_find_X3_endTrial : GoodIn wsX10_find (wsV RX10 82 RX3 yX3_endTrial wsX3_endTrial) := goodIn_app (goodIn_r _ [37, 38, 39, 5] (by decide +kernel) (by decide +kernel)) ggX10_find_X3_endTrial
theorem dX10_find_0 : decode cX10_find 0 = .ok (.iload_n 1, 1) := by decide +kernel
theorem dX10_find_1 : decode cX10_find 1 = .ok (.iload_n 2, 1) := by decide +kernel
theorem dX10_find_2 : decode cX10_find 2 = .ok (.invokestatic 60, 3) := by decide +kernel
theorem dX10_find_5 : decode cX10_find 5 = .ok (.ifCond .ne 5, 3) := by decide +kernel
theorem dX10_find_8 : decode cX10_find 8 = .ok (.iconst (-1), 1) := by decide +kernel
theorem dX10_find_9 : decode cX10_find 9 = .ok (.ireturn, 1) := by decide +kernel
theorem dX10_find_10 : decode cX10_find 10 = .ok (.iload_n 3, 1) := by decide +kernel
theorem dX10_find_11 : decode cX10_find 11 = .ok (.iconst 0, 1) := by decide +kernel
theorem dX10_find_12 : decode cX10_find 12 = .ok (.sipush 1000, 3) := by decide +kernel
theorem dX10_find_15 : decode cX10_find 15 = .ok (.invokestatic 64, 3) := by decide +kernel
theorem dX10_find_18 : decode cX10_find 18 = .ok (.ifCond .eq 21, 3) := by decide +kernel
theorem dX10_find_21 : decode cX10_find 21 = .ok (.iload 4, 2) := by decide +kernel
theorem dX10_find_23 : decode cX10_find 23 = .ok (.iconst 0, 1) := by decide +kernel
theorem dX10_find_24 : decode cX10_find 24 = .ok (.sipush 1000, 3) := by decide +kernel
theorem dX10_find_27 : decode cX10_find 27 = .ok (.invokestatic 64, 3) := by decide +kernel
theorem dX10_find_30 : decode cX10_find 30 = .ok (.ifCond .eq 9, 3) := by decide +kernel
theorem dX10_find_33 : decode cX10_find 33 = .ok (.iload_n 3, 1) := by decide +kernel
theorem dX10_find_34 : decode cX10_find 34 = .ok (.iload 4, 2) := by decide +kernel
theorem dX10_find_36 : decode cX10_find 36 = .ok (.if_icmp .le 6, 3) := by decide +kernel
theorem dX10_find_39 : decode cX10_find 39 = .ok (.bipush (-2), 2) := by decide +kernel
theorem dX10_find_41 : decode cX10_find 41 = .ok (.ireturn, 1) := by decide +kernel
theorem dX10_find_42 : decode cX10_find 42 = .ok (.aload_n 0, 1) := by decide +kernel
theorem dX10_find_43 : decode cX10_find 43 = .ok (.getfield 12, 3) := by decide +kernel
theorem dX10_find_46 : decode cX10_find 46 = .ok (.invokevirtual 68, 3) := by decide +kernel
theorem dX10_find_49 : decode cX10_find 49 = .ok (.aload_n 0, 1) := by decide +kernel
theorem dX10_find_50 : decode cX10_find 50 = .ok (.getfield 12, 3) := by decide +kernel
theorem dX10_find_53 : decode cX10_find 53 = .ok (.iload_n 1, 1) := by decide +kernel
theorem dX10_find_54 : decode cX10_find 54 = .ok (.iload_n 2, 1) := by decide +kernel
theorem dX10_find_55 : decode cX10_find 55 = .ok (.invokestatic 71, 3) := by decide +kernel
theorem dX10_find_58 : decode cX10_find 58 = .ok (.iload_n 3, 1) := by decide +kernel
theorem dX10_find_59 : decode cX10_find 59 = .ok (.iload 4, 2) := by decide +kernel
theorem dX10_find_61 : decode cX10_find 61 = .ok (.invokevirtual 75, 3) := by decide +kernel
theorem dX10_find_64 : decode cX10_find 64 = .ok (.aload_n 0, 1) := by decide +kernel
theorem dX10_find_65 : decode cX10_find 65 = .ok (.getfield 12, 3) := by decide +kernel
theorem dX10_find_68 : decode cX10_find 68 = .ok (.aload_n 0, 1) := by decide +kernel
theorem dX10_find_69 : decode cX10_find 69 = .ok (.getfield 12, 3) := by decide +kernel
theorem dX10_find_72 : decode cX10_find 72 = .ok (.getfield 79, 3) := by decide +kernel
theorem dX10_find_75 : decode cX10_find 75 = .ok (.invokevirtual 82, 3) := by decide +kernel
theorem dX10_find_78 : decode cX10_find 78 = .ok (.ireturn, 1) := by decide +kernel
set_option maxRecDepth 20000 in
theorem ggX10_rise_X10_isWithin : GoodIn wsX10_rise wsX10_isWithin := goodIn_r _ [6] (by decide +kernel) (by decide +kernel)
set_option maxRecDepth 20000 in
theorem gX10_rise_X10_isWithin : GoodIn wsX10_rise (va_wsS RX10 64 yX10_isWithin wsX10_isWithin) := goodIn_app (goodIn_r _ [3, 4, 5] (by decide +kernel) (by decide +kernel)) ggX10_rise_X10_isWithin
set_option maxRecDepth 20000 in
theorem ggX10_rise_X3_beginTrial : GoodIn wsX10_rise wsX3_beginTrial := goodIn_r _ [11, 12, 13, 14, 15, 16, 17, 18, 19, 57, 58, 59, 60, 61] (by decide +kernel) (by decide +kernel)
set_option maxRecDepth 20000 in
theorem gX10_rise_X3_beginTrial : GoodIn wsX10_rise (wsV RX10 68 RX3 yX3_beginTrial wsX3_beginTrial) := goodIn_app (goodIn_r _ [7, 8, 9, 10] (by decide +kernel) (by decide +kernel)) ggX10_rise_X3_beginTrial
set_option maxRecDepth 20000 in
theorem ggX10_rise_X3_endTrial : GoodIn wsX10_rise wsX3_endTrial := goodIn_r _ [23, 13, 19, 12, 18, 14, 15, 16, 17, 24, 25, 26, 27, 10, 28, 29, 30, 31, 32, 33, 34, 35, 36, 37, 38, 39, 40, 41, 42, 43, 57, 58, 59, 60, 61] (by decide +kernel) (by decide +kernel)
set_option maxRecDepth 20000 in
theorem gX10_rise_X3_endTrial : GoodIn wsX10_rise (wsV RX10 82 RX3 yX3_endTrial wsX3_endTrial) := goodIn_app (goodIn_r _ [20, 21, 22, 10] (by decide +kernel) (by decide +kernel)) ggX10_rise_X3_endTrial
theorem dX10_rise_0 : decode cX10_rise 0 = .ok (.iload_n 1, 1) := by decide +kernel
theorem dX10_rise_1 : decode cX10_rise 1 = .ok (.iconst 0, 1) := by decide +kernel
theorem dX10_rise_2 : decode cX10_rise 2 = .ok (.sipush 1000, 3) := by decide +kernel
theorem dX10_rise_5 : decode cX10_rise 5 = .ok (.invokestatic 64, 3) := by decide +kernel
theorem dX10_rise_8 : decode cX10_rise 8 = .ok (.ifCond .ne 6, 3) := by decide +kernel
theorem dX10_rise_11 : decode cX10_rise 11 = .ok (.bipush (-2), 2) := by decide +kernel
theorem dX10_rise_13 : decode cX10_rise 13 = .ok (.ireturn, 1) := by decide +kernel
theorem dX10_rise_14 : decode cX10_rise 14 = .ok (.iload_n 1, 1) := by decide +kernel
theorem dX10_rise_15 : decode cX10_rise 15 = .ok (.aload_n 0, 1) := by decide +kernel
theorem dX10_rise_16 : decode cX10_rise 16 = .ok (.getfield 12, 3) := by decide +kernel
theorem dX10_rise_19 : decode cX10_rise 19 = .ok (.getfield 79, 3) := by decide +kernel
theorem dX10_rise_22 : decode cX10_rise 22 = .ok (.if_icmp .le 6, 3) := by decide +kernel
theorem dX10_rise_25 : decode cX10_rise 25 = .ok (.bipush (-3), 2) := by decide +kernel
theorem dX10_rise_27 : decode cX10_rise 27 = .ok (.ireturn, 1) := by decide +kernel
theorem dX10_rise_28 : decode cX10_rise 28 = .ok (.aload_n 0, 1) := by decide +kernel
theorem dX10_rise_29 : decode cX10_rise 29 = .ok (.getfield 12, 3) := by decide +kernel
theorem dX10_rise_32 : decode cX10_rise 32 = .ok (.invokevirtual 68, 3) := by decide +kernel
theorem dX10_rise_35 : decode cX10_rise 35 = .ok (.aload_n 0, 1) := by decide +kernel
theorem dX10_rise_36 : decode cX10_rise 36 = .ok (.getfield 12, 3) := by decide +kernel
theorem dX10_rise_39 : decode cX10_rise 39 = .ok (.iload_n 1, 1) := by decide +kernel
theorem dX10_rise_40 : decode cX10_rise 40 = .ok (.invokevirtual 82, 3) := by decide +kernel
theorem dX10_rise_43 : decode cX10_rise 43 = .ok (.ireturn, 1) := by decide +kernel
set_option maxRecDepth 20000 in
theorem ggX10_good_X3_hasSquare : GoodIn wsX10_good wsX3_hasSquare := goodIn_r _ [7, 8, 9, 10] (by decide +kernel) (by decide +kernel)
set_option maxRecDepth 20000 in
theorem gX10_good_X3_hasSquare : GoodIn wsX10_good (va_wsS RX10 60 yX3_hasSquare wsX3_hasSquare) := goodIn_app (goodIn_r _ [4, 5, 6] (by decide +kernel) (by decide +kernel)) ggX10_good_X3_hasSquare
set_option maxRecDepth 20000 in
theorem ggX10_good_X10_isWithin : GoodIn wsX10_good wsX10_isWithin := goodIn_r _ [10] (by decide +kernel) (by decide +kernel)
set_option maxRecDepth 20000 in
theorem gX10_good_X10_isWithin : GoodIn wsX10_good (va_wsS RX10 64 yX10_isWithin wsX10_isWithin) := goodIn_app (goodIn_r _ [11, 8, 9] (by decide +kernel) (by decide +kernel)) ggX10_good_X10_isWithin
set_option maxRecDepth 20000 in
theorem ggX10_good_X3_numberOf : GoodIn wsX10_good wsX3_numberOf := goodIn_r _ [14] (by decide +kernel) (by decide +kernel)
set_option maxRecDepth 20000 in
theorem gX10_good_X3_numberOf : GoodIn wsX10_good (va_wsS RX10 71 yX3_numberOf wsX3_numberOf) := goodIn_app (goodIn_r _ [12, 13, 6] (by decide +kernel) (by decide +kernel)) ggX10_good_X3_numberOf
theorem dX10_good_0 : decode cX10_good 0 = .ok (.iload_n 1, 1) := by decide +kernel
theorem dX10_good_1 : decode cX10_good 1 = .ok (.iload_n 2, 1) := by decide +kernel
theorem dX10_good_2 : decode cX10_good 2 = .ok (.invokestatic 60, 3) := by decide +kernel
theorem dX10_good_5 : decode cX10_good 5 = .ok (.ifCond .ne 5, 3) := by decide +kernel
theorem dX10_good_8 : decode cX10_good 8 = .ok (.iconst (-1), 1) := by decide +kernel
theorem dX10_good_9 : decode cX10_good 9 = .ok (.ireturn, 1) := by decide +kernel
theorem dX10_good_10 : decode cX10_good 10 = .ok (.iload_n 3, 1) := by decide +kernel
theorem dX10_good_11 : decode cX10_good 11 = .ok (.iconst 0, 1) := by decide +kernel
theorem dX10_good_12 : decode cX10_good 12 = .ok (.iconst 1, 1) := by decide +kernel
theorem dX10_good_13 : decode cX10_good 13 = .ok (.invokestatic 64, 3) := by decide +kernel
theorem dX10_good_16 : decode cX10_good 16 = .ok (.ifCond .ne 6, 3) := by decide +kernel
theorem dX10_good_19 : decode cX10_good 19 = .ok (.bipush (-2), 2) := by decide +kernel
theorem dX10_good_21 : decode cX10_good 21 = .ok (.ireturn, 1) := by decide +kernel
theorem dX10_good_22 : decode cX10_good 22 = .ok (.iload_n 1, 1) := by decide +kernel
theorem dX10_good_23 : decode cX10_good 23 = .ok (.iload_n 2, 1) := by decide +kernel
theorem dX10_good_24 : decode cX10_good 24 = .ok (.invokestatic 71, 3) := by decide +kernel
theorem dX10_good_27 : decode cX10_good 27 = .ok (.istore 4, 2) := by decide +kernel
theorem dX10_good_29 : decode cX10_good 29 = .ok (.iload_n 3, 1) := by decide +kernel
theorem dX10_good_30 : decode cX10_good 30 = .ok (.ifCond .ne 16, 3) := by decide +kernel
theorem dX10_good_33 : decode cX10_good 33 = .ok (.aload_n 0, 1) := by decide +kernel
theorem dX10_good_34 : decode cX10_good 34 = .ok (.getfield 12, 3) := by decide +kernel
theorem dX10_good_37 : decode cX10_good 37 = .ok (.getfield 86, 3) := by decide +kernel
theorem dX10_good_40 : decode cX10_good 40 = .ok (.iload 4, 2) := by decide +kernel
theorem dX10_good_42 : decode cX10_good 42 = .ok (.iaload, 1) := by decide +kernel
theorem dX10_good_43 : decode cX10_good 43 = .ok (.goto 13, 3) := by decide +kernel
