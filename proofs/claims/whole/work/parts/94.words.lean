/-! the words of the law's table are the tables' own -/
theorem mem_at {big ws : List Cond} (ps : List Nat) (hp : ws = ps.filterMap (fun i => big[i]?)) : ∀ w ∈ ws, w ∈ big := by
  intro w hw
  rw [hp] at hw
  obtain ⟨i, -, hi⟩ := List.mem_filterMap.mp hw
  exact List.mem_of_getElem? hi
set_option maxRecDepth 20000 in
theorem inlw_r1 : ∀ w ∈ wsL_law0_r1, w ∈ lw_tbl := mem_at [90, 91, 75, 784, 785, 81, 1131, 92, 93, 94, 95, 96, 97, 98, 292, 100, 293, 102, 294, 295, 296, 104, 297, 298] (by decide +kernel)
set_option maxRecDepth 20000 in
theorem inlw_r2 : ∀ w ∈ wsL_law0_r2, w ∈ lw_tbl := mem_at [162, 299, 106, 76, 163, 77, 169, 78, 245, 80, 108, 109, 110, 165, 166, 167, 168, 227, 229, 171, 172, 173, 174, 202] (by decide +kernel)
set_option maxRecDepth 20000 in
theorem inlw_r3 : ∀ w ∈ wsL_law0_r3, w ∈ lw_tbl := mem_at [203, 176, 79, 178, 179, 180, 247, 248, 249, 250, 251, 253, 255, 264, 266, 0, 267, 268, 270, 1, 271, 272, 274, 2] (by decide +kernel)
set_option maxRecDepth 20000 in
theorem inlw_r4 : ∀ w ∈ wsL_law0_r4, w ∈ lw_tbl := mem_at [275, 276, 278, 3, 279, 280, 282, 4, 283, 302, 303, 304, 300, 301, 286, 5, 287, 204, 205, 207, 209, 210, 290, 6] (by decide +kernel)
set_option maxRecDepth 20000 in
theorem inlw_r5 : ∀ w ∈ wsL_law0_r5, w ∈ lw_tbl := mem_at [291, 231, 233, 786, 787, 788, 789, 795, 796, 799, 800, 801, 802, 803, 804, 805, 806, 807, 808, 809, 810, 811, 812, 813] (by decide +kernel)
set_option maxRecDepth 20000 in
theorem inlw_r6 : ∀ w ∈ wsL_law0_r6, w ∈ lw_tbl := mem_at [814, 815, 816, 817, 818, 819, 820, 903, 821, 822, 823, 824, 825, 826, 827, 828, 790, 792, 47, 793, 797, 798, 399, 400] (by decide +kernel)
set_option maxRecDepth 20000 in
theorem inlw_r7 : ∀ w ∈ wsL_law0_r7, w ∈ lw_tbl := mem_at [74, 401, 402, 403, 404, 405, 406, 410, 85, 407, 408, 409, 908, 909, 910, 911, 794, 912, 913, 914, 915, 917, 48, 918] (by decide +kernel)
set_option maxRecDepth 20000 in
theorem inlw_r8 : ∀ w ∈ wsL_law0_r8, w ∈ lw_tbl := mem_at [829, 904, 905, 906, 907, 478, 479, 480, 481, 482, 483, 484, 485, 492, 86, 486, 487, 488, 510, 17, 511, 111, 113, 115] (by decide +kernel)
set_option maxRecDepth 20000 in
theorem inlw_r9 : ∀ w ∈ wsL_law0_r9, w ∈ lw_tbl := mem_at [116, 118, 120, 122, 124, 126, 127, 129, 131, 133, 919, 920, 921, 922, 923, 924, 925, 512, 513, 514, 515, 516, 517, 518] (by decide +kernel)
set_option maxRecDepth 20000 in
theorem inlw_r10 : ∀ w ∈ wsL_law0_r10, w ∈ lw_tbl := mem_at [519, 520, 521, 523, 525, 18, 526, 926, 927, 928, 929, 930, 931, 932, 933, 934, 935, 936, 937, 938, 528, 529, 530, 531] (by decide +kernel)
set_option maxRecDepth 20000 in
theorem inlw_r11 : ∀ w ∈ wsL_law0_r11, w ∈ lw_tbl := mem_at [532, 533, 534, 393, 394, 87, 395, 396, 397, 398, 939, 940, 941, 942, 536, 537, 538, 539, 540, 541, 542, 544, 546, 548] (by decide +kernel)
set_option maxRecDepth 20000 in
theorem inlw_r12 : ∀ w ∈ wsL_law0_r12, w ∈ lw_tbl := mem_at [19, 549, 550, 552, 20, 553, 556, 21, 557, 558, 560, 22, 561, 564, 23, 565, 568, 24, 569, 572, 25, 573, 574, 576] (by decide +kernel)
set_option maxRecDepth 20000 in
theorem inlw_r13 : ∀ w ∈ wsL_law0_r13, w ∈ lw_tbl := mem_at [26, 577, 385, 14, 386, 578, 580, 27, 581, 582, 584, 28, 585, 586, 588, 29, 589, 590, 592, 30, 593, 594, 596, 31] (by decide +kernel)
set_option maxRecDepth 20000 in
theorem inlw_r14 : ∀ w ∈ wsL_law0_r14, w ∈ lw_tbl := mem_at [597, 381, 13, 382, 598, 600, 32, 601, 602, 604, 33, 605, 606, 608, 34, 609, 612, 35, 613, 616, 36, 617, 618, 620] (by decide +kernel)
set_option maxRecDepth 20000 in
theorem inlw_r15 : ∀ w ∈ wsL_law0_r15, w ∈ lw_tbl := mem_at [37, 621, 624, 38, 625, 629, 39, 630, 633, 40, 634, 181, 184, 187, 190, 636, 638, 41, 639, 640, 642, 42, 643, 644] (by decide +kernel)
set_option maxRecDepth 20000 in
theorem inlw_r16 : ∀ w ∈ wsL_law0_r16, w ∈ lw_tbl := mem_at [646, 43, 647, 362, 9, 363, 377, 12, 378, 379, 383, 648, 650, 44, 651, 652, 654, 45, 655, 943, 944, 945, 946, 947] (by decide +kernel)
set_option maxRecDepth 20000 in
theorem inlw_r17 : ∀ w ∈ wsL_law0_r17, w ∈ lw_tbl := mem_at [948, 950, 49, 951, 952, 954, 50, 955, 956, 958, 51, 959, 960, 962, 52, 963, 964, 966, 53, 967, 968, 970, 54, 971] (by decide +kernel)
set_option maxRecDepth 20000 in
theorem inlw_r18 : ∀ w ∈ wsL_law0_r18, w ∈ lw_tbl := mem_at [972, 974, 55, 975, 976, 978, 56, 979, 980, 982, 57, 983, 984, 986, 58, 987, 988, 990, 59, 991, 992, 994, 60, 995] (by decide +kernel)
set_option maxRecDepth 20000 in
theorem inlw_r19 : ∀ w ∈ wsL_law0_r19, w ∈ lw_tbl := mem_at [996, 998, 61, 999, 1000, 1001, 1002, 1003, 1005, 62, 1006, 1007, 1009, 63, 1010, 1011, 1013, 64, 1014, 1015, 1017, 65, 1018, 1019] (by decide +kernel)
set_option maxRecDepth 20000 in
theorem inlw_r20 : ∀ w ∈ wsL_law0_r20, w ∈ lw_tbl := mem_at [1021, 66, 1022, 1023, 1025, 67, 1026, 1027, 1029, 68, 1030, 332, 333, 334, 335, 1031, 1032, 1033, 1034, 336, 337, 338, 339, 1035] (by decide +kernel)
set_option maxRecDepth 20000 in
theorem inlw_r21 : ∀ w ∈ wsL_law0_r21, w ∈ lw_tbl := mem_at [1036, 1037, 1038, 657, 658, 659, 660, 661, 662, 663, 664, 665, 667, 46, 668, 669, 88, 1039, 1040, 1041, 1042, 1043, 1045, 69] (by decide +kernel)
set_option maxRecDepth 20000 in
theorem inlw_r22 : ∀ w ∈ wsL_law0_r22, w ∈ lw_tbl := mem_at [1046, 1047, 1049, 70, 1050, 685, 686, 687, 688, 689, 690, 691, 1051, 1052, 1053, 1054, 692, 693, 694, 695, 696, 697, 698, 1055] (by decide +kernel)
set_option maxRecDepth 20000 in
theorem inlw_r23 : ∀ w ∈ wsL_law0_r23, w ∈ lw_tbl := mem_at [1056, 1057, 1058, 699, 700, 701, 702, 703, 704, 705, 1059, 1060, 1061, 1062, 706, 707, 708, 709, 710, 711, 712, 1063, 1064, 1065] (by decide +kernel)
set_option maxRecDepth 20000 in
theorem inlw_r24 : ∀ w ∈ wsL_law0_r24, w ∈ lw_tbl := mem_at [1066, 713, 714, 715, 716, 717, 718, 719, 1067, 1068, 1069, 1070, 720, 721, 722, 723, 724, 725, 726, 1071, 1072, 1073, 1074, 727] (by decide +kernel)
set_option maxRecDepth 20000 in
theorem inlw_r25 : ∀ w ∈ wsL_law0_r25, w ∈ lw_tbl := mem_at [728, 729, 730, 731, 732, 733, 1075, 1076, 1077, 1078, 734, 735, 736, 737, 738, 739, 740, 1079, 1080, 1081, 1082, 741, 742, 743] (by decide +kernel)
set_option maxRecDepth 20000 in
theorem inlw_r26 : ∀ w ∈ wsL_law0_r26, w ∈ lw_tbl := mem_at [744, 745, 746, 747, 1083, 1084, 1085, 1086, 748, 749, 750, 751, 752, 753, 754, 1087, 1088, 1089, 1090, 755, 756, 757, 758, 759] (by decide +kernel)
set_option maxRecDepth 20000 in
theorem inlw_r27 : ∀ w ∈ wsL_law0_r27, w ∈ lw_tbl := mem_at [760, 761, 1091, 1092, 1093, 1094, 762, 763, 764, 765, 766, 767, 768, 1095, 1096, 1097, 1098, 340, 341, 342, 343, 346, 7, 347] (by decide +kernel)
set_option maxRecDepth 20000 in
theorem inlw_r28 : ∀ w ∈ wsL_law0_r28, w ∈ lw_tbl := mem_at [1099, 1100, 1101, 1102, 348, 349, 350, 351, 1103, 1104, 1105, 1106, 769, 770, 771, 772, 773, 774, 775, 1107, 1108, 1109, 1110, 776] (by decide +kernel)
set_option maxRecDepth 20000 in
theorem inlw_r29 : ∀ w ∈ wsL_law0_r29, w ∈ lw_tbl := mem_at [777, 778, 779, 780, 781, 782, 1111, 1112, 1113, 1114, 352, 353, 354, 355, 368, 369, 89, 370, 356, 358, 8, 359, 364, 366] (by decide +kernel)
set_option maxRecDepth 20000 in
theorem inlw_r30 : ∀ w ∈ wsL_law0_r30, w ∈ lw_tbl := mem_at [10, 367, 371, 373, 11, 374, 388, 390, 15, 391, 1115, 1116, 1117, 1118, 1119, 1121, 71, 1122, 1123, 1125, 72, 1126, 1127, 1129] (by decide +kernel)
set_option maxRecDepth 20000 in
theorem inlw_r31 : ∀ w ∈ wsL_law0_r31, w ∈ lw_tbl := mem_at [73, 1130] (by decide +kernel)
set_option maxRecDepth 20000 in
theorem inlw_x50 : ∀ w ∈ wsX50, w ∈ lw_tbl := mem_at [305, 307, 309, 311, 313, 315, 317, 319, 321, 323, 325, 327, 329] (by decide +kernel)
set_option maxRecDepth 20000 in
theorem inlw_x60 : ∀ w ∈ wsX60, w ∈ lw_tbl := mem_at [830, 832, 834, 836, 838, 840, 842, 844, 846, 848, 850, 852, 854, 856, 858, 860, 862, 864, 866, 868, 870, 872, 874, 876, 878, 880, 882, 884, 886, 888, 890, 892, 894, 896, 898, 900] (by decide +kernel)
set_option maxRecDepth 20000 in
theorem inlw_x00 : ∀ w ∈ wsX00, w ∈ lw_tbl := mem_at [135, 137, 139, 141, 143, 145, 147, 149, 151, 153, 155, 157, 159] (by decide +kernel)
set_option maxRecDepth 20000 in
theorem inlw_x10 : ∀ w ∈ wsX10, w ∈ lw_tbl := mem_at [235, 237, 239, 241] (by decide +kernel)
set_option maxRecDepth 20000 in
theorem inlw_x20 : ∀ w ∈ wsX20, w ∈ lw_tbl := mem_at [212, 214, 216, 218, 220, 222, 224] (by decide +kernel)
set_option maxRecDepth 20000 in
theorem inlw_x30 : ∀ w ∈ wsX30, w ∈ lw_tbl := mem_at [257, 259, 261] (by decide +kernel)
set_option maxRecDepth 20000 in
theorem inlw_x40 : ∀ w ∈ wsX40, w ∈ lw_tbl := mem_at [193, 195, 197, 199] (by decide +kernel)
set_option maxRecDepth 20000 in
theorem inlw_r : ∀ w ∈ wsL_law0_r1 ++ (wsL_law0_r2 ++ (wsL_law0_r3 ++ (wsL_law0_r4 ++ (wsL_law0_r5 ++ (wsL_law0_r6 ++ (wsL_law0_r7 ++ (wsL_law0_r8 ++ (wsL_law0_r9 ++ (wsL_law0_r10 ++ (wsL_law0_r11 ++ (wsL_law0_r12 ++ (wsL_law0_r13 ++ (wsL_law0_r14 ++ (wsL_law0_r15 ++ (wsL_law0_r16 ++ (wsL_law0_r17 ++ (wsL_law0_r18 ++ (wsL_law0_r19 ++ (wsL_law0_r20 ++ (wsL_law0_r21 ++ (wsL_law0_r22 ++ (wsL_law0_r23 ++ (wsL_law0_r24 ++ (wsL_law0_r25 ++ (wsL_law0_r26 ++ (wsL_law0_r27 ++ (wsL_law0_r28 ++ (wsL_law0_r29 ++ (wsL_law0_r30 ++ (wsL_law0_r31)))))))))))))))))))))))))))))), w ∈ lw_tbl := fun w h => (List.mem_append.mp h).elim (inlw_r1 w) (fun h => (List.mem_append.mp h).elim (inlw_r2 w) (fun h => (List.mem_append.mp h).elim (inlw_r3 w) (fun h => (List.mem_append.mp h).elim (inlw_r4 w) (fun h => (List.mem_append.mp h).elim (inlw_r5 w) (fun h => (List.mem_append.mp h).elim (inlw_r6 w) (fun h => (List.mem_append.mp h).elim (inlw_r7 w) (fun h => (List.mem_append.mp h).elim (inlw_r8 w) (fun h => (List.mem_append.mp h).elim (inlw_r9 w) (fun h => (List.mem_append.mp h).elim (inlw_r10 w) (fun h => (List.mem_append.mp h).elim (inlw_r11 w) (fun h => (List.mem_append.mp h).elim (inlw_r12 w) (fun h => (List.mem_append.mp h).elim (inlw_r13 w) (fun h => (List.mem_append.mp h).elim (inlw_r14 w) (fun h => (List.mem_append.mp h).elim (inlw_r15 w) (fun h => (List.mem_append.mp h).elim (inlw_r16 w) (fun h => (List.mem_append.mp h).elim (inlw_r17 w) (fun h => (List.mem_append.mp h).elim (inlw_r18 w) (fun h => (List.mem_append.mp h).elim (inlw_r19 w) (fun h => (List.mem_append.mp h).elim (inlw_r20 w) (fun h => (List.mem_append.mp h).elim (inlw_r21 w) (fun h => (List.mem_append.mp h).elim (inlw_r22 w) (fun h => (List.mem_append.mp h).elim (inlw_r23 w) (fun h => (List.mem_append.mp h).elim (inlw_r24 w) (fun h => (List.mem_append.mp h).elim (inlw_r25 w) (fun h => (List.mem_append.mp h).elim (inlw_r26 w) (fun h => (List.mem_append.mp h).elim (inlw_r27 w) (fun h => (List.mem_append.mp h).elim (inlw_r28 w) (fun h => (List.mem_append.mp h).elim (inlw_r29 w) (fun h => (List.mem_append.mp h).elim (inlw_r30 w) (fun h => inlw_r31 w h))))))))))))))))))))))))))))))
set_option maxRecDepth 20000 in
theorem wsL_law_in0 : ∀ w ∈ wsL_law0, w ∈ lw_tbl := fun w h => (List.mem_append.mp h).elim (fun h => (List.mem_append.mp h).elim (fun h => (List.mem_append.mp h).elim (fun h => (List.mem_append.mp h).elim (fun h => (List.mem_append.mp h).elim (fun h => (List.mem_append.mp h).elim (fun h => (List.mem_append.mp h).elim (fun h => (List.mem_append.mp h).elim (fun h => inlw_r w h) (inlw_x50 w)) (inlw_x60 w)) (inlw_x00 w)) (inlw_x10 w)) (inlw_x20 w)) (inlw_x30 w)) (inlw_x40 w)) (fun h => by cases h)
set_option maxRecDepth 20000 in
theorem wsL_law_x0 : ∀ w ∈ (vx_atS RX5 111 "java/lang/IllegalArgumentException" ["java/lang/RuntimeException", "java/lang/Exception"]).filter goodWord, w ∈ lw_tbl := mem_at [82, 432, 441, 445, 448, 450, 433, 434, 96, 97, 435, 440, 446, 466, 422, 467, 424, 468, 426, 436, 438, 428, 462, 463, 465, 428, 453, 454, 455, 456, 456, 457, 458, 459, 459, 460, 461, 462, 452, 411, 419, 420, 421, 423, 425, 427, 431, 430, 429] (by decide +kernel)
set_option maxRecDepth 20000 in
theorem wsL_law_x1 : ∀ w ∈ (vx_atS RX5 125 "java/lang/IllegalStateException" ["java/lang/RuntimeException", "java/lang/Exception"]).filter goodWord, w ∈ lw_tbl := mem_at [82, 432, 441, 445, 448, 450, 433, 434, 96, 97, 435, 440, 446, 466, 422, 467, 424, 468, 426, 436, 438, 428, 462, 463, 465, 428, 503, 504, 505, 456, 456, 457, 458, 459, 459, 460, 461, 462, 502, 493, 495, 443, 496, 497, 498, 499, 431, 430, 500] (by decide +kernel)
set_option maxRecDepth 20000 in
theorem wsL_law_x2 : ∀ w ∈ (vx_atS RX5 338 "java/lang/IndexOutOfBoundsException" ["java/lang/RuntimeException", "java/lang/Exception"]).filter goodWord, w ∈ lw_tbl := mem_at [82, 432, 441, 445, 448, 450, 433, 434, 96, 97, 435, 440, 446, 466, 422, 467, 424, 468, 426, 436, 438, 428, 462, 463, 465, 428, 680, 681, 682, 456, 456, 457, 458, 459, 459, 460, 461, 462, 679, 670, 672, 444, 673, 674, 675, 676, 431, 430, 677] (by decide +kernel)
set_option maxRecDepth 20000 in
theorem wsL_law_in : ∀ w ∈ wsL_law, w ∈ lw_tbl := fun w h => (List.mem_append.mp h).elim (fun h => (List.mem_append.mp h).elim (fun h => (List.mem_append.mp h).elim (fun h => wsL_law_in0 w h) (fun h => wsL_law_x0 w h)) (fun h => wsL_law_x1 w h)) (fun h => wsL_law_x2 w h)
