/-! THE LAW: its words are the tables' -/
set_option maxRecDepth 20000 in
theorem inL_1 : ∀ w ∈ wsL_law_r1, w ∈ lw_tbl := fun w h => (goodIn_r wsL_law_r1 [67, 68, 44, 782, 783, 49, 121, 1094, 69, 70, 71, 72, 73, 74, 93, 156, 157, 158, 159, 75, 76, 45, 160, 95] (by decide +kernel) (by decide +kernel) w h).1
set_option maxRecDepth 20000 in
theorem inL_2 : ∀ w ∈ wsL_law_r2, w ∈ lw_tbl := fun w h => (goodIn_r wsL_law_r2 [96, 46, 161, 123, 124, 48, 162, 78, 79, 80, 94, 81, 82, 83, 97, 98, 99, 100, 104, 106, 107, 122, 108, 109] (by decide +kernel) (by decide +kernel) w h).1
set_option maxRecDepth 20000 in
theorem inL_3 : ∀ w ∈ wsL_law_r3, w ∈ lw_tbl := fun w h => (goodIn_r wsL_law_r3 [101, 102, 47, 103, 126, 127, 128, 129, 131, 132, 135, 136, 137, 139, 784, 785, 786, 787, 788, 790, 791, 792, 794, 795] (by decide +kernel) (by decide +kernel) w h).1
set_option maxRecDepth 20000 in
theorem inL_4 : ∀ w ∈ wsL_law_r4, w ∈ lw_tbl := fun w h => (goodIn_r wsL_law_r4 [797, 798, 800, 802, 803, 804, 805, 806, 807, 808, 809, 810, 178, 179, 180, 181, 880, 881, 882, 883, 812, 789, 182, 183] (by decide +kernel) (by decide +kernel) w h).1
set_option maxRecDepth 20000 in
theorem inL_5 : ∀ w ∈ wsL_law_r5, w ∈ lw_tbl := fun w h => (goodIn_r wsL_law_r5 [184, 185, 255, 256, 55, 264, 133, 84, 186, 187, 188, 189, 190, 191, 50, 192, 194, 195, 196, 197, 198, 1096, 1099, 199] (by decide +kernel) (by decide +kernel) w h).1
set_option maxRecDepth 20000 in
theorem inL_6 : ∀ w ∈ wsL_law_r6, w ∈ lw_tbl := fun w h => (goodIn_r wsL_law_r6 [200, 201, 204, 205, 206, 207, 208, 209, 51, 210, 1097, 211, 212, 213, 214, 215, 1098, 217, 218, 219, 220, 221, 222, 223] (by decide +kernel) (by decide +kernel) w h).1
set_option maxRecDepth 20000 in
theorem inL_7 : ∀ w ∈ wsL_law_r7, w ∈ lw_tbl := fun w h => (goodIn_r wsL_law_r7 [224, 225, 226, 52, 227, 228, 229, 230, 231, 233, 234, 53, 235, 236, 237, 54, 238, 239, 240, 241, 242, 243, 244, 245] (by decide +kernel) (by decide +kernel) w h).1
set_option maxRecDepth 20000 in
theorem inL_8 : ∀ w ∈ wsL_law_r8, w ∈ lw_tbl := fun w h => (goodIn_r wsL_law_r8 [246, 247, 248, 249, 251, 253, 257, 258, 259, 260, 261, 263, 265, 271, 272, 273, 274, 279, 275, 276, 277, 278, 281, 282] (by decide +kernel) (by decide +kernel) w h).1
set_option maxRecDepth 20000 in
theorem inL_9 : ∀ w ∈ wsL_law_r9, w ∈ lw_tbl := fun w h => (goodIn_r wsL_law_r9 [283, 284, 285, 287, 0, 288, 293, 289, 290, 291, 292, 309, 294, 295, 296, 297, 298, 299, 300, 301, 302, 303, 58, 311] (by decide +kernel) (by decide +kernel) w h).1
set_option maxRecDepth 20000 in
theorem inL_10 : ∀ w ∈ wsL_law_r10, w ∈ lw_tbl := fun w h => (goodIn_r wsL_law_r10 [304, 305, 306, 307, 310, 308, 317, 319, 1, 320, 85, 138, 134, 321, 323, 325, 326, 59, 497, 503, 327, 328, 329, 330] (by decide +kernel) (by decide +kernel) w h).1
set_option maxRecDepth 20000 in
theorem inL_11 : ∀ w ∈ wsL_law_r11, w ∈ lw_tbl := fun w h => (goodIn_r wsL_law_r11 [336, 339, 342, 344, 347, 350, 352, 331, 334, 372, 374, 2, 375, 376, 429, 382, 383, 60, 431, 378, 380, 3, 381, 425] (by decide +kernel) (by decide +kernel) w h).1
set_option maxRecDepth 20000 in
theorem inL_12 : ∀ w ∈ wsL_law_r12, w ∈ lw_tbl := fun w h => (goodIn_r wsL_law_r12 [397, 427, 401, 384, 385, 386, 387, 396, 400, 404, 407, 409, 388, 392, 433, 435, 4, 436, 489, 491, 437, 439, 5, 440] (by decide +kernel) (by decide +kernel) w h).1
set_option maxRecDepth 20000 in
theorem inL_13 : ∀ w ∈ wsL_law_r13, w ∈ lw_tbl := fun w h => (goodIn_r wsL_law_r13 [441, 443, 445, 447, 448, 61, 481, 460, 483, 463, 449, 450, 451, 452, 459, 462, 465, 453, 455, 457, 485, 486, 487, 488] (by decide +kernel) (by decide +kernel) w h).1
set_option maxRecDepth 20000 in
theorem inL_14 : ∀ w ∈ wsL_law_r14, w ∈ lw_tbl := fun w h => (goodIn_r wsL_law_r14 [466, 493, 494, 495, 496, 405, 499, 500, 501, 502, 337, 340, 348, 505, 507, 6, 508, 509, 510, 512, 7, 513, 884, 885] (by decide +kernel) (by decide +kernel) w h).1
set_option maxRecDepth 20000 in
theorem inL_15 : ∀ w ∈ wsL_law_r15, w ∈ lw_tbl := fun w h => (goodIn_r wsL_law_r15 [886, 887, 813, 796, 793, 799, 801, 899, 920, 888, 890, 17, 891, 892, 893, 894, 895, 897, 18, 898, 912, 900, 902, 19] (by decide +kernel) (by decide +kernel) w h).1
set_option maxRecDepth 20000 in
theorem inL_16 : ∀ w ∈ wsL_law_r16, w ∈ lw_tbl := fun w h => (goodIn_r wsL_law_r16 [903, 904, 906, 20, 907, 908, 909, 910, 911, 913, 915, 21, 916, 917, 918, 919, 921, 923, 22, 924, 925, 950, 951, 926] (by decide +kernel) (by decide +kernel) w h).1
set_option maxRecDepth 20000 in
theorem inL_17 : ∀ w ∈ wsL_law_r17, w ∈ lw_tbl := fun w h => (goodIn_r wsL_law_r17 [928, 23, 929, 930, 931, 932, 933, 934, 935, 937, 24, 938, 943, 944, 948, 949, 939, 941, 25, 942, 945, 946, 947, 952] (by decide +kernel) (by decide +kernel) w h).1
set_option maxRecDepth 20000 in
theorem inL_18 : ∀ w ∈ wsL_law_r18, w ∈ lw_tbl := fun w h => (goodIn_r wsL_law_r18 [954, 26, 955, 956, 958, 27, 959, 960, 962, 28, 963, 811, 514, 515, 516, 517, 518, 519, 520, 521, 985, 986, 987, 988] (by decide +kernel) (by decide +kernel) w h).1
set_option maxRecDepth 20000 in
theorem inL_19 : ∀ w ∈ wsL_law_r19, w ∈ lw_tbl := fun w h => (goodIn_r wsL_law_r19 [522, 523, 524, 525, 526, 527, 528, 529, 530, 968, 969, 970, 971, 972, 531, 532, 533, 534, 535, 536, 537, 538, 973, 974] (by decide +kernel) (by decide +kernel) w h).1
set_option maxRecDepth 20000 in
theorem inL_20 : ∀ w ∈ wsL_law_r20, w ∈ lw_tbl := fun w h => (goodIn_r wsL_law_r20 [975, 976, 539, 540, 541, 542, 543, 544, 545, 546, 977, 978, 979, 980, 547, 548, 549, 550, 105, 981, 982, 983, 984, 551] (by decide +kernel) (by decide +kernel) w h).1
set_option maxRecDepth 20000 in
theorem inL_21 : ∀ w ∈ wsL_law_r21, w ∈ lw_tbl := fun w h => (goodIn_r wsL_law_r21 [552, 553, 554, 555, 556, 557, 558, 345, 559, 560, 562, 8, 563, 332, 564, 565, 566, 567, 389, 568, 569, 570, 571, 393] (by decide +kernel) (by decide +kernel) w h).1
set_option maxRecDepth 20000 in
theorem inL_22 : ∀ w ∈ wsL_law_r22, w ∈ lw_tbl := fun w h => (goodIn_r wsL_law_r22 [572, 573, 574, 575, 576, 578, 9, 579, 351, 406, 580, 582, 10, 583, 390, 395, 584, 585, 586, 587, 394, 402, 399, 588] (by decide +kernel) (by decide +kernel) w h).1
set_option maxRecDepth 20000 in
theorem inL_23 : ∀ w ∈ wsL_law_r23, w ∈ lw_tbl := fun w h => (goodIn_r wsL_law_r23 [589, 591, 11, 592, 593, 594, 595, 596, 597, 598, 599, 600, 601, 602, 603, 604, 605, 606, 607, 608, 408, 458, 464, 467] (by decide +kernel) (by decide +kernel) w h).1
set_option maxRecDepth 20000 in
theorem inL_24 : ∀ w ∈ wsL_law_r24, w ∈ lw_tbl := fun w h => (goodIn_r wsL_law_r24 [609, 611, 12, 612, 613, 614, 615, 616, 617, 619, 13, 620, 454, 461, 456, 621, 622, 623, 624, 625, 627, 14, 628, 629] (by decide +kernel) (by decide +kernel) w h).1
set_option maxRecDepth 20000 in
theorem inL_25 : ∀ w ∈ wsL_law_r25, w ∈ lw_tbl := fun w h => (goodIn_r wsL_law_r25 [631, 15, 632, 989, 990, 991, 992, 993, 994, 996, 29, 997, 815, 998, 1000, 30, 1001, 1002, 1004, 31, 1005, 1006, 1008, 32] (by decide +kernel) (by decide +kernel) w h).1
set_option maxRecDepth 20000 in
theorem inL_26 : ∀ w ∈ wsL_law_r26, w ∈ lw_tbl := fun w h => (goodIn_r wsL_law_r26 [1009, 1010, 1012, 33, 1013, 1014, 1016, 34, 1017, 1018, 1020, 35, 1021, 1022, 1024, 36, 1025, 1026, 1028, 37, 1029, 816, 814, 1030] (by decide +kernel) (by decide +kernel) w h).1
set_option maxRecDepth 20000 in
theorem inL_27 : ∀ w ∈ wsL_law_r27, w ∈ lw_tbl := fun w h => (goodIn_r wsL_law_r27 [1032, 38, 1033, 1034, 1036, 39, 1037, 1038, 1039, 1040, 1041, 1042, 1044, 40, 1045, 1046, 1048, 41, 1049, 633, 634, 635, 636, 1050] (by decide +kernel) (by decide +kernel) w h).1
set_option maxRecDepth 20000 in
theorem inL_28 : ∀ w ∈ wsL_law_r28, w ∈ lw_tbl := fun w h => (goodIn_r wsL_law_r28 [1051, 1052, 1053, 1054, 637, 638, 639, 640, 641, 1055, 1056, 1057, 1058, 642, 643, 644, 645, 130, 333, 349, 646, 647, 648, 649] (by decide +kernel) (by decide +kernel) w h).1
set_option maxRecDepth 20000 in
theorem inL_29 : ∀ w ∈ wsL_law_r29, w ∈ lw_tbl := fun w h => (goodIn_r wsL_law_r29 [1059, 1060, 1061, 1062, 650, 651, 652, 653, 654, 1063, 1064, 1065, 1066, 1067, 655, 656, 657, 658, 338, 346, 659, 1068, 660, 661] (by decide +kernel) (by decide +kernel) w h).1
set_option maxRecDepth 20000 in
theorem inL_30 : ∀ w ∈ wsL_law_r30, w ∈ lw_tbl := fun w h => (goodIn_r wsL_law_r30 [662, 663, 664, 665, 666, 667, 1069, 1070, 1071, 1072, 668, 669, 670, 671, 343, 335, 672, 1073, 1074, 1075, 1076, 1077, 1079, 42] (by decide +kernel) (by decide +kernel) w h).1
set_option maxRecDepth 20000 in
theorem inL_31 : ∀ w ∈ wsL_law_r31, w ∈ lw_tbl := fun w h => (goodIn_r wsL_law_r31 [1080, 673, 674, 675, 676, 677, 341, 140, 678, 679, 680, 681, 398, 403, 1081, 1082, 1083, 1084, 1085, 682, 683, 684, 685, 686] (by decide +kernel) (by decide +kernel) w h).1
set_option maxRecDepth 20000 in
theorem inL_32 : ∀ w ∈ wsL_law_r32, w ∈ lw_tbl := fun w h => (goodIn_r wsL_law_r32 [687, 688, 689, 690, 691, 692, 693, 694, 695, 1086, 1087, 1088, 1089, 700, 701, 43, 702, 704, 705, 706, 707, 712, 713, 66] (by decide +kernel) (by decide +kernel) w h).1
set_option maxRecDepth 20000 in
theorem inL_33 : ∀ w ∈ wsL_law_r33, w ∈ lw_tbl := fun w h => (goodIn_r wsL_law_r33 [391, 708, 709, 710, 711, 1090, 1091, 1092, 1093, 876, 877, 878, 879, 696, 697, 698, 699, 964, 965, 966, 967] (by decide +kernel) (by decide +kernel) w h).1
set_option maxRecDepth 20000 in
theorem inL_wsX90 : ∀ w ∈ wsX90, w ∈ lw_tbl := fun w h => (goodIn_r wsX90 [163, 165, 167, 169, 171, 173, 175] (by decide +kernel) (by decide +kernel) w h).1
set_option maxRecDepth 20000 in
theorem inL_wsX100 : ∀ w ∈ wsX100, w ∈ lw_tbl := fun w h => (goodIn_r wsX100 [817, 819, 821, 823, 825, 827, 829, 831, 833, 835, 837, 839, 841, 843, 845, 847, 849, 851, 853, 855, 857, 859, 861, 863, 865, 867, 869, 871, 873] (by decide +kernel) (by decide +kernel) w h).1
set_option maxRecDepth 20000 in
theorem inL_wsX80 : ∀ w ∈ wsX80, w ∈ lw_tbl := fun w h => (goodIn_r wsX80 [86, 88, 90] (by decide +kernel) (by decide +kernel) w h).1
set_option maxRecDepth 20000 in
theorem inL_wsX20 : ∀ w ∈ wsX20, w ∈ lw_tbl := fun w h => (goodIn_r wsX20 [110, 112, 114, 116, 118] (by decide +kernel) (by decide +kernel) w h).1
set_option maxRecDepth 20000 in
theorem inL_wsX00 : ∀ w ∈ wsX00, w ∈ lw_tbl := fun w h => (goodIn_r wsX00 [141, 143, 145, 147, 149, 151, 153] (by decide +kernel) (by decide +kernel) w h).1
set_option maxRecDepth 20000 in
theorem inL_wsX50 : ∀ w ∈ wsX50, w ∈ lw_tbl := fun w h => (goodIn_r wsX50 [266, 268] (by decide +kernel) (by decide +kernel) w h).1
set_option maxRecDepth 20000 in
theorem inL_wsX10 : ∀ w ∈ wsX10, w ∈ lw_tbl := fun w h => (goodIn_r wsX10 [312, 314] (by decide +kernel) (by decide +kernel) w h).1
set_option maxRecDepth 20000 in
theorem inL_wsX60 : ∀ w ∈ wsX60, w ∈ lw_tbl := fun w h => (goodIn_r wsX60 [353, 355, 357, 359, 361, 363, 365, 367, 369] (by decide +kernel) (by decide +kernel) w h).1
set_option maxRecDepth 20000 in
theorem inL_wsX30 : ∀ w ∈ wsX30, w ∈ lw_tbl := fun w h => (goodIn_r wsX30 [410, 412, 414, 416, 418, 420, 422] (by decide +kernel) (by decide +kernel) w h).1
set_option maxRecDepth 20000 in
theorem inL_wsX70 : ∀ w ∈ wsX70, w ∈ lw_tbl := fun w h => (goodIn_r wsX70 [468, 470, 472, 474, 476, 478] (by decide +kernel) (by decide +kernel) w h).1
set_option maxRecDepth 20000 in
theorem inL_wsJx000600 : ∀ w ∈ wsJx000600, w ∈ lw_tbl := fun w h => (goodIn_r wsJx000600 [725, 727, 729, 731, 733, 778] (by decide +kernel) (by decide +kernel) w h).1
theorem wsL_in : ∀ w ∈ wsL_law, w ∈ lw_tbl := by
  intro w h
  unfold wsL_law at h
  rcases List.mem_append.mp h with h | h
  · skip
    rcases List.mem_append.mp h with h | h
    rotate_left
    · exact inL_wsJx000600 w h
    rcases List.mem_append.mp h with h | h
    rotate_left
    · exact inL_wsX70 w h
    rcases List.mem_append.mp h with h | h
    rotate_left
    · exact inL_wsX30 w h
    rcases List.mem_append.mp h with h | h
    rotate_left
    · exact inL_wsX60 w h
    rcases List.mem_append.mp h with h | h
    rotate_left
    · exact inL_wsX10 w h
    rcases List.mem_append.mp h with h | h
    rotate_left
    · exact inL_wsX50 w h
    rcases List.mem_append.mp h with h | h
    rotate_left
    · exact inL_wsX00 w h
    rcases List.mem_append.mp h with h | h
    rotate_left
    · exact inL_wsX20 w h
    rcases List.mem_append.mp h with h | h
    rotate_left
    · exact inL_wsX80 w h
    rcases List.mem_append.mp h with h | h
    rotate_left
    · exact inL_wsX100 w h
    rcases List.mem_append.mp h with h | h
    rotate_left
    · exact inL_wsX90 w h
    rcases List.mem_append.mp h with h | h
    · exact inL_1 w h
    rcases List.mem_append.mp h with h | h
    · exact inL_2 w h
    rcases List.mem_append.mp h with h | h
    · exact inL_3 w h
    rcases List.mem_append.mp h with h | h
    · exact inL_4 w h
    rcases List.mem_append.mp h with h | h
    · exact inL_5 w h
    rcases List.mem_append.mp h with h | h
    · exact inL_6 w h
    rcases List.mem_append.mp h with h | h
    · exact inL_7 w h
    rcases List.mem_append.mp h with h | h
    · exact inL_8 w h
    rcases List.mem_append.mp h with h | h
    · exact inL_9 w h
    rcases List.mem_append.mp h with h | h
    · exact inL_10 w h
    rcases List.mem_append.mp h with h | h
    · exact inL_11 w h
    rcases List.mem_append.mp h with h | h
    · exact inL_12 w h
    rcases List.mem_append.mp h with h | h
    · exact inL_13 w h
    rcases List.mem_append.mp h with h | h
    · exact inL_14 w h
    rcases List.mem_append.mp h with h | h
    · exact inL_15 w h
    rcases List.mem_append.mp h with h | h
    · exact inL_16 w h
    rcases List.mem_append.mp h with h | h
    · exact inL_17 w h
    rcases List.mem_append.mp h with h | h
    · exact inL_18 w h
    rcases List.mem_append.mp h with h | h
    · exact inL_19 w h
    rcases List.mem_append.mp h with h | h
    · exact inL_20 w h
    rcases List.mem_append.mp h with h | h
    · exact inL_21 w h
    rcases List.mem_append.mp h with h | h
    · exact inL_22 w h
    rcases List.mem_append.mp h with h | h
    · exact inL_23 w h
    rcases List.mem_append.mp h with h | h
    · exact inL_24 w h
    rcases List.mem_append.mp h with h | h
    · exact inL_25 w h
    rcases List.mem_append.mp h with h | h
    · exact inL_26 w h
    rcases List.mem_append.mp h with h | h
    · exact inL_27 w h
    rcases List.mem_append.mp h with h | h
    · exact inL_28 w h
    rcases List.mem_append.mp h with h | h
    · exact inL_29 w h
    rcases List.mem_append.mp h with h | h
    · exact inL_30 w h
    rcases List.mem_append.mp h with h | h
    · exact inL_31 w h
    rcases List.mem_append.mp h with h | h
    · exact inL_32 w h
    exact inL_33 w h
  · cases h
