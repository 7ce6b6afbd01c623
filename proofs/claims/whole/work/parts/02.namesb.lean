set_option maxRecDepth 20000 in
theorem wsL_in_r1 : ∀ w ∈ wsL_law0_r1, w ∈ lw_tbl := fun w h => (goodIn_r wsL_law0_r1 [89, 90, 73, 872, 873, 78, 1264, 91, 92, 93, 94, 95, 96, 97, 98, 74, 214, 154, 215, 216, 172, 173, 76, 217] (by decide +kernel) (by decide +kernel) w h).1
set_option maxRecDepth 20000 in
theorem wsL_in_r2 : ∀ w ∈ wsL_law0_r2, w ∈ lw_tbl := fun w h => (goodIn_r wsL_law0_r2 [189, 190, 77, 218, 100, 101, 102, 103, 104, 75, 153, 152, 156, 158, 160, 106, 107, 108, 112, 114, 116, 119, 123, 125] (by decide +kernel) (by decide +kernel) w h).1
set_option maxRecDepth 20000 in
theorem wsL_in_r3 : ∀ w ∈ wsL_law0_r3, w ∈ lw_tbl := fun w h => (goodIn_r wsL_law0_r3 [127, 129, 174, 175, 176, 177, 178, 181, 192, 193, 194, 213, 195, 199, 874, 875, 876, 877, 878, 880, 882, 884, 888, 494] (by decide +kernel) (by decide +kernel) w h).1
set_option maxRecDepth 20000 in
theorem wsL_in_r4 : ∀ w ∈ wsL_law0_r4, w ∈ lw_tbl := fun w h => (goodIn_r wsL_law0_r4 [495, 72, 496, 497, 498, 499, 500, 501, 502, 503, 82, 580, 83, 571, 572, 573, 576, 577, 578, 579, 109, 234, 236, 0] (by decide +kernel) (by decide +kernel) w h).1
set_option maxRecDepth 20000 in
theorem wsL_in_r5 : ∀ w ∈ wsL_law0_r5, w ∈ lw_tbl := fun w h => (goodIn_r wsL_law0_r5 [237, 238, 239, 240, 241, 182, 242, 244, 1, 245, 246, 247, 248, 249, 250, 252, 251, 84, 120, 253, 254, 255, 256, 155] (by decide +kernel) (by decide +kernel) w h).1
set_option maxRecDepth 20000 in
theorem wsL_in_r6 : ∀ w ∈ wsL_law0_r6, w ∈ lw_tbl := fun w h => (goodIn_r wsL_law0_r6 [596, 597, 598, 599, 600, 602, 18, 603, 919, 920, 921, 922, 883, 923, 924, 925, 926, 927, 928, 929, 930, 931, 932, 934] (by decide +kernel) (by decide +kernel) w h).1
set_option maxRecDepth 20000 in
theorem wsL_in_r7 : ∀ w ∈ wsL_law0_r7, w ∈ lw_tbl := fun w h => (goodIn_r wsL_law0_r7 [23, 935, 936, 938, 24, 939, 940, 942, 25, 943, 879, 944, 946, 26, 947, 948, 950, 27, 951, 915, 916, 917, 918, 604] (by decide +kernel) (by decide +kernel) w h).1
set_option maxRecDepth 20000 in
theorem wsL_in_r8 : ∀ w ∈ wsL_law0_r8, w ∈ lw_tbl := fun w h => (goodIn_r wsL_law0_r8 [605, 606, 607, 608, 609, 610, 611, 612, 614, 19, 615, 616, 85, 111, 632, 633, 634, 635, 410, 411, 412, 413, 952, 953] (by decide +kernel) (by decide +kernel) w h).1
set_option maxRecDepth 20000 in
theorem wsL_in_r9 : ∀ w ∈ wsL_law0_r9, w ∈ lw_tbl := fun w h => (goodIn_r wsL_law0_r9 [954, 955, 956, 958, 28, 959, 960, 962, 29, 963, 636, 637, 638, 639, 640, 641, 642, 115, 964, 965, 966, 967, 643, 644] (by decide +kernel) (by decide +kernel) w h).1
set_option maxRecDepth 20000 in
theorem wsL_in_r10 : ∀ w ∈ wsL_law0_r10, w ∈ lw_tbl := fun w h => (goodIn_r wsL_law0_r10 [645, 646, 647, 648, 649, 121, 653, 654, 655, 656, 968, 969, 970, 971, 657, 658, 659, 660, 661, 662, 663, 664, 666, 20] (by decide +kernel) (by decide +kernel) w h).1
set_option maxRecDepth 20000 in
theorem wsL_in_r11 : ∀ w ∈ wsL_law0_r11, w ∈ lw_tbl := fun w h => (goodIn_r wsL_law0_r11 [667, 669, 670, 671, 672, 972, 973, 974, 975, 976, 978, 30, 979, 673, 674, 675, 676, 677, 678, 679, 684, 686, 130, 680] (by decide +kernel) (by decide +kernel) w h).1
set_option maxRecDepth 20000 in
theorem wsL_in_r12 : ∀ w ∈ wsL_law0_r12, w ∈ lw_tbl := fun w h => (goodIn_r wsL_law0_r12 [681, 682, 980, 981, 982, 983, 984, 985, 986, 987, 988, 989, 689, 690, 691, 692, 693, 694, 695, 696, 698, 21, 699, 118] (by decide +kernel) (by decide +kernel) w h).1
set_option maxRecDepth 20000 in
theorem wsL_in_r13 : ∀ w ∈ wsL_law0_r13, w ∈ lw_tbl := fun w h => (goodIn_r wsL_law0_r13 [454, 339, 340, 341, 702, 703, 704, 705, 706, 707, 708, 709, 335, 336, 337, 338, 342, 343, 344, 345, 350, 351, 86, 352] (by decide +kernel) (by decide +kernel) w h).1
set_option maxRecDepth 20000 in
theorem wsL_in_r14 : ∀ w ∈ wsL_law0_r14, w ∈ lw_tbl := fun w h => (goodIn_r wsL_law0_r14 [346, 347, 348, 349, 290, 292, 3, 293, 353, 355, 6, 356, 990, 991, 992, 993, 994, 996, 31, 997, 998, 1000, 32, 1001] (by decide +kernel) (by decide +kernel) w h).1
set_option maxRecDepth 20000 in
theorem wsL_in_r15 : ∀ w ∈ wsL_law0_r15, w ∈ lw_tbl := fun w h => (goodIn_r wsL_law0_r15 [1002, 1004, 33, 1005, 1006, 1008, 34, 1009, 1010, 1012, 35, 1013, 1014, 1016, 36, 1017, 1018, 1019, 1020, 710, 711, 712, 713, 714] (by decide +kernel) (by decide +kernel) w h).1
set_option maxRecDepth 20000 in
theorem wsL_in_r16 : ∀ w ∈ wsL_law0_r16, w ∈ lw_tbl := fun w h => (goodIn_r wsL_law0_r16 [715, 716, 718, 719, 720, 721, 257, 258, 259, 260, 261, 262, 263, 264, 265, 266, 87, 267, 268, 269, 270, 1021, 1022, 1023] (by decide +kernel) (by decide +kernel) w h).1
set_option maxRecDepth 20000 in
theorem wsL_in_r17 : ∀ w ∈ wsL_law0_r17, w ∈ lw_tbl := fun w h => (goodIn_r wsL_law0_r17 [1024, 1025, 1027, 37, 1028, 1029, 1031, 38, 1032, 722, 723, 724, 725, 726, 727, 728, 327, 328, 329, 330, 110, 117, 331, 332] (by decide +kernel) (by decide +kernel) w h).1
