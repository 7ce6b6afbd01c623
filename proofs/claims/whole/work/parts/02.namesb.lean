set_option maxRecDepth 20000 in
theorem wsL_in_r1 : ∀ w ∈ wsL_law0_r1, w ∈ lw_tbl := fun w h => (goodIn_r wsL_law0_r1 [89, 90, 73, 873, 874, 78, 1265, 91, 92, 93, 94, 95, 96, 97, 98, 74, 213, 147, 148, 75, 214, 215, 216, 171] (by decide +kernel) (by decide +kernel) w h).1
set_option maxRecDepth 20000 in
theorem wsL_in_r2 : ∀ w ∈ wsL_law0_r2, w ∈ lw_tbl := fun w h => (goodIn_r wsL_law0_r2 [172, 76, 217, 188, 189, 77, 218, 100, 101, 102, 146, 106, 108, 110, 113, 117, 119, 121, 123, 149, 150, 151, 152, 155] (by decide +kernel) (by decide +kernel) w h).1
set_option maxRecDepth 20000 in
theorem wsL_in_r3 : ∀ w ∈ wsL_law0_r3, w ∈ lw_tbl := fun w h => (goodIn_r wsL_law0_r3 [157, 159, 153, 173, 174, 175, 176, 177, 180, 191, 192, 193, 212, 194, 198, 875, 876, 877, 878, 879, 881, 883, 885, 889] (by decide +kernel) (by decide +kernel) w h).1
set_option maxRecDepth 20000 in
theorem wsL_in_r4 : ∀ w ∈ wsL_law0_r4, w ∈ lw_tbl := fun w h => (goodIn_r wsL_law0_r4 [495, 496, 72, 497, 498, 499, 500, 501, 502, 503, 504, 82, 581, 83, 572, 573, 574, 577, 578, 579, 580, 103, 236, 238] (by decide +kernel) (by decide +kernel) w h).1
set_option maxRecDepth 20000 in
theorem wsL_in_r5 : ∀ w ∈ wsL_law0_r5, w ∈ lw_tbl := fun w h => (goodIn_r wsL_law0_r5 [0, 239, 240, 241, 242, 243, 181, 244, 246, 1, 247, 248, 249, 250, 251, 252, 254, 253, 84, 114, 255, 256, 257, 258] (by decide +kernel) (by decide +kernel) w h).1
set_option maxRecDepth 20000 in
theorem wsL_in_r6 : ∀ w ∈ wsL_law0_r6, w ∈ lw_tbl := fun w h => (goodIn_r wsL_law0_r6 [154, 597, 598, 599, 600, 601, 603, 18, 604, 920, 921, 922, 923, 884, 924, 925, 926, 927, 928, 929, 930, 931, 932, 933] (by decide +kernel) (by decide +kernel) w h).1
set_option maxRecDepth 20000 in
theorem wsL_in_r7 : ∀ w ∈ wsL_law0_r7, w ∈ lw_tbl := fun w h => (goodIn_r wsL_law0_r7 [935, 23, 936, 937, 939, 24, 940, 941, 943, 25, 944, 880, 945, 947, 26, 948, 949, 951, 27, 952, 916, 917, 918, 919] (by decide +kernel) (by decide +kernel) w h).1
set_option maxRecDepth 20000 in
theorem wsL_in_r8 : ∀ w ∈ wsL_law0_r8, w ∈ lw_tbl := fun w h => (goodIn_r wsL_law0_r8 [605, 606, 607, 608, 609, 610, 611, 612, 613, 615, 19, 616, 617, 85, 105, 633, 634, 635, 636, 412, 413, 414, 415, 953] (by decide +kernel) (by decide +kernel) w h).1
set_option maxRecDepth 20000 in
theorem wsL_in_r9 : ∀ w ∈ wsL_law0_r9, w ∈ lw_tbl := fun w h => (goodIn_r wsL_law0_r9 [954, 955, 956, 957, 959, 28, 960, 961, 963, 29, 964, 637, 638, 639, 640, 641, 642, 643, 109, 965, 966, 967, 968, 644] (by decide +kernel) (by decide +kernel) w h).1
set_option maxRecDepth 20000 in
theorem wsL_in_r10 : ∀ w ∈ wsL_law0_r10, w ∈ lw_tbl := fun w h => (goodIn_r wsL_law0_r10 [645, 646, 647, 648, 649, 650, 115, 654, 655, 656, 657, 969, 970, 971, 972, 658, 659, 660, 661, 662, 663, 664, 665, 667] (by decide +kernel) (by decide +kernel) w h).1
set_option maxRecDepth 20000 in
theorem wsL_in_r11 : ∀ w ∈ wsL_law0_r11, w ∈ lw_tbl := fun w h => (goodIn_r wsL_law0_r11 [20, 668, 670, 671, 672, 673, 973, 974, 975, 976, 977, 979, 30, 980, 674, 675, 676, 677, 678, 679, 680, 685, 687, 124] (by decide +kernel) (by decide +kernel) w h).1
set_option maxRecDepth 20000 in
theorem wsL_in_r12 : ∀ w ∈ wsL_law0_r12, w ∈ lw_tbl := fun w h => (goodIn_r wsL_law0_r12 [681, 682, 683, 981, 982, 983, 984, 985, 986, 987, 988, 989, 990, 690, 691, 692, 693, 694, 695, 696, 697, 699, 21, 700] (by decide +kernel) (by decide +kernel) w h).1
set_option maxRecDepth 20000 in
theorem wsL_in_r13 : ∀ w ∈ wsL_law0_r13, w ∈ lw_tbl := fun w h => (goodIn_r wsL_law0_r13 [112, 456, 341, 342, 343, 703, 704, 705, 706, 707, 708, 709, 710, 337, 338, 339, 340, 344, 345, 346, 347, 352, 353, 86] (by decide +kernel) (by decide +kernel) w h).1
set_option maxRecDepth 20000 in
theorem wsL_in_r14 : ∀ w ∈ wsL_law0_r14, w ∈ lw_tbl := fun w h => (goodIn_r wsL_law0_r14 [354, 348, 349, 350, 351, 292, 294, 3, 295, 355, 357, 6, 358, 991, 992, 993, 994, 995, 997, 31, 998, 999, 1001, 32] (by decide +kernel) (by decide +kernel) w h).1
set_option maxRecDepth 20000 in
theorem wsL_in_r15 : ∀ w ∈ wsL_law0_r15, w ∈ lw_tbl := fun w h => (goodIn_r wsL_law0_r15 [1002, 1003, 1005, 33, 1006, 1007, 1009, 34, 1010, 1011, 1013, 35, 1014, 1015, 1017, 36, 1018, 1019, 1020, 1021, 711, 712, 713, 714] (by decide +kernel) (by decide +kernel) w h).1
set_option maxRecDepth 20000 in
theorem wsL_in_r16 : ∀ w ∈ wsL_law0_r16, w ∈ lw_tbl := fun w h => (goodIn_r wsL_law0_r16 [715, 716, 717, 719, 720, 721, 722, 259, 260, 261, 262, 263, 264, 265, 266, 267, 268, 87, 269, 270, 271, 272, 1022, 1023] (by decide +kernel) (by decide +kernel) w h).1
set_option maxRecDepth 20000 in
theorem wsL_in_r17 : ∀ w ∈ wsL_law0_r17, w ∈ lw_tbl := fun w h => (goodIn_r wsL_law0_r17 [1024, 1025, 1026, 1028, 37, 1029, 1030, 1032, 38, 1033, 723, 724, 725, 726, 727, 728, 729, 329, 330, 331, 332, 104, 111, 333] (by decide +kernel) (by decide +kernel) w h).1
