set_option maxRecDepth 20000 in
theorem wsL_in_r18 : ∀ w ∈ wsL_law0_r18, w ∈ lw_tbl := fun w h => (goodIn_r wsL_law0_r18 [334, 335, 336, 359, 360, 361, 362, 363, 364, 365, 366, 367, 369, 7, 370, 376, 371, 373, 8, 374, 375, 731, 732, 733] (by decide +kernel) (by decide +kernel) w h).1
set_option maxRecDepth 20000 in
theorem wsL_in_r19 : ∀ w ∈ wsL_law0_r19, w ∈ lw_tbl := fun w h => (goodIn_r wsL_law0_r19 [734, 735, 737, 22, 738, 739, 740, 741, 742, 1034, 1035, 1036, 1037, 1038, 1040, 39, 1041, 1042, 1044, 40, 1045, 1046, 1048, 41] (by decide +kernel) (by decide +kernel) w h).1
set_option maxRecDepth 20000 in
theorem wsL_in_r20 : ∀ w ∈ wsL_law0_r20, w ∈ lw_tbl := fun w h => (goodIn_r wsL_law0_r20 [1049, 1050, 1052, 42, 1053, 1054, 1056, 43, 1057, 1058, 1060, 44, 1061, 232, 233, 234, 235, 273, 274, 275, 276, 1062, 1063, 1064] (by decide +kernel) (by decide +kernel) w h).1
set_option maxRecDepth 20000 in
theorem wsL_in_r21 : ∀ w ∈ wsL_law0_r21, w ∈ lw_tbl := fun w h => (goodIn_r wsL_law0_r21 [1065, 277, 278, 279, 280, 281, 282, 283, 284, 289, 290, 291, 285, 287, 2, 288, 296, 297, 86, 298, 1066, 1067, 1068, 1069] (by decide +kernel) (by decide +kernel) w h).1
set_option maxRecDepth 20000 in
theorem wsL_in_r22 : ∀ w ∈ wsL_law0_r22, w ∈ lw_tbl := fun w h => (goodIn_r wsL_law0_r22 [1070, 1072, 45, 1073, 1074, 1075, 1076, 744, 745, 746, 747, 748, 749, 750, 197, 753, 754, 755, 756, 196, 1077, 1078, 1079, 1080] (by decide +kernel) (by decide +kernel) w h).1
set_option maxRecDepth 20000 in
theorem wsL_in_r23 : ∀ w ∈ wsL_law0_r23, w ∈ lw_tbl := fun w h => (goodIn_r wsL_law0_r23 [882, 299, 300, 301, 302, 1081, 1082, 1083, 1084, 303, 304, 305, 306, 307, 308, 309, 310, 199, 200, 311, 313, 4, 314, 315] (by decide +kernel) (by decide +kernel) w h).1
set_option maxRecDepth 20000 in
theorem wsL_in_r24 : ∀ w ∈ wsL_law0_r24, w ∈ lw_tbl := fun w h => (goodIn_r wsL_law0_r24 [317, 319, 321, 5, 322, 323, 1085, 1086, 1087, 1088, 1089, 1091, 46, 1092, 886, 888, 887, 1093, 1095, 47, 1096, 1097, 1099, 48] (by decide +kernel) (by decide +kernel) w h).1
set_option maxRecDepth 20000 in
theorem wsL_in_r25 : ∀ w ∈ wsL_law0_r25, w ∈ lw_tbl := fun w h => (goodIn_r wsL_law0_r25 [1100, 757, 758, 759, 760, 761, 762, 763, 764, 765, 766, 767, 768, 770, 771, 772, 773, 774, 775, 776, 777, 778, 779, 780] (by decide +kernel) (by decide +kernel) w h).1
set_option maxRecDepth 20000 in
theorem wsL_in_r26 : ∀ w ∈ wsL_law0_r26, w ∈ lw_tbl := fun w h => (goodIn_r wsL_law0_r26 [781, 782, 783, 784, 785, 1101, 1102, 1103, 1104, 786, 787, 788, 789, 790, 791, 792, 182, 794, 795, 796, 797, 1105, 1106, 1107] (by decide +kernel) (by decide +kernel) w h).1
set_option maxRecDepth 20000 in
theorem wsL_in_r27 : ∀ w ∈ wsL_law0_r27, w ∈ lw_tbl := fun w h => (goodIn_r wsL_law0_r27 [1108, 798, 799, 800, 801, 802, 803, 804, 805, 806, 807, 440, 442, 13, 443, 107, 444, 445, 421, 422, 423, 399, 400, 401] (by decide +kernel) (by decide +kernel) w h).1
set_option maxRecDepth 20000 in
theorem wsL_in_r28 : ∀ w ∈ wsL_law0_r28, w ∈ lw_tbl := fun w h => (goodIn_r wsL_law0_r28 [402, 1109, 1110, 1111, 1112, 1113, 1115, 49, 1116, 1117, 1119, 50, 1120, 1121, 1123, 51, 1124, 809, 810, 811, 812, 813, 814, 815] (by decide +kernel) (by decide +kernel) w h).1
set_option maxRecDepth 20000 in
theorem wsL_in_r29 : ∀ w ∈ wsL_law0_r29, w ∈ lw_tbl := fun w h => (goodIn_r wsL_law0_r29 [451, 453, 15, 454, 156, 158, 455, 457, 458, 459, 460, 461, 462, 463, 464, 465, 466, 398, 1125, 1126, 1127, 1128, 1129, 1131] (by decide +kernel) (by decide +kernel) w h).1
set_option maxRecDepth 20000 in
theorem wsL_in_r30 : ∀ w ∈ wsL_law0_r30, w ∈ lw_tbl := fun w h => (goodIn_r wsL_law0_r30 [52, 1132, 1133, 1135, 53, 1136, 1137, 1139, 54, 1140, 1141, 1143, 55, 1144, 1145, 1147, 56, 1148, 816, 817, 818, 819, 820, 821] (by decide +kernel) (by decide +kernel) w h).1
set_option maxRecDepth 20000 in
theorem wsL_in_r31 : ∀ w ∈ wsL_law0_r31, w ∈ lw_tbl := fun w h => (goodIn_r wsL_law0_r31 [822, 476, 478, 16, 479, 118, 120, 122, 480, 481, 482, 483, 1149, 1150, 1151, 1152, 1153, 1155, 57, 1156, 1157, 1159, 58, 1160] (by decide +kernel) (by decide +kernel) w h).1
set_option maxRecDepth 20000 in
theorem wsL_in_r32 : ∀ w ∈ wsL_law0_r32, w ∈ lw_tbl := fun w h => (goodIn_r wsL_law0_r32 [823, 824, 825, 826, 827, 828, 829, 484, 485, 486, 487, 488, 1161, 1162, 1163, 1164, 1165, 1167, 59, 1168, 831, 832, 833, 834] (by decide +kernel) (by decide +kernel) w h).1
set_option maxRecDepth 20000 in
theorem wsL_in_r33 : ∀ w ∈ wsL_law0_r33, w ∈ lw_tbl := fun w h => (goodIn_r wsL_law0_r33 [835, 836, 837, 467, 468, 469, 470, 1169, 1170, 1171, 1172, 1173, 1175, 60, 1176, 838, 839, 840, 841, 842, 843, 844, 408, 410] (by decide +kernel) (by decide +kernel) w h).1
set_option maxRecDepth 20000 in
theorem wsL_in_r34 : ∀ w ∈ wsL_law0_r34, w ∈ lw_tbl := fun w h => (goodIn_r wsL_law0_r34 [11, 411, 416, 417, 418, 419, 420, 394, 395, 396, 397, 424, 425, 426, 427, 428, 429, 430, 431, 1177, 1178, 1179, 1180, 1181] (by decide +kernel) (by decide +kernel) w h).1
