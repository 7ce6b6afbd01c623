set_option maxRecDepth 20000 in
theorem wsL_in_r18 : ∀ w ∈ wsL_law0_r18, w ∈ lw_tbl := fun w h => (goodIn_r wsL_law0_r18 [333, 334, 357, 358, 359, 360, 361, 362, 363, 364, 365, 367, 7, 368, 374, 369, 371, 8, 372, 373, 730, 731, 732, 733] (by decide +kernel) (by decide +kernel) w h).1
set_option maxRecDepth 20000 in
theorem wsL_in_r19 : ∀ w ∈ wsL_law0_r19, w ∈ lw_tbl := fun w h => (goodIn_r wsL_law0_r19 [734, 736, 22, 737, 738, 739, 740, 741, 1033, 1034, 1035, 1036, 1037, 1039, 39, 1040, 1041, 1043, 40, 1044, 1045, 1047, 41, 1048] (by decide +kernel) (by decide +kernel) w h).1
set_option maxRecDepth 20000 in
theorem wsL_in_r20 : ∀ w ∈ wsL_law0_r20, w ∈ lw_tbl := fun w h => (goodIn_r wsL_law0_r20 [1049, 1051, 42, 1052, 1053, 1055, 43, 1056, 1057, 1059, 44, 1060, 230, 231, 232, 233, 271, 272, 273, 274, 1061, 1062, 1063, 1064] (by decide +kernel) (by decide +kernel) w h).1
set_option maxRecDepth 20000 in
theorem wsL_in_r21 : ∀ w ∈ wsL_law0_r21, w ∈ lw_tbl := fun w h => (goodIn_r wsL_law0_r21 [275, 276, 277, 278, 279, 280, 281, 282, 287, 288, 289, 283, 285, 2, 286, 294, 295, 86, 296, 1065, 1066, 1067, 1068, 1069] (by decide +kernel) (by decide +kernel) w h).1
set_option maxRecDepth 20000 in
theorem wsL_in_r22 : ∀ w ∈ wsL_law0_r22, w ∈ lw_tbl := fun w h => (goodIn_r wsL_law0_r22 [1071, 45, 1072, 1073, 1074, 1075, 743, 744, 745, 746, 747, 748, 749, 198, 752, 753, 754, 755, 197, 1076, 1077, 1078, 1079, 881] (by decide +kernel) (by decide +kernel) w h).1
set_option maxRecDepth 20000 in
theorem wsL_in_r23 : ∀ w ∈ wsL_law0_r23, w ∈ lw_tbl := fun w h => (goodIn_r wsL_law0_r23 [297, 298, 299, 300, 1080, 1081, 1082, 1083, 301, 302, 303, 304, 305, 306, 307, 308, 200, 201, 309, 311, 4, 312, 313, 315] (by decide +kernel) (by decide +kernel) w h).1
set_option maxRecDepth 20000 in
theorem wsL_in_r24 : ∀ w ∈ wsL_law0_r24, w ∈ lw_tbl := fun w h => (goodIn_r wsL_law0_r24 [317, 319, 5, 320, 321, 1084, 1085, 1086, 1087, 1088, 1090, 46, 1091, 885, 887, 886, 1092, 1094, 47, 1095, 1096, 1098, 48, 1099] (by decide +kernel) (by decide +kernel) w h).1
set_option maxRecDepth 20000 in
theorem wsL_in_r25 : ∀ w ∈ wsL_law0_r25, w ∈ lw_tbl := fun w h => (goodIn_r wsL_law0_r25 [756, 757, 758, 759, 760, 761, 762, 763, 764, 765, 766, 767, 769, 770, 771, 772, 773, 774, 775, 776, 777, 778, 779, 780] (by decide +kernel) (by decide +kernel) w h).1
set_option maxRecDepth 20000 in
theorem wsL_in_r26 : ∀ w ∈ wsL_law0_r26, w ∈ lw_tbl := fun w h => (goodIn_r wsL_law0_r26 [781, 782, 783, 784, 1100, 1101, 1102, 1103, 785, 786, 787, 788, 789, 790, 791, 183, 793, 794, 795, 796, 1104, 1105, 1106, 1107] (by decide +kernel) (by decide +kernel) w h).1
set_option maxRecDepth 20000 in
theorem wsL_in_r27 : ∀ w ∈ wsL_law0_r27, w ∈ lw_tbl := fun w h => (goodIn_r wsL_law0_r27 [797, 798, 799, 800, 801, 802, 803, 804, 805, 806, 438, 440, 13, 441, 113, 442, 443, 419, 420, 421, 397, 398, 399, 400] (by decide +kernel) (by decide +kernel) w h).1
set_option maxRecDepth 20000 in
theorem wsL_in_r28 : ∀ w ∈ wsL_law0_r28, w ∈ lw_tbl := fun w h => (goodIn_r wsL_law0_r28 [1108, 1109, 1110, 1111, 1112, 1114, 49, 1115, 1116, 1118, 50, 1119, 1120, 1122, 51, 1123, 808, 809, 810, 811, 812, 813, 814, 449] (by decide +kernel) (by decide +kernel) w h).1
set_option maxRecDepth 20000 in
theorem wsL_in_r29 : ∀ w ∈ wsL_law0_r29, w ∈ lw_tbl := fun w h => (goodIn_r wsL_law0_r29 [451, 15, 452, 157, 159, 453, 455, 456, 457, 458, 459, 460, 461, 462, 463, 464, 396, 1124, 1125, 1126, 1127, 1128, 1130, 52] (by decide +kernel) (by decide +kernel) w h).1
set_option maxRecDepth 20000 in
theorem wsL_in_r30 : ∀ w ∈ wsL_law0_r30, w ∈ lw_tbl := fun w h => (goodIn_r wsL_law0_r30 [1131, 1132, 1134, 53, 1135, 1136, 1138, 54, 1139, 1140, 1142, 55, 1143, 1144, 1146, 56, 1147, 815, 816, 817, 818, 819, 820, 821] (by decide +kernel) (by decide +kernel) w h).1
set_option maxRecDepth 20000 in
theorem wsL_in_r31 : ∀ w ∈ wsL_law0_r31, w ∈ lw_tbl := fun w h => (goodIn_r wsL_law0_r31 [474, 476, 16, 477, 124, 126, 128, 478, 479, 480, 481, 1148, 1149, 1150, 1151, 1152, 1154, 57, 1155, 1156, 1158, 58, 1159, 822] (by decide +kernel) (by decide +kernel) w h).1
set_option maxRecDepth 20000 in
theorem wsL_in_r32 : ∀ w ∈ wsL_law0_r32, w ∈ lw_tbl := fun w h => (goodIn_r wsL_law0_r32 [823, 824, 825, 826, 827, 828, 482, 483, 484, 485, 486, 1160, 1161, 1162, 1163, 1164, 1166, 59, 1167, 830, 831, 832, 833, 834] (by decide +kernel) (by decide +kernel) w h).1
set_option maxRecDepth 20000 in
theorem wsL_in_r33 : ∀ w ∈ wsL_law0_r33, w ∈ lw_tbl := fun w h => (goodIn_r wsL_law0_r33 [835, 836, 465, 466, 467, 468, 1168, 1169, 1170, 1171, 1172, 1174, 60, 1175, 837, 838, 839, 840, 841, 842, 843, 406, 408, 11] (by decide +kernel) (by decide +kernel) w h).1
set_option maxRecDepth 20000 in
theorem wsL_in_r34 : ∀ w ∈ wsL_law0_r34, w ∈ lw_tbl := fun w h => (goodIn_r wsL_law0_r34 [409, 414, 415, 416, 417, 418, 392, 393, 394, 395, 422, 423, 424, 425, 426, 427, 428, 429, 1176, 1177, 1178, 1179, 1180, 1182] (by decide +kernel) (by decide +kernel) w h).1
