-- THE LAW: its words among the tables' words
set_option maxRecDepth 20000 in
theorem wsL_law0_in1 : ∀ w ∈ wsL_law0_r1, w ∈ lw_tbl := fun w h => (goodIn_r wsL_law0_r1 [70, 71, 48, 909, 910, 55, 1274, 1273, 72, 73, 74, 75, 76, 77, 78, 79, 49, 184, 92, 93, 50, 185, 186, 187] (by decide +kernel) (by decide +kernel) w h).1
set_option maxRecDepth 20000 in
theorem wsL_law0_in2 : ∀ w ∈ wsL_law0_r2, w ∈ lw_tbl := fun w h => (goodIn_r wsL_law0_r2 [165, 166, 54, 188, 189, 206, 190, 81, 82, 83, 91, 84, 95, 96, 97, 98, 99, 51, 125, 112, 113, 53, 129, 111] (by decide +kernel) (by decide +kernel) w h).1
set_option maxRecDepth 20000 in
theorem wsL_law0_in3 : ∀ w ∈ wsL_law0_r3, w ∈ lw_tbl := fun w h => (goodIn_r wsL_law0_r3 [131, 100, 101, 102, 103, 107, 104, 105, 52, 106, 115, 116, 117, 118, 167, 168, 169, 170, 171, 174, 911, 912, 913, 914] (by decide +kernel) (by decide +kernel) w h).1
set_option maxRecDepth 20000 in
theorem wsL_law0_in4 : ∀ w ∈ wsL_law0_r4, w ∈ lw_tbl := fun w h => (goodIn_r wsL_law0_r4 [916, 921, 922, 923, 924, 926, 927, 928, 929, 930, 311, 312, 47, 313, 314, 315, 316, 317, 318, 319, 320, 321, 322, 323] (by decide +kernel) (by decide +kernel) w h).1
set_option maxRecDepth 20000 in
theorem wsL_law0_in5 : ∀ w ∈ wsL_law0_r5, w ∈ lw_tbl := fun w h => (goodIn_r wsL_law0_r5 [324, 325, 326, 59, 393, 394, 395, 396, 85, 397, 398, 399, 400, 60, 416, 417, 418, 419, 420, 211, 212, 213, 214, 968] (by decide +kernel) (by decide +kernel) w h).1
set_option maxRecDepth 20000 in
theorem wsL_law0_in6 : ∀ w ∈ wsL_law0_r6, w ∈ lw_tbl := fun w h => (goodIn_r wsL_law0_r6 [969, 970, 971, 972, 917, 973, 974, 975, 976, 978, 20, 979, 915, 964, 965, 966, 967, 207, 208, 209, 210, 215, 216, 217] (by decide +kernel) (by decide +kernel) w h).1
set_option maxRecDepth 20000 in
theorem wsL_law0_in7 : ∀ w ∈ wsL_law0_r7, w ∈ lw_tbl := fun w h => (goodIn_r wsL_law0_r7 [218, 980, 981, 982, 983, 219, 220, 221, 222, 223, 224, 225, 226, 227, 228, 229, 230, 231, 232, 233, 240, 241, 242, 61] (by decide +kernel) (by decide +kernel) w h).1
set_option maxRecDepth 20000 in
theorem wsL_law0_in8 : ∀ w ∈ wsL_law0_r8, w ∈ lw_tbl := fun w h => (goodIn_r wsL_law0_r8 [243, 1276, 244, 245, 246, 247, 248, 249, 250, 251, 252, 1277, 254, 255, 256, 257, 258, 259, 260, 261, 262, 263, 62, 264] (by decide +kernel) (by decide +kernel) w h).1
set_option maxRecDepth 20000 in
theorem wsL_law0_in9 : ∀ w ∈ wsL_law0_r9, w ∈ lw_tbl := fun w h => (goodIn_r wsL_law0_r9 [265, 266, 267, 268, 270, 271, 63, 272, 273, 274, 64, 275, 276, 277, 278, 279, 280, 281, 282, 283, 284, 285, 286, 288] (by decide +kernel) (by decide +kernel) w h).1
set_option maxRecDepth 20000 in
theorem wsL_law0_in10 : ∀ w ∈ wsL_law0_r10, w ∈ lw_tbl := fun w h => (goodIn_r wsL_law0_r10 [290, 292, 293, 294, 984, 985, 986, 987, 988, 990, 21, 991, 918, 919, 920, 992, 994, 22, 995, 996, 998, 23, 999, 1000] (by decide +kernel) (by decide +kernel) w h).1
set_option maxRecDepth 20000 in
theorem wsL_law0_in11 : ∀ w ∈ wsL_law0_r11, w ∈ lw_tbl := fun w h => (goodIn_r wsL_law0_r11 [1002, 24, 1003, 1004, 1006, 25, 1007, 1008, 1010, 26, 1011, 1012, 1014, 27, 1015, 1016, 1017, 1019, 28, 1020, 1021, 1022, 1023, 1024] (by decide +kernel) (by decide +kernel) w h).1
set_option maxRecDepth 20000 in
theorem wsL_law0_in12 : ∀ w ∈ wsL_law0_r12, w ∈ lw_tbl := fun w h => (goodIn_r wsL_law0_r12 [1025, 1026, 1027, 1029, 29, 1030, 1031, 1033, 30, 1034, 1035, 1036, 1037, 1038, 1040, 31, 1041, 1042, 1043, 1044, 1045, 1046, 1047, 1048] (by decide +kernel) (by decide +kernel) w h).1
set_option maxRecDepth 20000 in
theorem wsL_law0_in13 : ∀ w ∈ wsL_law0_r13, w ∈ lw_tbl := fun w h => (goodIn_r wsL_law0_r13 [1050, 32, 1051, 1052, 1054, 33, 1055, 1056, 1057, 1058, 1059, 1060, 1061, 1062, 1063, 1064, 1065, 1066, 1067, 1068, 1069, 1070, 1071, 1072] (by decide +kernel) (by decide +kernel) w h).1
set_option maxRecDepth 20000 in
theorem wsL_law0_in14 : ∀ w ∈ wsL_law0_r14, w ∈ lw_tbl := fun w h => (goodIn_r wsL_law0_r14 [1073, 1074, 1075, 1076, 1077, 1079, 34, 1080, 1081, 1082, 1083, 1084, 1085, 1086, 1087, 1089, 35, 1090, 421, 422, 423, 424, 425, 426] (by decide +kernel) (by decide +kernel) w h).1
set_option maxRecDepth 20000 in
theorem wsL_law0_in15 : ∀ w ∈ wsL_law0_r15, w ∈ lw_tbl := fun w h => (goodIn_r wsL_law0_r15 [427, 444, 445, 65, 428, 429, 430, 431, 132, 135, 137, 139, 142, 144, 432, 433, 434, 435, 436, 437, 438, 439, 119, 440] (by decide +kernel) (by decide +kernel) w h).1
set_option maxRecDepth 20000 in
theorem wsL_law0_in16 : ∀ w ∈ wsL_law0_r16, w ∈ lw_tbl := fun w h => (goodIn_r wsL_law0_r16 [441, 442, 443, 176, 446, 447, 448, 449, 450, 451, 460, 461, 462, 463, 452, 464, 465, 466, 468, 1, 469, 470, 472, 2] (by decide +kernel) (by decide +kernel) w h).1
set_option maxRecDepth 20000 in
theorem wsL_law0_in17 : ∀ w ∈ wsL_law0_r17, w ∈ lw_tbl := fun w h => (goodIn_r wsL_law0_r17 [473, 474, 476, 3, 477, 478, 479, 480, 481, 482, 483, 484, 485, 486, 488, 4, 489, 490, 491, 492, 493, 494, 495, 496] (by decide +kernel) (by decide +kernel) w h).1
set_option maxRecDepth 20000 in
theorem wsL_law0_in18 : ∀ w ∈ wsL_law0_r18, w ∈ lw_tbl := fun w h => (goodIn_r wsL_law0_r18 [497, 498, 500, 5, 501, 502, 503, 504, 505, 506, 507, 508, 509, 510, 511, 513, 6, 514, 516, 517, 518, 519, 520, 521] (by decide +kernel) (by decide +kernel) w h).1
set_option maxRecDepth 20000 in
theorem wsL_law0_in19 : ∀ w ∈ wsL_law0_r19, w ∈ lw_tbl := fun w h => (goodIn_r wsL_law0_r19 [522, 523, 524, 304, 305, 306, 525, 527, 7, 528, 529, 530, 531, 532, 533, 535, 8, 536, 537, 539, 9, 540, 541, 542] (by decide +kernel) (by decide +kernel) w h).1
set_option maxRecDepth 20000 in
theorem wsL_law0_in20 : ∀ w ∈ wsL_law0_r20, w ∈ lw_tbl := fun w h => (goodIn_r wsL_law0_r20 [543, 544, 545, 546, 547, 548, 549, 551, 10, 552, 553, 554, 555, 556, 557, 559, 558, 66, 560, 561, 67, 562, 563, 564] (by decide +kernel) (by decide +kernel) w h).1
set_option maxRecDepth 20000 in
theorem wsL_law0_in21 : ∀ w ∈ wsL_law0_r21, w ∈ lw_tbl := fun w h => (goodIn_r wsL_law0_r21 [565, 566, 568, 11, 590, 591, 592, 593, 569, 586, 587, 588, 589, 570, 571, 572, 573, 574, 576, 12, 577, 578, 579, 580] (by decide +kernel) (by decide +kernel) w h).1
set_option maxRecDepth 20000 in
theorem wsL_law0_in22 : ∀ w ∈ wsL_law0_r22, w ∈ lw_tbl := fun w h => (goodIn_r wsL_law0_r22 [581, 582, 583, 584, 585, 594, 595, 596, 597, 598, 1091, 1092, 1093, 1094, 925, 1095, 1096, 1097, 599, 600, 601, 602, 603, 604] (by decide +kernel) (by decide +kernel) w h).1
set_option maxRecDepth 20000 in
theorem wsL_law0_in23 : ∀ w ∈ wsL_law0_r23, w ∈ lw_tbl := fun w h => (goodIn_r wsL_law0_r23 [605, 606, 607, 608, 609, 610, 612, 13, 613, 614, 615, 616, 617, 618, 619, 620, 621, 1098, 1099, 1100, 1101, 1102, 1103, 1104] (by decide +kernel) (by decide +kernel) w h).1
set_option maxRecDepth 20000 in
theorem wsL_law0_in24 : ∀ w ∈ wsL_law0_r24, w ∈ lw_tbl := fun w h => (goodIn_r wsL_law0_r24 [1105, 622, 623, 624, 625, 626, 627, 628, 629, 630, 632, 14, 633, 635, 68, 634, 651, 652, 653, 654, 655, 1106, 1107, 1108] (by decide +kernel) (by decide +kernel) w h).1
set_option maxRecDepth 20000 in
theorem wsL_law0_in25 : ∀ w ∈ wsL_law0_r25, w ∈ lw_tbl := fun w h => (goodIn_r wsL_law0_r25 [1109, 1110, 1112, 36, 1113, 1114, 1115, 1116, 656, 657, 658, 659, 660, 661, 662, 663, 665, 15, 666, 667, 668, 669, 670, 672] (by decide +kernel) (by decide +kernel) w h).1
set_option maxRecDepth 20000 in
theorem wsL_law0_in26 : ∀ w ∈ wsL_law0_r26, w ∈ lw_tbl := fun w h => (goodIn_r wsL_law0_r26 [673, 674, 675, 676, 1117, 1118, 1119, 1120, 1127, 1121, 1123, 37, 1124, 1125, 1126, 677, 678, 679, 680, 681, 682, 683, 684, 685] (by decide +kernel) (by decide +kernel) w h).1
set_option maxRecDepth 20000 in
theorem wsL_law0_in27 : ∀ w ∈ wsL_law0_r27, w ∈ lw_tbl := fun w h => (goodIn_r wsL_law0_r27 [686, 687, 1128, 1129, 1130, 1131, 1132, 688, 689, 690, 691, 692, 693, 694, 695, 696, 697, 698, 699, 700, 701, 702, 175, 717] (by decide +kernel) (by decide +kernel) w h).1
set_option maxRecDepth 20000 in
theorem wsL_law0_in28 : ∀ w ∈ wsL_law0_r28, w ∈ lw_tbl := fun w h => (goodIn_r wsL_law0_r28 [703, 704, 705, 706, 716, 707, 708, 709, 710, 711, 712, 713, 714, 715, 718, 1133, 1134, 1135, 1136, 1137, 1138, 1139, 1140, 1141] (by decide +kernel) (by decide +kernel) w h).1
set_option maxRecDepth 20000 in
theorem wsL_law0_in29 : ∀ w ∈ wsL_law0_r29, w ∈ lw_tbl := fun w h => (goodIn_r wsL_law0_r29 [1142, 1143, 1145, 38, 1146, 719, 720, 721, 722, 723, 724, 725, 726, 727, 1147, 1148, 1149, 1150, 1151, 728, 729, 730, 731, 732] (by decide +kernel) (by decide +kernel) w h).1
set_option maxRecDepth 20000 in
theorem wsL_law0_in30 : ∀ w ∈ wsL_law0_r30, w ∈ lw_tbl := fun w h => (goodIn_r wsL_law0_r30 [733, 734, 735, 1152, 1153, 1154, 1155, 736, 737, 738, 739, 740, 741, 742, 743, 744, 1156, 1157, 1158, 1159, 1160, 1161, 1162, 1163] (by decide +kernel) (by decide +kernel) w h).1
set_option maxRecDepth 20000 in
theorem wsL_law0_in31 : ∀ w ∈ wsL_law0_r31, w ∈ lw_tbl := fun w h => (goodIn_r wsL_law0_r31 [1164, 745, 746, 747, 748, 749, 750, 751, 1165, 1166, 1167, 1168, 752, 753, 754, 755, 756, 757, 758, 759, 1169, 1170, 1171, 1172] (by decide +kernel) (by decide +kernel) w h).1
set_option maxRecDepth 20000 in
theorem wsL_law0_in32 : ∀ w ∈ wsL_law0_r32, w ∈ lw_tbl := fun w h => (goodIn_r wsL_law0_r32 [760, 761, 762, 763, 764, 765, 766, 767, 768, 769, 770, 1173, 1174, 1175, 1176, 1177, 1178, 1179, 1180, 1181, 771, 772, 773, 774] (by decide +kernel) (by decide +kernel) w h).1
set_option maxRecDepth 20000 in
theorem wsL_law0_in33 : ∀ w ∈ wsL_law0_r33, w ∈ lw_tbl := fun w h => (goodIn_r wsL_law0_r33 [775, 776, 777, 778, 779, 780, 781, 782, 783, 784, 785, 1182, 1183, 1184, 1185, 786, 787, 788, 789, 790, 791, 792, 793, 794] (by decide +kernel) (by decide +kernel) w h).1
set_option maxRecDepth 20000 in
theorem wsL_law0_in34 : ∀ w ∈ wsL_law0_r34, w ∈ lw_tbl := fun w h => (goodIn_r wsL_law0_r34 [795, 796, 797, 798, 799, 1186, 1187, 1188, 1189, 1190, 1191, 1193, 39, 1194, 800, 801, 802, 803, 804, 805, 806, 807, 308, 309] (by decide +kernel) (by decide +kernel) w h).1
set_option maxRecDepth 20000 in
theorem wsL_law0_in35 : ∀ w ∈ wsL_law0_r35, w ∈ lw_tbl := fun w h => (goodIn_r wsL_law0_r35 [310, 1195, 1196, 1197, 1198, 1199, 1200, 1201, 296, 297, 298, 299, 300, 301, 302, 303, 307, 1202, 1203, 1204, 1205, 808, 809, 810] (by decide +kernel) (by decide +kernel) w h).1
set_option maxRecDepth 20000 in
theorem wsL_law0_in36 : ∀ w ∈ wsL_law0_r36, w ∈ lw_tbl := fun w h => (goodIn_r wsL_law0_r36 [811, 812, 813, 814, 1206, 1207, 1208, 1209, 1210, 1211, 1212, 1213, 1214, 1216, 40, 1217, 815, 816, 817, 818, 819, 820, 821, 822] (by decide +kernel) (by decide +kernel) w h).1
set_option maxRecDepth 20000 in
theorem wsL_law0_in37 : ∀ w ∈ wsL_law0_r37, w ∈ lw_tbl := fun w h => (goodIn_r wsL_law0_r37 [824, 16, 825, 1218, 1219, 1220, 1221, 826, 827, 828, 829, 830, 831, 832, 1222, 1223, 1224, 1225, 833, 834, 835, 836, 837, 838] (by decide +kernel) (by decide +kernel) w h).1
set_option maxRecDepth 20000 in
theorem wsL_law0_in38 : ∀ w ∈ wsL_law0_r38, w ∈ lw_tbl := fun w h => (goodIn_r wsL_law0_r38 [839, 844, 845, 69, 857, 840, 841, 842, 843, 846, 847, 848, 849, 850, 851, 858, 859, 860, 861, 862, 863, 864, 866, 17] (by decide +kernel) (by decide +kernel) w h).1
set_option maxRecDepth 20000 in
theorem wsL_law0_in39 : ∀ w ∈ wsL_law0_r39, w ∈ lw_tbl := fun w h => (goodIn_r wsL_law0_r39 [867, 868, 869, 870, 872, 18, 873, 874, 875, 876, 877, 879, 19, 880, 881, 1226, 1227, 1228, 1229, 1234, 1230, 1231, 1232, 1233] (by decide +kernel) (by decide +kernel) w h).1
set_option maxRecDepth 20000 in
theorem wsL_law0_in40 : ∀ w ∈ wsL_law0_r40, w ∈ lw_tbl := fun w h => (goodIn_r wsL_law0_r40 [1235, 1237, 41, 1238, 1239, 1241, 42, 1242, 1243, 1245, 43, 1246, 1247, 1249, 44, 1250, 1251, 1253, 45, 1254, 1255, 1257, 46, 1258] (by decide +kernel) (by decide +kernel) w h).1
set_option maxRecDepth 20000 in
theorem wsL_law0_in41 : ∀ w ∈ wsL_law0_r41, w ∈ lw_tbl := fun w h => (goodIn_r wsL_law0_r41 [882, 883, 884, 885, 886, 887, 888, 889, 890, 1259, 1260, 1261, 1262, 1263, 1264, 891, 892, 893, 894, 895, 896, 897, 898, 899] (by decide +kernel) (by decide +kernel) w h).1
set_option maxRecDepth 20000 in
theorem wsL_law0_in42 : ∀ w ∈ wsL_law0_r42, w ∈ lw_tbl := fun w h => (goodIn_r wsL_law0_r42 [900, 1265, 1266, 1267, 1268, 902, 903, 904, 905, 906, 907, 908, 1269, 1270, 1271, 1272] (by decide +kernel) (by decide +kernel) w h).1
theorem wsX_in7 : ∀ w ∈ wsX70, w ∈ lw_tbl := fun w h => (goodIn_r wsX70 [191, 193, 195, 197, 199, 201, 203] (by decide +kernel) (by decide +kernel) w h).1
theorem wsX_in8 : ∀ w ∈ wsX80, w ∈ lw_tbl := fun w h => (goodIn_r wsX80 [931, 933, 935, 937, 939, 941, 943, 945, 947, 949, 951, 953, 955, 957, 959, 961] (by decide +kernel) (by decide +kernel) w h).1
theorem wsX_in6 : ∀ w ∈ wsX60, w ∈ lw_tbl := fun w h => (goodIn_r wsX60 [86, 88] (by decide +kernel) (by decide +kernel) w h).1
theorem wsX_in4 : ∀ w ∈ wsX40, w ∈ lw_tbl := fun w h => (goodIn_r wsX40 [146, 148, 150, 152, 154, 156, 158, 160, 162] (by decide +kernel) (by decide +kernel) w h).1
theorem wsX_in3 : ∀ w ∈ wsX30, w ∈ lw_tbl := fun w h => (goodIn_r wsX30 [177, 179, 181] (by decide +kernel) (by decide +kernel) w h).1
theorem wsX_in1 : ∀ w ∈ wsX10, w ∈ lw_tbl := fun w h => (goodIn_r wsX10 [108] (by decide +kernel) (by decide +kernel) w h).1
theorem wsX_in0 : ∀ w ∈ wsX00, w ∈ lw_tbl := fun w h => (goodIn_r wsX00 [120, 122] (by decide +kernel) (by decide +kernel) w h).1
theorem wsX_in2 : ∀ w ∈ wsX20, w ∈ lw_tbl := fun w h => (goodIn_r wsX20 [453, 455, 457] (by decide +kernel) (by decide +kernel) w h).1
theorem wsX_in5 : ∀ w ∈ wsX50, w ∈ lw_tbl := fun w h => (goodIn_r wsX50 [852, 854] (by decide +kernel) (by decide +kernel) w h).1
theorem wsL_law_in0 : ∀ w ∈ wsL_law0, w ∈ lw_tbl := List.forall_mem_append.mpr ⟨List.forall_mem_append.mpr ⟨List.forall_mem_append.mpr ⟨List.forall_mem_append.mpr ⟨List.forall_mem_append.mpr ⟨List.forall_mem_append.mpr ⟨List.forall_mem_append.mpr ⟨List.forall_mem_append.mpr ⟨List.forall_mem_append.mpr ⟨List.forall_mem_append.mpr ⟨List.forall_mem_append.mpr ⟨wsL_law0_in1, List.forall_mem_append.mpr ⟨wsL_law0_in2, List.forall_mem_append.mpr ⟨wsL_law0_in3, List.forall_mem_append.mpr ⟨wsL_law0_in4, List.forall_mem_append.mpr ⟨wsL_law0_in5, List.forall_mem_append.mpr ⟨wsL_law0_in6, List.forall_mem_append.mpr ⟨wsL_law0_in7, List.forall_mem_append.mpr ⟨wsL_law0_in8, List.forall_mem_append.mpr ⟨wsL_law0_in9, List.forall_mem_append.mpr ⟨wsL_law0_in10, List.forall_mem_append.mpr ⟨wsL_law0_in11, List.forall_mem_append.mpr ⟨wsL_law0_in12, List.forall_mem_append.mpr ⟨wsL_law0_in13, List.forall_mem_append.mpr ⟨wsL_law0_in14, List.forall_mem_append.mpr ⟨wsL_law0_in15, List.forall_mem_append.mpr ⟨wsL_law0_in16, List.forall_mem_append.mpr ⟨wsL_law0_in17, List.forall_mem_append.mpr ⟨wsL_law0_in18, List.forall_mem_append.mpr ⟨wsL_law0_in19, List.forall_mem_append.mpr ⟨wsL_law0_in20, List.forall_mem_append.mpr ⟨wsL_law0_in21, List.forall_mem_append.mpr ⟨wsL_law0_in22, List.forall_mem_append.mpr ⟨wsL_law0_in23, List.forall_mem_append.mpr ⟨wsL_law0_in24, List.forall_mem_append.mpr ⟨wsL_law0_in25, List.forall_mem_append.mpr ⟨wsL_law0_in26, List.forall_mem_append.mpr ⟨wsL_law0_in27, List.forall_mem_append.mpr ⟨wsL_law0_in28, List.forall_mem_append.mpr ⟨wsL_law0_in29, List.forall_mem_append.mpr ⟨wsL_law0_in30, List.forall_mem_append.mpr ⟨wsL_law0_in31, List.forall_mem_append.mpr ⟨wsL_law0_in32, List.forall_mem_append.mpr ⟨wsL_law0_in33, List.forall_mem_append.mpr ⟨wsL_law0_in34, List.forall_mem_append.mpr ⟨wsL_law0_in35, List.forall_mem_append.mpr ⟨wsL_law0_in36, List.forall_mem_append.mpr ⟨wsL_law0_in37, List.forall_mem_append.mpr ⟨wsL_law0_in38, List.forall_mem_append.mpr ⟨wsL_law0_in39, List.forall_mem_append.mpr ⟨wsL_law0_in40, List.forall_mem_append.mpr ⟨wsL_law0_in41, wsL_law0_in42⟩⟩⟩⟩⟩⟩⟩⟩⟩⟩⟩⟩⟩⟩⟩⟩⟩⟩⟩⟩⟩⟩⟩⟩⟩⟩⟩⟩⟩⟩⟩⟩⟩⟩⟩⟩⟩⟩⟩⟩⟩, wsX_in7⟩, wsX_in8⟩, wsX_in6⟩, wsX_in4⟩, wsX_in3⟩, wsX_in1⟩, wsX_in0⟩, wsX_in2⟩, wsX_in5⟩, fun _ h => absurd h List.not_mem_nil⟩
theorem wsL_law_x0 : ∀ w ∈ (vx_atS RX7 239 "java/lang/IllegalArgumentException" ["java/lang/RuntimeException", "java/lang/Exception"]).filter goodWord, w ∈ lw_tbl := by decide +kernel
theorem wsL_law_x1 : ∀ w ∈ (vx_atS RX7 246 "java/lang/IllegalStateException" ["java/lang/RuntimeException", "java/lang/Exception"]).filter goodWord, w ∈ lw_tbl := by decide +kernel
theorem wsL_law_x2 : ∀ w ∈ (vx_atS RX7 251 "java/lang/IndexOutOfBoundsException" ["java/lang/RuntimeException", "java/lang/Exception"]).filter goodWord, w ∈ lw_tbl := by decide +kernel
theorem wsL_law_in : ∀ w ∈ wsL_law, w ∈ lw_tbl := fun w h => (List.mem_append.mp h).elim (fun h => (List.mem_append.mp h).elim (fun h => (List.mem_append.mp h).elim (fun h => wsL_law_in0 w h) (fun h => wsL_law_x0 w h)) (fun h => wsL_law_x1 w h)) (fun h => wsL_law_x2 w h)
