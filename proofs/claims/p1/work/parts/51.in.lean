/-! Every word of G stands in the tables. -/
set_option maxRecDepth 20000 in
theorem ti_A0 : ∀ w ∈ GA0, w ∈ lw_tbl := fun w h => (goodIn_r GA0 [326, 324, 325, 53, 249, 250, 122, 252, 515, 516, 517, 307, 75, 76, 145, 308, 346, 356, 358, 360, 362, 364, 366, 367, 368] (by decide +kernel) (by decide +kernel) w h).1
set_option maxRecDepth 20000 in
theorem ti_A1 : ∀ w ∈ GA1, w ∈ lw_tbl := fun w h => (goodIn_r GA1 [347, 354, 349, 351, 353, 151, 152, 153, 154, 167, 168, 170, 171, 172, 173, 174, 175, 176, 199, 200, 202, 204, 206, 208, 210] (by decide +kernel) (by decide +kernel) w h).1
set_option maxRecDepth 20000 in
theorem ti_A2 : ∀ w ∈ GA2, w ∈ lw_tbl := fun w h => (goodIn_r GA2 [212, 214, 216, 218, 125, 126, 107, 108, 55, 109, 129, 117, 114, 116, 4, 54, 127, 128, 104, 105, 106, 96, 93, 95, 1] (by decide +kernel) (by decide +kernel) w h).1
set_option maxRecDepth 20000 in
theorem ti_A3 : ∀ w ∈ GA3, w ∈ lw_tbl := fun w h => (goodIn_r GA3 [113, 110, 112, 3, 121, 118, 120, 5, 86, 87, 124, 92, 89, 91, 0, 583, 580, 581, 582, 57, 634, 635, 637, 639, 643] (by decide +kernel) (by decide +kernel) w h).1
set_option maxRecDepth 20000 in
theorem ti_A4 : ∀ w ∈ GA4, w ∈ lw_tbl := fun w h => (goodIn_r GA4 [644, 645, 675, 646, 647, 648, 649, 641, 642, 703, 700, 702, 19, 68, 680, 245, 525, 522, 523, 524, 579, 576, 577, 578, 248] (by decide +kernel) (by decide +kernel) w h).1
set_option maxRecDepth 20000 in
theorem ti_A5 : ∀ w ∈ GA5, w ∈ lw_tbl := fun w h => (goodIn_r GA5 [629, 630, 244, 633, 631, 632, 521, 518, 520, 9, 53, 679, 676, 677, 678, 74, 77, 241, 79, 242, 81, 82, 85, 83, 84] (by decide +kernel) (by decide +kernel) w h).1
set_option maxRecDepth 20000 in
theorem ti_A6 : ∀ w ∈ GA6, w ∈ lw_tbl := fun w h => (goodIn_r GA6 [243, 146, 147, 56, 150, 149, 162, 163, 166, 165, 194, 195, 58, 198, 197, 246, 247, 251, 253, 254, 255, 256, 257, 258, 259] (by decide +kernel) (by decide +kernel) w h).1
set_option maxRecDepth 20000 in
theorem ti_A7 : ∀ w ∈ GA7, w ∈ lw_tbl := fun w h => (goodIn_r GA7 [303, 60, 306, 305, 320, 317, 319, 6, 341, 339, 340, 53, 342, 61, 345, 343, 344, 403, 400, 402, 8, 495, 492, 493, 494] (by decide +kernel) (by decide +kernel) w h).1
set_option maxRecDepth 20000 in
theorem ti_A8 : ∀ w ∈ GA8, w ∈ lw_tbl := fun w h => (goodIn_r GA8 [211, 628, 625, 627, 16, 719, 716, 717, 718, 638, 219, 752, 749, 751, 24, 640, 740, 737, 739, 23, 514, 512, 513, 67, 123] (by decide +kernel) (by decide +kernel) w h).1
set_option maxRecDepth 20000 in
theorem ti_A9 : ∀ w ∈ GA9, w ∈ lw_tbl := fun w h => (goodIn_r GA9 [810, 807, 808, 809, 217, 213, 814, 811, 813, 27, 946, 1120, 1118, 1119, 59, 947, 1132, 1129, 1131, 34, 59, 1117, 1114, 1116, 33] (by decide +kernel) (by decide +kernel) w h).1
set_option maxRecDepth 20000 in
theorem ti_A10 : ∀ w ∈ GA10, w ∈ lw_tbl := fun w h => (goodIn_r GA10 [945, 973, 948, 936, 933, 935, 30, 932, 927, 950, 951, 952, 1105, 953, 954, 955, 956, 957, 958, 959, 960, 961, 962, 963, 964] (by decide +kernel) (by decide +kernel) w h).1
set_option maxRecDepth 20000 in
theorem ti_A11 : ∀ w ∈ GA11, w ∈ lw_tbl := fun w h => (goodIn_r GA11 [965, 966, 967, 968, 969, 975, 976, 977, 978, 980, 982, 983, 984, 985, 990, 991, 992, 993, 994, 995, 996, 997, 931, 928, 930] (by decide +kernel) (by decide +kernel) w h).1
set_option maxRecDepth 20000 in
theorem ti_A12 : ∀ w ∈ GA12, w ∈ lw_tbl := fun w h => (goodIn_r GA12 [29, 986, 974, 949, 981, 987, 1267, 1264, 1266, 50, 1227, 1224, 1226, 45, 988, 989, 1255, 1252, 1254, 49, 970, 971, 972, 1148, 1145] (by decide +kernel) (by decide +kernel) w h).1
set_option maxRecDepth 20000 in
theorem ti_A13 : ∀ w ∈ GA13, w ∈ lw_tbl := fun w h => (goodIn_r GA13 [1147, 35, 823, 66, 817, 819, 820, 821, 822, 818, 892, 893, 894, 895, 896, 908, 909, 910, 911, 912, 302, 299, 300, 301, 1109] (by decide +kernel) (by decide +kernel) w h).1
set_option maxRecDepth 20000 in
theorem ti_A14 : ∀ w ∈ GA14, w ∈ lw_tbl := fun w h => (goodIn_r GA14 [1106, 1107, 1108, 316, 313, 314, 315, 1113, 1110, 1111, 1112, 338, 335, 336, 337, 1124, 1121, 1122, 1123, 399, 396, 397, 398, 1128, 1125] (by decide +kernel) (by decide +kernel) w h).1
set_option maxRecDepth 20000 in
theorem ti_A15 : ∀ w ∈ GA15, w ∈ lw_tbl := fun w h => (goodIn_r GA15 [1126, 1127, 411, 408, 409, 410, 1136, 1133, 1134, 1135, 415, 412, 413, 414, 1140, 1137, 1138, 1139, 423, 420, 421, 422, 1144, 1141, 1142] (by decide +kernel) (by decide +kernel) w h).1
set_option maxRecDepth 20000 in
theorem ti_A16 : ∀ w ∈ GA16, w ∈ lw_tbl := fun w h => (goodIn_r GA16 [1143, 491, 488, 489, 490, 1152, 1149, 1150, 1151, 503, 500, 501, 502, 1156, 1153, 1154, 1155, 815, 816, 52, 1160, 1157, 1158, 1159, 921] (by decide +kernel) (by decide +kernel) w h).1
set_option maxRecDepth 20000 in
theorem ti_A17 : ∀ w ∈ GA17, w ∈ lw_tbl := fun w h => (goodIn_r GA17 [918, 919, 920, 890, 891, 52, 1172, 1169, 1170, 1171, 906, 907, 52, 1176, 1173, 1174, 1175, 507, 504, 505, 506, 1180, 1177, 1178, 1179] (by decide +kernel) (by decide +kernel) w h).1
set_option maxRecDepth 20000 in
theorem ti_A18 : ∀ w ∈ GA18, w ∈ lw_tbl := fun w h => (goodIn_r GA18 [511, 508, 509, 510, 1184, 1181, 1182, 1183, 620, 617, 618, 619, 1219, 1216, 1217, 1218, 624, 621, 622, 623, 1223, 1220, 1221, 1222, 732] (by decide +kernel) (by decide +kernel) w h).1
set_option maxRecDepth 20000 in
theorem ti_A19 : ∀ w ∈ GA19, w ∈ lw_tbl := fun w h => (goodIn_r GA19 [729, 730, 731, 1239, 1236, 1237, 1238, 736, 733, 734, 735, 1243, 1240, 1241, 1242, 748, 745, 746, 747, 1251, 1248, 1249, 1250, 760, 757] (by decide +kernel) (by decide +kernel) w h).1
set_option maxRecDepth 20000 in
theorem ti_A20 : ∀ w ∈ GA20, w ∈ lw_tbl := fun w h => (goodIn_r GA20 [758, 759, 1259, 1256, 1257, 1258, 772, 769, 770, 771, 1263, 1260, 1261, 1262, 782, 779, 780, 781, 1271, 1268, 1269, 1270, 798, 795, 796] (by decide +kernel) (by decide +kernel) w h).1
set_option maxRecDepth 20000 in
theorem ti_A21 : ∀ w ∈ GA21, w ∈ lw_tbl := fun w h => (goodIn_r GA21 [797, 1279, 1276, 1277, 1278, 802, 799, 800, 801, 1283, 1280, 1281, 1282, 806, 803, 804, 805, 1287, 1284, 1285, 1286, 69, 70, 73, 71] (by decide +kernel) (by decide +kernel) w h).1
set_option maxRecDepth 20000 in
theorem ti_A22 : ∀ w ∈ GA22, w ∈ lw_tbl := fun w h => (goodIn_r GA22 [72, 922, 923, 926, 924, 925] (by decide +kernel) (by decide +kernel) w h).1
set_option maxRecDepth 20000 in
theorem ti_X0 : ∀ w ∈ wsX00, w ∈ lw_tbl := fun w h => (goodIn_r wsX00 [310] (by decide +kernel) (by decide +kernel) w h).1
set_option maxRecDepth 20000 in
theorem ti_X1 : ∀ w ∈ wsX10, w ∈ lw_tbl := fun w h => (goodIn_r wsX10 [130, 132, 134, 136, 138, 140, 142] (by decide +kernel) (by decide +kernel) w h).1
set_option maxRecDepth 20000 in
theorem ti_X2 : ∀ w ∈ wsX20, w ∈ lw_tbl := fun w h => (goodIn_r wsX20 [155, 157, 159] (by decide +kernel) (by decide +kernel) w h).1
set_option maxRecDepth 20000 in
theorem ti_X3 : ∀ w ∈ wsX30, w ∈ lw_tbl := fun w h => (goodIn_r wsX30 [369, 371, 373, 375, 377, 379, 381, 383, 385, 387, 389, 391, 393] (by decide +kernel) (by decide +kernel) w h).1
set_option maxRecDepth 20000 in
theorem ti_X4 : ∀ w ∈ wsX40, w ∈ lw_tbl := fun w h => (goodIn_r wsX40 [220, 222, 224, 226, 228, 230, 232, 234, 236, 238] (by decide +kernel) (by decide +kernel) w h).1
set_option maxRecDepth 20000 in
theorem ti_X5 : ∀ w ∈ wsX50, w ∈ lw_tbl := fun w h => (goodIn_r wsX50 [650, 652, 654, 656, 658, 660, 662, 664, 666, 668, 670, 672] (by decide +kernel) (by decide +kernel) w h).1
set_option maxRecDepth 20000 in
theorem ti_X6 : ∀ w ∈ wsX60, w ∈ lw_tbl := fun w h => (goodIn_r wsX60 [177, 179, 181, 183, 185, 187, 189, 191] (by decide +kernel) (by decide +kernel) w h).1
set_option maxRecDepth 20000 in
theorem ti_X7 : ∀ w ∈ wsX70, w ∈ lw_tbl := fun w h => (goodIn_r wsX70 [462, 464, 466, 468, 470, 472, 474, 476] (by decide +kernel) (by decide +kernel) w h).1
set_option maxRecDepth 20000 in
theorem ti_X8 : ∀ w ∈ wsX80, w ∈ lw_tbl := fun w h => (goodIn_r wsX80 [260, 262, 264, 266, 268, 270, 272, 274, 276, 278, 280, 282, 284, 286, 288, 290, 292, 294, 296] (by decide +kernel) (by decide +kernel) w h).1
set_option maxRecDepth 20000 in
theorem ti_X9 : ∀ w ∈ wsX90, w ∈ lw_tbl := fun w h => (goodIn_r wsX90 [998, 1000, 1002, 1004, 1006, 1008, 1010, 1012, 1014, 1016, 1018, 1020, 1022, 1024, 1026, 1028, 1030, 1032, 1034, 1036, 1038, 1040, 1042, 1044, 1046, 1048, 1050, 1052, 1054, 1056, 1058, 1060, 1062, 1064, 1066, 1068, 1070, 1072, 1074, 1076, 1078, 1080, 1082, 1084, 1086, 1088, 1090, 1092, 1094, 1096, 1098, 1100, 1102] (by decide +kernel) (by decide +kernel) w h).1
set_option maxRecDepth 20000 in
theorem ti_T : ∀ w ∈ GT, w ∈ lw_tbl := fun w h => (goodIn_r GT [63, 845, 854, 856, 859, 861, 846, 847, 75, 76, 848, 853, 857, 877, 835, 878, 837, 879, 839, 849, 851, 841, 873, 874, 876, 841, 864, 865, 866, 867, 867, 868, 869, 870, 870, 871, 872, 873, 863, 824, 832, 833, 834, 836, 838, 840, 844, 843, 842] (by decide +kernel) (by decide +kernel) w h).1
theorem G_in : ∀ w ∈ G, w ∈ lw_tbl := List.forall_mem_append.mpr ⟨List.forall_mem_append.mpr ⟨ti_A0, List.forall_mem_append.mpr ⟨ti_A1, List.forall_mem_append.mpr ⟨ti_A2, List.forall_mem_append.mpr ⟨ti_A3, List.forall_mem_append.mpr ⟨ti_A4, List.forall_mem_append.mpr ⟨ti_A5, List.forall_mem_append.mpr ⟨ti_A6, List.forall_mem_append.mpr ⟨ti_A7, List.forall_mem_append.mpr ⟨ti_A8, List.forall_mem_append.mpr ⟨ti_A9, List.forall_mem_append.mpr ⟨ti_A10, List.forall_mem_append.mpr ⟨ti_A11, List.forall_mem_append.mpr ⟨ti_A12, List.forall_mem_append.mpr ⟨ti_A13, List.forall_mem_append.mpr ⟨ti_A14, List.forall_mem_append.mpr ⟨ti_A15, List.forall_mem_append.mpr ⟨ti_A16, List.forall_mem_append.mpr ⟨ti_A17, List.forall_mem_append.mpr ⟨ti_A18, List.forall_mem_append.mpr ⟨ti_A19, List.forall_mem_append.mpr ⟨ti_A20, List.forall_mem_append.mpr ⟨ti_A21, ti_A22⟩⟩⟩⟩⟩⟩⟩⟩⟩⟩⟩⟩⟩⟩⟩⟩⟩⟩⟩⟩⟩⟩, List.forall_mem_append.mpr ⟨ti_X0, List.forall_mem_append.mpr ⟨ti_X1, List.forall_mem_append.mpr ⟨ti_X2, List.forall_mem_append.mpr ⟨ti_X3, List.forall_mem_append.mpr ⟨ti_X4, List.forall_mem_append.mpr ⟨ti_X5, List.forall_mem_append.mpr ⟨ti_X6, List.forall_mem_append.mpr ⟨ti_X7, List.forall_mem_append.mpr ⟨ti_X8, List.forall_mem_append.mpr ⟨ti_X9, ti_T⟩⟩⟩⟩⟩⟩⟩⟩⟩⟩⟩
