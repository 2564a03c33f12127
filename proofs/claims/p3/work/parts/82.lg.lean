set_option maxRecDepth 20000 in
theorem ggL_law_X8_init : GoodIn wsL_law wsX8_init := goodIn_r _ [9, 10, 11, 12, 13, 14, 15, 16, 17, 18, 19, 20, 21, 22, 23, 24, 25, 26, 27, 28, 29, 30, 31, 32, 33, 34, 35, 36, 37, 38, 39, 40, 41, 42, 43, 44, 45, 46, 47, 48, 49, 50, 51, 52, 53, 54, 55, 56, 57, 58, 59, 60, 61, 62, 63, 64, 65, 66, 67, 68, 69, 70, 71, 72, 73, 74, 75, 76, 77, 78, 79, 80, 81, 82, 83, 84, 85, 86, 87, 88, 89, 90, 91, 92, 93, 94, 95, 96, 97, 98, 99, 100, 1070, 1071, 1072, 1073, 1074, 1075, 1076, 1077, 1078, 1079, 1080, 1081, 1082, 1083, 1084, 1085, 1086, 1087, 1143, 1144, 1145, 1146, 1147, 1148, 1149, 1150, 1151, 1152, 1153, 1154, 1155, 1156, 1157, 1158, 1159, 1160, 1161, 1162, 1163, 1164, 1165, 1166, 1167, 1168, 1169, 1170, 1171, 1172, 1173, 1174, 1175] (by decide +kernel) (by decide +kernel)
set_option maxRecDepth 20000 in
theorem gL_law_X8_init : GoodIn wsL_law (wsX8_init) := ggL_law_X8_init
set_option maxRecDepth 20000 in
theorem ggL_law_X9_init : GoodIn wsL_law wsX9_init := goodIn_r _ [103, 104, 11, 12, 105, 15, 106, 107, 108, 109, 110, 111, 112, 113, 114, 115, 13, 116, 95, 117, 118, 119, 120, 121, 122, 123, 124, 125, 126, 127, 128, 129, 130, 131, 132, 133, 134, 135, 136, 137, 138, 139, 140, 141, 142, 143, 144, 145, 146, 1088, 1089, 1090, 1091, 1092, 1093, 1094, 1095, 1096, 1097, 1098, 1099, 1100, 1101, 1102, 1103, 1104, 1105, 1106, 1107, 1108, 1109, 1110, 1111, 1112, 1113, 1114, 1115, 1116, 1117, 1118, 1119, 1120, 1121, 1122, 1123, 1124, 1125, 1126, 1127, 1128, 1129, 1130, 1131, 1132, 1133, 1134, 1135, 1136, 1137, 1138, 1139, 1140, 1141, 1142] (by decide +kernel) (by decide +kernel)
set_option maxRecDepth 20000 in
theorem gL_law_X9_init : GoodIn wsL_law (wsX9_init) := ggL_law_X9_init
set_option maxRecDepth 20000 in
theorem ggL_law_X8_days : GoodIn wsL_law wsX8_days := goodIn_r _ [150, 151, 29, 51, 152, 153, 154, 2, 155, 14, 156, 157, 158, 159, 28, 160, 61, 161, 162, 163, 164, 165, 166, 167, 168, 169, 170, 1070, 1071, 1072, 1073, 1074, 1075, 1076, 1077, 1078, 1079, 1080, 1081, 1082, 1083, 1084, 1085, 1086, 1087, 1150, 1151] (by decide +kernel) (by decide +kernel)
set_option maxRecDepth 20000 in
theorem gL_law_X8_days : GoodIn wsL_law (wsV RL 13 RX8 yX8_days wsX8_days) := goodIn_app (goodIn_of _ (by decide +kernel)) ggL_law_X8_days
set_option maxRecDepth 20000 in
theorem ggL_law_X9_days : GoodIn wsL_law wsX9_days := goodIn_r _ [174, 175, 176, 177, 178, 179, 180, 181, 5, 182, 183, 184, 185, 186, 124, 187, 188, 189, 190, 191, 118, 105, 192, 193, 1088, 1089, 1090, 1091, 1092, 1093, 1094, 1095, 1096, 1097, 1098, 1099, 1100, 1101, 1102, 1103, 1104, 1105, 1106, 1107, 1108, 1109, 1110, 1111, 1112, 1113, 1114, 1115, 1116, 1117, 1118, 1119, 1120, 1121, 1122, 1123, 1124, 1125, 1126, 1127, 1128, 1129, 1130, 1131, 1132, 1133, 1134, 1135, 1136, 1137, 1138, 1139, 1140, 1141, 1142] (by decide +kernel) (by decide +kernel)
set_option maxRecDepth 20000 in
theorem gL_law_X9_days : GoodIn wsL_law (wsV RL 17 RX9 yX9_days wsX9_days) := goodIn_app (goodIn_of _ (by decide +kernel)) ggL_law_X9_days
set_option maxRecDepth 20000 in
theorem ggL_law_X8_gain : GoodIn wsL_law wsX8_gain := goodIn_r _ [197, 51, 152, 153, 154, 2, 155, 14, 156, 1070, 1071, 1072, 1073, 1074, 1075, 1076, 1077, 1078, 1079, 1080, 1081, 1082, 1083, 1084, 1085, 1086, 1087] (by decide +kernel) (by decide +kernel)
set_option maxRecDepth 20000 in
theorem gL_law_X8_gain : GoodIn wsL_law (wsV RL 18 RX8 yX8_gain wsX8_gain) := goodIn_app (goodIn_of _ (by decide +kernel)) ggL_law_X8_gain
set_option maxRecDepth 20000 in
theorem ggL_law_X9_gain : GoodIn wsL_law wsX9_gain := goodIn_r _ [201, 175, 105, 180, 181, 5, 182, 183, 184, 185, 186, 124, 187, 1088, 1089, 1090, 1091, 1092, 1093, 1094, 1095, 1096, 1097, 1098, 1099, 1100, 1101, 1102, 1103, 1104, 1105, 1106, 1107, 1108, 1109, 1110, 1111, 1112, 1113, 1114, 1115, 1116, 1117, 1118, 1119, 1120, 1121, 1122, 1123, 1124, 1125, 1126, 1127, 1128, 1129, 1130, 1131, 1132, 1133, 1134, 1135, 1136, 1137, 1138, 1139, 1140, 1141, 1142] (by decide +kernel) (by decide +kernel)
set_option maxRecDepth 20000 in
theorem gL_law_X9_gain : GoodIn wsL_law (wsV RL 21 RX9 yX9_gain wsX9_gain) := goodIn_app (goodIn_of _ (by decide +kernel)) ggL_law_X9_gain
set_option maxRecDepth 20000 in
theorem ggL_law_X8_road : GoodIn wsL_law wsX8_road := goodIn_r _ [205, 16, 206, 207, 2, 208, 152, 153, 154, 155, 14, 156, 1070, 1071, 1072, 1073, 1074, 1075, 1076, 1077, 1078, 1079, 1080, 1081, 1082, 1083, 1084, 1085, 1086, 1087] (by decide +kernel) (by decide +kernel)
set_option maxRecDepth 20000 in
theorem gL_law_X8_road : GoodIn wsL_law (wsV RL 22 RX8 yX8_road wsX8_road) := goodIn_app (goodIn_of _ (by decide +kernel)) ggL_law_X8_road
set_option maxRecDepth 20000 in
theorem ggL_law_X9_road : GoodIn wsL_law wsX9_road := goodIn_r _ [212, 175, 106, 180, 181, 5, 182, 183, 184, 185, 186, 124, 187, 1088, 1089, 1090, 1091, 1092, 1093, 1094, 1095, 1096, 1097, 1098, 1099, 1100, 1101, 1102, 1103, 1104, 1105, 1106, 1107, 1108, 1109, 1110, 1111, 1112, 1113, 1114, 1115, 1116, 1117, 1118, 1119, 1120, 1121, 1122, 1123, 1124, 1125, 1126, 1127, 1128, 1129, 1130, 1131, 1132, 1133, 1134, 1135, 1136, 1137, 1138, 1139, 1140, 1141, 1142] (by decide +kernel) (by decide +kernel)
set_option maxRecDepth 20000 in
theorem gL_law_X9_road : GoodIn wsL_law (wsV RL 26 RX9 yX9_road wsX9_road) := goodIn_app (goodIn_of _ (by decide +kernel)) ggL_law_X9_road
set_option maxRecDepth 20000 in
theorem ggL_law_X8_seat : GoodIn wsL_law wsX8_seat := goodIn_r _ [216, 17, 217, 218, 2, 219, 206, 207, 208, 152, 153, 154, 155, 14, 156, 1070, 1071, 1072, 1073, 1074, 1075, 1076, 1077, 1078, 1079, 1080, 1081, 1082, 1083, 1084, 1085, 1086, 1087] (by decide +kernel) (by decide +kernel)
set_option maxRecDepth 20000 in
theorem gL_law_X8_seat : GoodIn wsL_law (wsV RL 27 RX8 yX8_seat wsX8_seat) := goodIn_app (goodIn_of _ (by decide +kernel)) ggL_law_X8_seat
set_option maxRecDepth 20000 in
theorem ggL_law_X9_seat : GoodIn wsL_law wsX9_seat := goodIn_r _ [223, 175, 107, 224, 225, 5, 226, 180, 181, 182, 227, 228, 229, 183, 184, 185, 186, 124, 187, 1088, 1089, 1090, 1091, 1092, 1093, 1094, 1095, 1096, 1097, 1098, 1099, 1100, 1101, 1102, 1103, 1104, 1105, 1106, 1107, 1108, 1109, 1110, 1111, 1112, 1113, 1114, 1115, 1116, 1117, 1118, 1119, 1120, 1121, 1122, 1123, 1124, 1125, 1126, 1127, 1128, 1129, 1130, 1131, 1132, 1133, 1134, 1135, 1136, 1137, 1138, 1139, 1140, 1141, 1142] (by decide +kernel) (by decide +kernel)
set_option maxRecDepth 20000 in
theorem gL_law_X9_seat : GoodIn wsL_law (wsV RL 30 RX9 yX9_seat wsX9_seat) := goodIn_app (goodIn_of _ (by decide +kernel)) ggL_law_X9_seat
set_option maxRecDepth 20000 in
theorem ggL_law_X8_draw : GoodIn wsL_law wsX8_draw := goodIn_r _ [233, 234, 235, 18, 236, 237, 151, 19, 238, 239, 2, 240, 217, 218, 219, 152, 153, 154, 155, 14, 156, 241, 242, 243, 244, 11, 12, 15, 245, 246, 247, 248, 249, 250, 251, 252, 253, 254, 255, 256, 1070, 1071, 1072, 1073, 1074, 1075, 1076, 1077, 1078, 1079, 1080, 1081, 1082, 1083, 1084, 1085, 1086, 1087, 1176, 1177, 1178, 1179, 1180, 1181, 1182, 1183, 1184, 1185] (by decide +kernel) (by decide +kernel)
set_option maxRecDepth 20000 in
theorem gL_law_X8_draw : GoodIn wsL_law (wsV RL 31 RX8 yX8_draw wsX8_draw) := goodIn_app (goodIn_of _ (by decide +kernel)) ggL_law_X8_draw
set_option maxRecDepth 20000 in
theorem ggL_law_X9_draw : GoodIn wsL_law wsX9_draw := goodIn_r _ [260, 261, 175, 262, 263, 179, 108, 109, 110, 111, 112, 114, 117, 116, 136, 180, 181, 5, 182, 224, 225, 226, 183, 184, 185, 186, 124, 187, 264, 265, 266, 267, 113, 176, 1088, 1089, 1090, 1091, 1092, 1093, 1094, 1095, 1096, 1097, 1098, 1099, 1100, 1101, 1102, 1103, 1104, 1105, 1106, 1107, 1108, 1109, 1110, 1111, 1112, 1113, 1114, 1115, 1116, 1117, 1118, 1119, 1120, 1121, 1122, 1123, 1124, 1125, 1126, 1127, 1128, 1129, 1130, 1131, 1132, 1133, 1134, 1135, 1136, 1137, 1138, 1139, 1140, 1141, 1142] (by decide +kernel) (by decide +kernel)
set_option maxRecDepth 20000 in
theorem gL_law_X9_draw : GoodIn wsL_law (wsV RL 35 RX9 yX9_draw wsX9_draw) := goodIn_app (goodIn_of _ (by decide +kernel)) ggL_law_X9_draw
set_option maxRecDepth 20000 in
theorem ggL_law_X8_pass : GoodIn wsL_law wsX8_pass := goodIn_r _ [271, 272, 273, 274, 275, 276, 277, 2, 278, 235, 19, 217, 218, 219, 152, 153, 154, 155, 14, 156, 279, 280, 281, 237, 282, 247, 283, 284, 285, 286, 287, 245, 250, 1176, 1177, 1178, 1179, 1180, 1181, 1182, 1183, 1184, 1185, 1070, 1071, 1072, 1073, 1074, 1075, 1076, 1077, 1078, 1079, 1080, 1081, 1082, 1083, 1084, 1085, 1086, 1087] (by decide +kernel) (by decide +kernel)
set_option maxRecDepth 20000 in
theorem gL_law_X8_pass : GoodIn wsL_law (wsV RL 36 RX8 yX8_pass wsX8_pass) := goodIn_app (goodIn_of _ (by decide +kernel)) ggL_law_X8_pass
set_option maxRecDepth 20000 in
theorem ggL_law_X9_pass : GoodIn wsL_law wsX9_pass := goodIn_r _ [291, 175, 113, 292, 111, 262, 108, 114, 179, 115, 293, 294, 295, 5, 296, 263, 180, 181, 182, 224, 225, 226, 183, 184, 185, 186, 124, 187, 1088, 1089, 1090, 1091, 1092, 1093, 1094, 1095, 1096, 1097, 1098, 1099, 1100, 1101, 1102, 1103, 1104, 1105, 1106, 1107, 1108, 1109, 1110, 1111, 1112, 1113, 1114, 1115, 1116, 1117, 1118, 1119, 1120, 1121, 1122, 1123, 1124, 1125, 1126, 1127, 1128, 1129, 1130, 1131, 1132, 1133, 1134, 1135, 1136, 1137, 1138, 1139, 1140, 1141, 1142] (by decide +kernel) (by decide +kernel)
set_option maxRecDepth 20000 in
theorem gL_law_X9_pass : GoodIn wsL_law (wsV RL 39 RX9 yX9_pass wsX9_pass) := goodIn_app (goodIn_of _ (by decide +kernel)) ggL_law_X9_pass
set_option maxRecDepth 20000 in
theorem ggL_law_X8_take : GoodIn wsL_law wsX8_take := goodIn_r _ [300, 272, 151, 275, 276, 277, 2, 278, 235, 19, 152, 153, 154, 155, 14, 156, 301, 302, 303, 304, 252, 253, 254, 237, 255, 256, 246, 1176, 1177, 1178, 1179, 1180, 1181, 1182, 1183, 1184, 1185, 1070, 1071, 1072, 1073, 1074, 1075, 1076, 1077, 1078, 1079, 1080, 1081, 1082, 1083, 1084, 1085, 1086, 1087] (by decide +kernel) (by decide +kernel)
set_option maxRecDepth 20000 in
theorem gL_law_X8_take : GoodIn wsL_law (wsV RL 40 RX8 yX8_take wsX8_take) := goodIn_app (goodIn_of _ (by decide +kernel)) ggL_law_X8_take
set_option maxRecDepth 20000 in
theorem ggL_law_X9_take : GoodIn wsL_law wsX9_take := goodIn_r _ [308, 175, 113, 292, 309, 293, 294, 295, 5, 296, 263, 180, 181, 182, 183, 184, 185, 186, 124, 187, 310, 311, 312, 313, 176, 177, 314, 264, 265, 266, 267, 116, 1088, 1089, 1090, 1091, 1092, 1093, 1094, 1095, 1096, 1097, 1098, 1099, 1100, 1101, 1102, 1103, 1104, 1105, 1106, 1107, 1108, 1109, 1110, 1111, 1112, 1113, 1114, 1115, 1116, 1117, 1118, 1119, 1120, 1121, 1122, 1123, 1124, 1125, 1126, 1127, 1128, 1129, 1130, 1131, 1132, 1133, 1134, 1135, 1136, 1137, 1138, 1139, 1140, 1141, 1142] (by decide +kernel) (by decide +kernel)
set_option maxRecDepth 20000 in
theorem gL_law_X9_take : GoodIn wsL_law (wsV RL 44 RX9 yX9_take wsX9_take) := goodIn_app (goodIn_of _ (by decide +kernel)) ggL_law_X9_take
set_option maxRecDepth 20000 in
theorem ggL_law_X8_pay : GoodIn wsL_law wsX8_pay := goodIn_r _ [318, 272, 319, 151, 320, 273, 321, 275, 276, 277, 2, 278, 235, 19, 152, 153, 154, 155, 14, 156, 301, 302, 303, 304, 322, 323, 324, 325, 29, 326, 327, 328, 28, 329, 61, 330, 331, 332, 333, 161, 334, 335, 336, 337, 338, 339, 340, 341, 342, 343, 344, 170, 252, 253, 254, 237, 255, 256, 246, 1176, 1177, 1178, 1179, 1180, 1181, 1182, 1183, 1184, 1185, 1070, 1071, 1072, 1073, 1074, 1075, 1076, 1077, 1078, 1079, 1080, 1081, 1082, 1083, 1084, 1085, 1086, 1087, 1150, 1151] (by decide +kernel) (by decide +kernel)
set_option maxRecDepth 20000 in
theorem gL_law_X8_pay : GoodIn wsL_law (wsV RL 45 RX8 yX8_pay wsX8_pay) := goodIn_app (goodIn_of _ (by decide +kernel)) ggL_law_X8_pay
set_option maxRecDepth 20000 in
theorem ggL_law_X9_pay : GoodIn wsL_law wsX9_pay := goodIn_r _ [348, 175, 113, 292, 309, 110, 111, 112, 179, 117, 293, 294, 295, 5, 296, 263, 180, 181, 182, 183, 184, 185, 186, 124, 187, 310, 311, 312, 313, 176, 177, 314, 349, 350, 351, 352, 193, 353, 354, 355, 356, 357, 118, 358, 359, 360, 361, 264, 265, 266, 267, 116, 1088, 1089, 1090, 1091, 1092, 1093, 1094, 1095, 1096, 1097, 1098, 1099, 1100, 1101, 1102, 1103, 1104, 1105, 1106, 1107, 1108, 1109, 1110, 1111, 1112, 1113, 1114, 1115, 1116, 1117, 1118, 1119, 1120, 1121, 1122, 1123, 1124, 1125, 1126, 1127, 1128, 1129, 1130, 1131, 1132, 1133, 1134, 1135, 1136, 1137, 1138, 1139, 1140, 1141, 1142] (by decide +kernel) (by decide +kernel)
set_option maxRecDepth 20000 in
theorem gL_law_X9_pay : GoodIn wsL_law (wsV RL 48 RX9 yX9_pay wsX9_pay) := goodIn_app (goodIn_of _ (by decide +kernel)) ggL_law_X9_pay
set_option maxRecDepth 20000 in
theorem ggL_law_X8_protest : GoodIn wsL_law wsX8_protest := goodIn_r _ [365, 272, 151, 275, 276, 277, 2, 278, 235, 19, 152, 153, 154, 155, 14, 156, 252, 253, 254, 237, 255, 256, 246, 366, 367, 368, 369, 1176, 1177, 1178, 1179, 1180, 1181, 1182, 1183, 1184, 1185, 1070, 1071, 1072, 1073, 1074, 1075, 1076, 1077, 1078, 1079, 1080, 1081, 1082, 1083, 1084, 1085, 1086, 1087] (by decide +kernel) (by decide +kernel)
set_option maxRecDepth 20000 in
theorem gL_law_X8_protest : GoodIn wsL_law (wsV RL 49 RX8 yX8_protest wsX8_protest) := goodIn_app (goodIn_of _ (by decide +kernel)) ggL_law_X8_protest
set_option maxRecDepth 20000 in
theorem ggL_law_X9_protest : GoodIn wsL_law wsX9_protest := goodIn_r _ [373, 175, 113, 292, 176, 116, 293, 294, 295, 5, 296, 263, 180, 181, 182, 183, 184, 185, 186, 124, 187, 264, 265, 266, 267, 1088, 1089, 1090, 1091, 1092, 1093, 1094, 1095, 1096, 1097, 1098, 1099, 1100, 1101, 1102, 1103, 1104, 1105, 1106, 1107, 1108, 1109, 1110, 1111, 1112, 1113, 1114, 1115, 1116, 1117, 1118, 1119, 1120, 1121, 1122, 1123, 1124, 1125, 1126, 1127, 1128, 1129, 1130, 1131, 1132, 1133, 1134, 1135, 1136, 1137, 1138, 1139, 1140, 1141, 1142] (by decide +kernel) (by decide +kernel)
set_option maxRecDepth 20000 in
theorem gL_law_X9_protest : GoodIn wsL_law (wsV RL 52 RX9 yX9_protest wsX9_protest) := goodIn_app (goodIn_of _ (by decide +kernel)) ggL_law_X9_protest
set_option maxRecDepth 20000 in
theorem ggL_law_X8_recourse : GoodIn wsL_law wsX8_recourse := goodIn_r _ [377, 272, 378, 151, 275, 276, 277, 2, 278, 235, 19, 152, 153, 154, 155, 14, 156, 379, 380, 381, 237, 382, 283, 383, 384, 385, 386, 321, 387, 366, 367, 368, 369, 246, 388, 389, 390, 391, 245, 392, 393, 394, 395, 16, 17, 396, 397, 398, 399, 20, 49, 400, 401, 402, 48, 403, 404, 96, 405, 406, 407, 408, 97, 98, 99, 100, 409, 410, 411, 322, 323, 324, 325, 273, 29, 326, 327, 328, 28, 329, 61, 330, 331, 332, 333, 161, 334, 335, 336, 337, 338, 339, 340, 341, 342, 343, 344, 170, 252, 253, 254, 255, 256, 412, 413, 414, 415, 250, 416, 1176, 1177, 1178, 1179, 1180, 1181, 1182, 1183, 1184, 1185, 1070, 1071, 1072, 1073, 1074, 1075, 1076, 1077, 1078, 1079, 1080, 1081, 1082, 1083, 1084, 1085, 1086, 1087, 1170, 1171, 1172, 1173, 1174, 1175, 1150, 1151] (by decide +kernel) (by decide +kernel)
set_option maxRecDepth 20000 in
theorem gL_law_X8_recourse : GoodIn wsL_law (wsV RL 53 RX8 yX8_recourse wsX8_recourse) := goodIn_app (goodIn_of _ (by decide +kernel)) ggL_law_X8_recourse
set_option maxRecDepth 20000 in
theorem ggL_law_X9_recourse : GoodIn wsL_law wsX9_recourse := goodIn_r _ [420, 175, 113, 292, 114, 421, 109, 115, 116, 112, 108, 106, 107, 262, 111, 179, 293, 294, 295, 5, 296, 263, 180, 181, 182, 183, 184, 185, 186, 124, 187, 422, 423, 424, 425, 426, 126, 127, 128, 129, 125, 349, 350, 351, 352, 193, 353, 354, 355, 356, 357, 118, 358, 359, 360, 361, 264, 265, 266, 267, 176, 1088, 1089, 1090, 1091, 1092, 1093, 1094, 1095, 1096, 1097, 1098, 1099, 1100, 1101, 1102, 1103, 1104, 1105, 1106, 1107, 1108, 1109, 1110, 1111, 1112, 1113, 1114, 1115, 1116, 1117, 1118, 1119, 1120, 1121, 1122, 1123, 1124, 1125, 1126, 1127, 1128, 1129, 1130, 1131, 1132, 1133, 1134, 1135, 1136, 1137, 1138, 1139, 1140, 1141, 1142] (by decide +kernel) (by decide +kernel)
set_option maxRecDepth 20000 in
theorem gL_law_X9_recourse : GoodIn wsL_law (wsV RL 56 RX9 yX9_recourse wsX9_recourse) := goodIn_app (goodIn_of _ (by decide +kernel)) ggL_law_X9_recourse
set_option maxRecDepth 20000 in
theorem ggL_law_X8_about : GoodIn wsL_law wsX8_about := goodIn_r _ [430, 387, 378, 319, 273, 321, 272, 274, 275, 276, 277, 2, 278, 235, 19, 152, 153, 154, 155, 14, 156, 379, 380, 381, 237, 382, 283, 388, 389, 390, 391, 245, 431, 432, 433, 434, 246, 256, 1176, 1177, 1178, 1179, 1180, 1181, 1182, 1183, 1184, 1185, 1070, 1071, 1072, 1073, 1074, 1075, 1076, 1077, 1078, 1079, 1080, 1081, 1082, 1083, 1084, 1085, 1086, 1087] (by decide +kernel) (by decide +kernel)
set_option maxRecDepth 20000 in
theorem gL_law_X8_about : GoodIn wsL_law (wsV RL 57 RX8 yX8_about wsX8_about) := goodIn_app (goodIn_of _ (by decide +kernel)) ggL_law_X8_about
set_option maxRecDepth 20000 in
theorem ggL_law_X9_about : GoodIn wsL_law wsX9_about := goodIn_r _ [438, 175, 108, 109, 110, 111, 112, 113, 114, 116, 115, 421, 293, 294, 295, 5, 296, 263, 180, 181, 182, 183, 184, 185, 186, 124, 187, 1088, 1089, 1090, 1091, 1092, 1093, 1094, 1095, 1096, 1097, 1098, 1099, 1100, 1101, 1102, 1103, 1104, 1105, 1106, 1107, 1108, 1109, 1110, 1111, 1112, 1113, 1114, 1115, 1116, 1117, 1118, 1119, 1120, 1121, 1122, 1123, 1124, 1125, 1126, 1127, 1128, 1129, 1130, 1131, 1132, 1133, 1134, 1135, 1136, 1137, 1138, 1139, 1140, 1141, 1142] (by decide +kernel) (by decide +kernel)
set_option maxRecDepth 20000 in
theorem gL_law_X9_about : GoodIn wsL_law (wsV RL 60 RX9 yX9_about wsX9_about) := goodIn_app (goodIn_of _ (by decide +kernel)) ggL_law_X9_about
set_option maxRecDepth 20000 in
theorem ggL_law_X8_as : GoodIn wsL_law wsX8_as := goodIn_r _ [442, 387, 321, 275, 276, 277, 2, 278, 235, 19, 238, 239, 240, 152, 153, 154, 155, 14, 156, 1176, 1177, 1178, 1179, 1180, 1181, 1182, 1183, 1184, 1185, 1070, 1071, 1072, 1073, 1074, 1075, 1076, 1077, 1078, 1079, 1080, 1081, 1082, 1083, 1084, 1085, 1086, 1087] (by decide +kernel) (by decide +kernel)
set_option maxRecDepth 20000 in
theorem gL_law_X8_as : GoodIn wsL_law (wsV RL 61 RX8 yX8_as wsX8_as) := goodIn_app (goodIn_of _ (by decide +kernel)) ggL_law_X8_as
set_option maxRecDepth 20000 in
theorem ggL_law_X9_as : GoodIn wsL_law wsX9_as := goodIn_r _ [446, 175, 108, 112, 262, 293, 294, 295, 5, 296, 263, 180, 181, 182, 183, 184, 185, 186, 124, 187, 1088, 1089, 1090, 1091, 1092, 1093, 1094, 1095, 1096, 1097, 1098, 1099, 1100, 1101, 1102, 1103, 1104, 1105, 1106, 1107, 1108, 1109, 1110, 1111, 1112, 1113, 1114, 1115, 1116, 1117, 1118, 1119, 1120, 1121, 1122, 1123, 1124, 1125, 1126, 1127, 1128, 1129, 1130, 1131, 1132, 1133, 1134, 1135, 1136, 1137, 1138, 1139, 1140, 1141, 1142] (by decide +kernel) (by decide +kernel)
set_option maxRecDepth 20000 in
theorem gL_law_X9_as : GoodIn wsL_law (wsV RL 64 RX9 yX9_as wsX9_as) := goodIn_app (goodIn_of _ (by decide +kernel)) ggL_law_X9_as
set_option maxRecDepth 20000 in
theorem ggL_law_X8_knows : GoodIn wsL_law wsX8_knows := goodIn_r _ [450, 275, 276, 277, 2, 278, 235, 19, 217, 218, 219, 152, 153, 154, 155, 14, 156, 392, 393, 394, 395, 16, 17, 451, 452, 453, 237, 454, 246, 1070, 1071, 1072, 1073, 1074, 1075, 1076, 1077, 1078, 1079, 1080, 1081, 1082, 1083, 1084, 1085, 1086, 1087, 1176, 1177, 1178, 1179, 1180, 1181, 1182, 1183, 1184, 1185] (by decide +kernel) (by decide +kernel)
set_option maxRecDepth 20000 in
theorem gL_law_X8_knows : GoodIn wsL_law (wsV RL 65 RX8 yX8_knows wsX8_knows) := goodIn_app (goodIn_of _ (by decide +kernel)) ggL_law_X8_knows
set_option maxRecDepth 20000 in
theorem ggL_law_X9_knows : GoodIn wsL_law wsX9_knows := goodIn_r _ [458, 175, 421, 116, 106, 107, 224, 225, 5, 226, 180, 181, 182, 293, 294, 295, 296, 263, 183, 184, 185, 186, 124, 187, 1088, 1089, 1090, 1091, 1092, 1093, 1094, 1095, 1096, 1097, 1098, 1099, 1100, 1101, 1102, 1103, 1104, 1105, 1106, 1107, 1108, 1109, 1110, 1111, 1112, 1113, 1114, 1115, 1116, 1117, 1118, 1119, 1120, 1121, 1122, 1123, 1124, 1125, 1126, 1127, 1128, 1129, 1130, 1131, 1132, 1133, 1134, 1135, 1136, 1137, 1138, 1139, 1140, 1141, 1142] (by decide +kernel) (by decide +kernel)
set_option maxRecDepth 20000 in
theorem gL_law_X9_knows : GoodIn wsL_law (wsV RL 69 RX9 yX9_knows wsX9_knows) := goodIn_app (goodIn_of _ (by decide +kernel)) ggL_law_X9_knows
set_option maxRecDepth 20000 in
theorem ggL_law_X8_feed : GoodIn wsL_law wsX8_feed := goodIn_r _ [462, 25, 463, 152, 153, 154, 2, 155, 14, 156, 464, 465, 466, 24, 467, 468, 469, 470, 471, 472, 56, 1070, 1071, 1072, 1073, 1074, 1075, 1076, 1077, 1078, 1079, 1080, 1081, 1082, 1083, 1084, 1085, 1086, 1087, 1143, 1144, 1145, 1146, 1147, 1148, 1149] (by decide +kernel) (by decide +kernel)
set_option maxRecDepth 20000 in
theorem gL_law_X8_feed : GoodIn wsL_law (wsV RL 72 RX8 yX8_feed wsX8_feed) := goodIn_app (goodIn_of _ (by decide +kernel)) ggL_law_X8_feed
set_option maxRecDepth 20000 in
theorem ggL_law_X9_feed : GoodIn wsL_law wsX9_feed := goodIn_r _ [476, 175, 477, 179, 135, 478, 180, 181, 5, 182, 183, 184, 185, 186, 124, 187, 1088, 1089, 1090, 1091, 1092, 1093, 1094, 1095, 1096, 1097, 1098, 1099, 1100, 1101, 1102, 1103, 1104, 1105, 1106, 1107, 1108, 1109, 1110, 1111, 1112, 1113, 1114, 1115, 1116, 1117, 1118, 1119, 1120, 1121, 1122, 1123, 1124, 1125, 1126, 1127, 1128, 1129, 1130, 1131, 1132, 1133, 1134, 1135, 1136, 1137, 1138, 1139, 1140, 1141, 1142] (by decide +kernel) (by decide +kernel)
set_option maxRecDepth 20000 in
theorem gL_law_X9_feed : GoodIn wsL_law (wsV RL 76 RX9 yX9_feed wsX9_feed) := goodIn_app (goodIn_of _ (by decide +kernel)) ggL_law_X9_feed
set_option maxRecDepth 20000 in
theorem ggL_law_X8_read : GoodIn wsL_law wsX8_read := goodIn_r _ [482, 25, 50, 49, 483, 484, 485, 486, 24, 487, 488, 489, 490, 491, 492, 48, 493, 404, 494, 495, 496, 497, 468, 56, 498, 499, 500, 501, 502, 503, 504, 505, 506, 507, 508, 509, 510, 511, 512, 513, 514, 515, 516, 517, 518, 519, 520, 521, 522, 523, 524, 525, 526, 527, 528, 529, 530, 531, 532, 533, 534, 535, 536, 537, 538, 539, 540, 541, 542, 543, 544, 545, 546, 547, 548, 549, 550, 551, 552, 553, 554, 555, 556, 557, 558, 559, 560, 561, 562, 563, 564, 565, 566, 567, 568, 569, 332, 570, 571, 572, 573, 574, 575, 576, 577, 578, 579, 580, 581, 96, 97, 582, 583, 584, 585, 586, 587, 588, 589, 590, 98, 99, 100, 591, 592, 593, 594, 55, 152, 153, 154, 2, 155, 14, 156, 1070, 1071, 1072, 1073, 1074, 1075, 1076, 1077, 1078, 1079, 1080, 1081, 1082, 1083, 1084, 1085, 1086, 1087, 1170, 1171, 1172, 1173, 1174, 1175, 1143, 1144, 1145, 1146, 1147, 1148, 1149] (by decide +kernel) (by decide +kernel)
set_option maxRecDepth 20000 in
theorem gL_law_X8_read : GoodIn wsL_law (wsV RL 77 RX8 yX8_read wsX8_read) := goodIn_app (goodIn_of _ (by decide +kernel)) ggL_law_X8_read
set_option maxRecDepth 20000 in
theorem ggL_law_X9_read : GoodIn wsL_law wsX9_read := goodIn_r _ [598, 136, 137, 599, 600, 477, 601, 426, 125, 130, 126, 131, 127, 132, 128, 133, 129, 134, 602, 603, 604, 5, 605, 606, 607, 608, 609, 610, 611, 612, 613, 135, 614, 615, 616, 617, 618, 619, 620, 178, 621, 622, 623, 624, 625, 626, 627, 628, 629, 630, 631, 632, 633, 634, 635, 636, 637, 638, 639, 640, 641, 642, 643, 644, 645, 646, 647, 648, 649, 650, 651, 652, 653, 183, 184, 185, 186, 124, 187, 1088, 1089, 1090, 1091, 1092, 1093, 1094, 1095, 1096, 1097, 1098, 1099, 1100, 1101, 1102, 1103, 1104, 1105, 1106, 1107, 1108, 1109, 1110, 1111, 1112, 1113, 1114, 1115, 1116, 1117, 1118, 1119, 1120, 1121, 1122, 1123, 1124, 1125, 1126, 1127, 1128, 1129, 1130, 1131, 1132, 1133, 1134, 1135, 1136, 1137, 1138, 1139, 1140, 1141, 1142] (by decide +kernel) (by decide +kernel)
set_option maxRecDepth 20000 in
theorem gL_law_X9_read : GoodIn wsL_law (wsV RL 81 RX9 yX9_read wsX9_read) := goodIn_app (goodIn_of _ (by decide +kernel)) ggL_law_X9_read
set_option maxRecDepth 20000 in
theorem ggL_law_X8_fault : GoodIn wsL_law wsX8_fault := goodIn_r _ [657, 25, 658, 1070, 1071, 1072, 1073, 1074, 1075, 1076, 1077, 1078, 1079, 1080, 1081, 1082, 1083, 1084, 1085, 1086, 1087, 1143, 1144, 1145, 1146, 1147, 1148, 1149] (by decide +kernel) (by decide +kernel)
set_option maxRecDepth 20000 in
theorem gL_law_X8_fault : GoodIn wsL_law (wsV RL 82 RX8 yX8_fault wsX8_fault) := goodIn_app (goodIn_of _ (by decide +kernel)) ggL_law_X8_fault
set_option maxRecDepth 20000 in
theorem ggL_law_X9_fault : GoodIn wsL_law wsX9_fault := goodIn_r _ [662, 137, 1088, 1089, 1090, 1091, 1092, 1093, 1094, 1095, 1096, 1097, 1098, 1099, 1100, 1101, 1102, 1103, 1104, 1105, 1106, 1107, 1108, 1109, 1110, 1111, 1112, 1113, 1114, 1115, 1116, 1117, 1118, 1119, 1120, 1121, 1122, 1123, 1124, 1125, 1126, 1127, 1128, 1129, 1130, 1131, 1132, 1133, 1134, 1135, 1136, 1137, 1138, 1139, 1140, 1141, 1142] (by decide +kernel) (by decide +kernel)
set_option maxRecDepth 20000 in
theorem gL_law_X9_fault : GoodIn wsL_law (wsV RL 85 RX9 yX9_fault wsX9_fault) := goodIn_app (goodIn_of _ (by decide +kernel)) ggL_law_X9_fault
set_option maxRecDepth 20000 in
theorem ggL_law_X8_binds : GoodIn wsL_law wsX8_binds := goodIn_r _ [666, 152, 153, 154, 2, 155, 14, 156, 396, 397, 398, 399, 20, 49, 400, 401, 402, 48, 403, 404, 96, 405, 406, 407, 408, 97, 98, 99, 100, 409, 410, 411, 1070, 1071, 1072, 1073, 1074, 1075, 1076, 1077, 1078, 1079, 1080, 1081, 1082, 1083, 1084, 1085, 1086, 1087, 1170, 1171, 1172, 1173, 1174, 1175] (by decide +kernel) (by decide +kernel)
set_option maxRecDepth 20000 in
theorem gL_law_X8_binds : GoodIn wsL_law (wsV RL 86 RX8 yX8_binds wsX8_binds) := goodIn_app (goodIn_of _ (by decide +kernel)) ggL_law_X8_binds
set_option maxRecDepth 20000 in
theorem ggL_law_X9_binds : GoodIn wsL_law wsX9_binds := goodIn_r _ [670, 175, 183, 184, 185, 5, 186, 124, 187, 422, 423, 424, 425, 426, 126, 127, 128, 129, 125, 1088, 1089, 1090, 1091, 1092, 1093, 1094, 1095, 1096, 1097, 1098, 1099, 1100, 1101, 1102, 1103, 1104, 1105, 1106, 1107, 1108, 1109, 1110, 1111, 1112, 1113, 1114, 1115, 1116, 1117, 1118, 1119, 1120, 1121, 1122, 1123, 1124, 1125, 1126, 1127, 1128, 1129, 1130, 1131, 1132, 1133, 1134, 1135, 1136, 1137, 1138, 1139, 1140, 1141, 1142] (by decide +kernel) (by decide +kernel)
set_option maxRecDepth 20000 in
theorem gL_law_X9_binds : GoodIn wsL_law (wsV RL 89 RX9 yX9_binds wsX9_binds) := goodIn_app (goodIn_of _ (by decide +kernel)) ggL_law_X9_binds
set_option maxRecDepth 20000 in
theorem ggL_law_X8_owe : GoodIn wsL_law wsX8_owe := goodIn_r _ [674, 675, 29, 676, 677, 2, 678, 217, 218, 219, 152, 153, 154, 155, 14, 156, 326, 327, 328, 28, 329, 61, 330, 331, 332, 333, 161, 338, 339, 340, 341, 342, 343, 344, 170, 679, 680, 681, 682, 1070, 1071, 1072, 1073, 1074, 1075, 1076, 1077, 1078, 1079, 1080, 1081, 1082, 1083, 1084, 1085, 1086, 1087, 1150, 1151] (by decide +kernel) (by decide +kernel)
set_option maxRecDepth 20000 in
theorem gL_law_X8_owe : GoodIn wsL_law (wsV RL 90 RX8 yX8_owe wsX8_owe) := goodIn_app (goodIn_of _ (by decide +kernel)) ggL_law_X8_owe
set_option maxRecDepth 20000 in
theorem ggL_law_X9_owe : GoodIn wsL_law wsX9_owe := goodIn_r _ [686, 687, 175, 179, 118, 224, 225, 5, 226, 180, 181, 182, 183, 184, 185, 186, 124, 187, 349, 350, 351, 352, 193, 353, 354, 355, 356, 357, 358, 359, 360, 361, 1088, 1089, 1090, 1091, 1092, 1093, 1094, 1095, 1096, 1097, 1098, 1099, 1100, 1101, 1102, 1103, 1104, 1105, 1106, 1107, 1108, 1109, 1110, 1111, 1112, 1113, 1114, 1115, 1116, 1117, 1118, 1119, 1120, 1121, 1122, 1123, 1124, 1125, 1126, 1127, 1128, 1129, 1130, 1131, 1132, 1133, 1134, 1135, 1136, 1137, 1138, 1139, 1140, 1141, 1142] (by decide +kernel) (by decide +kernel)
set_option maxRecDepth 20000 in
theorem gL_law_X9_owe : GoodIn wsL_law (wsV RL 93 RX9 yX9_owe wsX9_owe) := goodIn_app (goodIn_of _ (by decide +kernel)) ggL_law_X9_owe
set_option maxRecDepth 20000 in
theorem ggL_law_X8_owes : GoodIn wsL_law wsX8_owes := goodIn_r _ [691, 29, 676, 677, 2, 678, 217, 218, 219, 152, 153, 154, 155, 14, 156, 679, 680, 681, 28, 682, 61, 1070, 1071, 1072, 1073, 1074, 1075, 1076, 1077, 1078, 1079, 1080, 1081, 1082, 1083, 1084, 1085, 1086, 1087, 1150, 1151] (by decide +kernel) (by decide +kernel)
set_option maxRecDepth 20000 in
theorem gL_law_X8_owes : GoodIn wsL_law (wsV RL 94 RX8 yX8_owes wsX8_owes) := goodIn_app (goodIn_of _ (by decide +kernel)) ggL_law_X8_owes
set_option maxRecDepth 20000 in
theorem ggL_law_X9_owes : GoodIn wsL_law wsX9_owes := goodIn_r _ [695, 118, 175, 224, 225, 5, 226, 180, 181, 182, 183, 184, 185, 186, 124, 187, 1088, 1089, 1090, 1091, 1092, 1093, 1094, 1095, 1096, 1097, 1098, 1099, 1100, 1101, 1102, 1103, 1104, 1105, 1106, 1107, 1108, 1109, 1110, 1111, 1112, 1113, 1114, 1115, 1116, 1117, 1118, 1119, 1120, 1121, 1122, 1123, 1124, 1125, 1126, 1127, 1128, 1129, 1130, 1131, 1132, 1133, 1134, 1135, 1136, 1137, 1138, 1139, 1140, 1141, 1142] (by decide +kernel) (by decide +kernel)
set_option maxRecDepth 20000 in
theorem gL_law_X9_owes : GoodIn wsL_law (wsV RL 97 RX9 yX9_owes wsX9_owes) := goodIn_app (goodIn_of _ (by decide +kernel)) ggL_law_X9_owes
set_option maxRecDepth 20000 in
theorem ggL_law_X8_net : GoodIn wsL_law wsX8_net := goodIn_r _ [699, 29, 217, 218, 2, 219, 152, 153, 154, 155, 14, 156, 700, 701, 702, 28, 703, 61, 1070, 1071, 1072, 1073, 1074, 1075, 1076, 1077, 1078, 1079, 1080, 1081, 1082, 1083, 1084, 1085, 1086, 1087, 1150, 1151] (by decide +kernel) (by decide +kernel)
set_option maxRecDepth 20000 in
theorem gL_law_X8_net : GoodIn wsL_law (wsV RL 98 RX8 yX8_net wsX8_net) := goodIn_app (goodIn_of _ (by decide +kernel)) ggL_law_X8_net
set_option maxRecDepth 20000 in
theorem ggL_law_X9_net : GoodIn wsL_law wsX9_net := goodIn_r _ [707, 175, 224, 225, 5, 226, 180, 181, 182, 708, 709, 710, 711, 118, 183, 184, 185, 186, 124, 187, 1088, 1089, 1090, 1091, 1092, 1093, 1094, 1095, 1096, 1097, 1098, 1099, 1100, 1101, 1102, 1103, 1104, 1105, 1106, 1107, 1108, 1109, 1110, 1111, 1112, 1113, 1114, 1115, 1116, 1117, 1118, 1119, 1120, 1121, 1122, 1123, 1124, 1125, 1126, 1127, 1128, 1129, 1130, 1131, 1132, 1133, 1134, 1135, 1136, 1137, 1138, 1139, 1140, 1141, 1142] (by decide +kernel) (by decide +kernel)
set_option maxRecDepth 20000 in
theorem gL_law_X9_net : GoodIn wsL_law (wsV RL 101 RX9 yX9_net wsX9_net) := goodIn_app (goodIn_of _ (by decide +kernel)) ggL_law_X9_net
set_option maxRecDepth 20000 in
theorem ggL_law_X8_plan : GoodIn wsL_law wsX8_plan := goodIn_r _ [715, 33, 29, 716, 717, 718, 719, 720, 32, 721, 73, 722, 723, 724, 725, 726, 727, 728, 65, 729, 701, 702, 28, 703, 61, 730, 731, 732, 733, 66, 734, 735, 736, 737, 738, 67, 739, 740, 741, 742, 68, 743, 744, 332, 745, 746, 747, 748, 749, 750, 751, 752, 753, 754, 755, 756, 757, 758, 759, 69, 70, 71, 760, 761, 762, 763, 1070, 1071, 1072, 1073, 1074, 1075, 1076, 1077, 1078, 1079, 1080, 1081, 1082, 1083, 1084, 1085, 1086, 1087, 1152, 1153, 1154, 1155, 1156, 1157, 1158, 1159, 1160, 1161, 1162, 1150, 1151] (by decide +kernel) (by decide +kernel)
set_option maxRecDepth 20000 in
theorem gL_law_X8_plan : GoodIn wsL_law (wsV RL 102 RX8 yX8_plan wsX8_plan) := goodIn_app (goodIn_of _ (by decide +kernel)) ggL_law_X8_plan
set_option maxRecDepth 20000 in
theorem ggL_law_X9_plan : GoodIn wsL_law wsX9_plan := goodIn_r _ [767, 768, 769, 770, 771, 772, 5, 773, 144, 138, 139, 140, 708, 709, 710, 711, 118, 774, 775, 776, 777, 778, 779, 780, 781, 782, 758, 332, 759, 141, 142, 143, 783, 784, 785, 786, 1088, 1089, 1090, 1091, 1092, 1093, 1094, 1095, 1096, 1097, 1098, 1099, 1100, 1101, 1102, 1103, 1104, 1105, 1106, 1107, 1108, 1109, 1110, 1111, 1112, 1113, 1114, 1115, 1116, 1117, 1118, 1119, 1120, 1121, 1122, 1123, 1124, 1125, 1126, 1127, 1128, 1129, 1130, 1131, 1132, 1133, 1134, 1135, 1136, 1137, 1138, 1139, 1140, 1141, 1142] (by decide +kernel) (by decide +kernel)
set_option maxRecDepth 20000 in
theorem gL_law_X9_plan : GoodIn wsL_law (wsV RL 106 RX9 yX9_plan wsX9_plan) := goodIn_app (goodIn_of _ (by decide +kernel)) ggL_law_X9_plan
set_option maxRecDepth 20000 in
theorem ggL_law_X8_payment : GoodIn wsL_law wsX8_payment := goodIn_r _ [790, 33, 29, 152, 153, 154, 2, 155, 14, 156, 718, 719, 720, 32, 721, 73, 722, 723, 724, 725, 726, 727, 728, 65, 729, 701, 702, 28, 703, 61, 730, 731, 732, 733, 66, 734, 735, 736, 737, 738, 67, 739, 740, 741, 742, 68, 743, 744, 332, 745, 746, 747, 748, 749, 750, 751, 752, 753, 754, 755, 756, 757, 758, 759, 69, 70, 71, 760, 761, 762, 763, 791, 792, 793, 794, 795, 796, 797, 798, 799, 1070, 1071, 1072, 1073, 1074, 1075, 1076, 1077, 1078, 1079, 1080, 1081, 1082, 1083, 1084, 1085, 1086, 1087, 1152, 1153, 1154, 1155, 1156, 1157, 1158, 1159, 1160, 1161, 1162, 1150, 1151] (by decide +kernel) (by decide +kernel)
set_option maxRecDepth 20000 in
theorem gL_law_X8_payment : GoodIn wsL_law (wsV RL 107 RX8 yX8_payment wsX8_payment) := goodIn_app (goodIn_of _ (by decide +kernel)) ggL_law_X8_payment
set_option maxRecDepth 20000 in
theorem ggL_law_X9_payment : GoodIn wsL_law wsX9_payment := goodIn_r _ [803, 175, 769, 421, 180, 181, 5, 182, 183, 184, 185, 186, 124, 187, 770, 771, 772, 773, 144, 768, 138, 139, 140, 708, 709, 710, 711, 118, 774, 775, 776, 777, 778, 779, 780, 781, 782, 758, 332, 759, 141, 142, 143, 783, 784, 785, 786, 804, 805, 806, 807, 1088, 1089, 1090, 1091, 1092, 1093, 1094, 1095, 1096, 1097, 1098, 1099, 1100, 1101, 1102, 1103, 1104, 1105, 1106, 1107, 1108, 1109, 1110, 1111, 1112, 1113, 1114, 1115, 1116, 1117, 1118, 1119, 1120, 1121, 1122, 1123, 1124, 1125, 1126, 1127, 1128, 1129, 1130, 1131, 1132, 1133, 1134, 1135, 1136, 1137, 1138, 1139, 1140, 1141, 1142] (by decide +kernel) (by decide +kernel)
set_option maxRecDepth 20000 in
theorem gL_law_X9_payment : GoodIn wsL_law (wsV RL 110 RX9 yX9_payment wsX9_payment) := goodIn_app (goodIn_of _ (by decide +kernel)) ggL_law_X9_payment
set_option maxRecDepth 20000 in
theorem ggL_law_X8_clear : GoodIn wsL_law wsX8_clear := goodIn_r _ [811, 33, 29, 717, 718, 719, 720, 32, 721, 73, 722, 723, 724, 725, 726, 727, 728, 65, 729, 701, 702, 28, 703, 61, 730, 731, 732, 733, 66, 734, 735, 736, 737, 738, 67, 739, 740, 741, 742, 68, 743, 744, 332, 745, 746, 747, 748, 749, 750, 751, 752, 753, 754, 755, 756, 757, 758, 759, 69, 70, 71, 760, 761, 762, 763, 812, 813, 814, 815, 170, 795, 796, 797, 798, 799, 792, 793, 794, 338, 339, 340, 341, 342, 343, 344, 816, 817, 818, 819, 1070, 1071, 1072, 1073, 1074, 1075, 1076, 1077, 1078, 1079, 1080, 1081, 1082, 1083, 1084, 1085, 1086, 1087, 1152, 1153, 1154, 1155, 1156, 1157, 1158, 1159, 1160, 1161, 1162, 1150, 1151] (by decide +kernel) (by decide +kernel)
set_option maxRecDepth 20000 in
theorem gL_law_X8_clear : GoodIn wsL_law (wsV RL 111 RX8 yX8_clear wsX8_clear) := goodIn_app (goodIn_of _ (by decide +kernel)) ggL_law_X8_clear
set_option maxRecDepth 20000 in
theorem ggL_law_X9_clear : GoodIn wsL_law wsX9_clear := goodIn_r _ [823, 118, 769, 141, 142, 143, 770, 771, 772, 5, 773, 144, 768, 138, 139, 140, 708, 709, 710, 711, 774, 775, 776, 777, 778, 779, 780, 781, 782, 758, 332, 759, 783, 784, 785, 786, 824, 825, 826, 827, 1088, 1089, 1090, 1091, 1092, 1093, 1094, 1095, 1096, 1097, 1098, 1099, 1100, 1101, 1102, 1103, 1104, 1105, 1106, 1107, 1108, 1109, 1110, 1111, 1112, 1113, 1114, 1115, 1116, 1117, 1118, 1119, 1120, 1121, 1122, 1123, 1124, 1125, 1126, 1127, 1128, 1129, 1130, 1131, 1132, 1133, 1134, 1135, 1136, 1137, 1138, 1139, 1140, 1141, 1142] (by decide +kernel) (by decide +kernel)
set_option maxRecDepth 20000 in
theorem gL_law_X9_clear : GoodIn wsL_law (wsV RL 114 RX9 yX9_clear wsX9_clear) := goodIn_app (goodIn_of _ (by decide +kernel)) ggL_law_X9_clear
set_option maxRecDepth 20000 in
theorem ggL_law_X8_coin : GoodIn wsL_law wsX8_coin := goodIn_r _ [831, 37, 832, 833, 36, 834, 835, 836, 837, 152, 153, 154, 2, 155, 14, 156, 838, 839, 840, 841, 77, 842, 843, 844, 845, 1070, 1071, 1072, 1073, 1074, 1075, 1076, 1077, 1078, 1079, 1080, 1081, 1082, 1083, 1084, 1085, 1086, 1087, 1163, 1164] (by decide +kernel) (by decide +kernel)
set_option maxRecDepth 20000 in
theorem gL_law_X8_coin : GoodIn wsL_law (wsV RL 115 RX8 yX8_coin wsX8_coin) := goodIn_app (goodIn_of _ (by decide +kernel)) ggL_law_X8_coin
set_option maxRecDepth 20000 in
theorem ggL_law_X9_coin : GoodIn wsL_law wsX9_coin := goodIn_r _ [849, 175, 119, 180, 181, 5, 182, 183, 184, 185, 186, 124, 187, 1088, 1089, 1090, 1091, 1092, 1093, 1094, 1095, 1096, 1097, 1098, 1099, 1100, 1101, 1102, 1103, 1104, 1105, 1106, 1107, 1108, 1109, 1110, 1111, 1112, 1113, 1114, 1115, 1116, 1117, 1118, 1119, 1120, 1121, 1122, 1123, 1124, 1125, 1126, 1127, 1128, 1129, 1130, 1131, 1132, 1133, 1134, 1135, 1136, 1137, 1138, 1139, 1140, 1141, 1142] (by decide +kernel) (by decide +kernel)
set_option maxRecDepth 20000 in
theorem gL_law_X9_coin : GoodIn wsL_law (wsV RL 118 RX9 yX9_coin wsX9_coin) := goodIn_app (goodIn_of _ (by decide +kernel)) ggL_law_X9_coin
set_option maxRecDepth 20000 in
theorem ggL_law_X8_purse : GoodIn wsL_law wsX8_purse := goodIn_r _ [853, 37, 217, 218, 2, 219, 832, 833, 36, 834, 835, 836, 837, 152, 153, 154, 155, 14, 156, 854, 855, 856, 857, 79, 858, 859, 860, 861, 1070, 1071, 1072, 1073, 1074, 1075, 1076, 1077, 1078, 1079, 1080, 1081, 1082, 1083, 1084, 1085, 1086, 1087, 1163, 1164] (by decide +kernel) (by decide +kernel)
set_option maxRecDepth 20000 in
theorem gL_law_X8_purse : GoodIn wsL_law (wsV RL 119 RX8 yX8_purse wsX8_purse) := goodIn_app (goodIn_of _ (by decide +kernel)) ggL_law_X8_purse
set_option maxRecDepth 20000 in
theorem ggL_law_X9_purse : GoodIn wsL_law wsX9_purse := goodIn_r _ [865, 175, 120, 224, 225, 5, 226, 180, 181, 182, 183, 184, 185, 186, 124, 187, 1088, 1089, 1090, 1091, 1092, 1093, 1094, 1095, 1096, 1097, 1098, 1099, 1100, 1101, 1102, 1103, 1104, 1105, 1106, 1107, 1108, 1109, 1110, 1111, 1112, 1113, 1114, 1115, 1116, 1117, 1118, 1119, 1120, 1121, 1122, 1123, 1124, 1125, 1126, 1127, 1128, 1129, 1130, 1131, 1132, 1133, 1134, 1135, 1136, 1137, 1138, 1139, 1140, 1141, 1142] (by decide +kernel) (by decide +kernel)
set_option maxRecDepth 20000 in
theorem gL_law_X9_purse : GoodIn wsL_law (wsV RL 122 RX9 yX9_purse wsX9_purse) := goodIn_app (goodIn_of _ (by decide +kernel)) ggL_law_X9_purse
set_option maxRecDepth 20000 in
theorem ggL_law_X8_has : GoodIn wsL_law wsX8_has := goodIn_r _ [869, 37, 217, 218, 2, 219, 832, 833, 36, 834, 152, 153, 154, 155, 14, 156, 870, 871, 872, 873, 79, 77, 854, 855, 856, 857, 1070, 1071, 1072, 1073, 1074, 1075, 1076, 1077, 1078, 1079, 1080, 1081, 1082, 1083, 1084, 1085, 1086, 1087, 1163, 1164] (by decide +kernel) (by decide +kernel)
set_option maxRecDepth 20000 in
theorem gL_law_X8_has : GoodIn wsL_law (wsV RL 123 RX8 yX8_has wsX8_has) := goodIn_app (goodIn_of _ (by decide +kernel)) ggL_law_X8_has
set_option maxRecDepth 20000 in
theorem ggL_law_X9_has : GoodIn wsL_law wsX9_has := goodIn_r _ [877, 175, 120, 119, 224, 225, 5, 226, 180, 181, 182, 183, 184, 185, 186, 124, 187, 1088, 1089, 1090, 1091, 1092, 1093, 1094, 1095, 1096, 1097, 1098, 1099, 1100, 1101, 1102, 1103, 1104, 1105, 1106, 1107, 1108, 1109, 1110, 1111, 1112, 1113, 1114, 1115, 1116, 1117, 1118, 1119, 1120, 1121, 1122, 1123, 1124, 1125, 1126, 1127, 1128, 1129, 1130, 1131, 1132, 1133, 1134, 1135, 1136, 1137, 1138, 1139, 1140, 1141, 1142] (by decide +kernel) (by decide +kernel)
set_option maxRecDepth 20000 in
theorem gL_law_X9_has : GoodIn wsL_law (wsV RL 126 RX9 yX9_has wsX9_has) := goodIn_app (goodIn_of _ (by decide +kernel)) ggL_law_X9_has
set_option maxRecDepth 20000 in
theorem ggL_law_X8_settle : GoodIn wsL_law wsX8_settle := goodIn_r _ [881, 29, 37, 676, 677, 2, 678, 217, 218, 219, 152, 153, 154, 155, 14, 156, 679, 680, 681, 28, 682, 61, 882, 883, 884, 36, 885, 77, 79, 886, 569, 332, 570, 887, 758, 759, 888, 889, 890, 891, 892, 893, 894, 895, 170, 1070, 1071, 1072, 1073, 1074, 1075, 1076, 1077, 1078, 1079, 1080, 1081, 1082, 1083, 1084, 1085, 1086, 1087, 1150, 1151, 1163, 1164] (by decide +kernel) (by decide +kernel)
set_option maxRecDepth 20000 in
theorem gL_law_X8_settle : GoodIn wsL_law (wsV RL 127 RX8 yX8_settle wsX8_settle) := goodIn_app (goodIn_of _ (by decide +kernel)) ggL_law_X8_settle
set_option maxRecDepth 20000 in
theorem ggL_law_X9_settle : GoodIn wsL_law wsX9_settle := goodIn_r _ [899, 175, 118, 421, 119, 120, 900, 569, 332, 570, 224, 225, 5, 226, 180, 181, 182, 183, 184, 185, 186, 124, 187, 1088, 1089, 1090, 1091, 1092, 1093, 1094, 1095, 1096, 1097, 1098, 1099, 1100, 1101, 1102, 1103, 1104, 1105, 1106, 1107, 1108, 1109, 1110, 1111, 1112, 1113, 1114, 1115, 1116, 1117, 1118, 1119, 1120, 1121, 1122, 1123, 1124, 1125, 1126, 1127, 1128, 1129, 1130, 1131, 1132, 1133, 1134, 1135, 1136, 1137, 1138, 1139, 1140, 1141, 1142] (by decide +kernel) (by decide +kernel)
set_option maxRecDepth 20000 in
theorem gL_law_X9_settle : GoodIn wsL_law (wsV RL 130 RX9 yX9_settle wsX9_settle) := goodIn_app (goodIn_of _ (by decide +kernel)) ggL_law_X9_settle
set_option maxRecDepth 20000 in
theorem ggL_law_X8_vote : GoodIn wsL_law wsX8_vote := goodIn_r _ [904, 41, 217, 218, 2, 219, 206, 207, 208, 905, 906, 40, 907, 152, 153, 154, 155, 14, 156, 908, 909, 910, 911, 84, 1070, 1071, 1072, 1073, 1074, 1075, 1076, 1077, 1078, 1079, 1080, 1081, 1082, 1083, 1084, 1085, 1086, 1087, 1165, 1166, 1167] (by decide +kernel) (by decide +kernel)
set_option maxRecDepth 20000 in
theorem gL_law_X8_vote : GoodIn wsL_law (wsV RL 131 RX8 yX8_vote wsX8_vote) := goodIn_app (goodIn_of _ (by decide +kernel)) ggL_law_X8_vote
set_option maxRecDepth 20000 in
theorem ggL_law_X9_vote : GoodIn wsL_law wsX9_vote := goodIn_r _ [915, 175, 121, 224, 225, 5, 226, 180, 181, 182, 227, 228, 229, 183, 184, 185, 186, 124, 187, 1088, 1089, 1090, 1091, 1092, 1093, 1094, 1095, 1096, 1097, 1098, 1099, 1100, 1101, 1102, 1103, 1104, 1105, 1106, 1107, 1108, 1109, 1110, 1111, 1112, 1113, 1114, 1115, 1116, 1117, 1118, 1119, 1120, 1121, 1122, 1123, 1124, 1125, 1126, 1127, 1128, 1129, 1130, 1131, 1132, 1133, 1134, 1135, 1136, 1137, 1138, 1139, 1140, 1141, 1142] (by decide +kernel) (by decide +kernel)
set_option maxRecDepth 20000 in
theorem gL_law_X9_vote : GoodIn wsL_law (wsV RL 134 RX9 yX9_vote wsX9_vote) := goodIn_app (goodIn_of _ (by decide +kernel)) ggL_law_X9_vote
set_option maxRecDepth 20000 in
theorem ggL_law_X8_rate : GoodIn wsL_law wsX8_rate := goodIn_r _ [919, 41, 206, 207, 2, 208, 152, 153, 154, 155, 14, 156, 920, 921, 922, 40, 923, 84, 86, 924, 925, 926, 927, 1070, 1071, 1072, 1073, 1074, 1075, 1076, 1077, 1078, 1079, 1080, 1081, 1082, 1083, 1084, 1085, 1086, 1087, 1165, 1166, 1167] (by decide +kernel) (by decide +kernel)
set_option maxRecDepth 20000 in
theorem gL_law_X8_rate : GoodIn wsL_law (wsV RL 135 RX8 yX8_rate wsX8_rate) := goodIn_app (goodIn_of _ (by decide +kernel)) ggL_law_X8_rate
set_option maxRecDepth 20000 in
theorem ggL_law_X9_rate : GoodIn wsL_law wsX9_rate := goodIn_r _ [931, 175, 121, 421, 227, 228, 5, 229, 180, 181, 182, 183, 184, 185, 186, 124, 187, 1088, 1089, 1090, 1091, 1092, 1093, 1094, 1095, 1096, 1097, 1098, 1099, 1100, 1101, 1102, 1103, 1104, 1105, 1106, 1107, 1108, 1109, 1110, 1111, 1112, 1113, 1114, 1115, 1116, 1117, 1118, 1119, 1120, 1121, 1122, 1123, 1124, 1125, 1126, 1127, 1128, 1129, 1130, 1131, 1132, 1133, 1134, 1135, 1136, 1137, 1138, 1139, 1140, 1141, 1142] (by decide +kernel) (by decide +kernel)
set_option maxRecDepth 20000 in
theorem gL_law_X9_rate : GoodIn wsL_law (wsV RL 138 RX9 yX9_rate wsX9_rate) := goodIn_app (goodIn_of _ (by decide +kernel)) ggL_law_X9_rate
set_option maxRecDepth 20000 in
theorem ggL_law_X8_offer : GoodIn wsL_law wsX8_offer := goodIn_r _ [935, 41, 206, 207, 2, 208, 936, 937, 40, 938, 152, 153, 154, 155, 14, 156, 939, 940, 941, 942, 85, 1070, 1071, 1072, 1073, 1074, 1075, 1076, 1077, 1078, 1079, 1080, 1081, 1082, 1083, 1084, 1085, 1086, 1087, 1165, 1166, 1167] (by decide +kernel) (by decide +kernel)
set_option maxRecDepth 20000 in
theorem gL_law_X8_offer : GoodIn wsL_law (wsV RL 139 RX8 yX8_offer wsX8_offer) := goodIn_app (goodIn_of _ (by decide +kernel)) ggL_law_X8_offer
set_option maxRecDepth 20000 in
theorem ggL_law_X9_offer : GoodIn wsL_law wsX9_offer := goodIn_r _ [946, 175, 122, 227, 228, 5, 229, 180, 181, 182, 183, 184, 185, 186, 124, 187, 1088, 1089, 1090, 1091, 1092, 1093, 1094, 1095, 1096, 1097, 1098, 1099, 1100, 1101, 1102, 1103, 1104, 1105, 1106, 1107, 1108, 1109, 1110, 1111, 1112, 1113, 1114, 1115, 1116, 1117, 1118, 1119, 1120, 1121, 1122, 1123, 1124, 1125, 1126, 1127, 1128, 1129, 1130, 1131, 1132, 1133, 1134, 1135, 1136, 1137, 1138, 1139, 1140, 1141, 1142] (by decide +kernel) (by decide +kernel)
set_option maxRecDepth 20000 in
theorem gL_law_X9_offer : GoodIn wsL_law (wsV RL 142 RX9 yX9_offer wsX9_offer) := goodIn_app (goodIn_of _ (by decide +kernel)) ggL_law_X9_offer
set_option maxRecDepth 20000 in
theorem ggL_law_X8_turn : GoodIn wsL_law wsX8_turn := goodIn_r _ [950, 41, 951, 952, 953, 40, 954, 955, 956, 957, 958, 959, 960, 961, 85, 962, 963, 964, 152, 153, 154, 2, 155, 14, 156, 1070, 1071, 1072, 1073, 1074, 1075, 1076, 1077, 1078, 1079, 1080, 1081, 1082, 1083, 1084, 1085, 1086, 1087, 1165, 1166, 1167] (by decide +kernel) (by decide +kernel)
set_option maxRecDepth 20000 in
theorem gL_law_X8_turn : GoodIn wsL_law (wsV RL 143 RX8 yX8_turn wsX8_turn) := goodIn_app (goodIn_of _ (by decide +kernel)) ggL_law_X8_turn
set_option maxRecDepth 20000 in
theorem ggL_law_X9_turn : GoodIn wsL_law wsX9_turn := goodIn_r _ [968, 969, 970, 421, 971, 972, 973, 974, 5, 975, 122, 976, 977, 978, 183, 184, 185, 186, 124, 187, 1088, 1089, 1090, 1091, 1092, 1093, 1094, 1095, 1096, 1097, 1098, 1099, 1100, 1101, 1102, 1103, 1104, 1105, 1106, 1107, 1108, 1109, 1110, 1111, 1112, 1113, 1114, 1115, 1116, 1117, 1118, 1119, 1120, 1121, 1122, 1123, 1124, 1125, 1126, 1127, 1128, 1129, 1130, 1131, 1132, 1133, 1134, 1135, 1136, 1137, 1138, 1139, 1140, 1141, 1142] (by decide +kernel) (by decide +kernel)
set_option maxRecDepth 20000 in
theorem gL_law_X9_turn : GoodIn wsL_law (wsV RL 146 RX9 yX9_turn wsX9_turn) := goodIn_app (goodIn_of _ (by decide +kernel)) ggL_law_X9_turn
set_option maxRecDepth 20000 in
theorem ggL_law_X8_part : GoodIn wsL_law wsX8_part := goodIn_r _ [982, 983, 45, 235, 19, 273, 321, 29, 676, 677, 2, 678, 217, 218, 219, 152, 153, 154, 155, 14, 156, 984, 985, 986, 44, 987, 90, 988, 989, 990, 237, 991, 247, 992, 249, 993, 994, 995, 996, 679, 680, 681, 28, 682, 61, 997, 998, 999, 1000, 1001, 758, 332, 759, 91, 1002, 1003, 1004, 1005, 1006, 343, 344, 1007, 1008, 1009, 1010, 1011, 1012, 1013, 1014, 1015, 1016, 1070, 1071, 1072, 1073, 1074, 1075, 1076, 1077, 1078, 1079, 1080, 1081, 1082, 1083, 1084, 1085, 1086, 1087, 1176, 1177, 1178, 1179, 1180, 1181, 1182, 1183, 1184, 1185, 1168, 1169, 1150, 1151] (by decide +kernel) (by decide +kernel)
set_option maxRecDepth 20000 in
theorem gL_law_X8_part : GoodIn wsL_law (wsV RL 147 RX8 yX8_part wsX8_part) := goodIn_app (goodIn_of _ (by decide +kernel)) ggL_law_X8_part
set_option maxRecDepth 20000 in
theorem ggL_law_X9_part : GoodIn wsL_law wsX9_part := goodIn_r _ [1020, 1021, 175, 146, 145, 118, 224, 225, 5, 226, 180, 181, 182, 183, 184, 185, 186, 124, 187, 1022, 1023, 1024, 1025, 263, 108, 113, 117, 110, 111, 112, 782, 758, 332, 759, 1026, 1027, 1028, 1029, 1088, 1089, 1090, 1091, 1092, 1093, 1094, 1095, 1096, 1097, 1098, 1099, 1100, 1101, 1102, 1103, 1104, 1105, 1106, 1107, 1108, 1109, 1110, 1111, 1112, 1113, 1114, 1115, 1116, 1117, 1118, 1119, 1120, 1121, 1122, 1123, 1124, 1125, 1126, 1127, 1128, 1129, 1130, 1131, 1132, 1133, 1134, 1135, 1136, 1137, 1138, 1139, 1140, 1141, 1142] (by decide +kernel) (by decide +kernel)
set_option maxRecDepth 20000 in
theorem gL_law_X9_part : GoodIn wsL_law (wsV RL 150 RX9 yX9_part wsX9_part) := goodIn_app (goodIn_of _ (by decide +kernel)) ggL_law_X9_part
set_option maxRecDepth 20000 in
theorem ggL_law_X8_tell : GoodIn wsL_law wsX8_tell := goodIn_r _ [1033, 1034, 21, 152, 153, 154, 2, 155, 14, 156, 1070, 1071, 1072, 1073, 1074, 1075, 1076, 1077, 1078, 1079, 1080, 1081, 1082, 1083, 1084, 1085, 1086, 1087] (by decide +kernel) (by decide +kernel)
set_option maxRecDepth 20000 in
theorem gL_law_X8_tell : GoodIn wsL_law (wsV RL 151 RX8 yX8_tell wsX8_tell) := goodIn_app (goodIn_of _ (by decide +kernel)) ggL_law_X8_tell
set_option maxRecDepth 20000 in
theorem ggL_law_X9_tell : GoodIn wsL_law wsX9_tell := goodIn_r _ [1038, 1039, 179, 123, 183, 184, 185, 5, 186, 124, 187, 1088, 1089, 1090, 1091, 1092, 1093, 1094, 1095, 1096, 1097, 1098, 1099, 1100, 1101, 1102, 1103, 1104, 1105, 1106, 1107, 1108, 1109, 1110, 1111, 1112, 1113, 1114, 1115, 1116, 1117, 1118, 1119, 1120, 1121, 1122, 1123, 1124, 1125, 1126, 1127, 1128, 1129, 1130, 1131, 1132, 1133, 1134, 1135, 1136, 1137, 1138, 1139, 1140, 1141, 1142] (by decide +kernel) (by decide +kernel)
set_option maxRecDepth 20000 in
theorem gL_law_X9_tell : GoodIn wsL_law (wsV RL 154 RX9 yX9_tell wsX9_tell) := goodIn_app (goodIn_of _ (by decide +kernel)) ggL_law_X9_tell
set_option maxRecDepth 20000 in
theorem ggL_law_X8_check : GoodIn wsL_law wsX8_check := goodIn_r _ [1043, 33, 29, 1034, 717, 1044, 718, 719, 720, 32, 721, 73, 722, 723, 724, 725, 726, 727, 728, 65, 729, 701, 702, 28, 703, 61, 730, 731, 732, 733, 66, 734, 735, 736, 737, 738, 67, 739, 740, 741, 742, 68, 743, 744, 332, 745, 746, 747, 748, 749, 750, 751, 752, 753, 754, 755, 756, 757, 758, 759, 69, 70, 71, 760, 761, 762, 763, 1045, 1046, 1047, 2, 1048, 21, 795, 796, 797, 798, 799, 792, 793, 794, 1070, 1071, 1072, 1073, 1074, 1075, 1076, 1077, 1078, 1079, 1080, 1081, 1082, 1083, 1084, 1085, 1086, 1087, 1152, 1153, 1154, 1155, 1156, 1157, 1158, 1159, 1160, 1161, 1162, 1150, 1151] (by decide +kernel) (by decide +kernel)
set_option maxRecDepth 20000 in
theorem gL_law_X8_check : GoodIn wsL_law (wsV RL 155 RX8 yX8_check wsX8_check) := goodIn_app (goodIn_of _ (by decide +kernel)) ggL_law_X8_check
set_option maxRecDepth 20000 in
theorem ggL_law_X9_check : GoodIn wsL_law wsX9_check := goodIn_r _ [1052, 1039, 769, 123, 1053, 770, 771, 772, 5, 773, 144, 768, 138, 139, 140, 708, 709, 710, 711, 118, 774, 775, 776, 777, 778, 779, 780, 781, 782, 758, 332, 759, 141, 142, 143, 783, 784, 785, 786, 804, 805, 806, 807, 1088, 1089, 1090, 1091, 1092, 1093, 1094, 1095, 1096, 1097, 1098, 1099, 1100, 1101, 1102, 1103, 1104, 1105, 1106, 1107, 1108, 1109, 1110, 1111, 1112, 1113, 1114, 1115, 1116, 1117, 1118, 1119, 1120, 1121, 1122, 1123, 1124, 1125, 1126, 1127, 1128, 1129, 1130, 1131, 1132, 1133, 1134, 1135, 1136, 1137, 1138, 1139, 1140, 1141, 1142] (by decide +kernel) (by decide +kernel)
set_option maxRecDepth 20000 in
theorem gL_law_X9_check : GoodIn wsL_law (wsV RL 158 RX9 yX9_check wsX9_check) := goodIn_app (goodIn_of _ (by decide +kernel)) ggL_law_X9_check
set_option maxRecDepth 20000 in
theorem ggL_law_X8_count : GoodIn wsL_law wsX8_count := goodIn_r _ [1057, 151, 235, 49, 483, 29, 1034, 25, 463, 816, 817, 818, 28, 819, 61, 152, 153, 154, 2, 155, 14, 156, 1070, 1071, 1072, 1073, 1074, 1075, 1076, 1077, 1078, 1079, 1080, 1081, 1082, 1083, 1084, 1085, 1086, 1087, 1170, 1171, 1172, 1173, 1174, 1175, 1143, 1144, 1145, 1146, 1147, 1148, 1149, 1150, 1151] (by decide +kernel) (by decide +kernel)
set_option maxRecDepth 20000 in
theorem gL_law_X8_count : GoodIn wsL_law (wsV RL 159 RX8 yX8_count wsX8_count) := goodIn_app (goodIn_of _ (by decide +kernel)) ggL_law_X8_count
set_option maxRecDepth 20000 in
theorem ggL_law_X9_count : GoodIn wsL_law wsX9_count := goodIn_r _ [1061, 176, 263, 426, 1039, 477, 175, 824, 825, 826, 5, 827, 118, 183, 184, 185, 186, 124, 187, 1088, 1089, 1090, 1091, 1092, 1093, 1094, 1095, 1096, 1097, 1098, 1099, 1100, 1101, 1102, 1103, 1104, 1105, 1106, 1107, 1108, 1109, 1110, 1111, 1112, 1113, 1114, 1115, 1116, 1117, 1118, 1119, 1120, 1121, 1122, 1123, 1124, 1125, 1126, 1127, 1128, 1129, 1130, 1131, 1132, 1133, 1134, 1135, 1136, 1137, 1138, 1139, 1140, 1141, 1142] (by decide +kernel) (by decide +kernel)
set_option maxRecDepth 20000 in
theorem gL_law_X9_count : GoodIn wsL_law (wsV RL 162 RX9 yX9_count wsX9_count) := goodIn_app (goodIn_of _ (by decide +kernel)) ggL_law_X9_count
set_option maxRecDepth 20000 in
theorem ggL_law_X8_found : GoodIn wsL_law wsX8_found := goodIn_r _ [1065, 14, 152, 153, 154, 2, 155, 156, 1070, 1071, 1072, 1073, 1074, 1075, 1076, 1077, 1078, 1079, 1080, 1081, 1082, 1083, 1084, 1085, 1086, 1087] (by decide +kernel) (by decide +kernel)
set_option maxRecDepth 20000 in
theorem gL_law_X8_found : GoodIn wsL_law (wsV RL 163 RX8 yX8_found wsX8_found) := goodIn_app (goodIn_of _ (by decide +kernel)) ggL_law_X8_found
set_option maxRecDepth 20000 in
theorem ggL_law_X9_found : GoodIn wsL_law wsX9_found := goodIn_r _ [1069, 124, 175, 180, 181, 5, 182, 183, 184, 185, 186, 187, 1088, 1089, 1090, 1091, 1092, 1093, 1094, 1095, 1096, 1097, 1098, 1099, 1100, 1101, 1102, 1103, 1104, 1105, 1106, 1107, 1108, 1109, 1110, 1111, 1112, 1113, 1114, 1115, 1116, 1117, 1118, 1119, 1120, 1121, 1122, 1123, 1124, 1125, 1126, 1127, 1128, 1129, 1130, 1131, 1132, 1133, 1134, 1135, 1136, 1137, 1138, 1139, 1140, 1141, 1142] (by decide +kernel) (by decide +kernel)
set_option maxRecDepth 20000 in
theorem gL_law_X9_found : GoodIn wsL_law (wsV RL 166 RX9 yX9_found wsX9_found) := goodIn_app (goodIn_of _ (by decide +kernel)) ggL_law_X9_found
