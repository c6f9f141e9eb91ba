set_option maxRecDepth 20000 in
theorem ggL_law_X8_init : GoodIn wsL_law wsX8_init := goodIn_r _ [8, 9, 10, 11, 12, 13, 14, 15, 16, 17, 18, 19, 20, 21, 22, 23, 24, 25, 26, 27, 28, 29, 30, 31, 32, 33, 34, 35, 36, 37, 38, 39, 40, 41, 42, 43, 44, 45, 46, 47, 48, 49, 50, 51, 52, 53, 54, 55, 56, 57, 58, 59, 60, 61, 62, 63, 64, 65, 66, 67, 68, 69, 70, 71, 72, 73, 74, 75, 76, 77, 78, 79, 80, 81, 82, 83, 84, 85, 86, 87, 88, 89, 90, 91, 92, 93, 94, 95, 96, 97, 98, 99, 100, 101, 102, 103, 104, 105, 106, 107, 108, 109, 110, 111, 112, 113, 114, 115, 116, 117, 118, 119, 120, 121, 122, 123, 124, 125, 126, 127, 128, 129, 130, 131, 132, 133, 134, 135, 136, 137, 1073, 1074, 1075, 1076, 1077, 1078, 1079, 1080, 1081, 992, 993, 994, 995, 996, 997, 998, 999, 1000, 1001, 1002, 1003, 1004, 1082, 1083, 1084, 1085, 1086, 1087, 1088, 1089, 1090, 1091, 1092, 1093, 1094, 1095, 1096, 1097, 1098, 1099, 1100, 1101, 1102, 1103, 1104, 1105, 1106, 1107, 1108, 1109, 1110, 1111, 1112, 1113, 1114, 1115, 1116, 1117, 1118, 1119, 1120, 1121, 1122, 1123, 1124, 1125, 1126, 1127, 1128, 1129, 1130, 1131, 1132, 1133, 1134] (by decide +kernel) (by decide +kernel)
set_option maxRecDepth 20000 in
theorem gL_law_X8_init : GoodIn wsL_law (wsX8_init) := ggL_law_X8_init
set_option maxRecDepth 20000 in
theorem ggL_law_X11_init : GoodIn wsL_law wsX11_init := goodIn_r _ [140, 141, 10, 11, 142, 143, 47, 144, 145, 146, 147, 148, 149, 150, 151, 152, 153, 154, 155, 156, 157, 158, 159, 160, 161, 162, 163, 164, 165, 166, 167, 168, 169, 170, 171, 172, 173, 174, 175, 176, 177, 178, 179, 180, 181, 182, 183, 184, 185, 186, 187, 1005, 1006, 1007, 1008, 1009, 1010, 1011, 1012, 1013, 1014, 1015, 1016, 1017, 1018, 1019, 1020, 1021, 1022, 1023, 1024, 1025, 1026, 1027, 1028, 1029, 1030, 1031, 1032, 1033, 1034, 1035, 1036, 1037, 1038, 1039, 1040, 1041, 1042, 1043, 1044, 1045, 1046, 1047, 1048, 1049, 1050, 1051, 1052, 1053, 1054, 1055, 1056, 1057, 1058, 1059, 1060, 1061, 1062, 1063, 1064, 1065, 1066, 1067, 1068, 1069, 1070, 1071, 1072, 1135, 1136, 1137, 1138, 1139, 1140, 1141, 1142, 1143, 1144, 1145, 1146, 1147, 1148, 1149, 1150, 1151, 1152, 1153] (by decide +kernel) (by decide +kernel)
set_option maxRecDepth 20000 in
theorem gL_law_X11_init : GoodIn wsL_law (wsX11_init) := ggL_law_X11_init
set_option maxRecDepth 20000 in
theorem ggL_law_X8_fact : GoodIn wsL_law wsX8_fact := goodIn_r _ [191, 15, 192, 193, 194, 2, 195, 49, 196, 197, 198, 199, 992, 993, 994, 995, 996, 997, 998, 999, 1000, 1001, 1002, 1003, 1004, 1073, 1074, 1075, 1076, 1077, 1078, 1079, 1080, 1081] (by decide +kernel) (by decide +kernel)
set_option maxRecDepth 20000 in
theorem gL_law_X8_fact : GoodIn wsL_law (wsV RL 13 RX8 yX8_fact wsX8_fact) := goodIn_app (goodIn_of _ (by decide +kernel)) ggL_law_X8_fact
set_option maxRecDepth 20000 in
theorem ggL_law_X11_fact : GoodIn wsL_law wsX11_fact := goodIn_r _ [203, 204, 205, 206, 207, 208, 5, 209, 210, 142, 211, 212, 213, 214, 1005, 1006, 1007, 1008, 1009, 1010, 1011, 1012, 1013, 1014, 1015, 1016, 1017, 1018, 1019, 1020, 1021, 1022, 1023, 1024, 1025, 1026, 1027, 1028, 1029, 1030, 1031, 1032, 1033, 1034, 1035, 1036, 1037, 1038, 1039, 1040, 1041, 1042, 1043, 1044, 1045, 1046, 1047, 1048, 1049, 1050, 1051, 1052, 1053, 1054, 1055, 1056, 1057, 1058, 1059, 1060, 1061, 1062, 1063, 1064, 1065, 1066, 1067, 1068, 1069, 1070, 1071, 1072] (by decide +kernel) (by decide +kernel)
set_option maxRecDepth 20000 in
theorem gL_law_X11_fact : GoodIn wsL_law (wsV RL 17 RX11 yX11_fact wsX11_fact) := goodIn_app (goodIn_of _ (by decide +kernel)) ggL_law_X11_fact
set_option maxRecDepth 20000 in
theorem ggL_law_X8_sign : GoodIn wsL_law wsX8_sign := goodIn_r _ [218, 15, 192, 193, 194, 2, 195, 49, 196, 197, 198, 199, 992, 993, 994, 995, 996, 997, 998, 999, 1000, 1001, 1002, 1003, 1004, 1073, 1074, 1075, 1076, 1077, 1078, 1079, 1080, 1081] (by decide +kernel) (by decide +kernel)
set_option maxRecDepth 20000 in
theorem gL_law_X8_sign : GoodIn wsL_law (wsV RL 18 RX8 yX8_sign wsX8_sign) := goodIn_app (goodIn_of _ (by decide +kernel)) ggL_law_X8_sign
set_option maxRecDepth 20000 in
theorem ggL_law_X11_sign : GoodIn wsL_law wsX11_sign := goodIn_r _ [222, 204, 205, 223, 144, 206, 207, 208, 5, 209, 210, 142, 211, 212, 213, 214, 1005, 1006, 1007, 1008, 1009, 1010, 1011, 1012, 1013, 1014, 1015, 1016, 1017, 1018, 1019, 1020, 1021, 1022, 1023, 1024, 1025, 1026, 1027, 1028, 1029, 1030, 1031, 1032, 1033, 1034, 1035, 1036, 1037, 1038, 1039, 1040, 1041, 1042, 1043, 1044, 1045, 1046, 1047, 1048, 1049, 1050, 1051, 1052, 1053, 1054, 1055, 1056, 1057, 1058, 1059, 1060, 1061, 1062, 1063, 1064, 1065, 1066, 1067, 1068, 1069, 1070, 1071, 1072] (by decide +kernel) (by decide +kernel)
set_option maxRecDepth 20000 in
theorem gL_law_X11_sign : GoodIn wsL_law (wsV RL 22 RX11 yX11_sign wsX11_sign) := goodIn_app (goodIn_of _ (by decide +kernel)) ggL_law_X11_sign
set_option maxRecDepth 20000 in
theorem ggL_law_X8_person : GoodIn wsL_law wsX8_person := goodIn_r _ [227, 15, 228, 229, 2, 230, 192, 193, 194, 195, 49, 231, 232, 233, 14, 234, 59, 196, 197, 198, 199, 992, 993, 994, 995, 996, 997, 998, 999, 1000, 1001, 1002, 1003, 1004, 1073, 1074, 1075, 1076, 1077, 1078, 1079, 1080, 1081] (by decide +kernel) (by decide +kernel)
set_option maxRecDepth 20000 in
theorem gL_law_X8_person : GoodIn wsL_law (wsV RL 23 RX8 yX8_person wsX8_person) := goodIn_app (goodIn_of _ (by decide +kernel)) ggL_law_X8_person
set_option maxRecDepth 20000 in
theorem ggL_law_X11_person : GoodIn wsL_law wsX11_person := goodIn_r _ [238, 204, 239, 145, 240, 241, 5, 242, 206, 207, 208, 209, 210, 142, 211, 212, 213, 214, 1005, 1006, 1007, 1008, 1009, 1010, 1011, 1012, 1013, 1014, 1015, 1016, 1017, 1018, 1019, 1020, 1021, 1022, 1023, 1024, 1025, 1026, 1027, 1028, 1029, 1030, 1031, 1032, 1033, 1034, 1035, 1036, 1037, 1038, 1039, 1040, 1041, 1042, 1043, 1044, 1045, 1046, 1047, 1048, 1049, 1050, 1051, 1052, 1053, 1054, 1055, 1056, 1057, 1058, 1059, 1060, 1061, 1062, 1063, 1064, 1065, 1066, 1067, 1068, 1069, 1070, 1071, 1072] (by decide +kernel) (by decide +kernel)
set_option maxRecDepth 20000 in
theorem gL_law_X11_person : GoodIn wsL_law (wsV RL 26 RX11 yX11_person wsX11_person) := goodIn_app (goodIn_of _ (by decide +kernel)) ggL_law_X11_person
set_option maxRecDepth 20000 in
theorem ggL_law_X8_goal : GoodIn wsL_law wsX8_goal := goodIn_r _ [246, 49, 15, 228, 229, 2, 230, 992, 993, 994, 995, 996, 997, 998, 999, 1000, 1001, 1002, 1003, 1004, 1073, 1074, 1075, 1076, 1077, 1078, 1079, 1080, 1081] (by decide +kernel) (by decide +kernel)
set_option maxRecDepth 20000 in
theorem gL_law_X8_goal : GoodIn wsL_law (wsV RL 27 RX8 yX8_goal wsX8_goal) := goodIn_app (goodIn_of _ (by decide +kernel)) ggL_law_X8_goal
set_option maxRecDepth 20000 in
theorem ggL_law_X11_goal : GoodIn wsL_law wsX11_goal := goodIn_r _ [250, 204, 210, 142, 143, 240, 241, 5, 242, 1005, 1006, 1007, 1008, 1009, 1010, 1011, 1012, 1013, 1014, 1015, 1016, 1017, 1018, 1019, 1020, 1021, 1022, 1023, 1024, 1025, 1026, 1027, 1028, 1029, 1030, 1031, 1032, 1033, 1034, 1035, 1036, 1037, 1038, 1039, 1040, 1041, 1042, 1043, 1044, 1045, 1046, 1047, 1048, 1049, 1050, 1051, 1052, 1053, 1054, 1055, 1056, 1057, 1058, 1059, 1060, 1061, 1062, 1063, 1064, 1065, 1066, 1067, 1068, 1069, 1070, 1071, 1072] (by decide +kernel) (by decide +kernel)
set_option maxRecDepth 20000 in
theorem gL_law_X11_goal : GoodIn wsL_law (wsV RL 31 RX11 yX11_goal wsX11_goal) := goodIn_app (goodIn_of _ (by decide +kernel)) ggL_law_X11_goal
set_option maxRecDepth 20000 in
theorem ggL_law_X8_feed : GoodIn wsL_law wsX8_feed := goodIn_r _ [254, 19, 255, 256, 257, 18, 258, 66, 259, 260, 261, 262, 65, 992, 993, 994, 995, 996, 997, 998, 999, 1000, 1001, 1002, 1003, 1004, 1082, 1083, 1084, 1085, 1086, 1087, 1088, 1089, 1090, 1091, 1092, 1093, 1094, 1095] (by decide +kernel) (by decide +kernel)
set_option maxRecDepth 20000 in
theorem gL_law_X8_feed : GoodIn wsL_law (wsV RL 32 RX8 yX8_feed wsX8_feed) := goodIn_app (goodIn_of _ (by decide +kernel)) ggL_law_X8_feed
set_option maxRecDepth 20000 in
theorem ggL_law_X11_feed : GoodIn wsL_law wsX11_feed := goodIn_r _ [266, 204, 267, 157, 1005, 1006, 1007, 1008, 1009, 1010, 1011, 1012, 1013, 1014, 1015, 1016, 1017, 1018, 1019, 1020, 1021, 1022, 1023, 1024, 1025, 1026, 1027, 1028, 1029, 1030, 1031, 1032, 1033, 1034, 1035, 1036, 1037, 1038, 1039, 1040, 1041, 1042, 1043, 1044, 1045, 1046, 1047, 1048, 1049, 1050, 1051, 1052, 1053, 1054, 1055, 1056, 1057, 1058, 1059, 1060, 1061, 1062, 1063, 1064, 1065, 1066, 1067, 1068, 1069, 1070, 1071, 1072] (by decide +kernel) (by decide +kernel)
set_option maxRecDepth 20000 in
theorem gL_law_X11_feed : GoodIn wsL_law (wsV RL 36 RX11 yX11_feed wsX11_feed) := goodIn_app (goodIn_of _ (by decide +kernel)) ggL_law_X11_feed
set_option maxRecDepth 20000 in
theorem ggL_law_X8_book : GoodIn wsL_law wsX8_book := goodIn_r _ [271, 19, 15, 192, 193, 194, 2, 195, 49, 272, 273, 274, 18, 275, 67, 68, 74, 75, 78, 69, 276, 277, 278, 279, 70, 71, 280, 281, 282, 283, 65, 284, 285, 286, 287, 288, 289, 290, 291, 292, 293, 294, 295, 296, 297, 298, 299, 300, 301, 302, 303, 304, 305, 306, 307, 308, 309, 310, 311, 312, 313, 314, 315, 316, 317, 318, 319, 320, 321, 322, 323, 324, 325, 326, 327, 328, 329, 330, 331, 332, 333, 334, 335, 336, 337, 338, 339, 340, 341, 342, 343, 344, 345, 346, 347, 348, 349, 350, 351, 352, 353, 354, 355, 356, 357, 358, 359, 360, 361, 362, 363, 14, 364, 61, 365, 366, 367, 368, 369, 370, 371, 372, 72, 73, 373, 374, 375, 376, 377, 378, 379, 380, 381, 382, 383, 384, 385, 386, 387, 388, 76, 77, 389, 390, 391, 392, 60, 393, 394, 395, 396, 196, 197, 198, 199, 992, 993, 994, 995, 996, 997, 998, 999, 1000, 1001, 1002, 1003, 1004, 1082, 1083, 1084, 1085, 1086, 1087, 1088, 1089, 1090, 1091, 1092, 1093, 1094, 1095, 1073, 1074, 1075, 1076, 1077, 1078, 1079, 1080, 1081] (by decide +kernel) (by decide +kernel)
set_option maxRecDepth 20000 in
theorem gL_law_X8_book : GoodIn wsL_law (wsV RL 37 RX8 yX8_book wsX8_book) := goodIn_app (goodIn_of _ (by decide +kernel)) ggL_law_X8_book
set_option maxRecDepth 20000 in
theorem ggL_law_X11_book : GoodIn wsL_law wsX11_book := goodIn_r _ [400, 204, 267, 401, 402, 403, 210, 142, 404, 206, 207, 208, 5, 209, 405, 406, 407, 408, 146, 409, 410, 147, 149, 150, 148, 158, 411, 412, 413, 414, 415, 416, 417, 418, 419, 420, 421, 157, 422, 423, 424, 425, 426, 427, 428, 429, 430, 431, 432, 433, 434, 435, 302, 303, 304, 305, 306, 307, 308, 309, 310, 311, 312, 436, 314, 315, 316, 317, 318, 319, 320, 321, 322, 323, 324, 325, 326, 327, 328, 329, 330, 331, 332, 333, 334, 335, 336, 337, 338, 339, 340, 341, 342, 343, 344, 345, 346, 347, 348, 349, 437, 438, 439, 440, 151, 205, 223, 441, 442, 443, 444, 240, 241, 242, 445, 446, 447, 448, 449, 450, 451, 452, 211, 212, 213, 214, 1005, 1006, 1007, 1008, 1009, 1010, 1011, 1012, 1013, 1014, 1015, 1016, 1017, 1018, 1019, 1020, 1021, 1022, 1023, 1024, 1025, 1026, 1027, 1028, 1029, 1030, 1031, 1032, 1033, 1034, 1035, 1036, 1037, 1038, 1039, 1040, 1041, 1042, 1043, 1044, 1045, 1046, 1047, 1048, 1049, 1050, 1051, 1052, 1053, 1054, 1055, 1056, 1057, 1058, 1059, 1060, 1061, 1062, 1063, 1064, 1065, 1066, 1067, 1068, 1069, 1070, 1071, 1072, 1135, 1136, 1137, 1138, 1139, 1140, 1141, 1142] (by decide +kernel) (by decide +kernel)
set_option maxRecDepth 20000 in
theorem gL_law_X11_book : GoodIn wsL_law (wsV RL 40 RX11 yX11_book wsX11_book) := goodIn_app (goodIn_of _ (by decide +kernel)) ggL_law_X11_book
set_option maxRecDepth 20000 in
theorem ggL_law_X8_fault : GoodIn wsL_law wsX8_fault := goodIn_r _ [456, 19, 992, 993, 994, 995, 996, 997, 998, 999, 1000, 1001, 1002, 1003, 1004, 1082, 1083, 1084, 1085, 1086, 1087, 1088, 1089, 1090, 1091, 1092, 1093, 1094, 1095] (by decide +kernel) (by decide +kernel)
set_option maxRecDepth 20000 in
theorem gL_law_X8_fault : GoodIn wsL_law (wsV RL 41 RX8 yX8_fault wsX8_fault) := goodIn_app (goodIn_of _ (by decide +kernel)) ggL_law_X8_fault
set_option maxRecDepth 20000 in
theorem ggL_law_X11_fault : GoodIn wsL_law wsX11_fault := goodIn_r _ [460, 204, 403, 1005, 1006, 1007, 1008, 1009, 1010, 1011, 1012, 1013, 1014, 1015, 1016, 1017, 1018, 1019, 1020, 1021, 1022, 1023, 1024, 1025, 1026, 1027, 1028, 1029, 1030, 1031, 1032, 1033, 1034, 1035, 1036, 1037, 1038, 1039, 1040, 1041, 1042, 1043, 1044, 1045, 1046, 1047, 1048, 1049, 1050, 1051, 1052, 1053, 1054, 1055, 1056, 1057, 1058, 1059, 1060, 1061, 1062, 1063, 1064, 1065, 1066, 1067, 1068, 1069, 1070, 1071, 1072] (by decide +kernel) (by decide +kernel)
set_option maxRecDepth 20000 in
theorem gL_law_X11_fault : GoodIn wsL_law (wsV RL 44 RX11 yX11_fault wsX11_fault) := goodIn_app (goodIn_of _ (by decide +kernel)) ggL_law_X11_fault
set_option maxRecDepth 20000 in
theorem ggL_law_X8_where : GoodIn wsL_law wsX8_where := goodIn_r _ [464, 49, 19, 992, 993, 994, 995, 996, 997, 998, 999, 1000, 1001, 1002, 1003, 1004, 1082, 1083, 1084, 1085, 1086, 1087, 1088, 1089, 1090, 1091, 1092, 1093, 1094, 1095] (by decide +kernel) (by decide +kernel)
set_option maxRecDepth 20000 in
theorem gL_law_X8_where : GoodIn wsL_law (wsV RL 45 RX8 yX8_where wsX8_where) := goodIn_app (goodIn_of _ (by decide +kernel)) ggL_law_X8_where
set_option maxRecDepth 20000 in
theorem ggL_law_X11_where : GoodIn wsL_law wsX11_where := goodIn_r _ [468, 204, 142, 1005, 1006, 1007, 1008, 1009, 1010, 1011, 1012, 1013, 1014, 1015, 1016, 1017, 1018, 1019, 1020, 1021, 1022, 1023, 1024, 1025, 1026, 1027, 1028, 1029, 1030, 1031, 1032, 1033, 1034, 1035, 1036, 1037, 1038, 1039, 1040, 1041, 1042, 1043, 1044, 1045, 1046, 1047, 1048, 1049, 1050, 1051, 1052, 1053, 1054, 1055, 1056, 1057, 1058, 1059, 1060, 1061, 1062, 1063, 1064, 1065, 1066, 1067, 1068, 1069, 1070, 1071, 1072] (by decide +kernel) (by decide +kernel)
set_option maxRecDepth 20000 in
theorem gL_law_X11_where : GoodIn wsL_law (wsV RL 48 RX11 yX11_where wsX11_where) := goodIn_app (goodIn_of _ (by decide +kernel)) ggL_law_X11_where
set_option maxRecDepth 20000 in
theorem ggL_law_X8_steps : GoodIn wsL_law wsX8_steps := goodIn_r _ [472, 15, 473, 474, 475, 14, 476, 56, 477, 478, 479, 480, 60, 992, 993, 994, 995, 996, 997, 998, 999, 1000, 1001, 1002, 1003, 1004, 1073, 1074, 1075, 1076, 1077, 1078, 1079, 1080, 1081] (by decide +kernel) (by decide +kernel)
set_option maxRecDepth 20000 in
theorem gL_law_X8_steps : GoodIn wsL_law (wsV RL 49 RX8 yX8_steps wsX8_steps) := goodIn_app (goodIn_of _ (by decide +kernel)) ggL_law_X8_steps
set_option maxRecDepth 20000 in
theorem ggL_law_X11_steps : GoodIn wsL_law wsX11_steps := goodIn_r _ [484, 204, 146, 485, 486, 487, 5, 488, 404, 1005, 1006, 1007, 1008, 1009, 1010, 1011, 1012, 1013, 1014, 1015, 1016, 1017, 1018, 1019, 1020, 1021, 1022, 1023, 1024, 1025, 1026, 1027, 1028, 1029, 1030, 1031, 1032, 1033, 1034, 1035, 1036, 1037, 1038, 1039, 1040, 1041, 1042, 1043, 1044, 1045, 1046, 1047, 1048, 1049, 1050, 1051, 1052, 1053, 1054, 1055, 1056, 1057, 1058, 1059, 1060, 1061, 1062, 1063, 1064, 1065, 1066, 1067, 1068, 1069, 1070, 1071, 1072] (by decide +kernel) (by decide +kernel)
set_option maxRecDepth 20000 in
theorem gL_law_X11_steps : GoodIn wsL_law (wsV RL 52 RX11 yX11_steps wsX11_steps) := goodIn_app (goodIn_of _ (by decide +kernel)) ggL_law_X11_steps
set_option maxRecDepth 20000 in
theorem ggL_law_X8_step : GoodIn wsL_law wsX8_step := goodIn_r _ [492, 15, 493, 494, 495, 2, 496, 473, 474, 475, 14, 476, 56, 477, 478, 479, 480, 60, 497, 498, 499, 500, 61, 992, 993, 994, 995, 996, 997, 998, 999, 1000, 1001, 1002, 1003, 1004, 1073, 1074, 1075, 1076, 1077, 1078, 1079, 1080, 1081] (by decide +kernel) (by decide +kernel)
set_option maxRecDepth 20000 in
theorem gL_law_X8_step : GoodIn wsL_law (wsV RL 53 RX8 yX8_step wsX8_step) := goodIn_app (goodIn_of _ (by decide +kernel)) ggL_law_X8_step
set_option maxRecDepth 20000 in
theorem ggL_law_X11_step : GoodIn wsL_law wsX11_step := goodIn_r _ [504, 204, 146, 147, 148, 149, 150, 151, 485, 486, 487, 5, 488, 404, 1005, 1006, 1007, 1008, 1009, 1010, 1011, 1012, 1013, 1014, 1015, 1016, 1017, 1018, 1019, 1020, 1021, 1022, 1023, 1024, 1025, 1026, 1027, 1028, 1029, 1030, 1031, 1032, 1033, 1034, 1035, 1036, 1037, 1038, 1039, 1040, 1041, 1042, 1043, 1044, 1045, 1046, 1047, 1048, 1049, 1050, 1051, 1052, 1053, 1054, 1055, 1056, 1057, 1058, 1059, 1060, 1061, 1062, 1063, 1064, 1065, 1066, 1067, 1068, 1069, 1070, 1071, 1072] (by decide +kernel) (by decide +kernel)
set_option maxRecDepth 20000 in
theorem gL_law_X11_step : GoodIn wsL_law (wsV RL 57 RX11 yX11_step wsX11_step) := goodIn_app (goodIn_of _ (by decide +kernel)) ggL_law_X11_step
set_option maxRecDepth 20000 in
theorem ggL_law_X8_play : GoodIn wsL_law wsX8_play := goodIn_r _ [508, 15, 27, 23, 473, 474, 475, 14, 476, 56, 192, 193, 194, 2, 195, 49, 228, 229, 230, 509, 510, 511, 26, 512, 88, 89, 90, 91, 92, 93, 94, 95, 96, 97, 98, 513, 514, 515, 516, 517, 518, 519, 520, 53, 521, 522, 523, 22, 524, 82, 525, 526, 527, 528, 529, 530, 531, 532, 533, 534, 535, 536, 498, 499, 500, 61, 537, 538, 539, 540, 58, 541, 542, 543, 544, 99, 545, 478, 479, 480, 60, 546, 547, 548, 549, 550, 551, 552, 553, 554, 555, 556, 557, 558, 559, 560, 561, 562, 563, 564, 565, 566, 196, 197, 198, 199, 992, 993, 994, 995, 996, 997, 998, 999, 1000, 1001, 1002, 1003, 1004, 1097, 1098, 1099, 1100, 1101, 1102, 1103, 1104, 1105, 1106, 1107, 1108, 1073, 1074, 1075, 1076, 1077, 1078, 1079, 1080, 1081, 1096] (by decide +kernel) (by decide +kernel)
set_option maxRecDepth 20000 in
theorem gL_law_X8_play : GoodIn wsL_law (wsV RL 58 RX8 yX8_play wsX8_play) := goodIn_app (goodIn_of _ (by decide +kernel)) ggL_law_X8_play
set_option maxRecDepth 20000 in
theorem ggL_law_X11_play : GoodIn wsL_law wsX11_play := goodIn_r _ [570, 204, 571, 572, 573, 574, 575, 576, 577, 578, 579, 580, 162, 161, 485, 486, 487, 5, 488, 404, 206, 207, 208, 209, 210, 142, 581, 582, 583, 240, 241, 242, 584, 585, 586, 587, 588, 589, 146, 159, 147, 148, 149, 150, 151, 590, 591, 592, 593, 205, 594, 595, 596, 597, 143, 598, 599, 600, 601, 144, 602, 603, 604, 605, 239, 145, 606, 607, 608, 609, 211, 212, 213, 214, 1005, 1006, 1007, 1008, 1009, 1010, 1011, 1012, 1013, 1014, 1015, 1016, 1017, 1018, 1019, 1020, 1021, 1022, 1023, 1024, 1025, 1026, 1027, 1028, 1029, 1030, 1031, 1032, 1033, 1034, 1035, 1036, 1037, 1038, 1039, 1040, 1041, 1042, 1043, 1044, 1045, 1046, 1047, 1048, 1049, 1050, 1051, 1052, 1053, 1054, 1055, 1056, 1057, 1058, 1059, 1060, 1061, 1062, 1063, 1064, 1065, 1066, 1067, 1068, 1069, 1070, 1071, 1072] (by decide +kernel) (by decide +kernel)
set_option maxRecDepth 20000 in
theorem gL_law_X11_play : GoodIn wsL_law (wsV RL 62 RX11 yX11_play wsX11_play) := goodIn_app (goodIn_of _ (by decide +kernel)) ggL_law_X11_play
set_option maxRecDepth 20000 in
theorem ggL_law_X8_played : GoodIn wsL_law wsX8_played := goodIn_r _ [613, 27, 614, 615, 616, 2, 617, 192, 193, 194, 195, 49, 618, 619, 620, 26, 621, 95, 97, 90, 93, 196, 197, 198, 199, 992, 993, 994, 995, 996, 997, 998, 999, 1000, 1001, 1002, 1003, 1004, 1097, 1098, 1099, 1100, 1101, 1102, 1103, 1104, 1105, 1106, 1107, 1108] (by decide +kernel) (by decide +kernel)
set_option maxRecDepth 20000 in
theorem gL_law_X8_played : GoodIn wsL_law (wsV RL 63 RX8 yX8_played wsX8_played) := goodIn_app (goodIn_of _ (by decide +kernel)) ggL_law_X8_played
set_option maxRecDepth 20000 in
theorem ggL_law_X11_played : GoodIn wsL_law wsX11_played := goodIn_r _ [625, 204, 572, 210, 142, 574, 576, 578, 580, 206, 207, 208, 5, 209, 1005, 1006, 1007, 1008, 1009, 1010, 1011, 1012, 1013, 1014, 1015, 1016, 1017, 1018, 1019, 1020, 1021, 1022, 1023, 1024, 1025, 1026, 1027, 1028, 1029, 1030, 1031, 1032, 1033, 1034, 1035, 1036, 1037, 1038, 1039, 1040, 1041, 1042, 1043, 1044, 1045, 1046, 1047, 1048, 1049, 1050, 1051, 1052, 1053, 1054, 1055, 1056, 1057, 1058, 1059, 1060, 1061, 1062, 1063, 1064, 1065, 1066, 1067, 1068, 1069, 1070, 1071, 1072] (by decide +kernel) (by decide +kernel)
set_option maxRecDepth 20000 in
theorem gL_law_X11_played : GoodIn wsL_law (wsV RL 66 RX11 yX11_played wsX11_played) := goodIn_app (goodIn_of _ (by decide +kernel)) ggL_law_X11_played
set_option maxRecDepth 20000 in
theorem ggL_law_X8_path : GoodIn wsL_law wsX8_path := goodIn_r _ [629, 27, 630, 631, 632, 26, 633, 97, 99, 992, 993, 994, 995, 996, 997, 998, 999, 1000, 1001, 1002, 1003, 1004, 1097, 1098, 1099, 1100, 1101, 1102, 1103, 1104, 1105, 1106, 1107, 1108] (by decide +kernel) (by decide +kernel)
set_option maxRecDepth 20000 in
theorem gL_law_X8_path : GoodIn wsL_law (wsV RL 67 RX8 yX8_path wsX8_path) := goodIn_app (goodIn_of _ (by decide +kernel)) ggL_law_X8_path
set_option maxRecDepth 20000 in
theorem ggL_law_X11_path : GoodIn wsL_law wsX11_path := goodIn_r _ [637, 204, 572, 576, 162, 1005, 1006, 1007, 1008, 1009, 1010, 1011, 1012, 1013, 1014, 1015, 1016, 1017, 1018, 1019, 1020, 1021, 1022, 1023, 1024, 1025, 1026, 1027, 1028, 1029, 1030, 1031, 1032, 1033, 1034, 1035, 1036, 1037, 1038, 1039, 1040, 1041, 1042, 1043, 1044, 1045, 1046, 1047, 1048, 1049, 1050, 1051, 1052, 1053, 1054, 1055, 1056, 1057, 1058, 1059, 1060, 1061, 1062, 1063, 1064, 1065, 1066, 1067, 1068, 1069, 1070, 1071, 1072] (by decide +kernel) (by decide +kernel)
set_option maxRecDepth 20000 in
theorem gL_law_X11_path : GoodIn wsL_law (wsV RL 70 RX11 yX11_path wsX11_path) := goodIn_app (goodIn_of _ (by decide +kernel)) ggL_law_X11_path
set_option maxRecDepth 20000 in
theorem ggL_law_X8_all : GoodIn wsL_law wsX8_all := goodIn_r _ [641, 15, 34, 38, 28, 473, 474, 475, 14, 476, 56, 192, 193, 194, 2, 195, 49, 228, 229, 230, 642, 643, 644, 645, 646, 647, 33, 648, 103, 106, 104, 107, 105, 108, 649, 518, 519, 520, 53, 650, 651, 652, 653, 654, 655, 656, 657, 658, 659, 660, 661, 662, 663, 54, 664, 665, 666, 667, 55, 668, 669, 670, 671, 672, 673, 674, 675, 676, 677, 678, 679, 37, 680, 113, 114, 115, 116, 117, 118, 119, 120, 121, 122, 681, 526, 515, 527, 682, 683, 684, 685, 112, 686, 687, 688, 689, 23, 509, 510, 511, 26, 512, 88, 89, 90, 91, 92, 93, 94, 95, 96, 97, 98, 513, 514, 516, 517, 521, 522, 523, 22, 524, 82, 525, 528, 529, 530, 531, 532, 533, 534, 535, 536, 498, 499, 500, 61, 537, 538, 539, 540, 58, 541, 542, 543, 544, 99, 545, 478, 479, 480, 60, 546, 547, 548, 549, 550, 551, 552, 553, 554, 555, 556, 557, 558, 559, 560, 561, 562, 563, 564, 565, 566, 690, 691, 692, 693, 694, 695, 696, 697, 698, 196, 197, 198, 199, 992, 993, 994, 995, 996, 997, 998, 999, 1000, 1001, 1002, 1003, 1004, 1115, 1116, 1117, 1118, 1119, 1120, 1121, 1122, 1123, 1124, 1125, 1097, 1098, 1099, 1100, 1101, 1102, 1103, 1104, 1105, 1106, 1107, 1108, 1073, 1074, 1075, 1076, 1077, 1078, 1079, 1080, 1081, 1109, 1110, 1111, 1112, 1113, 1114, 1096] (by decide +kernel) (by decide +kernel)
set_option maxRecDepth 20000 in
theorem gL_law_X8_all : GoodIn wsL_law (wsV RL 71 RX8 yX8_all wsX8_all) := goodIn_app (goodIn_of _ (by decide +kernel)) ggL_law_X8_all
set_option maxRecDepth 20000 in
theorem ggL_law_X11_all : GoodIn wsL_law wsX11_all := goodIn_r _ [702, 204, 703, 704, 705, 706, 707, 166, 167, 165, 163, 573, 485, 486, 487, 5, 488, 404, 206, 207, 208, 209, 210, 142, 240, 241, 242, 708, 709, 710, 711, 239, 223, 712, 164, 590, 591, 592, 593, 205, 713, 714, 715, 716, 717, 718, 719, 584, 585, 586, 587, 588, 577, 575, 589, 579, 146, 161, 159, 147, 148, 149, 150, 151, 594, 595, 596, 597, 143, 598, 599, 600, 601, 144, 602, 603, 604, 605, 145, 606, 607, 608, 609, 211, 212, 213, 214, 1005, 1006, 1007, 1008, 1009, 1010, 1011, 1012, 1013, 1014, 1015, 1016, 1017, 1018, 1019, 1020, 1021, 1022, 1023, 1024, 1025, 1026, 1027, 1028, 1029, 1030, 1031, 1032, 1033, 1034, 1035, 1036, 1037, 1038, 1039, 1040, 1041, 1042, 1043, 1044, 1045, 1046, 1047, 1048, 1049, 1050, 1051, 1052, 1053, 1054, 1055, 1056, 1057, 1058, 1059, 1060, 1061, 1062, 1063, 1064, 1065, 1066, 1067, 1068, 1069, 1070, 1071, 1072] (by decide +kernel) (by decide +kernel)
set_option maxRecDepth 20000 in
theorem gL_law_X11_all : GoodIn wsL_law (wsV RL 74 RX11 yX11_all wsX11_all) := goodIn_app (goodIn_of _ (by decide +kernel)) ggL_law_X11_all
set_option maxRecDepth 20000 in
theorem ggL_law_X8_ended : GoodIn wsL_law wsX8_ended := goodIn_r _ [723, 38, 724, 725, 726, 37, 727, 114, 113, 992, 993, 994, 995, 996, 997, 998, 999, 1000, 1001, 1002, 1003, 1004, 1115, 1116, 1117, 1118, 1119, 1120, 1121, 1122, 1123, 1124, 1125] (by decide +kernel) (by decide +kernel)
set_option maxRecDepth 20000 in
theorem gL_law_X8_ended : GoodIn wsL_law (wsV RL 75 RX8 yX8_ended wsX8_ended) := goodIn_app (goodIn_of _ (by decide +kernel)) ggL_law_X8_ended
set_option maxRecDepth 20000 in
theorem ggL_law_X11_ended : GoodIn wsL_law wsX11_ended := goodIn_r _ [731, 204, 703, 166, 240, 241, 5, 242, 1005, 1006, 1007, 1008, 1009, 1010, 1011, 1012, 1013, 1014, 1015, 1016, 1017, 1018, 1019, 1020, 1021, 1022, 1023, 1024, 1025, 1026, 1027, 1028, 1029, 1030, 1031, 1032, 1033, 1034, 1035, 1036, 1037, 1038, 1039, 1040, 1041, 1042, 1043, 1044, 1045, 1046, 1047, 1048, 1049, 1050, 1051, 1052, 1053, 1054, 1055, 1056, 1057, 1058, 1059, 1060, 1061, 1062, 1063, 1064, 1065, 1066, 1067, 1068, 1069, 1070, 1071, 1072] (by decide +kernel) (by decide +kernel)
set_option maxRecDepth 20000 in
theorem gL_law_X11_ended : GoodIn wsL_law (wsV RL 78 RX11 yX11_ended wsX11_ended) := goodIn_app (goodIn_of _ (by decide +kernel)) ggL_law_X11_ended
set_option maxRecDepth 20000 in
theorem ggL_law_X8_allOf : GoodIn wsL_law wsX8_allOf := goodIn_r _ [735, 38, 736, 737, 738, 37, 739, 114, 116, 118, 119, 117, 121, 122, 120, 992, 993, 994, 995, 996, 997, 998, 999, 1000, 1001, 1002, 1003, 1004, 1115, 1116, 1117, 1118, 1119, 1120, 1121, 1122, 1123, 1124, 1125] (by decide +kernel) (by decide +kernel)
set_option maxRecDepth 20000 in
theorem gL_law_X8_allOf : GoodIn wsL_law (wsV RL 79 RX8 yX8_allOf wsX8_allOf) := goodIn_app (goodIn_of _ (by decide +kernel)) ggL_law_X8_allOf
set_option maxRecDepth 20000 in
theorem ggL_law_X11_allOf : GoodIn wsL_law wsX11_allOf := goodIn_r _ [743, 204, 703, 167, 240, 241, 5, 242, 1005, 1006, 1007, 1008, 1009, 1010, 1011, 1012, 1013, 1014, 1015, 1016, 1017, 1018, 1019, 1020, 1021, 1022, 1023, 1024, 1025, 1026, 1027, 1028, 1029, 1030, 1031, 1032, 1033, 1034, 1035, 1036, 1037, 1038, 1039, 1040, 1041, 1042, 1043, 1044, 1045, 1046, 1047, 1048, 1049, 1050, 1051, 1052, 1053, 1054, 1055, 1056, 1057, 1058, 1059, 1060, 1061, 1062, 1063, 1064, 1065, 1066, 1067, 1068, 1069, 1070, 1071, 1072] (by decide +kernel) (by decide +kernel)
set_option maxRecDepth 20000 in
theorem gL_law_X11_allOf : GoodIn wsL_law (wsV RL 82 RX11 yX11_allOf wsX11_allOf) := goodIn_app (goodIn_of _ (by decide +kernel)) ggL_law_X11_allOf
set_option maxRecDepth 20000 in
theorem ggL_law_X8_idle : GoodIn wsL_law wsX8_idle := goodIn_r _ [747, 15, 473, 474, 475, 14, 476, 56, 477, 478, 479, 480, 60, 748, 749, 750, 751, 752, 753, 754, 755, 756, 550, 498, 499, 500, 61, 757, 654, 655, 656, 657, 658, 659, 992, 993, 994, 995, 996, 997, 998, 999, 1000, 1001, 1002, 1003, 1004, 1073, 1074, 1075, 1076, 1077, 1078, 1079, 1080, 1081] (by decide +kernel) (by decide +kernel)
set_option maxRecDepth 20000 in
theorem gL_law_X8_idle : GoodIn wsL_law (wsV RL 83 RX8 yX8_idle wsX8_idle) := goodIn_app (goodIn_of _ (by decide +kernel)) ggL_law_X8_idle
set_option maxRecDepth 20000 in
theorem ggL_law_X11_idle : GoodIn wsL_law wsX11_idle := goodIn_r _ [761, 204, 146, 169, 485, 486, 487, 5, 488, 404, 762, 763, 764, 765, 147, 149, 148, 150, 1005, 1006, 1007, 1008, 1009, 1010, 1011, 1012, 1013, 1014, 1015, 1016, 1017, 1018, 1019, 1020, 1021, 1022, 1023, 1024, 1025, 1026, 1027, 1028, 1029, 1030, 1031, 1032, 1033, 1034, 1035, 1036, 1037, 1038, 1039, 1040, 1041, 1042, 1043, 1044, 1045, 1046, 1047, 1048, 1049, 1050, 1051, 1052, 1053, 1054, 1055, 1056, 1057, 1058, 1059, 1060, 1061, 1062, 1063, 1064, 1065, 1066, 1067, 1068, 1069, 1070, 1071, 1072] (by decide +kernel) (by decide +kernel)
set_option maxRecDepth 20000 in
theorem gL_law_X11_idle : GoodIn wsL_law (wsV RL 86 RX11 yX11_idle wsX11_idle) := goodIn_app (goodIn_of _ (by decide +kernel)) ggL_law_X11_idle
set_option maxRecDepth 20000 in
theorem ggL_law_X8_look : GoodIn wsL_law wsX8_look := goodIn_r _ [769, 15, 493, 494, 495, 2, 496, 473, 474, 475, 14, 476, 56, 477, 478, 479, 480, 60, 748, 749, 750, 751, 752, 753, 754, 755, 756, 550, 498, 499, 500, 61, 770, 771, 772, 773, 774, 547, 548, 549, 775, 776, 777, 778, 55, 779, 780, 781, 782, 59, 992, 993, 994, 995, 996, 997, 998, 999, 1000, 1001, 1002, 1003, 1004, 1073, 1074, 1075, 1076, 1077, 1078, 1079, 1080, 1081] (by decide +kernel) (by decide +kernel)
set_option maxRecDepth 20000 in
theorem gL_law_X8_look : GoodIn wsL_law (wsV RL 87 RX8 yX8_look wsX8_look) := goodIn_app (goodIn_of _ (by decide +kernel)) ggL_law_X8_look
set_option maxRecDepth 20000 in
theorem ggL_law_X11_look : GoodIn wsL_law wsX11_look := goodIn_r _ [786, 204, 146, 147, 148, 169, 485, 486, 487, 5, 488, 404, 762, 763, 764, 765, 149, 150, 602, 603, 604, 605, 239, 145, 1005, 1006, 1007, 1008, 1009, 1010, 1011, 1012, 1013, 1014, 1015, 1016, 1017, 1018, 1019, 1020, 1021, 1022, 1023, 1024, 1025, 1026, 1027, 1028, 1029, 1030, 1031, 1032, 1033, 1034, 1035, 1036, 1037, 1038, 1039, 1040, 1041, 1042, 1043, 1044, 1045, 1046, 1047, 1048, 1049, 1050, 1051, 1052, 1053, 1054, 1055, 1056, 1057, 1058, 1059, 1060, 1061, 1062, 1063, 1064, 1065, 1066, 1067, 1068, 1069, 1070, 1071, 1072] (by decide +kernel) (by decide +kernel)
set_option maxRecDepth 20000 in
theorem gL_law_X11_look : GoodIn wsL_law (wsV RL 91 RX11 yX11_look wsX11_look) := goodIn_app (goodIn_of _ (by decide +kernel)) ggL_law_X11_look
set_option maxRecDepth 20000 in
theorem ggL_law_X8_mends : GoodIn wsL_law wsX8_mends := goodIn_r _ [790, 38, 42, 15, 192, 193, 194, 2, 195, 49, 791, 792, 793, 794, 477, 478, 479, 14, 480, 60, 497, 498, 499, 500, 61, 795, 780, 781, 782, 59, 757, 654, 655, 656, 657, 658, 659, 796, 797, 798, 41, 799, 126, 127, 128, 129, 196, 197, 198, 199, 800, 801, 802, 803, 804, 362, 363, 364, 805, 806, 807, 808, 682, 683, 684, 37, 685, 112, 686, 687, 688, 689, 28, 23, 509, 510, 511, 26, 512, 88, 89, 90, 91, 92, 93, 94, 95, 96, 97, 98, 513, 514, 515, 516, 517, 518, 519, 520, 53, 521, 522, 523, 22, 524, 82, 525, 526, 527, 528, 529, 530, 531, 532, 533, 534, 535, 536, 537, 538, 539, 540, 58, 541, 542, 543, 544, 99, 545, 546, 547, 548, 549, 550, 551, 552, 553, 554, 555, 556, 557, 558, 559, 560, 561, 562, 563, 564, 565, 566, 809, 810, 811, 812, 813, 814, 815, 816, 231, 232, 233, 234, 992, 993, 994, 995, 996, 997, 998, 999, 1000, 1001, 1002, 1003, 1004, 1115, 1116, 1117, 1118, 1119, 1120, 1121, 1122, 1123, 1124, 1125, 1073, 1074, 1075, 1076, 1077, 1078, 1079, 1080, 1081, 1126, 1127, 1128, 1129, 1097, 1098, 1099, 1100, 1101, 1102, 1103, 1104, 1105, 1106, 1107, 1108, 1096] (by decide +kernel) (by decide +kernel)
set_option maxRecDepth 20000 in
theorem gL_law_X8_mends : GoodIn wsL_law (wsV RL 92 RX8 yX8_mends wsX8_mends) := goodIn_app (goodIn_of _ (by decide +kernel)) ggL_law_X8_mends
set_option maxRecDepth 20000 in
theorem ggL_law_X11_mends : GoodIn wsL_law wsX11_mends := goodIn_r _ [820, 204, 703, 146, 704, 147, 239, 145, 707, 706, 821, 149, 150, 148, 822, 206, 207, 208, 5, 209, 210, 142, 713, 714, 715, 823, 824, 825, 826, 827, 828, 829, 830, 165, 716, 717, 718, 719, 584, 585, 586, 587, 588, 577, 573, 575, 589, 579, 161, 159, 151, 590, 591, 592, 593, 205, 594, 595, 596, 597, 143, 598, 599, 600, 601, 144, 602, 603, 604, 605, 606, 607, 608, 609, 831, 832, 833, 834, 170, 211, 212, 213, 214, 1005, 1006, 1007, 1008, 1009, 1010, 1011, 1012, 1013, 1014, 1015, 1016, 1017, 1018, 1019, 1020, 1021, 1022, 1023, 1024, 1025, 1026, 1027, 1028, 1029, 1030, 1031, 1032, 1033, 1034, 1035, 1036, 1037, 1038, 1039, 1040, 1041, 1042, 1043, 1044, 1045, 1046, 1047, 1048, 1049, 1050, 1051, 1052, 1053, 1054, 1055, 1056, 1057, 1058, 1059, 1060, 1061, 1062, 1063, 1064, 1065, 1066, 1067, 1068, 1069, 1070, 1071, 1072] (by decide +kernel) (by decide +kernel)
set_option maxRecDepth 20000 in
theorem gL_law_X11_mends : GoodIn wsL_law (wsV RL 95 RX11 yX11_mends wsX11_mends) := goodIn_app (goodIn_of _ (by decide +kernel)) ggL_law_X11_mends
set_option maxRecDepth 20000 in
theorem ggL_law_X8_mend : GoodIn wsL_law wsX8_mend := goodIn_r _ [838, 42, 839, 840, 841, 41, 842, 127, 128, 129, 992, 993, 994, 995, 996, 997, 998, 999, 1000, 1001, 1002, 1003, 1004, 1126, 1127, 1128, 1129] (by decide +kernel) (by decide +kernel)
set_option maxRecDepth 20000 in
theorem gL_law_X8_mend : GoodIn wsL_law (wsV RL 96 RX8 yX8_mend wsX8_mend) := goodIn_app (goodIn_of _ (by decide +kernel)) ggL_law_X8_mend
set_option maxRecDepth 20000 in
theorem ggL_law_X11_mend : GoodIn wsL_law wsX11_mend := goodIn_r _ [846, 204, 822, 170, 240, 241, 5, 242, 1005, 1006, 1007, 1008, 1009, 1010, 1011, 1012, 1013, 1014, 1015, 1016, 1017, 1018, 1019, 1020, 1021, 1022, 1023, 1024, 1025, 1026, 1027, 1028, 1029, 1030, 1031, 1032, 1033, 1034, 1035, 1036, 1037, 1038, 1039, 1040, 1041, 1042, 1043, 1044, 1045, 1046, 1047, 1048, 1049, 1050, 1051, 1052, 1053, 1054, 1055, 1056, 1057, 1058, 1059, 1060, 1061, 1062, 1063, 1064, 1065, 1066, 1067, 1068, 1069, 1070, 1071, 1072] (by decide +kernel) (by decide +kernel)
set_option maxRecDepth 20000 in
theorem gL_law_X11_mend : GoodIn wsL_law (wsV RL 99 RX11 yX11_mend wsX11_mend) := goodIn_app (goodIn_of _ (by decide +kernel)) ggL_law_X11_mend
set_option maxRecDepth 20000 in
theorem ggL_law_X8_nights : GoodIn wsL_law wsX8_nights := goodIn_r _ [850, 15, 29, 30, 23, 851, 852, 853, 854, 473, 474, 475, 14, 476, 56, 192, 193, 194, 2, 195, 49, 228, 229, 230, 509, 510, 511, 26, 512, 88, 89, 90, 91, 92, 93, 94, 95, 96, 97, 98, 513, 514, 515, 516, 517, 518, 519, 520, 53, 521, 522, 523, 22, 524, 82, 525, 526, 527, 528, 529, 530, 531, 532, 533, 534, 535, 536, 498, 499, 500, 61, 537, 538, 539, 540, 58, 541, 542, 543, 544, 99, 545, 478, 479, 480, 60, 546, 547, 548, 549, 550, 551, 552, 553, 554, 555, 556, 557, 558, 559, 560, 561, 562, 563, 564, 565, 566, 196, 197, 198, 199, 992, 993, 994, 995, 996, 997, 998, 999, 1000, 1001, 1002, 1003, 1004, 1097, 1098, 1099, 1100, 1101, 1102, 1103, 1104, 1105, 1106, 1107, 1108, 1073, 1074, 1075, 1076, 1077, 1078, 1079, 1080, 1081, 1096] (by decide +kernel) (by decide +kernel)
set_option maxRecDepth 20000 in
theorem gL_law_X8_nights : GoodIn wsL_law (wsV RL 100 RX8 yX8_nights wsX8_nights) := goodIn_app (goodIn_of _ (by decide +kernel)) ggL_law_X8_nights
set_option maxRecDepth 20000 in
theorem ggL_law_X11_nights : GoodIn wsL_law wsX11_nights := goodIn_r _ [858, 204, 588, 176, 174, 175, 159, 160, 859, 860, 852, 853, 854, 485, 486, 487, 5, 488, 404, 206, 207, 208, 209, 210, 142, 581, 582, 583, 240, 241, 242, 590, 591, 592, 593, 205, 861, 862, 863, 173, 864, 865, 866, 867, 868, 869, 870, 871, 872, 873, 874, 875, 876, 877, 147, 606, 607, 608, 609, 149, 878, 879, 880, 881, 882, 883, 884, 885, 146, 886, 887, 888, 889, 148, 150, 594, 595, 596, 597, 143, 598, 599, 600, 601, 144, 890, 891, 892, 893, 894, 895, 896, 897, 898, 899, 239, 145, 151, 602, 603, 604, 605, 211, 212, 213, 214, 1005, 1006, 1007, 1008, 1009, 1010, 1011, 1012, 1013, 1014, 1015, 1016, 1017, 1018, 1019, 1020, 1021, 1022, 1023, 1024, 1025, 1026, 1027, 1028, 1029, 1030, 1031, 1032, 1033, 1034, 1035, 1036, 1037, 1038, 1039, 1040, 1041, 1042, 1043, 1044, 1045, 1046, 1047, 1048, 1049, 1050, 1051, 1052, 1053, 1054, 1055, 1056, 1057, 1058, 1059, 1060, 1061, 1062, 1063, 1064, 1065, 1066, 1067, 1068, 1069, 1070, 1071, 1072, 1143, 1144, 1145, 1146, 1147, 1148, 1149, 1150, 1151, 1152, 1153] (by decide +kernel) (by decide +kernel)
set_option maxRecDepth 20000 in
theorem gL_law_X11_nights : GoodIn wsL_law (wsV RL 104 RX11 yX11_nights wsX11_nights) := goodIn_app (goodIn_of _ (by decide +kernel)) ggL_law_X11_nights
set_option maxRecDepth 20000 in
theorem ggL_law_X8_night : GoodIn wsL_law wsX8_night := goodIn_r _ [903, 30, 29, 992, 993, 994, 995, 996, 997, 998, 999, 1000, 1001, 1002, 1003, 1004, 1097, 1098, 1099, 1100, 1101, 1102, 1103, 1104, 1105, 1106, 1107, 1108] (by decide +kernel) (by decide +kernel)
set_option maxRecDepth 20000 in
theorem gL_law_X8_night : GoodIn wsL_law (wsV RL 105 RX8 yX8_night wsX8_night) := goodIn_app (goodIn_of _ (by decide +kernel)) ggL_law_X8_night
set_option maxRecDepth 20000 in
theorem ggL_law_X11_night : GoodIn wsL_law wsX11_night := goodIn_r _ [907, 204, 859, 175, 174, 1005, 1006, 1007, 1008, 1009, 1010, 1011, 1012, 1013, 1014, 1015, 1016, 1017, 1018, 1019, 1020, 1021, 1022, 1023, 1024, 1025, 1026, 1027, 1028, 1029, 1030, 1031, 1032, 1033, 1034, 1035, 1036, 1037, 1038, 1039, 1040, 1041, 1042, 1043, 1044, 1045, 1046, 1047, 1048, 1049, 1050, 1051, 1052, 1053, 1054, 1055, 1056, 1057, 1058, 1059, 1060, 1061, 1062, 1063, 1064, 1065, 1066, 1067, 1068, 1069, 1070, 1071, 1072, 1143, 1144, 1145, 1146, 1147, 1148, 1149, 1150, 1151, 1152, 1153] (by decide +kernel) (by decide +kernel)
set_option maxRecDepth 20000 in
theorem gL_law_X11_night : GoodIn wsL_law (wsV RL 109 RX11 yX11_night wsX11_night) := goodIn_app (goodIn_of _ (by decide +kernel)) ggL_law_X11_night
set_option maxRecDepth 20000 in
theorem ggL_law_X8_log : GoodIn wsL_law wsX8_log := goodIn_r _ [911, 46, 192, 193, 194, 2, 195, 49, 912, 913, 914, 45, 915, 135, 133, 916, 917, 918, 919, 196, 197, 198, 199, 992, 993, 994, 995, 996, 997, 998, 999, 1000, 1001, 1002, 1003, 1004, 1130, 1131, 1132, 1133, 1134] (by decide +kernel) (by decide +kernel)
set_option maxRecDepth 20000 in
theorem gL_law_X8_log : GoodIn wsL_law (wsV RL 110 RX8 yX8_log wsX8_log) := goodIn_app (goodIn_of _ (by decide +kernel)) ggL_law_X8_log
set_option maxRecDepth 20000 in
theorem ggL_law_X11_log : GoodIn wsL_law wsX11_log := goodIn_r _ [923, 204, 924, 177, 240, 241, 5, 242, 206, 207, 208, 209, 210, 142, 211, 212, 213, 214, 1005, 1006, 1007, 1008, 1009, 1010, 1011, 1012, 1013, 1014, 1015, 1016, 1017, 1018, 1019, 1020, 1021, 1022, 1023, 1024, 1025, 1026, 1027, 1028, 1029, 1030, 1031, 1032, 1033, 1034, 1035, 1036, 1037, 1038, 1039, 1040, 1041, 1042, 1043, 1044, 1045, 1046, 1047, 1048, 1049, 1050, 1051, 1052, 1053, 1054, 1055, 1056, 1057, 1058, 1059, 1060, 1061, 1062, 1063, 1064, 1065, 1066, 1067, 1068, 1069, 1070, 1071, 1072] (by decide +kernel) (by decide +kernel)
set_option maxRecDepth 20000 in
theorem gL_law_X11_log : GoodIn wsL_law (wsV RL 113 RX11 yX11_log wsX11_log) := goodIn_app (goodIn_of _ (by decide +kernel)) ggL_law_X11_log
set_option maxRecDepth 20000 in
theorem ggL_law_X8_clear : GoodIn wsL_law wsX8_clear := goodIn_r _ [928, 46, 992, 993, 994, 995, 996, 997, 998, 999, 1000, 1001, 1002, 1003, 1004, 1130, 1131, 1132, 1133, 1134] (by decide +kernel) (by decide +kernel)
set_option maxRecDepth 20000 in
theorem gL_law_X8_clear : GoodIn wsL_law (wsV RL 114 RX8 yX8_clear wsX8_clear) := goodIn_app (goodIn_of _ (by decide +kernel)) ggL_law_X8_clear
set_option maxRecDepth 20000 in
theorem ggL_law_X11_clear : GoodIn wsL_law wsX11_clear := goodIn_r _ [932, 204, 924, 1005, 1006, 1007, 1008, 1009, 1010, 1011, 1012, 1013, 1014, 1015, 1016, 1017, 1018, 1019, 1020, 1021, 1022, 1023, 1024, 1025, 1026, 1027, 1028, 1029, 1030, 1031, 1032, 1033, 1034, 1035, 1036, 1037, 1038, 1039, 1040, 1041, 1042, 1043, 1044, 1045, 1046, 1047, 1048, 1049, 1050, 1051, 1052, 1053, 1054, 1055, 1056, 1057, 1058, 1059, 1060, 1061, 1062, 1063, 1064, 1065, 1066, 1067, 1068, 1069, 1070, 1071, 1072] (by decide +kernel) (by decide +kernel)
set_option maxRecDepth 20000 in
theorem gL_law_X11_clear : GoodIn wsL_law (wsV RL 117 RX11 yX11_clear wsX11_clear) := goodIn_app (goodIn_of _ (by decide +kernel)) ggL_law_X11_clear
set_option maxRecDepth 20000 in
theorem ggL_law_X8_laid : GoodIn wsL_law wsX8_laid := goodIn_r _ [936, 46, 27, 614, 615, 616, 2, 617, 192, 193, 194, 195, 49, 937, 938, 939, 45, 940, 941, 942, 853, 943, 134, 135, 136, 137, 944, 526, 515, 527, 945, 631, 632, 26, 633, 97, 99, 946, 947, 948, 949, 133, 950, 852, 854, 196, 197, 198, 199, 992, 993, 994, 995, 996, 997, 998, 999, 1000, 1001, 1002, 1003, 1004, 1097, 1098, 1099, 1100, 1101, 1102, 1103, 1104, 1105, 1106, 1107, 1108, 1130, 1131, 1132, 1133, 1134] (by decide +kernel) (by decide +kernel)
set_option maxRecDepth 20000 in
theorem gL_law_X8_laid : GoodIn wsL_law (wsV RL 118 RX8 yX8_laid wsX8_laid) := goodIn_app (goodIn_of _ (by decide +kernel)) ggL_law_X8_laid
set_option maxRecDepth 20000 in
theorem ggL_law_X11_laid : GoodIn wsL_law wsX11_laid := goodIn_r _ [954, 204, 572, 576, 955, 942, 853, 943, 924, 178, 179, 177, 162, 860, 852, 854, 180, 181, 206, 207, 208, 5, 209, 210, 142, 211, 212, 213, 214, 1005, 1006, 1007, 1008, 1009, 1010, 1011, 1012, 1013, 1014, 1015, 1016, 1017, 1018, 1019, 1020, 1021, 1022, 1023, 1024, 1025, 1026, 1027, 1028, 1029, 1030, 1031, 1032, 1033, 1034, 1035, 1036, 1037, 1038, 1039, 1040, 1041, 1042, 1043, 1044, 1045, 1046, 1047, 1048, 1049, 1050, 1051, 1052, 1053, 1054, 1055, 1056, 1057, 1058, 1059, 1060, 1061, 1062, 1063, 1064, 1065, 1066, 1067, 1068, 1069, 1070, 1071, 1072] (by decide +kernel) (by decide +kernel)
set_option maxRecDepth 20000 in
theorem gL_law_X11_laid : GoodIn wsL_law (wsV RL 121 RX11 yX11_laid wsX11_laid) := goodIn_app (goodIn_of _ (by decide +kernel)) ggL_law_X11_laid
set_option maxRecDepth 20000 in
theorem ggL_law_X8_apart : GoodIn wsL_law wsX8_apart := goodIn_r _ [959, 46, 992, 993, 994, 995, 996, 997, 998, 999, 1000, 1001, 1002, 1003, 1004, 1130, 1131, 1132, 1133, 1134] (by decide +kernel) (by decide +kernel)
set_option maxRecDepth 20000 in
theorem gL_law_X8_apart : GoodIn wsL_law (wsV RL 122 RX8 yX8_apart wsX8_apart) := goodIn_app (goodIn_of _ (by decide +kernel)) ggL_law_X8_apart
set_option maxRecDepth 20000 in
theorem ggL_law_X11_apart : GoodIn wsL_law wsX11_apart := goodIn_r _ [963, 204, 181, 180, 1005, 1006, 1007, 1008, 1009, 1010, 1011, 1012, 1013, 1014, 1015, 1016, 1017, 1018, 1019, 1020, 1021, 1022, 1023, 1024, 1025, 1026, 1027, 1028, 1029, 1030, 1031, 1032, 1033, 1034, 1035, 1036, 1037, 1038, 1039, 1040, 1041, 1042, 1043, 1044, 1045, 1046, 1047, 1048, 1049, 1050, 1051, 1052, 1053, 1054, 1055, 1056, 1057, 1058, 1059, 1060, 1061, 1062, 1063, 1064, 1065, 1066, 1067, 1068, 1069, 1070, 1071, 1072] (by decide +kernel) (by decide +kernel)
set_option maxRecDepth 20000 in
theorem gL_law_X11_apart : GoodIn wsL_law (wsV RL 126 RX11 yX11_apart wsX11_apart) := goodIn_app (goodIn_of _ (by decide +kernel)) ggL_law_X11_apart
set_option maxRecDepth 20000 in
theorem ggL_law_X8_differ : GoodIn wsL_law wsX8_differ := goodIn_r _ [967, 15, 34, 48, 473, 474, 475, 14, 476, 56, 192, 193, 194, 2, 195, 49, 228, 229, 230, 642, 643, 644, 645, 646, 647, 33, 648, 103, 106, 104, 107, 105, 108, 649, 518, 519, 520, 53, 650, 651, 652, 653, 654, 655, 656, 657, 658, 659, 660, 661, 662, 663, 54, 664, 665, 666, 667, 55, 668, 669, 670, 671, 672, 673, 674, 675, 676, 968, 969, 970, 971, 28, 686, 687, 688, 689, 23, 509, 510, 511, 26, 512, 88, 89, 90, 91, 92, 93, 94, 95, 96, 97, 98, 513, 514, 515, 516, 517, 521, 522, 523, 22, 524, 82, 525, 526, 527, 528, 529, 530, 531, 532, 533, 534, 535, 536, 498, 499, 500, 61, 537, 538, 539, 540, 58, 541, 542, 543, 544, 99, 545, 478, 479, 480, 60, 546, 547, 548, 549, 550, 551, 552, 553, 554, 555, 556, 557, 558, 559, 560, 561, 562, 563, 564, 565, 566, 196, 197, 198, 199, 992, 993, 994, 995, 996, 997, 998, 999, 1000, 1001, 1002, 1003, 1004, 1073, 1074, 1075, 1076, 1077, 1078, 1079, 1080, 1081, 1109, 1110, 1111, 1112, 1113, 1114, 1097, 1098, 1099, 1100, 1101, 1102, 1103, 1104, 1105, 1106, 1107, 1108, 1096] (by decide +kernel) (by decide +kernel)
set_option maxRecDepth 20000 in
theorem gL_law_X8_differ : GoodIn wsL_law (wsV RL 127 RX8 yX8_differ wsX8_differ) := goodIn_app (goodIn_of _ (by decide +kernel)) ggL_law_X8_differ
