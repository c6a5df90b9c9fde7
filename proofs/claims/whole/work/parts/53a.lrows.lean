set_option maxRecDepth 20000 in
theorem ggL_law_X10_init : GoodIn wsL_law wsX10_init := goodIn_r _ [8, 9, 10, 11, 12, 13, 14, 15, 16, 17, 18, 19, 20, 21, 22, 23, 24, 25, 26, 27, 28, 29, 30, 31, 32, 33, 34, 35, 36, 37, 38, 39, 40, 41, 42, 43, 44, 45, 46, 47, 48, 49, 50, 51, 52, 53, 54, 55, 56, 57, 58, 59, 60, 61, 62, 63, 64, 65, 66, 67, 68, 69, 70, 71, 2, 72, 73, 74, 75, 76, 77, 78, 79, 80, 81, 82, 83, 84, 85, 86, 87, 88, 89, 90, 91, 92, 93, 94, 95, 96, 97, 98, 99, 100, 101, 102, 103, 104, 105, 106, 107, 108, 109, 110, 111, 112, 113, 114, 115, 116, 117, 118, 119, 120, 1047, 1048, 1049, 1050, 1051, 1052, 1053, 1054, 1033, 1034, 1035, 1036, 1055, 1056, 1057, 1058, 1059, 1060, 1061, 1062, 1063, 1064, 1065, 1066, 1067, 1068, 1069, 1070, 1071, 1072, 1073, 1074, 1075, 1076, 1077, 1078, 1079, 1080, 1081, 1082, 1083, 1084, 1085, 1086, 1087, 1088, 1089, 1090, 1091, 1092, 1093, 1094, 1095, 1096] (by decide +kernel) (by decide +kernel)
set_option maxRecDepth 20000 in
theorem gL_law_X10_init : GoodIn wsL_law (wsX10_init) := ggL_law_X10_init
set_option maxRecDepth 20000 in
theorem ggL_law_X11_init : GoodIn wsL_law wsX11_init := goodIn_r _ [123, 124, 10, 11, 86, 125, 61, 126, 127, 128, 129, 130, 131, 132, 133, 134, 135, 136, 137, 138, 139, 5, 140, 141, 142, 143, 144, 1037, 1038, 1039, 1040, 1041, 1042, 1043, 1044, 1045, 1046] (by decide +kernel) (by decide +kernel)
set_option maxRecDepth 20000 in
theorem gL_law_X11_init : GoodIn wsL_law (wsX11_init) := ggL_law_X11_init
set_option maxRecDepth 20000 in
theorem ggL_law_X10_set : GoodIn wsL_law wsX10_set := goodIn_r _ [148, 20, 15, 149, 150, 151, 31, 152, 153, 154, 155, 156, 157, 19, 158, 159, 160, 161, 162, 163, 164, 114, 165, 166, 167, 14, 168, 32, 169, 36, 40, 44, 48, 52, 170, 171, 2, 172, 173, 174, 175, 35, 176, 68, 69, 70, 177, 178, 179, 39, 180, 79, 80, 81, 181, 182, 183, 43, 184, 87, 92, 185, 186, 187, 47, 188, 97, 189, 98, 190, 191, 192, 99, 193, 194, 195, 51, 196, 104, 105, 197, 198, 199, 200, 201, 202, 203, 204, 205, 206, 207, 208, 209, 62, 73, 74, 1033, 1034, 1035, 1036, 1047, 1048, 1049, 1050, 1051, 1052, 1053, 1054, 1055, 1056, 1057, 1065, 1066, 1067, 1068, 1069, 1070, 1071, 1072, 1073, 1074, 1075, 1076, 1077, 1078, 1079, 1080, 1081, 1082, 1083, 1084, 1085, 1086, 1087, 1088, 1089, 1090, 1091] (by decide +kernel) (by decide +kernel)
set_option maxRecDepth 20000 in
theorem gL_law_X10_set : GoodIn wsL_law (wsV RL 13 RX10 yX10_set wsX10_set) := goodIn_app (goodIn_of _ (by decide +kernel)) ggL_law_X10_set
set_option maxRecDepth 20000 in
theorem ggL_law_X11_set : GoodIn wsL_law wsX11_set := goodIn_r _ [213, 214, 125, 215, 216, 217, 5, 218, 219, 220, 221, 222, 223, 224, 225, 226, 227, 228, 229, 230, 231, 232, 1037, 1038, 1039, 1040, 1041, 1042, 1043, 1044, 1045, 1046] (by decide +kernel) (by decide +kernel)
set_option maxRecDepth 20000 in
theorem gL_law_X11_set : GoodIn wsL_law (wsV RL 17 RX11 yX11_set wsX11_set) := goodIn_app (goodIn_of _ (by decide +kernel)) ggL_law_X11_set
set_option maxRecDepth 20000 in
theorem ggL_law_X10_setting : GoodIn wsL_law wsX10_setting := goodIn_r _ [236, 15, 149, 237, 238, 239, 2, 240, 1033, 1034, 1035, 1036, 1047, 1048, 1049, 1050, 1051, 1052, 1053, 1054, 1065] (by decide +kernel) (by decide +kernel)
set_option maxRecDepth 20000 in
theorem gL_law_X10_setting : GoodIn wsL_law (wsV RL 18 RX10 yX10_setting wsX10_setting) := goodIn_app (goodIn_of _ (by decide +kernel)) ggL_law_X10_setting
set_option maxRecDepth 20000 in
theorem ggL_law_X11_setting : GoodIn wsL_law wsX11_setting := goodIn_r _ [244, 214, 216, 217, 5, 218, 245, 246, 247, 248, 125, 1037, 1038, 1039, 1040, 1041, 1042, 1043, 1044, 1045, 1046] (by decide +kernel) (by decide +kernel)
set_option maxRecDepth 20000 in
theorem gL_law_X11_setting : GoodIn wsL_law (wsV RL 22 RX11 yX11_setting wsX11_setting) := goodIn_app (goodIn_of _ (by decide +kernel)) ggL_law_X11_setting
set_option maxRecDepth 20000 in
theorem ggL_law_X10_setOutdoor : GoodIn wsL_law wsX10_setOutdoor := goodIn_r _ [252, 20, 15, 253, 254, 255, 256, 35, 257, 258, 259, 260, 155, 156, 157, 19, 158, 159, 160, 161, 162, 163, 164, 114, 165, 166, 167, 14, 168, 32, 169, 36, 40, 44, 48, 52, 170, 171, 2, 172, 173, 174, 175, 176, 68, 69, 70, 177, 178, 179, 39, 180, 79, 80, 81, 181, 182, 183, 43, 184, 87, 92, 185, 186, 187, 47, 188, 97, 189, 98, 190, 191, 192, 99, 193, 194, 195, 51, 196, 104, 105, 197, 198, 199, 200, 201, 202, 203, 204, 205, 261, 73, 74, 1033, 1034, 1035, 1036, 1047, 1048, 1049, 1050, 1051, 1052, 1053, 1054, 1066, 1067, 1068, 1055, 1056, 1057, 1065, 1069, 1070, 1071, 1072, 1073, 1074, 1075, 1076, 1077, 1078, 1079, 1080, 1081, 1082, 1083, 1084, 1085, 1086, 1087, 1088, 1089, 1090, 1091] (by decide +kernel) (by decide +kernel)
set_option maxRecDepth 20000 in
theorem gL_law_X10_setOutdoor : GoodIn wsL_law (wsV RL 23 RX10 yX10_setOutdoor wsX10_setOutdoor) := goodIn_app (goodIn_of _ (by decide +kernel)) ggL_law_X10_setOutdoor
set_option maxRecDepth 20000 in
theorem ggL_law_X11_setOutdoor : GoodIn wsL_law wsX11_setOutdoor := goodIn_r _ [265, 266, 267, 125, 215, 268, 269, 5, 270, 271, 216, 217, 218, 225, 226, 227, 228, 229, 230, 231, 232, 1037, 1038, 1039, 1040, 1041, 1042, 1043, 1044, 1045, 1046] (by decide +kernel) (by decide +kernel)
set_option maxRecDepth 20000 in
theorem gL_law_X11_setOutdoor : GoodIn wsL_law (wsV RL 26 RX11 yX11_setOutdoor wsX11_setOutdoor) := goodIn_app (goodIn_of _ (by decide +kernel)) ggL_law_X11_setOutdoor
set_option maxRecDepth 20000 in
theorem ggL_law_X10_outdoor : GoodIn wsL_law wsX10_outdoor := goodIn_r _ [275, 15, 253, 254, 238, 239, 2, 240, 1033, 1034, 1035, 1036, 1047, 1048, 1049, 1050, 1051, 1052, 1053, 1054, 1066, 1067, 1068] (by decide +kernel) (by decide +kernel)
set_option maxRecDepth 20000 in
theorem gL_law_X10_outdoor : GoodIn wsL_law (wsV RL 27 RX10 yX10_outdoor wsX10_outdoor) := goodIn_app (goodIn_of _ (by decide +kernel)) ggL_law_X10_outdoor
set_option maxRecDepth 20000 in
theorem ggL_law_X11_outdoor : GoodIn wsL_law wsX11_outdoor := goodIn_r _ [279, 125, 268, 269, 5, 270, 271, 216, 217, 218, 1037, 1038, 1039, 1040, 1041, 1042, 1043, 1044, 1045, 1046] (by decide +kernel) (by decide +kernel)
set_option maxRecDepth 20000 in
theorem gL_law_X11_outdoor : GoodIn wsL_law (wsV RL 30 RX11 yX11_outdoor wsX11_outdoor) := goodIn_app (goodIn_of _ (by decide +kernel)) ggL_law_X11_outdoor
set_option maxRecDepth 20000 in
theorem ggL_law_X10_setTariff : GoodIn wsL_law wsX10_setTariff := goodIn_r _ [283, 20, 15, 253, 284, 255, 256, 35, 257, 285, 286, 287, 155, 156, 157, 19, 158, 159, 160, 161, 162, 163, 164, 114, 165, 166, 167, 14, 168, 32, 169, 36, 40, 44, 48, 52, 170, 171, 2, 172, 173, 174, 175, 176, 68, 69, 70, 177, 178, 179, 39, 180, 79, 80, 81, 181, 182, 183, 43, 184, 87, 92, 185, 186, 187, 47, 188, 97, 189, 98, 190, 191, 192, 99, 193, 194, 195, 51, 196, 104, 105, 197, 198, 199, 200, 201, 202, 203, 204, 205, 261, 73, 74, 1033, 1034, 1035, 1036, 1047, 1048, 1049, 1050, 1051, 1052, 1053, 1054, 1066, 1067, 1068, 1055, 1056, 1057, 1065, 1069, 1070, 1071, 1072, 1073, 1074, 1075, 1076, 1077, 1078, 1079, 1080, 1081, 1082, 1083, 1084, 1085, 1086, 1087, 1088, 1089, 1090, 1091] (by decide +kernel) (by decide +kernel)
set_option maxRecDepth 20000 in
theorem gL_law_X10_setTariff : GoodIn wsL_law (wsV RL 31 RX10 yX10_setTariff wsX10_setTariff) := goodIn_app (goodIn_of _ (by decide +kernel)) ggL_law_X10_setTariff
set_option maxRecDepth 20000 in
theorem ggL_law_X11_setTariff : GoodIn wsL_law wsX11_setTariff := goodIn_r _ [291, 131, 125, 215, 268, 269, 5, 270, 271, 216, 217, 218, 225, 226, 227, 228, 229, 230, 231, 232, 1037, 1038, 1039, 1040, 1041, 1042, 1043, 1044, 1045, 1046] (by decide +kernel) (by decide +kernel)
set_option maxRecDepth 20000 in
theorem gL_law_X11_setTariff : GoodIn wsL_law (wsV RL 34 RX11 yX11_setTariff wsX11_setTariff) := goodIn_app (goodIn_of _ (by decide +kernel)) ggL_law_X11_setTariff
set_option maxRecDepth 20000 in
theorem ggL_law_X10_tariff : GoodIn wsL_law wsX10_tariff := goodIn_r _ [295, 15, 253, 284, 238, 239, 2, 240, 1033, 1034, 1035, 1036, 1047, 1048, 1049, 1050, 1051, 1052, 1053, 1054, 1066, 1067, 1068] (by decide +kernel) (by decide +kernel)
set_option maxRecDepth 20000 in
theorem gL_law_X10_tariff : GoodIn wsL_law (wsV RL 35 RX10 yX10_tariff wsX10_tariff) := goodIn_app (goodIn_of _ (by decide +kernel)) ggL_law_X10_tariff
set_option maxRecDepth 20000 in
theorem ggL_law_X11_tariff : GoodIn wsL_law wsX11_tariff := goodIn_r _ [299, 125, 268, 269, 5, 270, 271, 216, 217, 218, 1037, 1038, 1039, 1040, 1041, 1042, 1043, 1044, 1045, 1046] (by decide +kernel) (by decide +kernel)
set_option maxRecDepth 20000 in
theorem gL_law_X11_tariff : GoodIn wsL_law (wsV RL 38 RX11 yX11_tariff wsX11_tariff) := goodIn_app (goodIn_of _ (by decide +kernel)) ggL_law_X11_tariff
set_option maxRecDepth 20000 in
theorem ggL_law_X10_setPrice : GoodIn wsL_law wsX10_setPrice := goodIn_r _ [303, 20, 15, 253, 304, 285, 286, 35, 287, 305, 306, 307, 155, 156, 157, 19, 158, 159, 160, 161, 162, 163, 164, 114, 165, 166, 167, 14, 168, 32, 169, 36, 40, 44, 48, 52, 170, 171, 2, 172, 173, 174, 175, 176, 68, 69, 70, 177, 178, 179, 39, 180, 79, 80, 81, 181, 182, 183, 43, 184, 87, 92, 185, 186, 187, 47, 188, 97, 189, 98, 190, 191, 192, 99, 193, 194, 195, 51, 196, 104, 105, 197, 198, 199, 200, 201, 202, 203, 204, 205, 261, 73, 74, 1033, 1034, 1035, 1036, 1047, 1048, 1049, 1050, 1051, 1052, 1053, 1054, 1066, 1067, 1068, 1055, 1056, 1057, 1065, 1069, 1070, 1071, 1072, 1073, 1074, 1075, 1076, 1077, 1078, 1079, 1080, 1081, 1082, 1083, 1084, 1085, 1086, 1087, 1088, 1089, 1090, 1091] (by decide +kernel) (by decide +kernel)
set_option maxRecDepth 20000 in
theorem gL_law_X10_setPrice : GoodIn wsL_law (wsV RL 39 RX10 yX10_setPrice wsX10_setPrice) := goodIn_app (goodIn_of _ (by decide +kernel)) ggL_law_X10_setPrice
set_option maxRecDepth 20000 in
theorem ggL_law_X11_setPrice : GoodIn wsL_law wsX11_setPrice := goodIn_r _ [311, 131, 136, 125, 215, 216, 217, 5, 218, 225, 226, 227, 228, 229, 230, 231, 232, 1037, 1038, 1039, 1040, 1041, 1042, 1043, 1044, 1045, 1046] (by decide +kernel) (by decide +kernel)
set_option maxRecDepth 20000 in
theorem gL_law_X11_setPrice : GoodIn wsL_law (wsV RL 42 RX11 yX11_setPrice wsX11_setPrice) := goodIn_app (goodIn_of _ (by decide +kernel)) ggL_law_X11_setPrice
set_option maxRecDepth 20000 in
theorem ggL_law_X10_demand : GoodIn wsL_law wsX10_demand := goodIn_r _ [315, 15, 255, 256, 35, 257, 316, 317, 318, 14, 319, 32, 36, 320, 321, 322, 323, 324, 325, 326, 327, 328, 31, 329, 62, 239, 2, 240, 330, 331, 1033, 1034, 1035, 1036, 1047, 1048, 1049, 1050, 1051, 1052, 1053, 1054, 1066, 1067, 1068, 1065] (by decide +kernel) (by decide +kernel)
set_option maxRecDepth 20000 in
theorem gL_law_X10_demand : GoodIn wsL_law (wsV RL 43 RX10 yX10_demand wsX10_demand) := goodIn_app (goodIn_of _ (by decide +kernel)) ggL_law_X10_demand
set_option maxRecDepth 20000 in
theorem ggL_law_X11_demand : GoodIn wsL_law wsX11_demand := goodIn_r _ [335, 268, 269, 5, 270, 271, 216, 217, 218, 336, 337, 338, 339, 125, 128, 245, 246, 247, 248, 340, 341, 342, 1037, 1038, 1039, 1040, 1041, 1042, 1043, 1044, 1045, 1046] (by decide +kernel) (by decide +kernel)
set_option maxRecDepth 20000 in
theorem gL_law_X11_demand : GoodIn wsL_law (wsV RL 46 RX11 yX11_demand wsX11_demand) := goodIn_app (goodIn_of _ (by decide +kernel)) ggL_law_X11_demand
set_option maxRecDepth 20000 in
theorem ggL_law_X10_addPoint : GoodIn wsL_law wsX10_addPoint := goodIn_r _ [346, 15, 347, 20, 348, 258, 259, 35, 260, 349, 350, 39, 351, 352, 353, 354, 355, 81, 356, 357, 358, 359, 79, 360, 361, 362, 363, 239, 2, 240, 155, 156, 157, 19, 158, 159, 160, 161, 162, 163, 164, 114, 165, 166, 167, 14, 168, 32, 169, 36, 40, 44, 48, 52, 170, 171, 172, 173, 174, 175, 176, 68, 69, 70, 177, 178, 179, 180, 80, 181, 182, 183, 43, 184, 87, 92, 185, 186, 187, 47, 188, 97, 189, 98, 190, 191, 192, 99, 193, 194, 195, 51, 196, 104, 105, 197, 198, 199, 200, 201, 202, 203, 204, 205, 364, 365, 366, 367, 368, 369, 370, 371, 73, 74, 1033, 1034, 1035, 1036, 1047, 1048, 1049, 1050, 1051, 1052, 1053, 1054, 1069, 1070, 1071, 1055, 1056, 1057, 1065, 1066, 1067, 1068, 1072, 1073, 1074, 1075, 1076, 1077, 1078, 1079, 1080, 1081, 1082, 1083, 1084, 1085, 1086, 1087, 1088, 1089, 1090, 1091] (by decide +kernel) (by decide +kernel)
set_option maxRecDepth 20000 in
theorem gL_law_X10_addPoint : GoodIn wsL_law (wsV RL 47 RX10 yX10_addPoint wsX10_addPoint) := goodIn_app (goodIn_of _ (by decide +kernel)) ggL_law_X10_addPoint
set_option maxRecDepth 20000 in
theorem ggL_law_X11_addPoint : GoodIn wsL_law wsX11_addPoint := goodIn_r _ [375, 266, 267, 376, 377, 125, 378, 216, 217, 5, 218, 379, 380, 381, 382, 225, 226, 227, 228, 215, 229, 230, 231, 232, 1037, 1038, 1039, 1040, 1041, 1042, 1043, 1044, 1045, 1046] (by decide +kernel) (by decide +kernel)
set_option maxRecDepth 20000 in
theorem gL_law_X11_addPoint : GoodIn wsL_law (wsV RL 50 RX11 yX11_addPoint wsX11_addPoint) := goodIn_app (goodIn_of _ (by decide +kernel)) ggL_law_X11_addPoint
set_option maxRecDepth 20000 in
theorem ggL_law_X10_removePoint : GoodIn wsL_law wsX10_removePoint := goodIn_r _ [386, 15, 347, 348, 20, 387, 357, 358, 39, 359, 81, 79, 360, 361, 362, 363, 239, 2, 240, 155, 156, 157, 19, 158, 159, 160, 161, 162, 163, 164, 114, 165, 166, 167, 14, 168, 32, 169, 36, 40, 44, 48, 52, 170, 171, 172, 173, 174, 175, 35, 176, 68, 69, 70, 177, 178, 179, 180, 80, 181, 182, 183, 43, 184, 87, 92, 185, 186, 187, 47, 188, 97, 189, 98, 190, 191, 192, 99, 193, 194, 195, 51, 196, 104, 105, 197, 198, 199, 200, 201, 202, 203, 204, 205, 388, 389, 390, 391, 73, 74, 1033, 1034, 1035, 1036, 1047, 1048, 1049, 1050, 1051, 1052, 1053, 1054, 1069, 1070, 1071, 1055, 1056, 1057, 1065, 1066, 1067, 1068, 1072, 1073, 1074, 1075, 1076, 1077, 1078, 1079, 1080, 1081, 1082, 1083, 1084, 1085, 1086, 1087, 1088, 1089, 1090, 1091] (by decide +kernel) (by decide +kernel)
set_option maxRecDepth 20000 in
theorem gL_law_X10_removePoint : GoodIn wsL_law (wsV RL 51 RX10 yX10_removePoint wsX10_removePoint) := goodIn_app (goodIn_of _ (by decide +kernel)) ggL_law_X10_removePoint
