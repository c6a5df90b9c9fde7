set_option maxRecDepth 20000 in
theorem ggL_law_X11_removePoint : GoodIn wsL_law wsX11_removePoint := goodIn_r _ [395, 125, 379, 380, 381, 5, 382, 225, 226, 227, 228, 215, 229, 230, 231, 232, 1037, 1038, 1039, 1040, 1041, 1042, 1043, 1044, 1045, 1046] (by decide +kernel) (by decide +kernel)
set_option maxRecDepth 20000 in
theorem gL_law_X11_removePoint : GoodIn wsL_law (wsV RL 54 RX11 yX11_removePoint wsX11_removePoint) := goodIn_app (goodIn_of _ (by decide +kernel)) ggL_law_X11_removePoint
set_option maxRecDepth 20000 in
theorem ggL_law_X10_supply : GoodIn wsL_law wsX10_supply := goodIn_r _ [399, 15, 347, 258, 259, 35, 260, 400, 401, 402, 39, 403, 81, 80, 79, 360, 361, 362, 363, 239, 2, 240, 330, 331, 1033, 1034, 1035, 1036, 1047, 1048, 1049, 1050, 1051, 1052, 1053, 1054, 1069, 1070, 1071] (by decide +kernel) (by decide +kernel)
set_option maxRecDepth 20000 in
theorem gL_law_X10_supply : GoodIn wsL_law (wsV RL 55 RX10 yX10_supply wsX10_supply) := goodIn_app (goodIn_of _ (by decide +kernel)) ggL_law_X10_supply
set_option maxRecDepth 20000 in
theorem ggL_law_X11_supply : GoodIn wsL_law wsX11_supply := goodIn_r _ [407, 266, 267, 216, 217, 5, 218, 408, 409, 410, 411, 125, 340, 341, 342, 1037, 1038, 1039, 1040, 1041, 1042, 1043, 1044, 1045, 1046] (by decide +kernel) (by decide +kernel)
set_option maxRecDepth 20000 in
theorem gL_law_X11_supply : GoodIn wsL_law (wsV RL 58 RX11 yX11_supply wsX11_supply) := goodIn_app (goodIn_of _ (by decide +kernel)) ggL_law_X11_supply
set_option maxRecDepth 20000 in
theorem ggL_law_X10_target : GoodIn wsL_law wsX10_target := goodIn_r _ [415, 15, 255, 256, 35, 257, 416, 417, 418, 14, 419, 40, 36, 320, 420, 32, 239, 2, 240, 421, 401, 402, 39, 403, 81, 80, 79, 360, 361, 362, 363, 330, 331, 326, 327, 328, 31, 329, 62, 1033, 1034, 1035, 1036, 1047, 1048, 1049, 1050, 1051, 1052, 1053, 1054, 1066, 1067, 1068, 1069, 1070, 1071, 1065] (by decide +kernel) (by decide +kernel)
set_option maxRecDepth 20000 in
theorem gL_law_X10_target : GoodIn wsL_law (wsV RL 59 RX10 yX10_target wsX10_target) := goodIn_app (goodIn_of _ (by decide +kernel)) ggL_law_X10_target
set_option maxRecDepth 20000 in
theorem ggL_law_X11_target : GoodIn wsL_law wsX11_target := goodIn_r _ [425, 268, 269, 5, 270, 271, 216, 217, 218, 426, 427, 428, 429, 125, 408, 409, 410, 411, 340, 341, 342, 245, 246, 247, 248, 1037, 1038, 1039, 1040, 1041, 1042, 1043, 1044, 1045, 1046] (by decide +kernel) (by decide +kernel)
set_option maxRecDepth 20000 in
theorem gL_law_X11_target : GoodIn wsL_law (wsV RL 62 RX11 yX11_target wsX11_target) := goodIn_app (goodIn_of _ (by decide +kernel)) ggL_law_X11_target
set_option maxRecDepth 20000 in
theorem ggL_law_X10_fill : GoodIn wsL_law wsX10_fill := goodIn_r _ [433, 20, 15, 434, 435, 436, 43, 437, 438, 439, 440, 155, 156, 157, 19, 158, 159, 160, 161, 162, 163, 164, 114, 165, 166, 167, 14, 168, 32, 169, 36, 40, 44, 48, 52, 170, 171, 2, 172, 173, 174, 175, 35, 176, 68, 69, 70, 177, 178, 179, 39, 180, 79, 80, 81, 181, 182, 183, 184, 87, 92, 185, 186, 187, 47, 188, 97, 189, 98, 190, 191, 192, 99, 193, 194, 195, 51, 196, 104, 105, 197, 198, 199, 200, 201, 202, 203, 204, 205, 441, 89, 90, 91, 1033, 1034, 1035, 1036, 1047, 1048, 1049, 1050, 1051, 1052, 1053, 1054, 1055, 1056, 1057, 1065, 1066, 1067, 1068, 1069, 1070, 1071, 1072, 1073, 1074, 1075, 1076, 1077, 1078, 1079, 1080, 1081, 1082, 1083, 1084, 1085, 1086, 1087, 1088, 1089, 1090, 1091] (by decide +kernel) (by decide +kernel)
set_option maxRecDepth 20000 in
theorem gL_law_X10_fill : GoodIn wsL_law (wsV RL 63 RX10 yX10_fill wsX10_fill) := goodIn_app (goodIn_of _ (by decide +kernel)) ggL_law_X10_fill
set_option maxRecDepth 20000 in
theorem ggL_law_X11_fill : GoodIn wsL_law wsX11_fill := goodIn_r _ [445, 446, 447, 448, 215, 216, 217, 5, 218, 225, 226, 227, 228, 229, 230, 231, 232, 125, 141, 142, 143, 144, 1037, 1038, 1039, 1040, 1041, 1042, 1043, 1044, 1045, 1046] (by decide +kernel) (by decide +kernel)
set_option maxRecDepth 20000 in
theorem gL_law_X11_fill : GoodIn wsL_law (wsV RL 66 RX11 yX11_fill wsX11_fill) := goodIn_app (goodIn_of _ (by decide +kernel)) ggL_law_X11_fill
set_option maxRecDepth 20000 in
theorem ggL_law_X10_temperature : GoodIn wsL_law wsX10_temperature := goodIn_r _ [452, 15, 434, 453, 454, 455, 43, 456, 87, 92, 457, 330, 2, 331, 1033, 1034, 1035, 1036, 1047, 1048, 1049, 1050, 1051, 1052, 1053, 1054, 1072, 1073] (by decide +kernel) (by decide +kernel)
set_option maxRecDepth 20000 in
theorem gL_law_X10_temperature : GoodIn wsL_law (wsV RL 67 RX10 yX10_temperature wsX10_temperature) := goodIn_app (goodIn_of _ (by decide +kernel)) ggL_law_X10_temperature
set_option maxRecDepth 20000 in
theorem ggL_law_X11_temperature : GoodIn wsL_law wsX11_temperature := goodIn_r _ [461, 462, 216, 217, 5, 218, 463, 464, 465, 466, 125, 340, 341, 342, 1037, 1038, 1039, 1040, 1041, 1042, 1043, 1044, 1045, 1046] (by decide +kernel) (by decide +kernel)
set_option maxRecDepth 20000 in
theorem gL_law_X11_temperature : GoodIn wsL_law (wsV RL 70 RX11 yX11_temperature wsX11_temperature) := goodIn_app (goodIn_of _ (by decide +kernel)) ggL_law_X11_temperature
set_option maxRecDepth 20000 in
theorem ggL_law_X10_stored : GoodIn wsL_law wsX10_stored := goodIn_r _ [470, 15, 434, 471, 472, 473, 43, 474, 87, 1033, 1034, 1035, 1036, 1047, 1048, 1049, 1050, 1051, 1052, 1053, 1054, 1072, 1073] (by decide +kernel) (by decide +kernel)
set_option maxRecDepth 20000 in
theorem gL_law_X10_stored : GoodIn wsL_law (wsV RL 71 RX10 yX10_stored wsX10_stored) := goodIn_app (goodIn_of _ (by decide +kernel)) ggL_law_X10_stored
set_option maxRecDepth 20000 in
theorem ggL_law_X11_stored : GoodIn wsL_law wsX11_stored := goodIn_r _ [478, 125, 1037, 1038, 1039, 1040, 1041, 1042, 1043, 1044, 1045, 1046] (by decide +kernel) (by decide +kernel)
set_option maxRecDepth 20000 in
theorem gL_law_X11_stored : GoodIn wsL_law (wsV RL 75 RX11 yX11_stored wsX11_stored) := goodIn_app (goodIn_of _ (by decide +kernel)) ggL_law_X11_stored
set_option maxRecDepth 20000 in
theorem ggL_law_X10_run : GoodIn wsL_law wsX10_run := goodIn_r _ [482, 15, 483, 484, 20, 485, 486, 155, 156, 157, 19, 158, 159, 160, 161, 162, 163, 164, 114, 165, 166, 167, 14, 168, 32, 169, 36, 40, 44, 48, 52, 170, 171, 2, 172, 173, 174, 175, 35, 176, 68, 69, 70, 177, 178, 179, 39, 180, 79, 80, 81, 181, 182, 183, 43, 184, 87, 92, 185, 186, 187, 47, 188, 97, 189, 98, 190, 191, 192, 99, 193, 194, 195, 51, 196, 104, 105, 197, 198, 199, 200, 201, 202, 203, 204, 205, 487, 488, 489, 490, 491, 492, 493, 494, 56, 320, 495, 420, 496, 497, 498, 499, 500, 239, 240, 501, 317, 318, 319, 321, 322, 323, 324, 325, 326, 327, 328, 31, 329, 62, 330, 331, 502, 417, 418, 419, 421, 401, 402, 403, 360, 361, 362, 363, 503, 504, 505, 506, 507, 508, 509, 510, 511, 512, 513, 514, 515, 516, 517, 518, 519, 520, 521, 454, 455, 456, 457, 522, 523, 524, 525, 526, 527, 528, 529, 530, 531, 532, 533, 534, 535, 536, 537, 538, 73, 74, 539, 540, 541, 542, 543, 544, 545, 546, 547, 548, 549, 550, 551, 552, 553, 554, 555, 556, 557, 558, 559, 560, 561, 562, 563, 564, 565, 566, 567, 568, 569, 570, 571, 572, 573, 574, 575, 576, 577, 578, 579, 580, 581, 582, 583, 584, 585, 586, 587, 588, 589, 590, 591, 592, 593, 594, 595, 596, 597, 598, 599, 600, 601, 602, 603, 604, 1033, 1034, 1035, 1036, 1047, 1048, 1049, 1050, 1051, 1052, 1053, 1054, 1081, 1082, 1083, 1084, 1085, 1086, 1087, 1088, 1089, 1090, 1091, 1055, 1056, 1057, 1065, 1066, 1067, 1068, 1069, 1070, 1071, 1072, 1073, 1074, 1075, 1076, 1077, 1078, 1079, 1080, 1092, 1093, 1094, 1095, 1096] (by decide +kernel) (by decide +kernel)
set_option maxRecDepth 20000 in
theorem gL_law_X10_run : GoodIn wsL_law (wsV RL 76 RX10 yX10_run wsX10_run) := goodIn_app (goodIn_of _ (by decide +kernel)) ggL_law_X10_run
set_option maxRecDepth 20000 in
theorem ggL_law_X11_run : GoodIn wsL_law wsX11_run := goodIn_r _ [608, 609, 125, 610, 216, 217, 5, 218, 225, 226, 227, 228, 215, 229, 230, 231, 232, 611, 612, 613, 614, 615, 616, 617, 618, 619, 620, 131, 336, 337, 338, 339, 128, 245, 246, 247, 248, 340, 341, 342, 426, 427, 428, 429, 408, 409, 410, 411, 621, 622, 623, 624, 463, 464, 465, 466, 625, 626, 627, 628, 629, 630, 631, 632, 633, 634, 635, 636, 637, 638, 639, 640, 641, 642, 643, 644, 645, 446, 448, 134, 646, 647, 648, 649, 650, 651, 652, 653, 1037, 1038, 1039, 1040, 1041, 1042, 1043, 1044, 1045, 1046] (by decide +kernel) (by decide +kernel)
set_option maxRecDepth 20000 in
theorem gL_law_X11_run : GoodIn wsL_law (wsV RL 79 RX11 yX11_run wsX11_run) := goodIn_app (goodIn_of _ (by decide +kernel)) ggL_law_X11_run
set_option maxRecDepth 20000 in
theorem ggL_law_X10_time : GoodIn wsL_law wsX10_time := goodIn_r _ [657, 15, 483, 1033, 1034, 1035, 1036, 1047, 1048, 1049, 1050, 1051, 1052, 1053, 1054] (by decide +kernel) (by decide +kernel)
set_option maxRecDepth 20000 in
theorem gL_law_X10_time : GoodIn wsL_law (wsV RL 80 RX10 yX10_time wsX10_time) := goodIn_app (goodIn_of _ (by decide +kernel)) ggL_law_X10_time
set_option maxRecDepth 20000 in
theorem ggL_law_X11_time : GoodIn wsL_law wsX11_time := goodIn_r _ [661, 125, 1037, 1038, 1039, 1040, 1041, 1042, 1043, 1044, 1045, 1046] (by decide +kernel) (by decide +kernel)
set_option maxRecDepth 20000 in
theorem gL_law_X11_time : GoodIn wsL_law (wsV RL 84 RX11 yX11_time wsX11_time) := goodIn_app (goodIn_of _ (by decide +kernel)) ggL_law_X11_time
set_option maxRecDepth 20000 in
theorem ggL_law_X10_pump : GoodIn wsL_law wsX10_pump := goodIn_r _ [665, 15, 666, 667, 1033, 1034, 1035, 1036, 1047, 1048, 1049, 1050, 1051, 1052, 1053, 1054, 1074, 1075, 1076, 1077, 1078, 1079, 1080] (by decide +kernel) (by decide +kernel)
set_option maxRecDepth 20000 in
theorem gL_law_X10_pump : GoodIn wsL_law (wsV RL 85 RX10 yX10_pump wsX10_pump) := goodIn_app (goodIn_of _ (by decide +kernel)) ggL_law_X10_pump
set_option maxRecDepth 20000 in
theorem ggL_law_X11_pump : GoodIn wsL_law wsX11_pump := goodIn_r _ [671, 125, 1037, 1038, 1039, 1040, 1041, 1042, 1043, 1044, 1045, 1046] (by decide +kernel) (by decide +kernel)
set_option maxRecDepth 20000 in
theorem gL_law_X11_pump : GoodIn wsL_law (wsV RL 88 RX11 yX11_pump wsX11_pump) := goodIn_app (goodIn_of _ (by decide +kernel)) ggL_law_X11_pump
set_option maxRecDepth 20000 in
theorem ggL_law_X10_reason : GoodIn wsL_law wsX10_reason := goodIn_r _ [675, 15, 485, 676, 1033, 1034, 1035, 1036, 1047, 1048, 1049, 1050, 1051, 1052, 1053, 1054, 1081, 1082, 1083, 1084, 1085, 1086, 1087, 1088, 1089, 1090, 1091] (by decide +kernel) (by decide +kernel)
set_option maxRecDepth 20000 in
theorem gL_law_X10_reason : GoodIn wsL_law (wsV RL 89 RX10 yX10_reason wsX10_reason) := goodIn_app (goodIn_of _ (by decide +kernel)) ggL_law_X10_reason
set_option maxRecDepth 20000 in
theorem ggL_law_X11_reason : GoodIn wsL_law wsX11_reason := goodIn_r _ [680, 125, 1037, 1038, 1039, 1040, 1041, 1042, 1043, 1044, 1045, 1046] (by decide +kernel) (by decide +kernel)
set_option maxRecDepth 20000 in
theorem gL_law_X11_reason : GoodIn wsL_law (wsV RL 92 RX11 yX11_reason wsX11_reason) := goodIn_app (goodIn_of _ (by decide +kernel)) ggL_law_X11_reason
set_option maxRecDepth 20000 in
theorem ggL_law_X10_minutesWith : GoodIn wsL_law wsX10_minutesWith := goodIn_r _ [684, 15, 485, 685, 238, 239, 2, 240, 1033, 1034, 1035, 1036, 1047, 1048, 1049, 1050, 1051, 1052, 1053, 1054, 1081, 1082, 1083, 1084, 1085, 1086, 1087, 1088, 1089, 1090, 1091] (by decide +kernel) (by decide +kernel)
set_option maxRecDepth 20000 in
theorem gL_law_X10_minutesWith : GoodIn wsL_law (wsV RL 93 RX10 yX10_minutesWith wsX10_minutesWith) := goodIn_app (goodIn_of _ (by decide +kernel)) ggL_law_X10_minutesWith
set_option maxRecDepth 20000 in
theorem ggL_law_X11_minutesWith : GoodIn wsL_law wsX11_minutesWith := goodIn_r _ [689, 690, 125, 216, 217, 5, 218, 1037, 1038, 1039, 1040, 1041, 1042, 1043, 1044, 1045, 1046] (by decide +kernel) (by decide +kernel)
set_option maxRecDepth 20000 in
theorem gL_law_X11_minutesWith : GoodIn wsL_law (wsV RL 96 RX11 yX11_minutesWith wsX11_minutesWith) := goodIn_app (goodIn_of _ (by decide +kernel)) ggL_law_X11_minutesWith
