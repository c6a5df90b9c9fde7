set_option maxRecDepth 20000 in
theorem ggL_law_X10_startsLastHour : GoodIn wsL_law wsX10_startsLastHour := goodIn_r _ [694, 15, 666, 695, 1033, 1034, 1035, 1036, 1047, 1048, 1049, 1050, 1051, 1052, 1053, 1054, 1074, 1075, 1076, 1077, 1078, 1079, 1080] (by decide +kernel) (by decide +kernel)
set_option maxRecDepth 20000 in
theorem gL_law_X10_startsLastHour : GoodIn wsL_law (wsV RL 97 RX10 yX10_startsLastHour wsX10_startsLastHour) := goodIn_app (goodIn_of _ (by decide +kernel)) ggL_law_X10_startsLastHour
set_option maxRecDepth 20000 in
theorem ggL_law_X11_startsLastHour : GoodIn wsL_law wsX11_startsLastHour := goodIn_r _ [699, 629, 630, 631, 5, 632, 125, 1037, 1038, 1039, 1040, 1041, 1042, 1043, 1044, 1045, 1046] (by decide +kernel) (by decide +kernel)
set_option maxRecDepth 20000 in
theorem gL_law_X11_startsLastHour : GoodIn wsL_law (wsV RL 100 RX11 yX11_startsLastHour wsX11_startsLastHour) := goodIn_app (goodIn_of _ (by decide +kernel)) ggL_law_X11_startsLastHour
set_option maxRecDepth 20000 in
theorem ggL_law_X10_starts : GoodIn wsL_law wsX10_starts := goodIn_r _ [703, 15, 485, 486, 1033, 1034, 1035, 1036, 1047, 1048, 1049, 1050, 1051, 1052, 1053, 1054, 1081, 1082, 1083, 1084, 1085, 1086, 1087, 1088, 1089, 1090, 1091] (by decide +kernel) (by decide +kernel)
set_option maxRecDepth 20000 in
theorem gL_law_X10_starts : GoodIn wsL_law (wsV RL 101 RX10 yX10_starts wsX10_starts) := goodIn_app (goodIn_of _ (by decide +kernel)) ggL_law_X10_starts
set_option maxRecDepth 20000 in
theorem ggL_law_X11_starts : GoodIn wsL_law wsX11_starts := goodIn_r _ [707, 125, 1037, 1038, 1039, 1040, 1041, 1042, 1043, 1044, 1045, 1046] (by decide +kernel) (by decide +kernel)
set_option maxRecDepth 20000 in
theorem gL_law_X11_starts : GoodIn wsL_law (wsV RL 104 RX11 yX11_starts wsX11_starts) := goodIn_app (goodIn_of _ (by decide +kernel)) ggL_law_X11_starts
set_option maxRecDepth 20000 in
theorem ggL_law_X10_defrosts : GoodIn wsL_law wsX10_defrosts := goodIn_r _ [711, 15, 485, 712, 1033, 1034, 1035, 1036, 1047, 1048, 1049, 1050, 1051, 1052, 1053, 1054, 1081, 1082, 1083, 1084, 1085, 1086, 1087, 1088, 1089, 1090, 1091] (by decide +kernel) (by decide +kernel)
set_option maxRecDepth 20000 in
theorem gL_law_X10_defrosts : GoodIn wsL_law (wsV RL 105 RX10 yX10_defrosts wsX10_defrosts) := goodIn_app (goodIn_of _ (by decide +kernel)) ggL_law_X10_defrosts
set_option maxRecDepth 20000 in
theorem ggL_law_X11_defrosts : GoodIn wsL_law wsX11_defrosts := goodIn_r _ [716, 125, 1037, 1038, 1039, 1040, 1041, 1042, 1043, 1044, 1045, 1046] (by decide +kernel) (by decide +kernel)
set_option maxRecDepth 20000 in
theorem gL_law_X11_defrosts : GoodIn wsL_law (wsV RL 108 RX11 yX11_defrosts wsX11_defrosts) := goodIn_app (goodIn_of _ (by decide +kernel)) ggL_law_X11_defrosts
set_option maxRecDepth 20000 in
theorem ggL_law_X10_frost : GoodIn wsL_law wsX10_frost := goodIn_r _ [720, 15, 666, 721, 1033, 1034, 1035, 1036, 1047, 1048, 1049, 1050, 1051, 1052, 1053, 1054, 1074, 1075, 1076, 1077, 1078, 1079, 1080] (by decide +kernel) (by decide +kernel)
set_option maxRecDepth 20000 in
theorem gL_law_X10_frost : GoodIn wsL_law (wsV RL 109 RX10 yX10_frost wsX10_frost) := goodIn_app (goodIn_of _ (by decide +kernel)) ggL_law_X10_frost
set_option maxRecDepth 20000 in
theorem ggL_law_X11_frost : GoodIn wsL_law wsX11_frost := goodIn_r _ [725, 125, 1037, 1038, 1039, 1040, 1041, 1042, 1043, 1044, 1045, 1046] (by decide +kernel) (by decide +kernel)
set_option maxRecDepth 20000 in
theorem gL_law_X11_frost : GoodIn wsL_law (wsV RL 112 RX11 yX11_frost wsX11_frost) := goodIn_app (goodIn_of _ (by decide +kernel)) ggL_law_X11_frost
set_option maxRecDepth 20000 in
theorem ggL_law_X10_produced : GoodIn wsL_law wsX10_produced := goodIn_r _ [729, 15, 485, 730, 1033, 1034, 1035, 1036, 1047, 1048, 1049, 1050, 1051, 1052, 1053, 1054, 1081, 1082, 1083, 1084, 1085, 1086, 1087, 1088, 1089, 1090, 1091] (by decide +kernel) (by decide +kernel)
set_option maxRecDepth 20000 in
theorem gL_law_X10_produced : GoodIn wsL_law (wsV RL 113 RX10 yX10_produced wsX10_produced) := goodIn_app (goodIn_of _ (by decide +kernel)) ggL_law_X10_produced
set_option maxRecDepth 20000 in
theorem ggL_law_X11_produced : GoodIn wsL_law wsX11_produced := goodIn_r _ [734, 125, 1037, 1038, 1039, 1040, 1041, 1042, 1043, 1044, 1045, 1046] (by decide +kernel) (by decide +kernel)
set_option maxRecDepth 20000 in
theorem gL_law_X11_produced : GoodIn wsL_law (wsV RL 116 RX11 yX11_produced wsX11_produced) := goodIn_app (goodIn_of _ (by decide +kernel)) ggL_law_X11_produced
set_option maxRecDepth 20000 in
theorem ggL_law_X10_defrostHeat : GoodIn wsL_law wsX10_defrostHeat := goodIn_r _ [738, 15, 485, 739, 1033, 1034, 1035, 1036, 1047, 1048, 1049, 1050, 1051, 1052, 1053, 1054, 1081, 1082, 1083, 1084, 1085, 1086, 1087, 1088, 1089, 1090, 1091] (by decide +kernel) (by decide +kernel)
set_option maxRecDepth 20000 in
theorem gL_law_X10_defrostHeat : GoodIn wsL_law (wsV RL 117 RX10 yX10_defrostHeat wsX10_defrostHeat) := goodIn_app (goodIn_of _ (by decide +kernel)) ggL_law_X10_defrostHeat
set_option maxRecDepth 20000 in
theorem ggL_law_X11_defrostHeat : GoodIn wsL_law wsX11_defrostHeat := goodIn_r _ [743, 125, 1037, 1038, 1039, 1040, 1041, 1042, 1043, 1044, 1045, 1046] (by decide +kernel) (by decide +kernel)
set_option maxRecDepth 20000 in
theorem gL_law_X11_defrostHeat : GoodIn wsL_law (wsV RL 120 RX11 yX11_defrostHeat wsX11_defrostHeat) := goodIn_app (goodIn_of _ (by decide +kernel)) ggL_law_X11_defrostHeat
set_option maxRecDepth 20000 in
theorem ggL_law_X10_drawn : GoodIn wsL_law wsX10_drawn := goodIn_r _ [747, 15, 485, 748, 1033, 1034, 1035, 1036, 1047, 1048, 1049, 1050, 1051, 1052, 1053, 1054, 1081, 1082, 1083, 1084, 1085, 1086, 1087, 1088, 1089, 1090, 1091] (by decide +kernel) (by decide +kernel)
set_option maxRecDepth 20000 in
theorem gL_law_X10_drawn : GoodIn wsL_law (wsV RL 121 RX10 yX10_drawn wsX10_drawn) := goodIn_app (goodIn_of _ (by decide +kernel)) ggL_law_X10_drawn
set_option maxRecDepth 20000 in
theorem ggL_law_X11_drawn : GoodIn wsL_law wsX11_drawn := goodIn_r _ [752, 125, 1037, 1038, 1039, 1040, 1041, 1042, 1043, 1044, 1045, 1046] (by decide +kernel) (by decide +kernel)
set_option maxRecDepth 20000 in
theorem gL_law_X11_drawn : GoodIn wsL_law (wsV RL 124 RX11 yX11_drawn wsX11_drawn) := goodIn_app (goodIn_of _ (by decide +kernel)) ggL_law_X11_drawn
set_option maxRecDepth 20000 in
theorem ggL_law_X10_unmet : GoodIn wsL_law wsX10_unmet := goodIn_r _ [756, 15, 485, 757, 1033, 1034, 1035, 1036, 1047, 1048, 1049, 1050, 1051, 1052, 1053, 1054, 1081, 1082, 1083, 1084, 1085, 1086, 1087, 1088, 1089, 1090, 1091] (by decide +kernel) (by decide +kernel)
set_option maxRecDepth 20000 in
theorem gL_law_X10_unmet : GoodIn wsL_law (wsV RL 125 RX10 yX10_unmet wsX10_unmet) := goodIn_app (goodIn_of _ (by decide +kernel)) ggL_law_X10_unmet
set_option maxRecDepth 20000 in
theorem ggL_law_X11_unmet : GoodIn wsL_law wsX11_unmet := goodIn_r _ [761, 125, 1037, 1038, 1039, 1040, 1041, 1042, 1043, 1044, 1045, 1046] (by decide +kernel) (by decide +kernel)
set_option maxRecDepth 20000 in
theorem gL_law_X11_unmet : GoodIn wsL_law (wsV RL 128 RX11 yX11_unmet wsX11_unmet) := goodIn_app (goodIn_of _ (by decide +kernel)) ggL_law_X11_unmet
set_option maxRecDepth 20000 in
theorem ggL_law_X10_lost : GoodIn wsL_law wsX10_lost := goodIn_r _ [765, 15, 485, 766, 1033, 1034, 1035, 1036, 1047, 1048, 1049, 1050, 1051, 1052, 1053, 1054, 1081, 1082, 1083, 1084, 1085, 1086, 1087, 1088, 1089, 1090, 1091] (by decide +kernel) (by decide +kernel)
set_option maxRecDepth 20000 in
theorem gL_law_X10_lost : GoodIn wsL_law (wsV RL 129 RX10 yX10_lost wsX10_lost) := goodIn_app (goodIn_of _ (by decide +kernel)) ggL_law_X10_lost
set_option maxRecDepth 20000 in
theorem ggL_law_X11_lost : GoodIn wsL_law wsX11_lost := goodIn_r _ [770, 125, 1037, 1038, 1039, 1040, 1041, 1042, 1043, 1044, 1045, 1046] (by decide +kernel) (by decide +kernel)
set_option maxRecDepth 20000 in
theorem gL_law_X11_lost : GoodIn wsL_law (wsV RL 132 RX11 yX11_lost wsX11_lost) := goodIn_app (goodIn_of _ (by decide +kernel)) ggL_law_X11_lost
set_option maxRecDepth 20000 in
theorem ggL_law_X10_electricity : GoodIn wsL_law wsX10_electricity := goodIn_r _ [774, 15, 485, 775, 1033, 1034, 1035, 1036, 1047, 1048, 1049, 1050, 1051, 1052, 1053, 1054, 1081, 1082, 1083, 1084, 1085, 1086, 1087, 1088, 1089, 1090, 1091] (by decide +kernel) (by decide +kernel)
set_option maxRecDepth 20000 in
theorem gL_law_X10_electricity : GoodIn wsL_law (wsV RL 133 RX10 yX10_electricity wsX10_electricity) := goodIn_app (goodIn_of _ (by decide +kernel)) ggL_law_X10_electricity
set_option maxRecDepth 20000 in
theorem ggL_law_X11_electricity : GoodIn wsL_law wsX11_electricity := goodIn_r _ [779, 125, 1037, 1038, 1039, 1040, 1041, 1042, 1043, 1044, 1045, 1046] (by decide +kernel) (by decide +kernel)
set_option maxRecDepth 20000 in
theorem gL_law_X11_electricity : GoodIn wsL_law (wsV RL 136 RX11 yX11_electricity wsX11_electricity) := goodIn_app (goodIn_of _ (by decide +kernel)) ggL_law_X11_electricity
set_option maxRecDepth 20000 in
theorem ggL_law_X10_cost : GoodIn wsL_law wsX10_cost := goodIn_r _ [783, 15, 485, 784, 1033, 1034, 1035, 1036, 1047, 1048, 1049, 1050, 1051, 1052, 1053, 1054, 1081, 1082, 1083, 1084, 1085, 1086, 1087, 1088, 1089, 1090, 1091] (by decide +kernel) (by decide +kernel)
set_option maxRecDepth 20000 in
theorem gL_law_X10_cost : GoodIn wsL_law (wsV RL 137 RX10 yX10_cost wsX10_cost) := goodIn_app (goodIn_of _ (by decide +kernel)) ggL_law_X10_cost
