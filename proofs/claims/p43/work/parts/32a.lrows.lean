theorem dX12_cell_0 : decode cX12_cell 0 = .ok (.iload_n 1, 1) := by decide +kernel
theorem dX12_cell_1 : decode cX12_cell 1 = .ok (.aload_n 0, 1) := by decide +kernel
theorem dX12_cell_2 : decode cX12_cell 2 = .ok (.arraylength, 1) := by decide +kernel
theorem dX12_cell_3 : decode cX12_cell 3 = .ok (.if_icmp .ge 9, 3) := by decide +kernel
theorem dX12_cell_6 : decode cX12_cell 6 = .ok (.aload_n 0, 1) := by decide +kernel
theorem dX12_cell_7 : decode cX12_cell 7 = .ok (.iload_n 1, 1) := by decide +kernel
theorem dX12_cell_8 : decode cX12_cell 8 = .ok (.iaload, 1) := by decide +kernel
theorem dX12_cell_9 : decode cX12_cell 9 = .ok (.goto 15, 3) := by decide +kernel
theorem dX12_cell_12 : decode cX12_cell 12 = .ok (.sipush 7919, 3) := by decide +kernel
theorem dX12_cell_15 : decode cX12_cell 15 = .ok (.iload_n 1, 1) := by decide +kernel
theorem dX12_cell_16 : decode cX12_cell 16 = .ok (.iconst 3, 1) := by decide +kernel
theorem dX12_cell_17 : decode cX12_cell 17 = .ok (.iadd, 1) := by decide +kernel
theorem dX12_cell_18 : decode cX12_cell 18 = .ok (.imul, 1) := by decide +kernel
theorem dX12_cell_19 : decode cX12_cell 19 = .ok (.iload_n 1, 1) := by decide +kernel
theorem dX12_cell_20 : decode cX12_cell 20 = .ok (.bipush 11, 2) := by decide +kernel
theorem dX12_cell_22 : decode cX12_cell 22 = .ok (.iadd, 1) := by decide +kernel
theorem dX12_cell_23 : decode cX12_cell 23 = .ok (.imul, 1) := by decide +kernel
theorem dX12_cell_24 : decode cX12_cell 24 = .ok (.ireturn, 1) := by decide +kernel
theorem dX12_low_0 : decode cX12_low 0 = .ok (.iload_n 0, 1) := by decide +kernel
theorem dX12_low_1 : decode cX12_low 1 = .ok (.ldc 7, 2) := by decide +kernel
theorem dX12_low_3 : decode cX12_low 3 = .ok (.iand, 1) := by decide +kernel
theorem dX12_low_4 : decode cX12_low 4 = .ok (.iload_n 1, 1) := by decide +kernel
theorem dX12_low_5 : decode cX12_low 5 = .ok (.irem, 1) := by decide +kernel
theorem dX12_low_6 : decode cX12_low 6 = .ok (.ireturn, 1) := by decide +kernel
set_option maxRecDepth 20000 in
theorem ggX12_demands_X10_demand : GoodIn wsX12_demands wsX10_demand := goodIn_r _ [5, 6, 7, 8, 9, 10, 11, 12, 13, 14, 15, 16, 17, 18, 19, 20, 21, 22, 23, 24, 25, 26, 27, 28, 29, 30, 4, 31, 32, 33, 34, 35, 36, 37, 38, 39, 40, 41, 42, 43, 44, 45, 46, 47, 48, 49] (by decide +kernel) (by decide +kernel)
set_option maxRecDepth 20000 in
theorem gX12_demands_X10_demand : GoodIn wsX12_demands (wsV RX12 8 RX10 yX10_demand wsX10_demand) := goodIn_app (goodIn_of _ (by decide +kernel)) ggX12_demands_X10_demand
theorem dX12_demands_0 : decode cX12_demands 0 = .ok (.lconst 0, 1) := by decide +kernel
theorem dX12_demands_1 : decode cX12_demands 1 = .ok (.lstore_n 3, 1) := by decide +kernel
theorem dX12_demands_2 : decode cX12_demands 2 = .ok (.iload_n 1, 1) := by decide +kernel
theorem dX12_demands_3 : decode cX12_demands 3 = .ok (.istore 5, 2) := by decide +kernel
theorem dX12_demands_5 : decode cX12_demands 5 = .ok (.iload 5, 2) := by decide +kernel
theorem dX12_demands_7 : decode cX12_demands 7 = .ok (.iload_n 1, 1) := by decide +kernel
theorem dX12_demands_8 : decode cX12_demands 8 = .ok (.iload_n 2, 1) := by decide +kernel
theorem dX12_demands_9 : decode cX12_demands 9 = .ok (.iadd, 1) := by decide +kernel
theorem dX12_demands_10 : decode cX12_demands 10 = .ok (.if_icmp .ge 25, 3) := by decide +kernel
theorem dX12_demands_13 : decode cX12_demands 13 = .ok (.lload_n 3, 1) := by decide +kernel
theorem dX12_demands_14 : decode cX12_demands 14 = .ok (.aload_n 0, 1) := by decide +kernel
theorem dX12_demands_15 : decode cX12_demands 15 = .ok (.iload 5, 2) := by decide +kernel
theorem dX12_demands_17 : decode cX12_demands 17 = .ok (.bipush 60, 2) := by decide +kernel
theorem dX12_demands_19 : decode cX12_demands 19 = .ok (.idiv, 1) := by decide +kernel
theorem dX12_demands_20 : decode cX12_demands 20 = .ok (.bipush 24, 2) := by decide +kernel
theorem dX12_demands_22 : decode cX12_demands 22 = .ok (.irem, 1) := by decide +kernel
theorem dX12_demands_23 : decode cX12_demands 23 = .ok (.invokevirtual 8, 3) := by decide +kernel
theorem dX12_demands_26 : decode cX12_demands 26 = .ok (.i2l, 1) := by decide +kernel
theorem dX12_demands_27 : decode cX12_demands 27 = .ok (.ladd, 1) := by decide +kernel
theorem dX12_demands_28 : decode cX12_demands 28 = .ok (.lstore_n 3, 1) := by decide +kernel
theorem dX12_demands_29 : decode cX12_demands 29 = .ok (.iinc 5 1, 3) := by decide +kernel
theorem dX12_demands_32 : decode cX12_demands 32 = .ok (.goto (-27), 3) := by decide +kernel
theorem dX12_demands_35 : decode cX12_demands 35 = .ok (.lload_n 3, 1) := by decide +kernel
theorem dX12_demands_36 : decode cX12_demands 36 = .ok (.lreturn, 1) := by decide +kernel
set_option maxRecDepth 20000 in
theorem ggX12_net_X10_produced : GoodIn wsX12_net wsX10_produced := goodIn_r _ [5, 6, 7, 8, 24, 25, 26, 27, 28, 29, 30, 31, 32, 33, 34, 35, 36, 37, 38, 39, 40, 41, 42, 43, 44, 45, 46] (by decide +kernel) (by decide +kernel)
set_option maxRecDepth 20000 in
theorem gX12_net_X10_produced : GoodIn wsX12_net (wsV RX12 14 RX10 yX10_produced wsX10_produced) := goodIn_app (goodIn_of _ (by decide +kernel)) ggX12_net_X10_produced
set_option maxRecDepth 20000 in
theorem ggX12_net_X10_defrostHeat : GoodIn wsX12_net wsX10_defrostHeat := goodIn_r _ [12, 6, 7, 13, 24, 25, 26, 27, 28, 29, 30, 31, 32, 33, 34, 35, 36, 37, 38, 39, 40, 41, 42, 43, 44, 45, 46] (by decide +kernel) (by decide +kernel)
set_option maxRecDepth 20000 in
theorem gX12_net_X10_defrostHeat : GoodIn wsX12_net (wsV RX12 18 RX10 yX10_defrostHeat wsX10_defrostHeat) := goodIn_app (goodIn_of _ (by decide +kernel)) ggX12_net_X10_defrostHeat
set_option maxRecDepth 20000 in
theorem ggX12_net_X10_drawn : GoodIn wsX12_net wsX10_drawn := goodIn_r _ [17, 6, 7, 18, 24, 25, 26, 27, 28, 29, 30, 31, 32, 33, 34, 35, 36, 37, 38, 39, 40, 41, 42, 43, 44, 45, 46] (by decide +kernel) (by decide +kernel)
set_option maxRecDepth 20000 in
theorem gX12_net_X10_drawn : GoodIn wsX12_net (wsV RX12 21 RX10 yX10_drawn wsX10_drawn) := goodIn_app (goodIn_of _ (by decide +kernel)) ggX12_net_X10_drawn
set_option maxRecDepth 20000 in
theorem ggX12_net_X10_lost : GoodIn wsX12_net wsX10_lost := goodIn_r _ [22, 6, 7, 23, 24, 25, 26, 27, 28, 29, 30, 31, 32, 33, 34, 35, 36, 37, 38, 39, 40, 41, 42, 43, 44, 45, 46] (by decide +kernel) (by decide +kernel)
set_option maxRecDepth 20000 in
theorem gX12_net_X10_lost : GoodIn wsX12_net (wsV RX12 24 RX10 yX10_lost wsX10_lost) := goodIn_app (goodIn_of _ (by decide +kernel)) ggX12_net_X10_lost
theorem dX12_net_0 : decode cX12_net 0 = .ok (.aload_n 0, 1) := by decide +kernel
theorem dX12_net_1 : decode cX12_net 1 = .ok (.invokevirtual 14, 3) := by decide +kernel
theorem dX12_net_4 : decode cX12_net 4 = .ok (.aload_n 0, 1) := by decide +kernel
theorem dX12_net_5 : decode cX12_net 5 = .ok (.invokevirtual 18, 3) := by decide +kernel
theorem dX12_net_8 : decode cX12_net 8 = .ok (.lsub, 1) := by decide +kernel
theorem dX12_net_9 : decode cX12_net 9 = .ok (.aload_n 0, 1) := by decide +kernel
theorem dX12_net_10 : decode cX12_net 10 = .ok (.invokevirtual 21, 3) := by decide +kernel
theorem dX12_net_13 : decode cX12_net 13 = .ok (.lsub, 1) := by decide +kernel
theorem dX12_net_14 : decode cX12_net 14 = .ok (.aload_n 0, 1) := by decide +kernel
theorem dX12_net_15 : decode cX12_net 15 = .ok (.invokevirtual 24, 3) := by decide +kernel
theorem dX12_net_18 : decode cX12_net 18 = .ok (.lsub, 1) := by decide +kernel
theorem dX12_net_19 : decode cX12_net 19 = .ok (.lreturn, 1) := by decide +kernel
set_option maxRecDepth 20000 in
theorem ggX12_rules_X10_minutesWith : GoodIn wsX12_rules wsX10_minutesWith := goodIn_r _ [5, 6, 7, 8, 9, 10, 4, 11, 150, 151, 152, 153, 154, 155, 156, 157, 158, 159, 160, 161, 162, 163, 164, 165, 166, 167, 168, 169, 170, 171, 172] (by decide +kernel) (by decide +kernel)
set_option maxRecDepth 20000 in
theorem gX12_rules_X10_minutesWith : GoodIn wsX12_rules (wsV RX12 27 RX10 yX10_minutesWith wsX10_minutesWith) := goodIn_app (goodIn_of _ (by decide +kernel)) ggX12_rules_X10_minutesWith
set_option maxRecDepth 20000 in
theorem ggX12_rules_X10_time : GoodIn wsX12_rules wsX10_time := goodIn_r _ [15, 6, 16, 150, 151, 152, 153, 154, 155, 156, 157, 158, 159, 160, 161] (by decide +kernel) (by decide +kernel)
set_option maxRecDepth 20000 in
theorem gX12_rules_X10_time : GoodIn wsX12_rules (wsV RX12 30 RX10 yX10_time wsX10_time) := goodIn_app (goodIn_of _ (by decide +kernel)) ggX12_rules_X10_time
set_option maxRecDepth 20000 in
theorem ggX12_rules_X10_starts : GoodIn wsX12_rules wsX10_starts := goodIn_r _ [20, 6, 7, 21, 150, 151, 152, 153, 154, 155, 156, 157, 158, 159, 160, 161, 162, 163, 164, 165, 166, 167, 168, 169, 170, 171, 172] (by decide +kernel) (by decide +kernel)
set_option maxRecDepth 20000 in
theorem gX12_rules_X10_starts : GoodIn wsX12_rules (wsV RX12 34 RX10 yX10_starts wsX10_starts) := goodIn_app (goodIn_of _ (by decide +kernel)) ggX12_rules_X10_starts
set_option maxRecDepth 20000 in
theorem ggX12_rules_X10_defrosts : GoodIn wsX12_rules wsX10_defrosts := goodIn_r _ [25, 6, 7, 26, 150, 151, 152, 153, 154, 155, 156, 157, 158, 159, 160, 161, 162, 163, 164, 165, 166, 167, 168, 169, 170, 171, 172] (by decide +kernel) (by decide +kernel)
set_option maxRecDepth 20000 in
theorem gX12_rules_X10_defrosts : GoodIn wsX12_rules (wsV RX12 37 RX10 yX10_defrosts wsX10_defrosts) := goodIn_app (goodIn_of _ (by decide +kernel)) ggX12_rules_X10_defrosts
set_option maxRecDepth 20000 in
theorem ggX12_rules_X10_startsLastHour : GoodIn wsX12_rules wsX10_startsLastHour := goodIn_r _ [30, 6, 31, 32, 150, 151, 152, 153, 154, 155, 156, 157, 158, 159, 160, 161, 173, 174, 175, 176, 177, 178, 179] (by decide +kernel) (by decide +kernel)
set_option maxRecDepth 20000 in
theorem gX12_rules_X10_startsLastHour : GoodIn wsX12_rules (wsV RX12 40 RX10 yX10_startsLastHour wsX10_startsLastHour) := goodIn_app (goodIn_of _ (by decide +kernel)) ggX12_rules_X10_startsLastHour
set_option maxRecDepth 20000 in
theorem ggX12_rules_X10_reason : GoodIn wsX12_rules wsX10_reason := goodIn_r _ [36, 6, 7, 37, 150, 151, 152, 153, 154, 155, 156, 157, 158, 159, 160, 161, 162, 163, 164, 165, 166, 167, 168, 169, 170, 171, 172] (by decide +kernel) (by decide +kernel)
set_option maxRecDepth 20000 in
theorem gX12_rules_X10_reason : GoodIn wsX12_rules (wsV RX12 43 RX10 yX10_reason wsX10_reason) := goodIn_app (goodIn_of _ (by decide +kernel)) ggX12_rules_X10_reason
set_option maxRecDepth 20000 in
theorem ggX12_rules_X10_pump : GoodIn wsX12_rules wsX10_pump := goodIn_r _ [41, 6, 31, 42, 150, 151, 152, 153, 154, 155, 156, 157, 158, 159, 160, 161, 173, 174, 175, 176, 177, 178, 179] (by decide +kernel) (by decide +kernel)
set_option maxRecDepth 20000 in
theorem gX12_rules_X10_pump : GoodIn wsX12_rules (wsV RX12 46 RX10 yX10_pump wsX10_pump) := goodIn_app (goodIn_of _ (by decide +kernel)) ggX12_rules_X10_pump
set_option maxRecDepth 20000 in
theorem ggX12_rules_X10_setting : GoodIn wsX12_rules wsX10_setting := goodIn_r _ [46, 6, 47, 48, 9, 10, 4, 11, 150, 151, 152, 153, 154, 155, 156, 157, 158, 159, 160, 161, 180] (by decide +kernel) (by decide +kernel)
set_option maxRecDepth 20000 in
theorem gX12_rules_X10_setting : GoodIn wsX12_rules (wsV RX12 49 RX10 yX10_setting wsX10_setting) := goodIn_app (goodIn_of _ (by decide +kernel)) ggX12_rules_X10_setting
set_option maxRecDepth 20000 in
theorem ggX12_rules_X10_outdoor : GoodIn wsX12_rules wsX10_outdoor := goodIn_r _ [52, 6, 53, 54, 9, 10, 4, 11, 150, 151, 152, 153, 154, 155, 156, 157, 158, 159, 160, 161, 181, 182, 183] (by decide +kernel) (by decide +kernel)
set_option maxRecDepth 20000 in
theorem gX12_rules_X10_outdoor : GoodIn wsX12_rules (wsV RX12 52 RX10 yX10_outdoor wsX10_outdoor) := goodIn_app (goodIn_of _ (by decide +kernel)) ggX12_rules_X10_outdoor
set_option maxRecDepth 20000 in
theorem ggX12_rules_X10_target : GoodIn wsX12_rules wsX10_target := goodIn_r _ [58, 6, 59, 60, 61, 62, 63, 64, 65, 66, 67, 68, 69, 70, 71, 72, 10, 4, 11, 73, 74, 75, 76, 77, 78, 79, 80, 81, 82, 83, 84, 85, 86, 87, 88, 89, 90, 91, 92, 150, 151, 152, 153, 154, 155, 156, 157, 158, 159, 160, 161, 181, 182, 183, 184, 185, 186, 180] (by decide +kernel) (by decide +kernel)
set_option maxRecDepth 20000 in
theorem gX12_rules_X10_target : GoodIn wsX12_rules (wsV RX12 55 RX10 yX10_target wsX10_target) := goodIn_app (goodIn_of _ (by decide +kernel)) ggX12_rules_X10_target
set_option maxRecDepth 20000 in
theorem ggX12_rules_X10_supply : GoodIn wsX12_rules wsX10_supply := goodIn_r _ [96, 6, 97, 98, 99, 61, 100, 101, 74, 75, 76, 77, 78, 79, 80, 81, 82, 83, 84, 10, 4, 11, 85, 86, 150, 151, 152, 153, 154, 155, 156, 157, 158, 159, 160, 161, 184, 185, 186] (by decide +kernel) (by decide +kernel)
set_option maxRecDepth 20000 in
theorem gX12_rules_X10_supply : GoodIn wsX12_rules (wsV RX12 58 RX10 yX10_supply wsX10_supply) := goodIn_app (goodIn_of _ (by decide +kernel)) ggX12_rules_X10_supply
set_option maxRecDepth 20000 in
theorem ggX12_rules_X10_tariff : GoodIn wsX12_rules wsX10_tariff := goodIn_r _ [105, 6, 53, 106, 9, 10, 4, 11, 150, 151, 152, 153, 154, 155, 156, 157, 158, 159, 160, 161, 181, 182, 183] (by decide +kernel) (by decide +kernel)
set_option maxRecDepth 20000 in
theorem gX12_rules_X10_tariff : GoodIn wsX12_rules (wsV RX12 61 RX10 yX10_tariff wsX10_tariff) := goodIn_app (goodIn_of _ (by decide +kernel)) ggX12_rules_X10_tariff
set_option maxRecDepth 20000 in
theorem ggX12_rules_X10_demand : GoodIn wsX12_rules wsX10_demand := goodIn_r _ [110, 6, 59, 60, 61, 62, 111, 112, 113, 66, 114, 72, 69, 70, 115, 116, 117, 118, 119, 87, 88, 89, 90, 91, 92, 10, 4, 11, 85, 86, 150, 151, 152, 153, 154, 155, 156, 157, 158, 159, 160, 161, 181, 182, 183, 180] (by decide +kernel) (by decide +kernel)
set_option maxRecDepth 20000 in
theorem gX12_rules_X10_demand : GoodIn wsX12_rules (wsV RX12 8 RX10 yX10_demand wsX10_demand) := goodIn_app (goodIn_of _ (by decide +kernel)) ggX12_rules_X10_demand
set_option maxRecDepth 20000 in
theorem ggX12_rules_X10_frost : GoodIn wsX12_rules wsX10_frost := goodIn_r _ [123, 6, 31, 124, 150, 151, 152, 153, 154, 155, 156, 157, 158, 159, 160, 161, 173, 174, 175, 176, 177, 178, 179] (by decide +kernel) (by decide +kernel)
set_option maxRecDepth 20000 in
theorem gX12_rules_X10_frost : GoodIn wsX12_rules (wsV RX12 64 RX10 yX10_frost wsX10_frost) := goodIn_app (goodIn_of _ (by decide +kernel)) ggX12_rules_X10_frost
set_option maxRecDepth 20000 in
theorem ggX12_rules_X10_drawn : GoodIn wsX12_rules wsX10_drawn := goodIn_r _ [128, 6, 7, 129, 150, 151, 152, 153, 154, 155, 156, 157, 158, 159, 160, 161, 162, 163, 164, 165, 166, 167, 168, 169, 170, 171, 172] (by decide +kernel) (by decide +kernel)
set_option maxRecDepth 20000 in
theorem gX12_rules_X10_drawn : GoodIn wsX12_rules (wsV RX12 21 RX10 yX10_drawn wsX10_drawn) := goodIn_app (goodIn_of _ (by decide +kernel)) ggX12_rules_X10_drawn
set_option maxRecDepth 20000 in
theorem ggX12_rules_X10_unmet : GoodIn wsX12_rules wsX10_unmet := goodIn_r _ [133, 6, 7, 134, 150, 151, 152, 153, 154, 155, 156, 157, 158, 159, 160, 161, 162, 163, 164, 165, 166, 167, 168, 169, 170, 171, 172] (by decide +kernel) (by decide +kernel)
set_option maxRecDepth 20000 in
theorem gX12_rules_X10_unmet : GoodIn wsX12_rules (wsV RX12 67 RX10 yX10_unmet wsX10_unmet) := goodIn_app (goodIn_of _ (by decide +kernel)) ggX12_rules_X10_unmet
set_option maxRecDepth 20000 in
theorem ggX12_rules_X10_lost : GoodIn wsX12_rules wsX10_lost := goodIn_r _ [138, 6, 7, 139, 150, 151, 152, 153, 154, 155, 156, 157, 158, 159, 160, 161, 162, 163, 164, 165, 166, 167, 168, 169, 170, 171, 172] (by decide +kernel) (by decide +kernel)
set_option maxRecDepth 20000 in
theorem gX12_rules_X10_lost : GoodIn wsX12_rules (wsV RX12 24 RX10 yX10_lost wsX10_lost) := goodIn_app (goodIn_of _ (by decide +kernel)) ggX12_rules_X10_lost
set_option maxRecDepth 20000 in
theorem ggX12_rules_X10_cost : GoodIn wsX12_rules wsX10_cost := goodIn_r _ [143, 6, 7, 144, 150, 151, 152, 153, 154, 155, 156, 157, 158, 159, 160, 161, 162, 163, 164, 165, 166, 167, 168, 169, 170, 171, 172] (by decide +kernel) (by decide +kernel)
set_option maxRecDepth 20000 in
theorem gX12_rules_X10_cost : GoodIn wsX12_rules (wsV RX12 70 RX10 yX10_cost wsX10_cost) := goodIn_app (goodIn_of _ (by decide +kernel)) ggX12_rules_X10_cost
set_option maxRecDepth 20000 in
theorem ggX12_rules_X10_electricity : GoodIn wsX12_rules wsX10_electricity := goodIn_r _ [148, 6, 7, 149, 150, 151, 152, 153, 154, 155, 156, 157, 158, 159, 160, 161, 162, 163, 164, 165, 166, 167, 168, 169, 170, 171, 172] (by decide +kernel) (by decide +kernel)
set_option maxRecDepth 20000 in
theorem gX12_rules_X10_electricity : GoodIn wsX12_rules (wsV RX12 73 RX10 yX10_electricity wsX10_electricity) := goodIn_app (goodIn_of _ (by decide +kernel)) ggX12_rules_X10_electricity
theorem dX12_rules_0 : decode cX12_rules 0 = .ok (.iconst 0, 1) := by decide +kernel
theorem dX12_rules_1 : decode cX12_rules 1 = .ok (.istore_n 1, 1) := by decide +kernel
theorem dX12_rules_2 : decode cX12_rules 2 = .ok (.iconst 0, 1) := by decide +kernel
theorem dX12_rules_3 : decode cX12_rules 3 = .ok (.istore_n 2, 1) := by decide +kernel
theorem dX12_rules_4 : decode cX12_rules 4 = .ok (.iload_n 2, 1) := by decide +kernel
theorem dX12_rules_5 : decode cX12_rules 5 = .ok (.bipush 12, 2) := by decide +kernel
theorem dX12_rules_7 : decode cX12_rules 7 = .ok (.if_icmp .ge 17, 3) := by decide +kernel
theorem dX12_rules_10 : decode cX12_rules 10 = .ok (.iload_n 1, 1) := by decide +kernel
theorem dX12_rules_11 : decode cX12_rules 11 = .ok (.aload_n 0, 1) := by decide +kernel
theorem dX12_rules_12 : decode cX12_rules 12 = .ok (.iload_n 2, 1) := by decide +kernel
theorem dX12_rules_13 : decode cX12_rules 13 = .ok (.invokevirtual 27, 3) := by decide +kernel
theorem dX12_rules_16 : decode cX12_rules 16 = .ok (.iadd, 1) := by decide +kernel
theorem dX12_rules_17 : decode cX12_rules 17 = .ok (.istore_n 1, 1) := by decide +kernel
theorem dX12_rules_18 : decode cX12_rules 18 = .ok (.iinc 2 1, 3) := by decide +kernel
theorem dX12_rules_21 : decode cX12_rules 21 = .ok (.goto (-17), 3) := by decide +kernel
theorem dX12_rules_24 : decode cX12_rules 24 = .ok (.iload_n 1, 1) := by decide +kernel
theorem dX12_rules_25 : decode cX12_rules 25 = .ok (.aload_n 0, 1) := by decide +kernel
theorem dX12_rules_26 : decode cX12_rules 26 = .ok (.invokevirtual 30, 3) := by decide +kernel
theorem dX12_rules_29 : decode cX12_rules 29 = .ok (.if_icmp .ne 46, 3) := by decide +kernel
theorem dX12_rules_32 : decode cX12_rules 32 = .ok (.aload_n 0, 1) := by decide +kernel
theorem dX12_rules_33 : decode cX12_rules 33 = .ok (.invokevirtual 34, 3) := by decide +kernel
theorem dX12_rules_36 : decode cX12_rules 36 = .ok (.aload_n 0, 1) := by decide +kernel
theorem dX12_rules_37 : decode cX12_rules 37 = .ok (.bipush 11, 2) := by decide +kernel
theorem dX12_rules_39 : decode cX12_rules 39 = .ok (.invokevirtual 27, 3) := by decide +kernel
theorem dX12_rules_42 : decode cX12_rules 42 = .ok (.if_icmp .ne 33, 3) := by decide +kernel
