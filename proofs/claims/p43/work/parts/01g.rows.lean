theorem dX10_starts_7 : decode cX10_starts 7 = .ok (.getfield 158, 3) := by decide +kernel
theorem dX10_starts_10 : decode cX10_starts 10 = .ok (.ireturn, 1) := by decide +kernel
theorem dX10_defrosts_0 : decode cX10_defrosts 0 = .ok (.aload_n 0, 1) := by decide +kernel
theorem dX10_defrosts_1 : decode cX10_defrosts 1 = .ok (.getfield 10, 3) := by decide +kernel
theorem dX10_defrosts_4 : decode cX10_defrosts 4 = .ok (.getfield 154, 3) := by decide +kernel
theorem dX10_defrosts_7 : decode cX10_defrosts 7 = .ok (.getfield 184, 3) := by decide +kernel
theorem dX10_defrosts_10 : decode cX10_defrosts 10 = .ok (.ireturn, 1) := by decide +kernel
theorem dX10_frost_0 : decode cX10_frost 0 = .ok (.aload_n 0, 1) := by decide +kernel
theorem dX10_frost_1 : decode cX10_frost 1 = .ok (.getfield 10, 3) := by decide +kernel
theorem dX10_frost_4 : decode cX10_frost 4 = .ok (.getfield 166, 3) := by decide +kernel
theorem dX10_frost_7 : decode cX10_frost 7 = .ok (.getfield 187, 3) := by decide +kernel
theorem dX10_frost_10 : decode cX10_frost 10 = .ok (.ireturn, 1) := by decide +kernel
theorem dX10_produced_0 : decode cX10_produced 0 = .ok (.aload_n 0, 1) := by decide +kernel
theorem dX10_produced_1 : decode cX10_produced 1 = .ok (.getfield 10, 3) := by decide +kernel
theorem dX10_produced_4 : decode cX10_produced 4 = .ok (.getfield 154, 3) := by decide +kernel
theorem dX10_produced_7 : decode cX10_produced 7 = .ok (.getfield 190, 3) := by decide +kernel
theorem dX10_produced_10 : decode cX10_produced 10 = .ok (.lreturn, 1) := by decide +kernel
theorem dX10_defrostHeat_0 : decode cX10_defrostHeat 0 = .ok (.aload_n 0, 1) := by decide +kernel
theorem dX10_defrostHeat_1 : decode cX10_defrostHeat 1 = .ok (.getfield 10, 3) := by decide +kernel
theorem dX10_defrostHeat_4 : decode cX10_defrostHeat 4 = .ok (.getfield 154, 3) := by decide +kernel
theorem dX10_defrostHeat_7 : decode cX10_defrostHeat 7 = .ok (.getfield 194, 3) := by decide +kernel
theorem dX10_defrostHeat_10 : decode cX10_defrostHeat 10 = .ok (.lreturn, 1) := by decide +kernel
theorem dX10_drawn_0 : decode cX10_drawn 0 = .ok (.aload_n 0, 1) := by decide +kernel
theorem dX10_drawn_1 : decode cX10_drawn 1 = .ok (.getfield 10, 3) := by decide +kernel
theorem dX10_drawn_4 : decode cX10_drawn 4 = .ok (.getfield 154, 3) := by decide +kernel
theorem dX10_drawn_7 : decode cX10_drawn 7 = .ok (.getfield 197, 3) := by decide +kernel
theorem dX10_drawn_10 : decode cX10_drawn 10 = .ok (.lreturn, 1) := by decide +kernel
theorem dX10_unmet_0 : decode cX10_unmet 0 = .ok (.aload_n 0, 1) := by decide +kernel
theorem dX10_unmet_1 : decode cX10_unmet 1 = .ok (.getfield 10, 3) := by decide +kernel
theorem dX10_unmet_4 : decode cX10_unmet 4 = .ok (.getfield 154, 3) := by decide +kernel
theorem dX10_unmet_7 : decode cX10_unmet 7 = .ok (.getfield 200, 3) := by decide +kernel
theorem dX10_unmet_10 : decode cX10_unmet 10 = .ok (.lreturn, 1) := by decide +kernel
theorem dX10_lost_0 : decode cX10_lost 0 = .ok (.aload_n 0, 1) := by decide +kernel
theorem dX10_lost_1 : decode cX10_lost 1 = .ok (.getfield 10, 3) := by decide +kernel
theorem dX10_lost_4 : decode cX10_lost 4 = .ok (.getfield 154, 3) := by decide +kernel
theorem dX10_lost_7 : decode cX10_lost 7 = .ok (.getfield 203, 3) := by decide +kernel
theorem dX10_lost_10 : decode cX10_lost 10 = .ok (.lreturn, 1) := by decide +kernel
theorem dX10_electricity_0 : decode cX10_electricity 0 = .ok (.aload_n 0, 1) := by decide +kernel
theorem dX10_electricity_1 : decode cX10_electricity 1 = .ok (.getfield 10, 3) := by decide +kernel
theorem dX10_electricity_4 : decode cX10_electricity 4 = .ok (.getfield 154, 3) := by decide +kernel
theorem dX10_electricity_7 : decode cX10_electricity 7 = .ok (.getfield 206, 3) := by decide +kernel
theorem dX10_electricity_10 : decode cX10_electricity 10 = .ok (.lreturn, 1) := by decide +kernel
theorem dX10_cost_0 : decode cX10_cost 0 = .ok (.aload_n 0, 1) := by decide +kernel
theorem dX10_cost_1 : decode cX10_cost 1 = .ok (.getfield 10, 3) := by decide +kernel
theorem dX10_cost_4 : decode cX10_cost 4 = .ok (.getfield 154, 3) := by decide +kernel
theorem dX10_cost_7 : decode cX10_cost 7 = .ok (.getfield 209, 3) := by decide +kernel
theorem dX10_cost_10 : decode cX10_cost 10 = .ok (.lreturn, 1) := by decide +kernel
theorem dX10_meanPercentage_0 : decode cX10_meanPercentage 0 = .ok (.aload_n 0, 1) := by decide +kernel
theorem dX10_meanPercentage_1 : decode cX10_meanPercentage 1 = .ok (.getfield 10, 3) := by decide +kernel
theorem dX10_meanPercentage_4 : decode cX10_meanPercentage 4 = .ok (.getfield 154, 3) := by decide +kernel
theorem dX10_meanPercentage_7 : decode cX10_meanPercentage 7 = .ok (.getfield 206, 3) := by decide +kernel
theorem dX10_meanPercentage_10 : decode cX10_meanPercentage 10 = .ok (.lstore_n 1, 1) := by decide +kernel
theorem dX10_meanPercentage_11 : decode cX10_meanPercentage 11 = .ok (.lload_n 1, 1) := by decide +kernel
theorem dX10_meanPercentage_12 : decode cX10_meanPercentage 12 = .ok (.lconst 0, 1) := by decide +kernel
theorem dX10_meanPercentage_13 : decode cX10_meanPercentage 13 = .ok (.lcmp, 1) := by decide +kernel
theorem dX10_meanPercentage_14 : decode cX10_meanPercentage 14 = .ok (.ifCond .ne 7, 3) := by decide +kernel
theorem dX10_meanPercentage_17 : decode cX10_meanPercentage 17 = .ok (.dconst 0, 1) := by decide +kernel
theorem dX10_meanPercentage_18 : decode cX10_meanPercentage 18 = .ok (.goto 21, 3) := by decide +kernel
theorem dX10_meanPercentage_21 : decode cX10_meanPercentage 21 = .ok (.aload_n 0, 1) := by decide +kernel
theorem dX10_meanPercentage_22 : decode cX10_meanPercentage 22 = .ok (.getfield 10, 3) := by decide +kernel
theorem dX10_meanPercentage_25 : decode cX10_meanPercentage 25 = .ok (.getfield 154, 3) := by decide +kernel
theorem dX10_meanPercentage_28 : decode cX10_meanPercentage 28 = .ok (.getfield 190, 3) := by decide +kernel
theorem dX10_meanPercentage_31 : decode cX10_meanPercentage 31 = .ok (.l2d, 1) := by decide +kernel
theorem dX10_meanPercentage_32 : decode cX10_meanPercentage 32 = .ok (.ldc2_w 212, 3) := by decide +kernel
theorem dX10_meanPercentage_35 : decode cX10_meanPercentage 35 = .ok (.dmul, 1) := by decide +kernel
theorem dX10_meanPercentage_36 : decode cX10_meanPercentage 36 = .ok (.lload_n 1, 1) := by decide +kernel
theorem dX10_meanPercentage_37 : decode cX10_meanPercentage 37 = .ok (.l2d, 1) := by decide +kernel
theorem dX10_meanPercentage_38 : decode cX10_meanPercentage 38 = .ok (.ddiv, 1) := by decide +kernel
theorem dX10_meanPercentage_39 : decode cX10_meanPercentage 39 = .ok (.dreturn, 1) := by decide +kernel
set_option maxRecDepth 20000 in
theorem ggX10_costIn_X5_copyFrom : GoodIn wsX10_costIn wsX5_copyFrom := goodIn_r _ [10, 11, 12, 13, 14, 15, 16, 17, 18, 19, 20, 21, 22, 23, 24, 25, 26, 27, 28, 29, 30, 31, 32, 33, 34, 35, 36, 37, 38, 39, 40, 41, 42, 43, 44, 45, 46, 47, 48, 49, 50, 51, 52, 53, 54, 55, 56, 57, 58, 59, 60, 61, 62, 63, 64, 65, 66, 67, 68, 69, 70, 71, 72, 233, 234, 235, 236, 237, 238, 239, 240, 252, 253, 254, 255, 256, 257, 258, 259, 260, 261, 262, 263, 264, 265, 266, 267, 241, 242, 243, 244, 245, 246, 247, 248, 249, 250, 251] (by decide +kernel) (by decide +kernel)
set_option maxRecDepth 20000 in
theorem gX10_costIn_X5_copyFrom : GoodIn wsX10_costIn (wsV RX10 216 RX5 yX5_copyFrom wsX5_copyFrom) := goodIn_app (goodIn_of _ (by decide +kernel)) ggX10_costIn_X5_copyFrom
set_option maxRecDepth 20000 in
theorem ggX10_costIn_X5_advance : GoodIn wsX10_costIn wsX5_advance := goodIn_r _ [76, 18, 77, 78, 79, 9, 80, 81, 13, 82, 83, 84, 85, 86, 87, 88, 89, 90, 20, 91, 92, 93, 94, 95, 11, 96, 97, 98, 99, 100, 101, 102, 103, 104, 105, 106, 107, 108, 109, 110, 111, 112, 14, 113, 114, 115, 33, 116, 37, 36, 35, 117, 118, 119, 120, 121, 122, 123, 124, 16, 15, 17, 125, 126, 127, 128, 129, 130, 131, 48, 132, 50, 53, 54, 133, 134, 135, 136, 137, 138, 139, 140, 141, 41, 142, 43, 44, 143, 144, 145, 146, 147, 148, 51, 149, 150, 151, 152, 52, 55, 153, 154, 155, 156, 157, 158, 159, 160, 56, 161, 162, 163, 164, 165, 60, 166, 63, 62, 64, 65, 167, 168, 169, 170, 171, 172, 173, 174, 175, 176, 177, 178, 179, 180, 181, 182, 183, 184, 185, 186, 187, 188, 189, 190, 191, 192, 193, 194, 195, 196, 197, 198, 199, 200, 201, 202, 203, 204, 205, 206, 207, 208, 209, 210, 211, 212, 213, 214, 215, 216, 217, 218, 219, 220, 221, 222, 223, 224, 225, 226, 227, 228, 233, 234, 235, 236, 237, 238, 239, 240, 253, 254, 255, 268, 269, 270, 271, 272, 252, 256, 257, 258, 261, 262, 263, 264, 265, 266, 267, 241, 242, 243, 244, 245, 246, 247, 248, 249, 250, 251, 259, 260] (by decide +kernel) (by decide +kernel)
set_option maxRecDepth 20000 in
theorem gX10_costIn_X5_advance : GoodIn wsX10_costIn (wsV RX10 163 RX5 yX5_advance wsX5_advance) := goodIn_app (goodIn_of _ (by decide +kernel)) ggX10_costIn_X5_advance
theorem dX10_costIn_0 : decode cX10_costIn 0 = .ok (.iload_n 1, 1) := by decide +kernel
theorem dX10_costIn_1 : decode cX10_costIn 1 = .ok (.iconst 1, 1) := by decide +kernel
theorem dX10_costIn_2 : decode cX10_costIn 2 = .ok (.if_icmp .lt 10, 3) := by decide +kernel
theorem dX10_costIn_5 : decode cX10_costIn 5 = .ok (.iload_n 1, 1) := by decide +kernel
theorem dX10_costIn_6 : decode cX10_costIn 6 = .ok (.sipush 720, 3) := by decide +kernel
theorem dX10_costIn_9 : decode cX10_costIn 9 = .ok (.if_icmp .le 7, 3) := by decide +kernel
theorem dX10_costIn_12 : decode cX10_costIn 12 = .ok (.ldc2_w 214, 3) := by decide +kernel
theorem dX10_costIn_15 : decode cX10_costIn 15 = .ok (.lreturn, 1) := by decide +kernel
theorem dX10_costIn_16 : decode cX10_costIn 16 = .ok (.aload_n 0, 1) := by decide +kernel
theorem dX10_costIn_17 : decode cX10_costIn 17 = .ok (.getfield 16, 3) := by decide +kernel
theorem dX10_costIn_20 : decode cX10_costIn 20 = .ok (.aload_n 0, 1) := by decide +kernel
theorem dX10_costIn_21 : decode cX10_costIn 21 = .ok (.getfield 10, 3) := by decide +kernel
theorem dX10_costIn_24 : decode cX10_costIn 24 = .ok (.invokevirtual 216, 3) := by decide +kernel
theorem dX10_costIn_27 : decode cX10_costIn 27 = .ok (.aload_n 0, 1) := by decide +kernel
theorem dX10_costIn_28 : decode cX10_costIn 28 = .ok (.getfield 16, 3) := by decide +kernel
theorem dX10_costIn_31 : decode cX10_costIn 31 = .ok (.iload_n 1, 1) := by decide +kernel
theorem dX10_costIn_32 : decode cX10_costIn 32 = .ok (.invokevirtual 163, 3) := by decide +kernel
theorem dX10_costIn_35 : decode cX10_costIn 35 = .ok (.aload_n 0, 1) := by decide +kernel
theorem dX10_costIn_36 : decode cX10_costIn 36 = .ok (.getfield 16, 3) := by decide +kernel
theorem dX10_costIn_39 : decode cX10_costIn 39 = .ok (.getfield 154, 3) := by decide +kernel
theorem dX10_costIn_42 : decode cX10_costIn 42 = .ok (.getfield 209, 3) := by decide +kernel
theorem dX10_costIn_45 : decode cX10_costIn 45 = .ok (.aload_n 0, 1) := by decide +kernel
theorem dX10_costIn_46 : decode cX10_costIn 46 = .ok (.getfield 10, 3) := by decide +kernel
theorem dX10_costIn_49 : decode cX10_costIn 49 = .ok (.getfield 154, 3) := by decide +kernel
theorem dX10_costIn_52 : decode cX10_costIn 52 = .ok (.getfield 209, 3) := by decide +kernel
theorem dX10_costIn_55 : decode cX10_costIn 55 = .ok (.lsub, 1) := by decide +kernel
theorem dX10_costIn_56 : decode cX10_costIn 56 = .ok (.lreturn, 1) := by decide +kernel
set_option maxRecDepth 20000 in
theorem ggX10_nextSwitch_X5_copyFrom : GoodIn wsX10_nextSwitch wsX5_copyFrom := goodIn_r _ [9, 10, 11, 12, 13, 14, 15, 16, 17, 18, 19, 20, 21, 22, 23, 24, 25, 26, 27, 28, 29, 30, 31, 32, 33, 34, 35, 36, 37, 38, 39, 40, 41, 42, 43, 44, 45, 46, 47, 48, 49, 50, 51, 52, 53, 54, 55, 56, 57, 58, 59, 60, 61, 62, 63, 64, 65, 66, 67, 68, 69, 70, 71, 232, 233, 234, 235, 236, 237, 238, 239, 247, 248, 249, 250, 251, 252, 253, 254, 255, 240, 241, 242, 243, 244, 245, 246, 256, 257, 258, 259, 260, 261, 262, 263, 264, 265, 266] (by decide +kernel) (by decide +kernel)
set_option maxRecDepth 20000 in
theorem gX10_nextSwitch_X5_copyFrom : GoodIn wsX10_nextSwitch (wsV RX10 216 RX5 yX5_copyFrom wsX5_copyFrom) := goodIn_app (goodIn_of _ (by decide +kernel)) ggX10_nextSwitch_X5_copyFrom
set_option maxRecDepth 20000 in
theorem ggX10_nextSwitch_X5_advance : GoodIn wsX10_nextSwitch wsX5_advance := goodIn_r _ [75, 17, 76, 77, 78, 8, 79, 80, 12, 81, 82, 83, 84, 85, 86, 87, 88, 89, 19, 90, 91, 92, 93, 94, 10, 95, 96, 97, 98, 99, 100, 101, 102, 103, 104, 105, 106, 107, 108, 109, 110, 111, 13, 112, 113, 114, 32, 115, 36, 35, 34, 116, 117, 118, 119, 120, 121, 122, 123, 15, 14, 16, 124, 125, 126, 127, 128, 129, 130, 47, 131, 49, 52, 53, 132, 133, 134, 135, 136, 137, 138, 139, 140, 40, 141, 42, 43, 142, 143, 144, 145, 146, 147, 50, 148, 149, 150, 151, 51, 54, 152, 153, 154, 155, 156, 157, 158, 159, 55, 160, 161, 162, 163, 164, 59, 165, 62, 61, 63, 64, 166, 167, 168, 169, 170, 171, 172, 173, 174, 175, 176, 177, 178, 179, 180, 181, 182, 183, 184, 185, 186, 187, 188, 189, 190, 191, 192, 193, 194, 195, 196, 197, 198, 199, 200, 201, 202, 203, 204, 205, 206, 207, 208, 209, 210, 211, 212, 213, 214, 215, 216, 217, 218, 219, 220, 221, 222, 223, 224, 225, 226, 227, 232, 233, 234, 235, 236, 237, 238, 239, 248, 249, 250, 267, 268, 269, 270, 271, 247, 251, 252, 253, 240, 241, 242, 243, 244, 245, 246, 256, 257, 258, 259, 260, 261, 262, 263, 264, 265, 266, 254, 255] (by decide +kernel) (by decide +kernel)
set_option maxRecDepth 20000 in
theorem gX10_nextSwitch_X5_advance : GoodIn wsX10_nextSwitch (wsV RX10 163 RX5 yX5_advance wsX5_advance) := goodIn_app (goodIn_of _ (by decide +kernel)) ggX10_nextSwitch_X5_advance
theorem dX10_nextSwitch_0 : decode cX10_nextSwitch 0 = .ok (.aload_n 0, 1) := by decide +kernel
theorem dX10_nextSwitch_1 : decode cX10_nextSwitch 1 = .ok (.getfield 10, 3) := by decide +kernel
theorem dX10_nextSwitch_4 : decode cX10_nextSwitch 4 = .ok (.getfield 166, 3) := by decide +kernel
theorem dX10_nextSwitch_7 : decode cX10_nextSwitch 7 = .ok (.getfield 170, 3) := by decide +kernel
theorem dX10_nextSwitch_10 : decode cX10_nextSwitch 10 = .ok (.ifCond .ne 7, 3) := by decide +kernel
theorem dX10_nextSwitch_13 : decode cX10_nextSwitch 13 = .ok (.iconst 1, 1) := by decide +kernel
theorem dX10_nextSwitch_14 : decode cX10_nextSwitch 14 = .ok (.goto 4, 3) := by decide +kernel
theorem dX10_nextSwitch_17 : decode cX10_nextSwitch 17 = .ok (.iconst 0, 1) := by decide +kernel
theorem dX10_nextSwitch_18 : decode cX10_nextSwitch 18 = .ok (.istore_n 1, 1) := by decide +kernel
theorem dX10_nextSwitch_19 : decode cX10_nextSwitch 19 = .ok (.aload_n 0, 1) := by decide +kernel
theorem dX10_nextSwitch_20 : decode cX10_nextSwitch 20 = .ok (.getfield 16, 3) := by decide +kernel
theorem dX10_nextSwitch_23 : decode cX10_nextSwitch 23 = .ok (.aload_n 0, 1) := by decide +kernel
theorem dX10_nextSwitch_24 : decode cX10_nextSwitch 24 = .ok (.getfield 10, 3) := by decide +kernel
theorem dX10_nextSwitch_27 : decode cX10_nextSwitch 27 = .ok (.invokevirtual 216, 3) := by decide +kernel
theorem dX10_nextSwitch_30 : decode cX10_nextSwitch 30 = .ok (.iconst 1, 1) := by decide +kernel
theorem dX10_nextSwitch_31 : decode cX10_nextSwitch 31 = .ok (.istore_n 2, 1) := by decide +kernel
theorem dX10_nextSwitch_32 : decode cX10_nextSwitch 32 = .ok (.iload_n 2, 1) := by decide +kernel
theorem dX10_nextSwitch_33 : decode cX10_nextSwitch 33 = .ok (.sipush 720, 3) := by decide +kernel
theorem dX10_nextSwitch_36 : decode cX10_nextSwitch 36 = .ok (.if_icmp .gt 41, 3) := by decide +kernel
theorem dX10_nextSwitch_39 : decode cX10_nextSwitch 39 = .ok (.aload_n 0, 1) := by decide +kernel
theorem dX10_nextSwitch_40 : decode cX10_nextSwitch 40 = .ok (.getfield 16, 3) := by decide +kernel
theorem dX10_nextSwitch_43 : decode cX10_nextSwitch 43 = .ok (.iconst 1, 1) := by decide +kernel
theorem dX10_nextSwitch_44 : decode cX10_nextSwitch 44 = .ok (.invokevirtual 163, 3) := by decide +kernel
theorem dX10_nextSwitch_47 : decode cX10_nextSwitch 47 = .ok (.aload_n 0, 1) := by decide +kernel
theorem dX10_nextSwitch_48 : decode cX10_nextSwitch 48 = .ok (.getfield 16, 3) := by decide +kernel
theorem dX10_nextSwitch_51 : decode cX10_nextSwitch 51 = .ok (.getfield 166, 3) := by decide +kernel
theorem dX10_nextSwitch_54 : decode cX10_nextSwitch 54 = .ok (.getfield 170, 3) := by decide +kernel
theorem dX10_nextSwitch_57 : decode cX10_nextSwitch 57 = .ok (.ifCond .ne 7, 3) := by decide +kernel
theorem dX10_nextSwitch_60 : decode cX10_nextSwitch 60 = .ok (.iconst 1, 1) := by decide +kernel
theorem dX10_nextSwitch_61 : decode cX10_nextSwitch 61 = .ok (.goto 4, 3) := by decide +kernel
theorem dX10_nextSwitch_64 : decode cX10_nextSwitch 64 = .ok (.iconst 0, 1) := by decide +kernel
theorem dX10_nextSwitch_65 : decode cX10_nextSwitch 65 = .ok (.iload_n 1, 1) := by decide +kernel
theorem dX10_nextSwitch_66 : decode cX10_nextSwitch 66 = .ok (.if_icmp .eq 5, 3) := by decide +kernel
theorem dX10_nextSwitch_69 : decode cX10_nextSwitch 69 = .ok (.iload_n 2, 1) := by decide +kernel
theorem dX10_nextSwitch_70 : decode cX10_nextSwitch 70 = .ok (.ireturn, 1) := by decide +kernel
theorem dX10_nextSwitch_71 : decode cX10_nextSwitch 71 = .ok (.iinc 2 1, 3) := by decide +kernel
theorem dX10_nextSwitch_74 : decode cX10_nextSwitch 74 = .ok (.goto (-42), 3) := by decide +kernel
theorem dX10_nextSwitch_77 : decode cX10_nextSwitch 77 = .ok (.sipush (-9999), 3) := by decide +kernel
theorem dX10_nextSwitch_80 : decode cX10_nextSwitch 80 = .ok (.ireturn, 1) := by decide +kernel
set_option maxRecDepth 20000 in
theorem ggX10_bestBoost_X5_copyFrom : GoodIn wsX10_bestBoost wsX5_copyFrom := goodIn_r _ [11, 12, 13, 14, 15, 16, 17, 18, 19, 20, 21, 22, 23, 24, 25, 26, 27, 28, 29, 30, 31, 32, 33, 34, 35, 36, 37, 38, 39, 40, 41, 42, 43, 44, 45, 46, 47, 48, 49, 50, 51, 52, 53, 54, 55, 56, 57, 58, 59, 60, 61, 62, 63, 64, 65, 66, 67, 68, 69, 70, 71, 72, 73, 238, 239, 240, 241, 242, 243, 244, 245, 257, 258, 259, 260, 261, 262, 263, 264, 265, 266, 267, 268, 269, 270, 271, 272, 246, 247, 248, 249, 250, 251, 252, 253, 254, 255, 256] (by decide +kernel) (by decide +kernel)
set_option maxRecDepth 20000 in
theorem gX10_bestBoost_X5_copyFrom : GoodIn wsX10_bestBoost (wsV RX10 216 RX5 yX5_copyFrom wsX5_copyFrom) := goodIn_app (goodIn_of _ (by decide +kernel)) ggX10_bestBoost_X5_copyFrom
set_option maxRecDepth 20000 in
theorem ggX10_bestBoost_X7_change : GoodIn wsX10_bestBoost wsX7_change := goodIn_r _ [78, 79, 80, 21, 81, 257] (by decide +kernel) (by decide +kernel)
set_option maxRecDepth 20000 in
theorem gX10_bestBoost_X7_change : GoodIn wsX10_bestBoost (wsV RX10 47 RX7 yX7_change wsX7_change) := goodIn_app (goodIn_of _ (by decide +kernel)) ggX10_bestBoost_X7_change
set_option maxRecDepth 20000 in
theorem ggX10_bestBoost_X5_advance : GoodIn wsX10_bestBoost wsX5_advance := goodIn_r _ [85, 19, 86, 87, 88, 10, 89, 90, 14, 91, 92, 93, 94, 95, 96, 97, 98, 99, 21, 100, 101, 102, 103, 104, 12, 105, 106, 107, 108, 109, 110, 111, 112, 77, 113, 79, 114, 115, 116, 117, 118, 119, 15, 120, 121, 122, 34, 123, 38, 37, 36, 124, 125, 126, 127, 128, 129, 130, 131, 17, 16, 18, 132, 133, 134, 135, 136, 137, 138, 49, 139, 51, 54, 55, 140, 141, 142, 143, 144, 145, 146, 147, 148, 42, 149, 44, 45, 150, 151, 152, 153, 154, 155, 52, 156, 157, 158, 159, 53, 56, 160, 161, 162, 163, 164, 165, 166, 167, 57, 80, 81, 168, 169, 170, 61, 171, 64, 63, 65, 66, 172, 173, 174, 175, 176, 177, 178, 179, 180, 181, 182, 183, 184, 185, 186, 187, 188, 189, 190, 191, 192, 193, 194, 195, 196, 197, 198, 199, 200, 201, 202, 203, 204, 205, 206, 207, 208, 209, 210, 211, 212, 213, 214, 215, 216, 217, 218, 219, 220, 221, 222, 223, 224, 225, 226, 227, 228, 229, 230, 231, 232, 233, 238, 239, 240, 241, 242, 243, 244, 245, 258, 259, 260, 273, 274, 275, 276, 277, 257, 261, 262, 263, 266, 267, 268, 269, 270, 271, 272, 246, 247, 248, 249, 250, 251, 252, 253, 254, 255, 256, 264, 265] (by decide +kernel) (by decide +kernel)
set_option maxRecDepth 20000 in
theorem gX10_bestBoost_X5_advance : GoodIn wsX10_bestBoost (wsV RX10 163 RX5 yX5_advance wsX5_advance) := goodIn_app (goodIn_of _ (by decide +kernel)) ggX10_bestBoost_X5_advance
theorem dX10_bestBoost_0 : decode cX10_bestBoost 0 = .ok (.iload_n 1, 1) := by decide +kernel
theorem dX10_bestBoost_1 : decode cX10_bestBoost 1 = .ok (.iconst 1, 1) := by decide +kernel
theorem dX10_bestBoost_2 : decode cX10_bestBoost 2 = .ok (.if_icmp .lt 10, 3) := by decide +kernel
theorem dX10_bestBoost_5 : decode cX10_bestBoost 5 = .ok (.iload_n 1, 1) := by decide +kernel
theorem dX10_bestBoost_6 : decode cX10_bestBoost 6 = .ok (.sipush 360, 3) := by decide +kernel
theorem dX10_bestBoost_9 : decode cX10_bestBoost 9 = .ok (.if_icmp .le 5, 3) := by decide +kernel
theorem dX10_bestBoost_12 : decode cX10_bestBoost 12 = .ok (.iconst (-1), 1) := by decide +kernel
theorem dX10_bestBoost_13 : decode cX10_bestBoost 13 = .ok (.ireturn, 1) := by decide +kernel
theorem dX10_bestBoost_14 : decode cX10_bestBoost 14 = .ok (.iconst 0, 1) := by decide +kernel
theorem dX10_bestBoost_15 : decode cX10_bestBoost 15 = .ok (.istore_n 2, 1) := by decide +kernel
theorem dX10_bestBoost_16 : decode cX10_bestBoost 16 = .ok (.lconst 0, 1) := by decide +kernel
theorem dX10_bestBoost_17 : decode cX10_bestBoost 17 = .ok (.lstore_n 3, 1) := by decide +kernel
theorem dX10_bestBoost_18 : decode cX10_bestBoost 18 = .ok (.lconst 0, 1) := by decide +kernel
theorem dX10_bestBoost_19 : decode cX10_bestBoost 19 = .ok (.lstore 5, 2) := by decide +kernel
theorem dX10_bestBoost_21 : decode cX10_bestBoost 21 = .ok (.iconst 0, 1) := by decide +kernel
theorem dX10_bestBoost_22 : decode cX10_bestBoost 22 = .ok (.istore 7, 2) := by decide +kernel
theorem dX10_bestBoost_24 : decode cX10_bestBoost 24 = .ok (.iload 7, 2) := by decide +kernel
theorem dX10_bestBoost_26 : decode cX10_bestBoost 26 = .ok (.sipush 150, 3) := by decide +kernel
theorem dX10_bestBoost_29 : decode cX10_bestBoost 29 = .ok (.if_icmp .gt 102, 3) := by decide +kernel
theorem dX10_bestBoost_32 : decode cX10_bestBoost 32 = .ok (.aload_n 0, 1) := by decide +kernel
theorem dX10_bestBoost_33 : decode cX10_bestBoost 33 = .ok (.getfield 16, 3) := by decide +kernel
theorem dX10_bestBoost_36 : decode cX10_bestBoost 36 = .ok (.aload_n 0, 1) := by decide +kernel
theorem dX10_bestBoost_37 : decode cX10_bestBoost 37 = .ok (.getfield 10, 3) := by decide +kernel
theorem dX10_bestBoost_40 : decode cX10_bestBoost 40 = .ok (.invokevirtual 216, 3) := by decide +kernel
theorem dX10_bestBoost_43 : decode cX10_bestBoost 43 = .ok (.aload_n 0, 1) := by decide +kernel
theorem dX10_bestBoost_44 : decode cX10_bestBoost 44 = .ok (.getfield 16, 3) := by decide +kernel
theorem dX10_bestBoost_47 : decode cX10_bestBoost 47 = .ok (.getfield 43, 3) := by decide +kernel
theorem dX10_bestBoost_50 : decode cX10_bestBoost 50 = .ok (.iconst 5, 1) := by decide +kernel
theorem dX10_bestBoost_51 : decode cX10_bestBoost 51 = .ok (.iload 7, 2) := by decide +kernel
theorem dX10_bestBoost_53 : decode cX10_bestBoost 53 = .ok (.invokevirtual 47, 3) := by decide +kernel
theorem dX10_bestBoost_56 : decode cX10_bestBoost 56 = .ok (.aload_n 0, 1) := by decide +kernel
theorem dX10_bestBoost_57 : decode cX10_bestBoost 57 = .ok (.getfield 16, 3) := by decide +kernel
theorem dX10_bestBoost_60 : decode cX10_bestBoost 60 = .ok (.iload_n 1, 1) := by decide +kernel
theorem dX10_bestBoost_61 : decode cX10_bestBoost 61 = .ok (.invokevirtual 163, 3) := by decide +kernel
theorem dX10_bestBoost_64 : decode cX10_bestBoost 64 = .ok (.aload_n 0, 1) := by decide +kernel
theorem dX10_bestBoost_65 : decode cX10_bestBoost 65 = .ok (.getfield 16, 3) := by decide +kernel
theorem dX10_bestBoost_68 : decode cX10_bestBoost 68 = .ok (.getfield 154, 3) := by decide +kernel
theorem dX10_bestBoost_71 : decode cX10_bestBoost 71 = .ok (.getfield 200, 3) := by decide +kernel
theorem dX10_bestBoost_74 : decode cX10_bestBoost 74 = .ok (.lstore 8, 2) := by decide +kernel
theorem dX10_bestBoost_76 : decode cX10_bestBoost 76 = .ok (.aload_n 0, 1) := by decide +kernel
theorem dX10_bestBoost_77 : decode cX10_bestBoost 77 = .ok (.getfield 16, 3) := by decide +kernel
theorem dX10_bestBoost_80 : decode cX10_bestBoost 80 = .ok (.getfield 154, 3) := by decide +kernel
theorem dX10_bestBoost_83 : decode cX10_bestBoost 83 = .ok (.getfield 209, 3) := by decide +kernel
theorem dX10_bestBoost_86 : decode cX10_bestBoost 86 = .ok (.lstore 10, 2) := by decide +kernel
theorem dX10_bestBoost_88 : decode cX10_bestBoost 88 = .ok (.iload 7, 2) := by decide +kernel
theorem dX10_bestBoost_90 : decode cX10_bestBoost 90 = .ok (.ifCond .eq 25, 3) := by decide +kernel
theorem dX10_bestBoost_93 : decode cX10_bestBoost 93 = .ok (.lload 8, 2) := by decide +kernel
theorem dX10_bestBoost_95 : decode cX10_bestBoost 95 = .ok (.lload_n 3, 1) := by decide +kernel
theorem dX10_bestBoost_96 : decode cX10_bestBoost 96 = .ok (.lcmp, 1) := by decide +kernel
theorem dX10_bestBoost_97 : decode cX10_bestBoost 97 = .ok (.ifCond .lt 18, 3) := by decide +kernel
theorem dX10_bestBoost_100 : decode cX10_bestBoost 100 = .ok (.lload 8, 2) := by decide +kernel
theorem dX10_bestBoost_102 : decode cX10_bestBoost 102 = .ok (.lload_n 3, 1) := by decide +kernel
theorem dX10_bestBoost_103 : decode cX10_bestBoost 103 = .ok (.lcmp, 1) := by decide +kernel
theorem dX10_bestBoost_104 : decode cX10_bestBoost 104 = .ok (.ifCond .ne 21, 3) := by decide +kernel
theorem dX10_bestBoost_107 : decode cX10_bestBoost 107 = .ok (.lload 10, 2) := by decide +kernel
theorem dX10_bestBoost_109 : decode cX10_bestBoost 109 = .ok (.lload 5, 2) := by decide +kernel
theorem dX10_bestBoost_111 : decode cX10_bestBoost 111 = .ok (.lcmp, 1) := by decide +kernel
theorem dX10_bestBoost_112 : decode cX10_bestBoost 112 = .ok (.ifCond .ge 13, 3) := by decide +kernel
theorem dX10_bestBoost_115 : decode cX10_bestBoost 115 = .ok (.iload 7, 2) := by decide +kernel
theorem dX10_bestBoost_117 : decode cX10_bestBoost 117 = .ok (.istore_n 2, 1) := by decide +kernel
theorem dX10_bestBoost_118 : decode cX10_bestBoost 118 = .ok (.lload 8, 2) := by decide +kernel
theorem dX10_bestBoost_120 : decode cX10_bestBoost 120 = .ok (.lstore_n 3, 1) := by decide +kernel
theorem dX10_bestBoost_121 : decode cX10_bestBoost 121 = .ok (.lload 10, 2) := by decide +kernel
theorem dX10_bestBoost_123 : decode cX10_bestBoost 123 = .ok (.lstore 5, 2) := by decide +kernel
theorem dX10_bestBoost_125 : decode cX10_bestBoost 125 = .ok (.iinc 7 10, 3) := by decide +kernel
theorem dX10_bestBoost_128 : decode cX10_bestBoost 128 = .ok (.goto (-104), 3) := by decide +kernel
theorem dX10_bestBoost_131 : decode cX10_bestBoost 131 = .ok (.iload_n 2, 1) := by decide +kernel
theorem dX10_bestBoost_132 : decode cX10_bestBoost 132 = .ok (.ireturn, 1) := by decide +kernel
set_option maxRecDepth 20000 in
theorem ggX10_loadWeather_X9_countEntries : GoodIn wsX10_loadWeather wsX9_countEntries := goodIn_r _ [9, 10, 11, 12, 13, 14, 15, 16, 17, 8, 18, 19, 20, 21, 22, 23, 24, 25, 26, 27, 28, 29, 30, 31, 32, 33, 34, 35, 36, 37, 38, 39, 40, 41, 42, 43, 44, 45, 46, 47, 48, 49, 50, 51, 149, 150, 151, 152, 153, 154, 155] (by decide +kernel) (by decide +kernel)
set_option maxRecDepth 20000 in
theorem gX10_loadWeather_X9_countEntries : GoodIn wsX10_loadWeather (wsV RX10 229 RX9 yX9_countEntries wsX9_countEntries) := goodIn_app (goodIn_of _ (by decide +kernel)) ggX10_loadWeather_X9_countEntries
set_option maxRecDepth 20000 in
theorem ggX10_loadWeather_X4_record : GoodIn wsX10_loadWeather wsX4_record := goodIn_r _ [56, 57, 58, 59, 60, 61, 55, 62, 63, 64, 65, 66, 67, 68, 69, 70, 71, 72, 73, 74, 75, 76, 77, 34, 78, 79, 80, 81, 50, 82, 83, 84, 85, 86, 87, 88, 89, 90, 91, 92, 93, 94, 95, 96, 97, 98, 99, 100, 101, 102, 103, 104, 105, 106, 107, 108, 109, 110, 111, 112, 113, 114, 115, 116, 117, 118, 119, 120, 121, 122, 123, 124, 125, 126, 127, 128, 156, 157, 158, 141, 142, 143, 144, 145, 146, 147, 148, 159, 160, 161, 162, 163, 164, 165, 166, 167, 168, 169, 170, 171, 172, 173, 174, 175, 176, 177, 178, 179, 180, 181, 182, 183, 184, 185] (by decide +kernel) (by decide +kernel)
set_option maxRecDepth 20000 in
theorem gX10_loadWeather_X4_record : GoodIn wsX10_loadWeather (wsV RX10 39 RX4 yX4_record wsX4_record) := goodIn_app (goodIn_of _ (by decide +kernel)) ggX10_loadWeather_X4_record
set_option maxRecDepth 20000 in
theorem ggX10_loadWeather_X9_carryOut : GoodIn wsX10_loadWeather wsX9_carryOut := goodIn_r _ [132, 10, 11, 13, 14, 133, 12, 19, 134, 15, 16, 17, 8, 18, 20, 21, 22, 23, 24, 25, 26, 27, 28, 29, 30, 31, 32, 33, 34, 35, 36, 37, 38, 39, 40, 41, 42, 43, 44, 45, 46, 47, 135, 136, 149, 150, 151, 152, 153, 154, 155, 160, 161, 162] (by decide +kernel) (by decide +kernel)
set_option maxRecDepth 20000 in
theorem gX10_loadWeather_X9_carryOut : GoodIn wsX10_loadWeather (wsV RX10 233 RX9 yX9_carryOut wsX9_carryOut) := goodIn_app (goodIn_of _ (by decide +kernel)) ggX10_loadWeather_X9_carryOut
theorem dX10_loadWeather_0 : decode cX10_loadWeather 0 = .ok (.aload_n 0, 1) := by decide +kernel
theorem dX10_loadWeather_1 : decode cX10_loadWeather 1 = .ok (.getfield 29, 3) := by decide +kernel
theorem dX10_loadWeather_4 : decode cX10_loadWeather 4 = .ok (.invokevirtual 229, 3) := by decide +kernel
theorem dX10_loadWeather_7 : decode cX10_loadWeather 7 = .ok (.istore_n 1, 1) := by decide +kernel
theorem dX10_loadWeather_8 : decode cX10_loadWeather 8 = .ok (.iload_n 1, 1) := by decide +kernel
theorem dX10_loadWeather_9 : decode cX10_loadWeather 9 = .ok (.ifCond .ge 5, 3) := by decide +kernel
theorem dX10_loadWeather_12 : decode cX10_loadWeather 12 = .ok (.iload_n 1, 1) := by decide +kernel
theorem dX10_loadWeather_13 : decode cX10_loadWeather 13 = .ok (.ireturn, 1) := by decide +kernel
theorem dX10_loadWeather_14 : decode cX10_loadWeather 14 = .ok (.aload_n 0, 1) := by decide +kernel
theorem dX10_loadWeather_15 : decode cX10_loadWeather 15 = .ok (.getfield 22, 3) := by decide +kernel
theorem dX10_loadWeather_18 : decode cX10_loadWeather 18 = .ok (.aload_n 0, 1) := by decide +kernel
theorem dX10_loadWeather_19 : decode cX10_loadWeather 19 = .ok (.getfield 10, 3) := by decide +kernel
theorem dX10_loadWeather_22 : decode cX10_loadWeather 22 = .ok (.invokevirtual 39, 3) := by decide +kernel
theorem dX10_loadWeather_25 : decode cX10_loadWeather 25 = .ok (.pop, 1) := by decide +kernel
theorem dX10_loadWeather_26 : decode cX10_loadWeather 26 = .ok (.aload_n 0, 1) := by decide +kernel
theorem dX10_loadWeather_27 : decode cX10_loadWeather 27 = .ok (.getfield 29, 3) := by decide +kernel
theorem dX10_loadWeather_30 : decode cX10_loadWeather 30 = .ok (.aload_n 0, 1) := by decide +kernel
theorem dX10_loadWeather_31 : decode cX10_loadWeather 31 = .ok (.getfield 10, 3) := by decide +kernel
theorem dX10_loadWeather_34 : decode cX10_loadWeather 34 = .ok (.getfield 68, 3) := by decide +kernel
theorem dX10_loadWeather_37 : decode cX10_loadWeather 37 = .ok (.invokevirtual 233, 3) := by decide +kernel
theorem dX10_loadWeather_40 : decode cX10_loadWeather 40 = .ok (.iload_n 1, 1) := by decide +kernel
theorem dX10_loadWeather_41 : decode cX10_loadWeather 41 = .ok (.ireturn, 1) := by decide +kernel
set_option maxRecDepth 20000 in
theorem ggX10_undo_X4_restore : GoodIn wsX10_undo wsX4_restore := goodIn_r _ [7, 8, 9, 10, 11, 6, 12, 13, 14, 15, 16, 17, 18, 19, 20, 21, 22, 23, 24, 25, 26, 27, 28, 29, 30, 31, 32, 33, 34, 35, 36, 37, 38, 39, 40, 41, 42, 43, 44, 45, 46, 47, 48, 49, 50, 51, 52, 53, 54, 55, 56, 57, 58, 59, 60, 61, 62, 63, 64, 65, 66, 67, 68, 69, 70, 71, 72, 73, 74, 75, 76, 77, 78, 79, 80, 81, 86, 87, 88, 89, 90, 91, 92, 93, 94, 95, 96, 97, 98, 99, 100, 101, 102, 103, 104, 105, 106, 107, 108, 109, 110, 111, 112, 113, 114, 115, 116, 117, 118, 119, 120, 121, 122, 123] (by decide +kernel) (by decide +kernel)
set_option maxRecDepth 20000 in
theorem gX10_undo_X4_restore : GoodIn wsX10_undo (wsV RX10 237 RX4 yX4_restore wsX4_restore) := goodIn_app (goodIn_of _ (by decide +kernel)) ggX10_undo_X4_restore
theorem dX10_undo_0 : decode cX10_undo 0 = .ok (.aload_n 0, 1) := by decide +kernel
theorem dX10_undo_1 : decode cX10_undo 1 = .ok (.getfield 22, 3) := by decide +kernel
theorem dX10_undo_4 : decode cX10_undo 4 = .ok (.aload_n 0, 1) := by decide +kernel
theorem dX10_undo_5 : decode cX10_undo 5 = .ok (.getfield 10, 3) := by decide +kernel
theorem dX10_undo_8 : decode cX10_undo 8 = .ok (.invokevirtual 237, 3) := by decide +kernel
theorem dX10_undo_11 : decode cX10_undo 11 = .ok (.ireturn, 1) := by decide +kernel
set_option maxRecDepth 20000 in
theorem ggX10_digest_X10_time : GoodIn wsX10_digest wsX10_time := goodIn_r _ [10, 11, 12, 206, 207, 208, 209, 220, 221, 222, 223, 224, 225, 226, 227] (by decide +kernel) (by decide +kernel)
set_option maxRecDepth 20000 in
theorem gX10_digest_X10_time : GoodIn wsX10_digest (wsV RX10 242 RX10 yX10_time wsX10_time) := goodIn_app (goodIn_of _ (by decide +kernel)) ggX10_digest_X10_time
set_option maxRecDepth 20000 in
theorem ggX10_digest_X10_mixed : GoodIn wsX10_digest wsX10_mixed := goodIn_r _ [15, 16] (by decide +kernel) (by decide +kernel)
set_option maxRecDepth 20000 in
theorem gX10_digest_X10_mixed : GoodIn wsX10_digest (va_wsS RX10 244 yX10_mixed wsX10_mixed) := goodIn_app (goodIn_of _ (by decide +kernel)) ggX10_digest_X10_mixed
set_option maxRecDepth 20000 in
theorem ggX10_digest_X10_mixedWithSettings : GoodIn wsX10_digest wsX10_mixedWithSettings := goodIn_r _ [20, 21, 22, 23, 9, 24, 11, 25, 26, 27, 28, 29, 13, 14, 15, 16, 30, 31, 32, 33, 34, 35, 36, 37, 38, 39, 40, 41, 42, 43, 44, 45, 46, 47, 48, 49, 50, 51, 52, 53, 54, 55, 56, 57, 58, 59, 60, 61, 62, 63, 64, 65, 66, 67, 68, 69, 70, 71, 72, 73, 74, 75, 76, 77, 78, 79, 80, 81, 82, 83, 84, 85, 86, 87, 88, 89, 90, 91, 92, 93, 94, 95, 96, 97, 98, 99, 100, 206, 207, 208, 209, 220, 221, 222, 223, 224, 225, 226, 227, 228, 229, 230, 231, 232, 233, 234] (by decide +kernel) (by decide +kernel)
set_option maxRecDepth 20000 in
theorem gX10_digest_X10_mixedWithSettings : GoodIn wsX10_digest (wsV RX10 248 RX10 yX10_mixedWithSettings wsX10_mixedWithSettings) := goodIn_app (goodIn_of _ (by decide +kernel)) ggX10_digest_X10_mixedWithSettings
set_option maxRecDepth 20000 in
theorem ggX10_digest_X10_mixedWithBuffer : GoodIn wsX10_digest wsX10_mixedWithBuffer := goodIn_r _ [104, 105, 106, 107, 9, 108, 11, 109, 110, 111, 112, 113, 114, 115, 116, 117, 68, 69, 13, 14, 15, 16, 118, 119, 120, 121, 122, 123, 124, 125, 206, 207, 208, 209, 220, 221, 222, 223, 224, 225, 226, 227, 235, 236] (by decide +kernel) (by decide +kernel)
set_option maxRecDepth 20000 in
theorem gX10_digest_X10_mixedWithBuffer : GoodIn wsX10_digest (wsV RX10 252 RX10 yX10_mixedWithBuffer wsX10_mixedWithBuffer) := goodIn_app (goodIn_of _ (by decide +kernel)) ggX10_digest_X10_mixedWithBuffer
set_option maxRecDepth 20000 in
theorem ggX10_digest_X10_mixedWithSimulation : GoodIn wsX10_digest wsX10_mixedWithSimulation := goodIn_r _ [129, 130, 131, 132, 9, 133, 11, 134, 135, 13, 14, 15, 16, 136, 137, 138, 139, 140, 141, 142, 143, 144, 145, 146, 27, 28, 29, 147, 148, 149, 150, 151, 152, 153, 154, 155, 156, 157, 158, 159, 160, 161, 162, 163, 164, 165, 166, 206, 207, 208, 209, 220, 221, 222, 223, 224, 225, 226, 227, 237, 238, 239, 240, 241, 242, 243, 244, 245, 246, 247, 248, 249, 250, 251, 252, 253, 254] (by decide +kernel) (by decide +kernel)
set_option maxRecDepth 20000 in
theorem gX10_digest_X10_mixedWithSimulation : GoodIn wsX10_digest (wsV RX10 255 RX10 yX10_mixedWithSimulation wsX10_mixedWithSimulation) := goodIn_app (goodIn_of _ (by decide +kernel)) ggX10_digest_X10_mixedWithSimulation
set_option maxRecDepth 20000 in
theorem ggX10_digest_X10_mixedWithAccounts : GoodIn wsX10_digest wsX10_mixedWithAccounts := goodIn_r _ [170, 171, 172, 173, 9, 174, 11, 140, 175, 13, 14, 15, 16, 176, 177, 178, 179, 180, 181, 182, 183, 184, 185, 186, 187, 188, 189, 190, 191, 192, 193, 194, 195, 196, 197, 198, 199, 200, 201, 202, 203, 204, 205, 206, 207, 208, 209, 220, 221, 222, 223, 224, 225, 226, 227, 244, 245, 246, 247, 248, 249, 250, 251, 252, 253, 254] (by decide +kernel) (by decide +kernel)
set_option maxRecDepth 20000 in
theorem gX10_digest_X10_mixedWithAccounts : GoodIn wsX10_digest (wsV RX10 258 RX10 yX10_mixedWithAccounts wsX10_mixedWithAccounts) := goodIn_app (goodIn_of _ (by decide +kernel)) ggX10_digest_X10_mixedWithAccounts
theorem dX10_digest_0 : decode cX10_digest 0 = .ok (.ldc2_w 240, 3) := by decide +kernel
theorem dX10_digest_3 : decode cX10_digest 3 = .ok (.aload_n 0, 1) := by decide +kernel
theorem dX10_digest_4 : decode cX10_digest 4 = .ok (.invokevirtual 242, 3) := by decide +kernel
theorem dX10_digest_7 : decode cX10_digest 7 = .ok (.i2l, 1) := by decide +kernel
theorem dX10_digest_8 : decode cX10_digest 8 = .ok (.invokestatic 244, 3) := by decide +kernel
theorem dX10_digest_11 : decode cX10_digest 11 = .ok (.lstore_n 1, 1) := by decide +kernel
theorem dX10_digest_12 : decode cX10_digest 12 = .ok (.aload_n 0, 1) := by decide +kernel
theorem dX10_digest_13 : decode cX10_digest 13 = .ok (.lload_n 1, 1) := by decide +kernel
theorem dX10_digest_14 : decode cX10_digest 14 = .ok (.invokevirtual 248, 3) := by decide +kernel
theorem dX10_digest_17 : decode cX10_digest 17 = .ok (.lstore_n 1, 1) := by decide +kernel
theorem dX10_digest_18 : decode cX10_digest 18 = .ok (.aload_n 0, 1) := by decide +kernel
theorem dX10_digest_19 : decode cX10_digest 19 = .ok (.lload_n 1, 1) := by decide +kernel
theorem dX10_digest_20 : decode cX10_digest 20 = .ok (.invokevirtual 252, 3) := by decide +kernel
theorem dX10_digest_23 : decode cX10_digest 23 = .ok (.lstore_n 1, 1) := by decide +kernel
theorem dX10_digest_24 : decode cX10_digest 24 = .ok (.aload_n 0, 1) := by decide +kernel
theorem dX10_digest_25 : decode cX10_digest 25 = .ok (.lload_n 1, 1) := by decide +kernel
theorem dX10_digest_26 : decode cX10_digest 26 = .ok (.invokevirtual 255, 3) := by decide +kernel
theorem dX10_digest_29 : decode cX10_digest 29 = .ok (.lstore_n 1, 1) := by decide +kernel
theorem dX10_digest_30 : decode cX10_digest 30 = .ok (.aload_n 0, 1) := by decide +kernel
theorem dX10_digest_31 : decode cX10_digest 31 = .ok (.lload_n 1, 1) := by decide +kernel
theorem dX10_digest_32 : decode cX10_digest 32 = .ok (.invokevirtual 258, 3) := by decide +kernel
theorem dX10_digest_35 : decode cX10_digest 35 = .ok (.lstore_n 1, 1) := by decide +kernel
theorem dX10_digest_36 : decode cX10_digest 36 = .ok (.lload_n 1, 1) := by decide +kernel
theorem dX10_digest_37 : decode cX10_digest 37 = .ok (.aload_n 0, 1) := by decide +kernel
theorem dX10_digest_38 : decode cX10_digest 38 = .ok (.getfield 29, 3) := by decide +kernel
theorem dX10_digest_41 : decode cX10_digest 41 = .ok (.getfield 226, 3) := by decide +kernel
theorem dX10_digest_44 : decode cX10_digest 44 = .ok (.i2l, 1) := by decide +kernel
theorem dX10_digest_45 : decode cX10_digest 45 = .ok (.invokestatic 244, 3) := by decide +kernel
theorem dX10_digest_48 : decode cX10_digest 48 = .ok (.lstore_n 1, 1) := by decide +kernel
theorem dX10_digest_49 : decode cX10_digest 49 = .ok (.lload_n 1, 1) := by decide +kernel
theorem dX10_digest_50 : decode cX10_digest 50 = .ok (.aload_n 0, 1) := by decide +kernel
theorem dX10_digest_51 : decode cX10_digest 51 = .ok (.getfield 22, 3) := by decide +kernel
theorem dX10_digest_54 : decode cX10_digest 54 = .ok (.getfield 261, 3) := by decide +kernel
theorem dX10_digest_57 : decode cX10_digest 57 = .ok (.i2l, 1) := by decide +kernel
theorem dX10_digest_58 : decode cX10_digest 58 = .ok (.invokestatic 244, 3) := by decide +kernel
theorem dX10_digest_61 : decode cX10_digest 61 = .ok (.lreturn, 1) := by decide +kernel
set_option maxRecDepth 20000 in
theorem ggX10_mixedWithSettings_X10_setting : GoodIn wsX10_mixedWithSettings wsX10_setting := goodIn_r _ [5, 6, 7, 8, 9, 10, 4, 11, 87, 88, 89, 90, 91, 92, 93, 94, 95, 96, 97, 98, 99] (by decide +kernel) (by decide +kernel)
set_option maxRecDepth 20000 in
theorem gX10_mixedWithSettings_X10_setting : GoodIn wsX10_mixedWithSettings (wsV RX10 262 RX10 yX10_setting wsX10_setting) := goodIn_app (goodIn_of _ (by decide +kernel)) ggX10_mixedWithSettings_X10_setting
set_option maxRecDepth 20000 in
theorem ggX10_mixedWithSettings_X10_mixed : GoodIn wsX10_mixedWithSettings wsX10_mixed := goodIn_r _ [14, 15] (by decide +kernel) (by decide +kernel)
set_option maxRecDepth 20000 in
theorem gX10_mixedWithSettings_X10_mixed : GoodIn wsX10_mixedWithSettings (va_wsS RX10 244 yX10_mixed wsX10_mixed) := goodIn_app (goodIn_of _ (by decide +kernel)) ggX10_mixedWithSettings_X10_mixed
set_option maxRecDepth 20000 in
theorem ggX10_mixedWithSettings_X10_outdoor : GoodIn wsX10_mixedWithSettings wsX10_outdoor := goodIn_r _ [19, 6, 20, 21, 9, 10, 4, 11, 87, 88, 89, 90, 91, 92, 93, 94, 95, 96, 97, 98, 100, 101, 102] (by decide +kernel) (by decide +kernel)
set_option maxRecDepth 20000 in
theorem gX10_mixedWithSettings_X10_outdoor : GoodIn wsX10_mixedWithSettings (wsV RX10 265 RX10 yX10_outdoor wsX10_outdoor) := goodIn_app (goodIn_of _ (by decide +kernel)) ggX10_mixedWithSettings_X10_outdoor
set_option maxRecDepth 20000 in
theorem ggX10_mixedWithSettings_X10_tariff : GoodIn wsX10_mixedWithSettings wsX10_tariff := goodIn_r _ [25, 6, 20, 26, 9, 10, 4, 11, 87, 88, 89, 90, 91, 92, 93, 94, 95, 96, 97, 98, 100, 101, 102] (by decide +kernel) (by decide +kernel)
set_option maxRecDepth 20000 in
theorem gX10_mixedWithSettings_X10_tariff : GoodIn wsX10_mixedWithSettings (wsV RX10 268 RX10 yX10_tariff wsX10_tariff) := goodIn_app (goodIn_of _ (by decide +kernel)) ggX10_mixedWithSettings_X10_tariff
set_option maxRecDepth 20000 in
theorem ggX10_mixedWithSettings_X10_demand : GoodIn wsX10_mixedWithSettings wsX10_demand := goodIn_r _ [30, 6, 31, 32, 33, 34, 35, 36, 37, 38, 39, 40, 41, 42, 43, 44, 45, 46, 47, 48, 49, 50, 51, 52, 53, 10, 4, 11, 54, 55, 87, 88, 89, 90, 91, 92, 93, 94, 95, 96, 97, 98, 100, 101, 102, 99] (by decide +kernel) (by decide +kernel)
set_option maxRecDepth 20000 in
theorem gX10_mixedWithSettings_X10_demand : GoodIn wsX10_mixedWithSettings (wsV RX10 271 RX10 yX10_demand wsX10_demand) := goodIn_app (goodIn_of _ (by decide +kernel)) ggX10_mixedWithSettings_X10_demand
set_option maxRecDepth 20000 in
theorem ggX10_mixedWithSettings_X10_target : GoodIn wsX10_mixedWithSettings wsX10_target := goodIn_r _ [59, 6, 31, 32, 33, 34, 60, 61, 62, 38, 63, 64, 41, 42, 65, 40, 10, 4, 11, 66, 67, 68, 69, 70, 71, 72, 73, 74, 75, 76, 77, 54, 55, 48, 49, 50, 51, 52, 53, 87, 88, 89, 90, 91, 92, 93, 94, 95, 96, 97, 98, 100, 101, 102, 103, 104, 105, 99] (by decide +kernel) (by decide +kernel)
set_option maxRecDepth 20000 in
theorem gX10_mixedWithSettings_X10_target : GoodIn wsX10_mixedWithSettings (wsV RX10 274 RX10 yX10_target wsX10_target) := goodIn_app (goodIn_of _ (by decide +kernel)) ggX10_mixedWithSettings_X10_target
set_option maxRecDepth 20000 in
theorem ggX10_mixedWithSettings_X10_supply : GoodIn wsX10_mixedWithSettings wsX10_supply := goodIn_r _ [81, 6, 82, 83, 84, 33, 85, 86, 67, 68, 69, 70, 71, 72, 73, 74, 75, 76, 77, 10, 4, 11, 54, 55, 87, 88, 89, 90, 91, 92, 93, 94, 95, 96, 97, 98, 103, 104, 105] (by decide +kernel) (by decide +kernel)
set_option maxRecDepth 20000 in
theorem gX10_mixedWithSettings_X10_supply : GoodIn wsX10_mixedWithSettings (wsV RX10 277 RX10 yX10_supply wsX10_supply) := goodIn_app (goodIn_of _ (by decide +kernel)) ggX10_mixedWithSettings_X10_supply
theorem dX10_mixedWithSettings_0 : decode cX10_mixedWithSettings 0 = .ok (.lload_n 1, 1) := by decide +kernel
theorem dX10_mixedWithSettings_1 : decode cX10_mixedWithSettings 1 = .ok (.lstore_n 3, 1) := by decide +kernel
theorem dX10_mixedWithSettings_2 : decode cX10_mixedWithSettings 2 = .ok (.iconst 0, 1) := by decide +kernel
theorem dX10_mixedWithSettings_3 : decode cX10_mixedWithSettings 3 = .ok (.istore 5, 2) := by decide +kernel
theorem dX10_mixedWithSettings_5 : decode cX10_mixedWithSettings 5 = .ok (.iload 5, 2) := by decide +kernel
theorem dX10_mixedWithSettings_7 : decode cX10_mixedWithSettings 7 = .ok (.bipush 17, 2) := by decide +kernel
theorem dX10_mixedWithSettings_9 : decode cX10_mixedWithSettings 9 = .ok (.if_icmp .ge 21, 3) := by decide +kernel
theorem dX10_mixedWithSettings_12 : decode cX10_mixedWithSettings 12 = .ok (.lload_n 3, 1) := by decide +kernel
theorem dX10_mixedWithSettings_13 : decode cX10_mixedWithSettings 13 = .ok (.aload_n 0, 1) := by decide +kernel
theorem dX10_mixedWithSettings_14 : decode cX10_mixedWithSettings 14 = .ok (.iload 5, 2) := by decide +kernel
theorem dX10_mixedWithSettings_16 : decode cX10_mixedWithSettings 16 = .ok (.invokevirtual 262, 3) := by decide +kernel
theorem dX10_mixedWithSettings_19 : decode cX10_mixedWithSettings 19 = .ok (.i2l, 1) := by decide +kernel
theorem dX10_mixedWithSettings_20 : decode cX10_mixedWithSettings 20 = .ok (.invokestatic 244, 3) := by decide +kernel
theorem dX10_mixedWithSettings_23 : decode cX10_mixedWithSettings 23 = .ok (.lstore_n 3, 1) := by decide +kernel
theorem dX10_mixedWithSettings_24 : decode cX10_mixedWithSettings 24 = .ok (.iinc 5 1, 3) := by decide +kernel
theorem dX10_mixedWithSettings_27 : decode cX10_mixedWithSettings 27 = .ok (.goto (-22), 3) := by decide +kernel
theorem dX10_mixedWithSettings_30 : decode cX10_mixedWithSettings 30 = .ok (.iconst 0, 1) := by decide +kernel
theorem dX10_mixedWithSettings_31 : decode cX10_mixedWithSettings 31 = .ok (.istore 5, 2) := by decide +kernel
theorem dX10_mixedWithSettings_33 : decode cX10_mixedWithSettings 33 = .ok (.iload 5, 2) := by decide +kernel
theorem dX10_mixedWithSettings_35 : decode cX10_mixedWithSettings 35 = .ok (.bipush 24, 2) := by decide +kernel
theorem dX10_mixedWithSettings_37 : decode cX10_mixedWithSettings 37 = .ok (.if_icmp .ge 57, 3) := by decide +kernel
theorem dX10_mixedWithSettings_40 : decode cX10_mixedWithSettings 40 = .ok (.lload_n 3, 1) := by decide +kernel
theorem dX10_mixedWithSettings_41 : decode cX10_mixedWithSettings 41 = .ok (.aload_n 0, 1) := by decide +kernel
theorem dX10_mixedWithSettings_42 : decode cX10_mixedWithSettings 42 = .ok (.iload 5, 2) := by decide +kernel
theorem dX10_mixedWithSettings_44 : decode cX10_mixedWithSettings 44 = .ok (.invokevirtual 265, 3) := by decide +kernel
theorem dX10_mixedWithSettings_47 : decode cX10_mixedWithSettings 47 = .ok (.i2l, 1) := by decide +kernel
theorem dX10_mixedWithSettings_48 : decode cX10_mixedWithSettings 48 = .ok (.invokestatic 244, 3) := by decide +kernel
theorem dX10_mixedWithSettings_51 : decode cX10_mixedWithSettings 51 = .ok (.lstore_n 3, 1) := by decide +kernel
theorem dX10_mixedWithSettings_52 : decode cX10_mixedWithSettings 52 = .ok (.lload_n 3, 1) := by decide +kernel
theorem dX10_mixedWithSettings_53 : decode cX10_mixedWithSettings 53 = .ok (.aload_n 0, 1) := by decide +kernel
theorem dX10_mixedWithSettings_54 : decode cX10_mixedWithSettings 54 = .ok (.iload 5, 2) := by decide +kernel
theorem dX10_mixedWithSettings_56 : decode cX10_mixedWithSettings 56 = .ok (.invokevirtual 268, 3) := by decide +kernel
theorem dX10_mixedWithSettings_59 : decode cX10_mixedWithSettings 59 = .ok (.i2l, 1) := by decide +kernel
theorem dX10_mixedWithSettings_60 : decode cX10_mixedWithSettings 60 = .ok (.invokestatic 244, 3) := by decide +kernel
theorem dX10_mixedWithSettings_63 : decode cX10_mixedWithSettings 63 = .ok (.lstore_n 3, 1) := by decide +kernel
theorem dX10_mixedWithSettings_64 : decode cX10_mixedWithSettings 64 = .ok (.lload_n 3, 1) := by decide +kernel
theorem dX10_mixedWithSettings_65 : decode cX10_mixedWithSettings 65 = .ok (.aload_n 0, 1) := by decide +kernel
theorem dX10_mixedWithSettings_66 : decode cX10_mixedWithSettings 66 = .ok (.iload 5, 2) := by decide +kernel
theorem dX10_mixedWithSettings_68 : decode cX10_mixedWithSettings 68 = .ok (.invokevirtual 271, 3) := by decide +kernel
theorem dX10_mixedWithSettings_71 : decode cX10_mixedWithSettings 71 = .ok (.i2l, 1) := by decide +kernel
theorem dX10_mixedWithSettings_72 : decode cX10_mixedWithSettings 72 = .ok (.invokestatic 244, 3) := by decide +kernel
theorem dX10_mixedWithSettings_75 : decode cX10_mixedWithSettings 75 = .ok (.lstore_n 3, 1) := by decide +kernel
theorem dX10_mixedWithSettings_76 : decode cX10_mixedWithSettings 76 = .ok (.lload_n 3, 1) := by decide +kernel
theorem dX10_mixedWithSettings_77 : decode cX10_mixedWithSettings 77 = .ok (.aload_n 0, 1) := by decide +kernel
theorem dX10_mixedWithSettings_78 : decode cX10_mixedWithSettings 78 = .ok (.iload 5, 2) := by decide +kernel
theorem dX10_mixedWithSettings_80 : decode cX10_mixedWithSettings 80 = .ok (.invokevirtual 274, 3) := by decide +kernel
theorem dX10_mixedWithSettings_83 : decode cX10_mixedWithSettings 83 = .ok (.i2l, 1) := by decide +kernel
theorem dX10_mixedWithSettings_84 : decode cX10_mixedWithSettings 84 = .ok (.invokestatic 244, 3) := by decide +kernel
theorem dX10_mixedWithSettings_87 : decode cX10_mixedWithSettings 87 = .ok (.lstore_n 3, 1) := by decide +kernel
theorem dX10_mixedWithSettings_88 : decode cX10_mixedWithSettings 88 = .ok (.iinc 5 1, 3) := by decide +kernel
theorem dX10_mixedWithSettings_91 : decode cX10_mixedWithSettings 91 = .ok (.goto (-58), 3) := by decide +kernel
theorem dX10_mixedWithSettings_94 : decode cX10_mixedWithSettings 94 = .ok (.sipush (-300), 3) := by decide +kernel
theorem dX10_mixedWithSettings_97 : decode cX10_mixedWithSettings 97 = .ok (.istore 5, 2) := by decide +kernel
theorem dX10_mixedWithSettings_99 : decode cX10_mixedWithSettings 99 = .ok (.iload 5, 2) := by decide +kernel
theorem dX10_mixedWithSettings_101 : decode cX10_mixedWithSettings 101 = .ok (.sipush 400, 3) := by decide +kernel
theorem dX10_mixedWithSettings_104 : decode cX10_mixedWithSettings 104 = .ok (.if_icmp .gt 21, 3) := by decide +kernel
theorem dX10_mixedWithSettings_107 : decode cX10_mixedWithSettings 107 = .ok (.lload_n 3, 1) := by decide +kernel
theorem dX10_mixedWithSettings_108 : decode cX10_mixedWithSettings 108 = .ok (.aload_n 0, 1) := by decide +kernel
theorem dX10_mixedWithSettings_109 : decode cX10_mixedWithSettings 109 = .ok (.iload 5, 2) := by decide +kernel
theorem dX10_mixedWithSettings_111 : decode cX10_mixedWithSettings 111 = .ok (.invokevirtual 277, 3) := by decide +kernel
theorem dX10_mixedWithSettings_114 : decode cX10_mixedWithSettings 114 = .ok (.i2l, 1) := by decide +kernel
theorem dX10_mixedWithSettings_115 : decode cX10_mixedWithSettings 115 = .ok (.invokestatic 244, 3) := by decide +kernel
theorem dX10_mixedWithSettings_118 : decode cX10_mixedWithSettings 118 = .ok (.lstore_n 3, 1) := by decide +kernel
theorem dX10_mixedWithSettings_119 : decode cX10_mixedWithSettings 119 = .ok (.iinc 5 100, 3) := by decide +kernel
theorem dX10_mixedWithSettings_122 : decode cX10_mixedWithSettings 122 = .ok (.goto (-23), 3) := by decide +kernel
theorem dX10_mixedWithSettings_125 : decode cX10_mixedWithSettings 125 = .ok (.lload_n 3, 1) := by decide +kernel
theorem dX10_mixedWithSettings_126 : decode cX10_mixedWithSettings 126 = .ok (.lreturn, 1) := by decide +kernel
set_option maxRecDepth 20000 in
theorem ggX10_mixedWithBuffer_X10_temperature : GoodIn wsX10_mixedWithBuffer wsX10_temperature := goodIn_r _ [5, 6, 7, 8, 9, 10, 11, 12, 13, 14, 15, 16, 4, 17, 30, 31, 32, 33, 34, 35, 36, 37, 38, 39, 40, 41, 42, 43] (by decide +kernel) (by decide +kernel)
set_option maxRecDepth 20000 in
theorem gX10_mixedWithBuffer_X10_temperature : GoodIn wsX10_mixedWithBuffer (wsV RX10 280 RX10 yX10_temperature wsX10_temperature) := goodIn_app (goodIn_of _ (by decide +kernel)) ggX10_mixedWithBuffer_X10_temperature
set_option maxRecDepth 20000 in
theorem ggX10_mixedWithBuffer_X10_mixed : GoodIn wsX10_mixedWithBuffer wsX10_mixed := goodIn_r _ [20, 21] (by decide +kernel) (by decide +kernel)
set_option maxRecDepth 20000 in
theorem gX10_mixedWithBuffer_X10_mixed : GoodIn wsX10_mixedWithBuffer (va_wsS RX10 244 yX10_mixed wsX10_mixed) := goodIn_app (goodIn_of _ (by decide +kernel)) ggX10_mixedWithBuffer_X10_mixed
set_option maxRecDepth 20000 in
theorem ggX10_mixedWithBuffer_X10_stored : GoodIn wsX10_mixedWithBuffer wsX10_stored := goodIn_r _ [25, 6, 7, 26, 27, 28, 11, 29, 13, 30, 31, 32, 33, 34, 35, 36, 37, 38, 39, 40, 41, 42, 43] (by decide +kernel) (by decide +kernel)
set_option maxRecDepth 20000 in
theorem gX10_mixedWithBuffer_X10_stored : GoodIn wsX10_mixedWithBuffer (wsV RX10 283 RX10 yX10_stored wsX10_stored) := goodIn_app (goodIn_of _ (by decide +kernel)) ggX10_mixedWithBuffer_X10_stored
theorem dX10_mixedWithBuffer_0 : decode cX10_mixedWithBuffer 0 = .ok (.lload_n 1, 1) := by decide +kernel
theorem dX10_mixedWithBuffer_1 : decode cX10_mixedWithBuffer 1 = .ok (.lstore_n 3, 1) := by decide +kernel
theorem dX10_mixedWithBuffer_2 : decode cX10_mixedWithBuffer 2 = .ok (.iconst 0, 1) := by decide +kernel
theorem dX10_mixedWithBuffer_3 : decode cX10_mixedWithBuffer 3 = .ok (.istore 5, 2) := by decide +kernel
theorem dX10_mixedWithBuffer_5 : decode cX10_mixedWithBuffer 5 = .ok (.iload 5, 2) := by decide +kernel
theorem dX10_mixedWithBuffer_7 : decode cX10_mixedWithBuffer 7 = .ok (.iconst 4, 1) := by decide +kernel
theorem dX10_mixedWithBuffer_8 : decode cX10_mixedWithBuffer 8 = .ok (.if_icmp .ge 21, 3) := by decide +kernel
theorem dX10_mixedWithBuffer_11 : decode cX10_mixedWithBuffer 11 = .ok (.lload_n 3, 1) := by decide +kernel
theorem dX10_mixedWithBuffer_12 : decode cX10_mixedWithBuffer 12 = .ok (.aload_n 0, 1) := by decide +kernel
theorem dX10_mixedWithBuffer_13 : decode cX10_mixedWithBuffer 13 = .ok (.iload 5, 2) := by decide +kernel
theorem dX10_mixedWithBuffer_15 : decode cX10_mixedWithBuffer 15 = .ok (.invokevirtual 280, 3) := by decide +kernel
theorem dX10_mixedWithBuffer_18 : decode cX10_mixedWithBuffer 18 = .ok (.i2l, 1) := by decide +kernel
theorem dX10_mixedWithBuffer_19 : decode cX10_mixedWithBuffer 19 = .ok (.invokestatic 244, 3) := by decide +kernel
theorem dX10_mixedWithBuffer_22 : decode cX10_mixedWithBuffer 22 = .ok (.lstore_n 3, 1) := by decide +kernel
theorem dX10_mixedWithBuffer_23 : decode cX10_mixedWithBuffer 23 = .ok (.iinc 5 1, 3) := by decide +kernel
theorem dX10_mixedWithBuffer_26 : decode cX10_mixedWithBuffer 26 = .ok (.goto (-21), 3) := by decide +kernel
theorem dX10_mixedWithBuffer_29 : decode cX10_mixedWithBuffer 29 = .ok (.lload_n 3, 1) := by decide +kernel
theorem dX10_mixedWithBuffer_30 : decode cX10_mixedWithBuffer 30 = .ok (.aload_n 0, 1) := by decide +kernel
theorem dX10_mixedWithBuffer_31 : decode cX10_mixedWithBuffer 31 = .ok (.invokevirtual 283, 3) := by decide +kernel
theorem dX10_mixedWithBuffer_34 : decode cX10_mixedWithBuffer 34 = .ok (.invokestatic 244, 3) := by decide +kernel
theorem dX10_mixedWithBuffer_37 : decode cX10_mixedWithBuffer 37 = .ok (.lreturn, 1) := by decide +kernel
set_option maxRecDepth 20000 in
theorem ggX10_mixedWithSimulation_X10_pump : GoodIn wsX10_mixedWithSimulation wsX10_pump := goodIn_r _ [5, 6, 7, 8, 47, 48, 49, 50, 51, 52, 53, 54, 55, 56, 57, 58, 59, 60, 61, 62, 63, 64, 65] (by decide +kernel) (by decide +kernel)
set_option maxRecDepth 20000 in
theorem gX10_mixedWithSimulation_X10_pump : GoodIn wsX10_mixedWithSimulation (wsV RX10 286 RX10 yX10_pump wsX10_pump) := goodIn_app (goodIn_of _ (by decide +kernel)) ggX10_mixedWithSimulation_X10_pump
set_option maxRecDepth 20000 in
theorem ggX10_mixedWithSimulation_X10_mixed : GoodIn wsX10_mixedWithSimulation wsX10_mixed := goodIn_r _ [11, 12] (by decide +kernel) (by decide +kernel)
set_option maxRecDepth 20000 in
theorem gX10_mixedWithSimulation_X10_mixed : GoodIn wsX10_mixedWithSimulation (va_wsS RX10 244 yX10_mixed wsX10_mixed) := goodIn_app (goodIn_of _ (by decide +kernel)) ggX10_mixedWithSimulation_X10_mixed
set_option maxRecDepth 20000 in
theorem ggX10_mixedWithSimulation_X10_reason : GoodIn wsX10_mixedWithSimulation wsX10_reason := goodIn_r _ [16, 6, 17, 18, 47, 48, 49, 50, 51, 52, 53, 54, 55, 56, 57, 58, 66, 67, 68, 69, 70, 71, 72, 73, 74, 75, 76] (by decide +kernel) (by decide +kernel)
set_option maxRecDepth 20000 in
theorem gX10_mixedWithSimulation_X10_reason : GoodIn wsX10_mixedWithSimulation (wsV RX10 288 RX10 yX10_reason wsX10_reason) := goodIn_app (goodIn_of _ (by decide +kernel)) ggX10_mixedWithSimulation_X10_reason
set_option maxRecDepth 20000 in
theorem ggX10_mixedWithSimulation_X10_minutesWith : GoodIn wsX10_mixedWithSimulation wsX10_minutesWith := goodIn_r _ [22, 6, 17, 23, 24, 25, 4, 26, 47, 48, 49, 50, 51, 52, 53, 54, 55, 56, 57, 58, 66, 67, 68, 69, 70, 71, 72, 73, 74, 75, 76] (by decide +kernel) (by decide +kernel)
set_option maxRecDepth 20000 in
theorem gX10_mixedWithSimulation_X10_minutesWith : GoodIn wsX10_mixedWithSimulation (wsV RX10 291 RX10 yX10_minutesWith wsX10_minutesWith) := goodIn_app (goodIn_of _ (by decide +kernel)) ggX10_mixedWithSimulation_X10_minutesWith
set_option maxRecDepth 20000 in
theorem ggX10_mixedWithSimulation_X10_startsLastHour : GoodIn wsX10_mixedWithSimulation wsX10_startsLastHour := goodIn_r _ [30, 6, 7, 31, 47, 48, 49, 50, 51, 52, 53, 54, 55, 56, 57, 58, 59, 60, 61, 62, 63, 64, 65] (by decide +kernel) (by decide +kernel)
set_option maxRecDepth 20000 in
theorem gX10_mixedWithSimulation_X10_startsLastHour : GoodIn wsX10_mixedWithSimulation (wsV RX10 294 RX10 yX10_startsLastHour wsX10_startsLastHour) := goodIn_app (goodIn_of _ (by decide +kernel)) ggX10_mixedWithSimulation_X10_startsLastHour
set_option maxRecDepth 20000 in
theorem ggX10_mixedWithSimulation_X10_starts : GoodIn wsX10_mixedWithSimulation wsX10_starts := goodIn_r _ [35, 6, 17, 36, 47, 48, 49, 50, 51, 52, 53, 54, 55, 56, 57, 58, 66, 67, 68, 69, 70, 71, 72, 73, 74, 75, 76] (by decide +kernel) (by decide +kernel)
set_option maxRecDepth 20000 in
theorem gX10_mixedWithSimulation_X10_starts : GoodIn wsX10_mixedWithSimulation (wsV RX10 297 RX10 yX10_starts wsX10_starts) := goodIn_app (goodIn_of _ (by decide +kernel)) ggX10_mixedWithSimulation_X10_starts
set_option maxRecDepth 20000 in
theorem ggX10_mixedWithSimulation_X10_defrosts : GoodIn wsX10_mixedWithSimulation wsX10_defrosts := goodIn_r _ [40, 6, 17, 41, 47, 48, 49, 50, 51, 52, 53, 54, 55, 56, 57, 58, 66, 67, 68, 69, 70, 71, 72, 73, 74, 75, 76] (by decide +kernel) (by decide +kernel)
set_option maxRecDepth 20000 in
theorem gX10_mixedWithSimulation_X10_defrosts : GoodIn wsX10_mixedWithSimulation (wsV RX10 299 RX10 yX10_defrosts wsX10_defrosts) := goodIn_app (goodIn_of _ (by decide +kernel)) ggX10_mixedWithSimulation_X10_defrosts
set_option maxRecDepth 20000 in
theorem ggX10_mixedWithSimulation_X10_frost : GoodIn wsX10_mixedWithSimulation wsX10_frost := goodIn_r _ [45, 6, 7, 46, 47, 48, 49, 50, 51, 52, 53, 54, 55, 56, 57, 58, 59, 60, 61, 62, 63, 64, 65] (by decide +kernel) (by decide +kernel)
set_option maxRecDepth 20000 in
theorem gX10_mixedWithSimulation_X10_frost : GoodIn wsX10_mixedWithSimulation (wsV RX10 301 RX10 yX10_frost wsX10_frost) := goodIn_app (goodIn_of _ (by decide +kernel)) ggX10_mixedWithSimulation_X10_frost
theorem dX10_mixedWithSimulation_0 : decode cX10_mixedWithSimulation 0 = .ok (.lload_n 1, 1) := by decide +kernel
theorem dX10_mixedWithSimulation_1 : decode cX10_mixedWithSimulation 1 = .ok (.aload_n 0, 1) := by decide +kernel
theorem dX10_mixedWithSimulation_2 : decode cX10_mixedWithSimulation 2 = .ok (.invokevirtual 286, 3) := by decide +kernel
theorem dX10_mixedWithSimulation_5 : decode cX10_mixedWithSimulation 5 = .ok (.i2l, 1) := by decide +kernel
theorem dX10_mixedWithSimulation_6 : decode cX10_mixedWithSimulation 6 = .ok (.invokestatic 244, 3) := by decide +kernel
theorem dX10_mixedWithSimulation_9 : decode cX10_mixedWithSimulation 9 = .ok (.lstore_n 3, 1) := by decide +kernel
theorem dX10_mixedWithSimulation_10 : decode cX10_mixedWithSimulation 10 = .ok (.lload_n 3, 1) := by decide +kernel
theorem dX10_mixedWithSimulation_11 : decode cX10_mixedWithSimulation 11 = .ok (.aload_n 0, 1) := by decide +kernel
theorem dX10_mixedWithSimulation_12 : decode cX10_mixedWithSimulation 12 = .ok (.invokevirtual 288, 3) := by decide +kernel
theorem dX10_mixedWithSimulation_15 : decode cX10_mixedWithSimulation 15 = .ok (.i2l, 1) := by decide +kernel
theorem dX10_mixedWithSimulation_16 : decode cX10_mixedWithSimulation 16 = .ok (.invokestatic 244, 3) := by decide +kernel
theorem dX10_mixedWithSimulation_19 : decode cX10_mixedWithSimulation 19 = .ok (.lstore_n 3, 1) := by decide +kernel
theorem dX10_mixedWithSimulation_20 : decode cX10_mixedWithSimulation 20 = .ok (.iconst 0, 1) := by decide +kernel
theorem dX10_mixedWithSimulation_21 : decode cX10_mixedWithSimulation 21 = .ok (.istore 5, 2) := by decide +kernel
theorem dX10_mixedWithSimulation_23 : decode cX10_mixedWithSimulation 23 = .ok (.iload 5, 2) := by decide +kernel
theorem dX10_mixedWithSimulation_25 : decode cX10_mixedWithSimulation 25 = .ok (.bipush 12, 2) := by decide +kernel
theorem dX10_mixedWithSimulation_27 : decode cX10_mixedWithSimulation 27 = .ok (.if_icmp .ge 21, 3) := by decide +kernel
theorem dX10_mixedWithSimulation_30 : decode cX10_mixedWithSimulation 30 = .ok (.lload_n 3, 1) := by decide +kernel
theorem dX10_mixedWithSimulation_31 : decode cX10_mixedWithSimulation 31 = .ok (.aload_n 0, 1) := by decide +kernel
theorem dX10_mixedWithSimulation_32 : decode cX10_mixedWithSimulation 32 = .ok (.iload 5, 2) := by decide +kernel
theorem dX10_mixedWithSimulation_34 : decode cX10_mixedWithSimulation 34 = .ok (.invokevirtual 291, 3) := by decide +kernel
theorem dX10_mixedWithSimulation_37 : decode cX10_mixedWithSimulation 37 = .ok (.i2l, 1) := by decide +kernel
theorem dX10_mixedWithSimulation_38 : decode cX10_mixedWithSimulation 38 = .ok (.invokestatic 244, 3) := by decide +kernel
theorem dX10_mixedWithSimulation_41 : decode cX10_mixedWithSimulation 41 = .ok (.lstore_n 3, 1) := by decide +kernel
theorem dX10_mixedWithSimulation_42 : decode cX10_mixedWithSimulation 42 = .ok (.iinc 5 1, 3) := by decide +kernel
theorem dX10_mixedWithSimulation_45 : decode cX10_mixedWithSimulation 45 = .ok (.goto (-22), 3) := by decide +kernel
theorem dX10_mixedWithSimulation_48 : decode cX10_mixedWithSimulation 48 = .ok (.lload_n 3, 1) := by decide +kernel
theorem dX10_mixedWithSimulation_49 : decode cX10_mixedWithSimulation 49 = .ok (.aload_n 0, 1) := by decide +kernel
theorem dX10_mixedWithSimulation_50 : decode cX10_mixedWithSimulation 50 = .ok (.invokevirtual 294, 3) := by decide +kernel
theorem dX10_mixedWithSimulation_53 : decode cX10_mixedWithSimulation 53 = .ok (.i2l, 1) := by decide +kernel
theorem dX10_mixedWithSimulation_54 : decode cX10_mixedWithSimulation 54 = .ok (.invokestatic 244, 3) := by decide +kernel
theorem dX10_mixedWithSimulation_57 : decode cX10_mixedWithSimulation 57 = .ok (.lstore_n 3, 1) := by decide +kernel
theorem dX10_mixedWithSimulation_58 : decode cX10_mixedWithSimulation 58 = .ok (.lload_n 3, 1) := by decide +kernel
theorem dX10_mixedWithSimulation_59 : decode cX10_mixedWithSimulation 59 = .ok (.aload_n 0, 1) := by decide +kernel
theorem dX10_mixedWithSimulation_60 : decode cX10_mixedWithSimulation 60 = .ok (.invokevirtual 297, 3) := by decide +kernel
theorem dX10_mixedWithSimulation_63 : decode cX10_mixedWithSimulation 63 = .ok (.i2l, 1) := by decide +kernel
theorem dX10_mixedWithSimulation_64 : decode cX10_mixedWithSimulation 64 = .ok (.invokestatic 244, 3) := by decide +kernel
theorem dX10_mixedWithSimulation_67 : decode cX10_mixedWithSimulation 67 = .ok (.lstore_n 3, 1) := by decide +kernel
theorem dX10_mixedWithSimulation_68 : decode cX10_mixedWithSimulation 68 = .ok (.lload_n 3, 1) := by decide +kernel
theorem dX10_mixedWithSimulation_69 : decode cX10_mixedWithSimulation 69 = .ok (.aload_n 0, 1) := by decide +kernel
theorem dX10_mixedWithSimulation_70 : decode cX10_mixedWithSimulation 70 = .ok (.invokevirtual 299, 3) := by decide +kernel
theorem dX10_mixedWithSimulation_73 : decode cX10_mixedWithSimulation 73 = .ok (.i2l, 1) := by decide +kernel
theorem dX10_mixedWithSimulation_74 : decode cX10_mixedWithSimulation 74 = .ok (.invokestatic 244, 3) := by decide +kernel
theorem dX10_mixedWithSimulation_77 : decode cX10_mixedWithSimulation 77 = .ok (.lstore_n 3, 1) := by decide +kernel
theorem dX10_mixedWithSimulation_78 : decode cX10_mixedWithSimulation 78 = .ok (.lload_n 3, 1) := by decide +kernel
theorem dX10_mixedWithSimulation_79 : decode cX10_mixedWithSimulation 79 = .ok (.aload_n 0, 1) := by decide +kernel
theorem dX10_mixedWithSimulation_80 : decode cX10_mixedWithSimulation 80 = .ok (.invokevirtual 301, 3) := by decide +kernel
theorem dX10_mixedWithSimulation_83 : decode cX10_mixedWithSimulation 83 = .ok (.i2l, 1) := by decide +kernel
theorem dX10_mixedWithSimulation_84 : decode cX10_mixedWithSimulation 84 = .ok (.invokestatic 244, 3) := by decide +kernel
theorem dX10_mixedWithSimulation_87 : decode cX10_mixedWithSimulation 87 = .ok (.lreturn, 1) := by decide +kernel
set_option maxRecDepth 20000 in
theorem ggX10_mixedWithAccounts_X10_produced : GoodIn wsX10_mixedWithAccounts wsX10_produced := goodIn_r _ [5, 6, 7, 8, 43, 44, 45, 46, 47, 48, 49, 50, 51, 52, 53, 54, 55, 56, 57, 58, 59, 60, 61, 62, 63, 64, 65] (by decide +kernel) (by decide +kernel)
set_option maxRecDepth 20000 in
theorem gX10_mixedWithAccounts_X10_produced : GoodIn wsX10_mixedWithAccounts (wsV RX10 303 RX10 yX10_produced wsX10_produced) := goodIn_app (goodIn_of _ (by decide +kernel)) ggX10_mixedWithAccounts_X10_produced
set_option maxRecDepth 20000 in
theorem ggX10_mixedWithAccounts_X10_mixed : GoodIn wsX10_mixedWithAccounts wsX10_mixed := goodIn_r _ [11, 12] (by decide +kernel) (by decide +kernel)
set_option maxRecDepth 20000 in
theorem gX10_mixedWithAccounts_X10_mixed : GoodIn wsX10_mixedWithAccounts (va_wsS RX10 244 yX10_mixed wsX10_mixed) := goodIn_app (goodIn_of _ (by decide +kernel)) ggX10_mixedWithAccounts_X10_mixed
set_option maxRecDepth 20000 in
theorem ggX10_mixedWithAccounts_X10_defrostHeat : GoodIn wsX10_mixedWithAccounts wsX10_defrostHeat := goodIn_r _ [16, 6, 7, 17, 43, 44, 45, 46, 47, 48, 49, 50, 51, 52, 53, 54, 55, 56, 57, 58, 59, 60, 61, 62, 63, 64, 65] (by decide +kernel) (by decide +kernel)
set_option maxRecDepth 20000 in
theorem gX10_mixedWithAccounts_X10_defrostHeat : GoodIn wsX10_mixedWithAccounts (wsV RX10 305 RX10 yX10_defrostHeat wsX10_defrostHeat) := goodIn_app (goodIn_of _ (by decide +kernel)) ggX10_mixedWithAccounts_X10_defrostHeat
set_option maxRecDepth 20000 in
theorem ggX10_mixedWithAccounts_X10_drawn : GoodIn wsX10_mixedWithAccounts wsX10_drawn := goodIn_r _ [21, 6, 7, 22, 43, 44, 45, 46, 47, 48, 49, 50, 51, 52, 53, 54, 55, 56, 57, 58, 59, 60, 61, 62, 63, 64, 65] (by decide +kernel) (by decide +kernel)
set_option maxRecDepth 20000 in
theorem gX10_mixedWithAccounts_X10_drawn : GoodIn wsX10_mixedWithAccounts (wsV RX10 307 RX10 yX10_drawn wsX10_drawn) := goodIn_app (goodIn_of _ (by decide +kernel)) ggX10_mixedWithAccounts_X10_drawn
set_option maxRecDepth 20000 in
theorem ggX10_mixedWithAccounts_X10_unmet : GoodIn wsX10_mixedWithAccounts wsX10_unmet := goodIn_r _ [26, 6, 7, 27, 43, 44, 45, 46, 47, 48, 49, 50, 51, 52, 53, 54, 55, 56, 57, 58, 59, 60, 61, 62, 63, 64, 65] (by decide +kernel) (by decide +kernel)
set_option maxRecDepth 20000 in
theorem gX10_mixedWithAccounts_X10_unmet : GoodIn wsX10_mixedWithAccounts (wsV RX10 309 RX10 yX10_unmet wsX10_unmet) := goodIn_app (goodIn_of _ (by decide +kernel)) ggX10_mixedWithAccounts_X10_unmet
set_option maxRecDepth 20000 in
theorem ggX10_mixedWithAccounts_X10_lost : GoodIn wsX10_mixedWithAccounts wsX10_lost := goodIn_r _ [31, 6, 7, 32, 43, 44, 45, 46, 47, 48, 49, 50, 51, 52, 53, 54, 55, 56, 57, 58, 59, 60, 61, 62, 63, 64, 65] (by decide +kernel) (by decide +kernel)
set_option maxRecDepth 20000 in
theorem gX10_mixedWithAccounts_X10_lost : GoodIn wsX10_mixedWithAccounts (wsV RX10 311 RX10 yX10_lost wsX10_lost) := goodIn_app (goodIn_of _ (by decide +kernel)) ggX10_mixedWithAccounts_X10_lost
set_option maxRecDepth 20000 in
theorem ggX10_mixedWithAccounts_X10_electricity : GoodIn wsX10_mixedWithAccounts wsX10_electricity := goodIn_r _ [36, 6, 7, 37, 43, 44, 45, 46, 47, 48, 49, 50, 51, 52, 53, 54, 55, 56, 57, 58, 59, 60, 61, 62, 63, 64, 65] (by decide +kernel) (by decide +kernel)
set_option maxRecDepth 20000 in
theorem gX10_mixedWithAccounts_X10_electricity : GoodIn wsX10_mixedWithAccounts (wsV RX10 313 RX10 yX10_electricity wsX10_electricity) := goodIn_app (goodIn_of _ (by decide +kernel)) ggX10_mixedWithAccounts_X10_electricity
set_option maxRecDepth 20000 in
theorem ggX10_mixedWithAccounts_X10_cost : GoodIn wsX10_mixedWithAccounts wsX10_cost := goodIn_r _ [41, 6, 7, 42, 43, 44, 45, 46, 47, 48, 49, 50, 51, 52, 53, 54, 55, 56, 57, 58, 59, 60, 61, 62, 63, 64, 65] (by decide +kernel) (by decide +kernel)
set_option maxRecDepth 20000 in
theorem gX10_mixedWithAccounts_X10_cost : GoodIn wsX10_mixedWithAccounts (wsV RX10 315 RX10 yX10_cost wsX10_cost) := goodIn_app (goodIn_of _ (by decide +kernel)) ggX10_mixedWithAccounts_X10_cost
theorem dX10_mixedWithAccounts_0 : decode cX10_mixedWithAccounts 0 = .ok (.lload_n 1, 1) := by decide +kernel
theorem dX10_mixedWithAccounts_1 : decode cX10_mixedWithAccounts 1 = .ok (.aload_n 0, 1) := by decide +kernel
theorem dX10_mixedWithAccounts_2 : decode cX10_mixedWithAccounts 2 = .ok (.invokevirtual 303, 3) := by decide +kernel
theorem dX10_mixedWithAccounts_5 : decode cX10_mixedWithAccounts 5 = .ok (.invokestatic 244, 3) := by decide +kernel
theorem dX10_mixedWithAccounts_8 : decode cX10_mixedWithAccounts 8 = .ok (.lstore_n 3, 1) := by decide +kernel
theorem dX10_mixedWithAccounts_9 : decode cX10_mixedWithAccounts 9 = .ok (.lload_n 3, 1) := by decide +kernel
theorem dX10_mixedWithAccounts_10 : decode cX10_mixedWithAccounts 10 = .ok (.aload_n 0, 1) := by decide +kernel
theorem dX10_mixedWithAccounts_11 : decode cX10_mixedWithAccounts 11 = .ok (.invokevirtual 305, 3) := by decide +kernel
theorem dX10_mixedWithAccounts_14 : decode cX10_mixedWithAccounts 14 = .ok (.invokestatic 244, 3) := by decide +kernel
theorem dX10_mixedWithAccounts_17 : decode cX10_mixedWithAccounts 17 = .ok (.lstore_n 3, 1) := by decide +kernel
theorem dX10_mixedWithAccounts_18 : decode cX10_mixedWithAccounts 18 = .ok (.lload_n 3, 1) := by decide +kernel
theorem dX10_mixedWithAccounts_19 : decode cX10_mixedWithAccounts 19 = .ok (.aload_n 0, 1) := by decide +kernel
theorem dX10_mixedWithAccounts_20 : decode cX10_mixedWithAccounts 20 = .ok (.invokevirtual 307, 3) := by decide +kernel
theorem dX10_mixedWithAccounts_23 : decode cX10_mixedWithAccounts 23 = .ok (.invokestatic 244, 3) := by decide +kernel
theorem dX10_mixedWithAccounts_26 : decode cX10_mixedWithAccounts 26 = .ok (.lstore_n 3, 1) := by decide +kernel
theorem dX10_mixedWithAccounts_27 : decode cX10_mixedWithAccounts 27 = .ok (.lload_n 3, 1) := by decide +kernel
theorem dX10_mixedWithAccounts_28 : decode cX10_mixedWithAccounts 28 = .ok (.aload_n 0, 1) := by decide +kernel
theorem dX10_mixedWithAccounts_29 : decode cX10_mixedWithAccounts 29 = .ok (.invokevirtual 309, 3) := by decide +kernel
theorem dX10_mixedWithAccounts_32 : decode cX10_mixedWithAccounts 32 = .ok (.invokestatic 244, 3) := by decide +kernel
theorem dX10_mixedWithAccounts_35 : decode cX10_mixedWithAccounts 35 = .ok (.lstore_n 3, 1) := by decide +kernel
theorem dX10_mixedWithAccounts_36 : decode cX10_mixedWithAccounts 36 = .ok (.lload_n 3, 1) := by decide +kernel
theorem dX10_mixedWithAccounts_37 : decode cX10_mixedWithAccounts 37 = .ok (.aload_n 0, 1) := by decide +kernel
theorem dX10_mixedWithAccounts_38 : decode cX10_mixedWithAccounts 38 = .ok (.invokevirtual 311, 3) := by decide +kernel
theorem dX10_mixedWithAccounts_41 : decode cX10_mixedWithAccounts 41 = .ok (.invokestatic 244, 3) := by decide +kernel
theorem dX10_mixedWithAccounts_44 : decode cX10_mixedWithAccounts 44 = .ok (.lstore_n 3, 1) := by decide +kernel
theorem dX10_mixedWithAccounts_45 : decode cX10_mixedWithAccounts 45 = .ok (.lload_n 3, 1) := by decide +kernel
theorem dX10_mixedWithAccounts_46 : decode cX10_mixedWithAccounts 46 = .ok (.aload_n 0, 1) := by decide +kernel
theorem dX10_mixedWithAccounts_47 : decode cX10_mixedWithAccounts 47 = .ok (.invokevirtual 313, 3) := by decide +kernel
theorem dX10_mixedWithAccounts_50 : decode cX10_mixedWithAccounts 50 = .ok (.invokestatic 244, 3) := by decide +kernel
theorem dX10_mixedWithAccounts_53 : decode cX10_mixedWithAccounts 53 = .ok (.lstore_n 3, 1) := by decide +kernel
theorem dX10_mixedWithAccounts_54 : decode cX10_mixedWithAccounts 54 = .ok (.lload_n 3, 1) := by decide +kernel
theorem dX10_mixedWithAccounts_55 : decode cX10_mixedWithAccounts 55 = .ok (.aload_n 0, 1) := by decide +kernel
theorem dX10_mixedWithAccounts_56 : decode cX10_mixedWithAccounts 56 = .ok (.invokevirtual 315, 3) := by decide +kernel
theorem dX10_mixedWithAccounts_59 : decode cX10_mixedWithAccounts 59 = .ok (.invokestatic 244, 3) := by decide +kernel
theorem dX10_mixedWithAccounts_62 : decode cX10_mixedWithAccounts 62 = .ok (.lreturn, 1) := by decide +kernel
theorem dX10_mixed_0 : decode cX10_mixed 0 = .ok (.ldc2_w 317, 3) := by decide +kernel
theorem dX10_mixed_3 : decode cX10_mixed 3 = .ok (.lload_n 0, 1) := by decide +kernel
theorem dX10_mixed_4 : decode cX10_mixed 4 = .ok (.lmul, 1) := by decide +kernel
theorem dX10_mixed_5 : decode cX10_mixed 5 = .ok (.lload_n 2, 1) := by decide +kernel
theorem dX10_mixed_6 : decode cX10_mixed 6 = .ok (.ladd, 1) := by decide +kernel
theorem dX10_mixed_7 : decode cX10_mixed 7 = .ok (.lreturn, 1) := by decide +kernel
theorem dX10_div_0 : decode cX10_div 0 = .ok (.lload_n 2, 1) := by decide +kernel
theorem dX10_div_1 : decode cX10_div 1 = .ok (.lconst 0, 1) := by decide +kernel
theorem dX10_div_2 : decode cX10_div 2 = .ok (.lcmp, 1) := by decide +kernel
theorem dX10_div_3 : decode cX10_div 3 = .ok (.ifCond .gt 5, 3) := by decide +kernel
theorem dX10_div_6 : decode cX10_div 6 = .ok (.lconst 0, 1) := by decide +kernel
theorem dX10_div_7 : decode cX10_div 7 = .ok (.lreturn, 1) := by decide +kernel
theorem dX10_div_8 : decode cX10_div 8 = .ok (.lload_n 0, 1) := by decide +kernel
theorem dX10_div_9 : decode cX10_div 9 = .ok (.lload_n 2, 1) := by decide +kernel
theorem dX10_div_10 : decode cX10_div 10 = .ok (.ldiv, 1) := by decide +kernel
theorem dX10_div_11 : decode cX10_div 11 = .ok (.lstore 4, 2) := by decide +kernel
theorem dX10_div_13 : decode cX10_div 13 = .ok (.lload_n 0, 1) := by decide +kernel
theorem dX10_div_14 : decode cX10_div 14 = .ok (.lload_n 2, 1) := by decide +kernel
theorem dX10_div_15 : decode cX10_div 15 = .ok (.lrem, 1) := by decide +kernel
theorem dX10_div_16 : decode cX10_div 16 = .ok (.lconst 0, 1) := by decide +kernel
theorem dX10_div_17 : decode cX10_div 17 = .ok (.lcmp, 1) := by decide +kernel
theorem dX10_div_18 : decode cX10_div 18 = .ok (.ifCond .ge 10, 3) := by decide +kernel
theorem dX10_div_21 : decode cX10_div 21 = .ok (.lload 4, 2) := by decide +kernel
theorem dX10_div_23 : decode cX10_div 23 = .ok (.lconst 1, 1) := by decide +kernel
theorem dX10_div_24 : decode cX10_div 24 = .ok (.lsub, 1) := by decide +kernel
theorem dX10_div_25 : decode cX10_div 25 = .ok (.goto 5, 3) := by decide +kernel
theorem dX10_div_28 : decode cX10_div 28 = .ok (.lload 4, 2) := by decide +kernel
theorem dX10_div_30 : decode cX10_div 30 = .ok (.lreturn, 1) := by decide +kernel
theorem dX10_elementOr_0 : decode cX10_elementOr 0 = .ok (.iload_n 1, 1) := by decide +kernel
theorem dX10_elementOr_1 : decode cX10_elementOr 1 = .ok (.ifCond .lt 15, 3) := by decide +kernel
theorem dX10_elementOr_4 : decode cX10_elementOr 4 = .ok (.iload_n 1, 1) := by decide +kernel
theorem dX10_elementOr_5 : decode cX10_elementOr 5 = .ok (.aload_n 0, 1) := by decide +kernel
theorem dX10_elementOr_6 : decode cX10_elementOr 6 = .ok (.arraylength, 1) := by decide +kernel
theorem dX10_elementOr_7 : decode cX10_elementOr 7 = .ok (.if_icmp .ge 9, 3) := by decide +kernel
theorem dX10_elementOr_10 : decode cX10_elementOr 10 = .ok (.aload_n 0, 1) := by decide +kernel
theorem dX10_elementOr_11 : decode cX10_elementOr 11 = .ok (.iload_n 1, 1) := by decide +kernel
theorem dX10_elementOr_12 : decode cX10_elementOr 12 = .ok (.iaload, 1) := by decide +kernel
theorem dX10_elementOr_13 : decode cX10_elementOr 13 = .ok (.goto 4, 3) := by decide +kernel
theorem dX10_elementOr_16 : decode cX10_elementOr 16 = .ok (.iload_n 2, 1) := by decide +kernel
theorem dX10_elementOr_17 : decode cX10_elementOr 17 = .ok (.ireturn, 1) := by decide +kernel
theorem dX10_replace_0 : decode cX10_replace 0 = .ok (.iload_n 1, 1) := by decide +kernel
theorem dX10_replace_1 : decode cX10_replace 1 = .ok (.ifCond .lt 13, 3) := by decide +kernel
theorem dX10_replace_4 : decode cX10_replace 4 = .ok (.iload_n 1, 1) := by decide +kernel
theorem dX10_replace_5 : decode cX10_replace 5 = .ok (.aload_n 0, 1) := by decide +kernel
theorem dX10_replace_6 : decode cX10_replace 6 = .ok (.arraylength, 1) := by decide +kernel
theorem dX10_replace_7 : decode cX10_replace 7 = .ok (.if_icmp .ge 7, 3) := by decide +kernel
theorem dX10_replace_10 : decode cX10_replace 10 = .ok (.aload_n 0, 1) := by decide +kernel
theorem dX10_replace_11 : decode cX10_replace 11 = .ok (.iload_n 1, 1) := by decide +kernel
theorem dX10_replace_12 : decode cX10_replace 12 = .ok (.iload_n 2, 1) := by decide +kernel
theorem dX10_replace_13 : decode cX10_replace 13 = .ok (.iastore, 1) := by decide +kernel
theorem dX10_replace_14 : decode cX10_replace 14 = .ok (.return_, 1) := by decide +kernel
theorem dX10_copyRow_0 : decode cX10_copyRow 0 = .ok (.iconst 0, 1) := by decide +kernel
theorem dX10_copyRow_1 : decode cX10_copyRow 1 = .ok (.istore_n 2, 1) := by decide +kernel
theorem dX10_copyRow_2 : decode cX10_copyRow 2 = .ok (.iload_n 2, 1) := by decide +kernel
theorem dX10_copyRow_3 : decode cX10_copyRow 3 = .ok (.aload_n 1, 1) := by decide +kernel
theorem dX10_copyRow_4 : decode cX10_copyRow 4 = .ok (.arraylength, 1) := by decide +kernel
theorem dX10_copyRow_5 : decode cX10_copyRow 5 = .ok (.if_icmp .ge 21, 3) := by decide +kernel
theorem dX10_copyRow_8 : decode cX10_copyRow 8 = .ok (.iload_n 2, 1) := by decide +kernel
theorem dX10_copyRow_9 : decode cX10_copyRow 9 = .ok (.aload_n 0, 1) := by decide +kernel
theorem dX10_copyRow_10 : decode cX10_copyRow 10 = .ok (.arraylength, 1) := by decide +kernel
theorem dX10_copyRow_11 : decode cX10_copyRow 11 = .ok (.if_icmp .ge 15, 3) := by decide +kernel
theorem dX10_copyRow_14 : decode cX10_copyRow 14 = .ok (.aload_n 1, 1) := by decide +kernel
theorem dX10_copyRow_15 : decode cX10_copyRow 15 = .ok (.iload_n 2, 1) := by decide +kernel
theorem dX10_copyRow_16 : decode cX10_copyRow 16 = .ok (.aload_n 0, 1) := by decide +kernel
theorem dX10_copyRow_17 : decode cX10_copyRow 17 = .ok (.iload_n 2, 1) := by decide +kernel
theorem dX10_copyRow_18 : decode cX10_copyRow 18 = .ok (.iaload, 1) := by decide +kernel
theorem dX10_copyRow_19 : decode cX10_copyRow 19 = .ok (.iastore, 1) := by decide +kernel
theorem dX10_copyRow_20 : decode cX10_copyRow 20 = .ok (.iinc 2 1, 3) := by decide +kernel
theorem dX10_copyRow_23 : decode cX10_copyRow 23 = .ok (.goto (-21), 3) := by decide +kernel
theorem dX10_copyRow_26 : decode cX10_copyRow 26 = .ok (.return_, 1) := by decide +kernel
theorem dX10_setAll_0 : decode cX10_setAll 0 = .ok (.iconst 0, 1) := by decide +kernel
theorem dX10_setAll_1 : decode cX10_setAll 1 = .ok (.istore_n 2, 1) := by decide +kernel
theorem dX10_setAll_2 : decode cX10_setAll 2 = .ok (.iload_n 2, 1) := by decide +kernel
theorem dX10_setAll_3 : decode cX10_setAll 3 = .ok (.aload_n 0, 1) := by decide +kernel
theorem dX10_setAll_4 : decode cX10_setAll 4 = .ok (.arraylength, 1) := by decide +kernel
theorem dX10_setAll_5 : decode cX10_setAll 5 = .ok (.if_icmp .ge 13, 3) := by decide +kernel
theorem dX10_setAll_8 : decode cX10_setAll 8 = .ok (.aload_n 0, 1) := by decide +kernel
theorem dX10_setAll_9 : decode cX10_setAll 9 = .ok (.iload_n 2, 1) := by decide +kernel
theorem dX10_setAll_10 : decode cX10_setAll 10 = .ok (.iload_n 1, 1) := by decide +kernel
theorem dX10_setAll_11 : decode cX10_setAll 11 = .ok (.iastore, 1) := by decide +kernel
theorem dX10_setAll_12 : decode cX10_setAll 12 = .ok (.iinc 2 1, 3) := by decide +kernel
theorem dX10_setAll_15 : decode cX10_setAll 15 = .ok (.goto (-13), 3) := by decide +kernel
theorem dX10_setAll_18 : decode cX10_setAll 18 = .ok (.return_, 1) := by decide +kernel
theorem dJ9_max_7cf53_0 : decode cJ9_max_7cf53 0 = .ok (.iload_n 0, 1) := by decide +kernel
theorem dJ9_max_7cf53_1 : decode cJ9_max_7cf53 1 = .ok (.iload_n 1, 1) := by decide +kernel
theorem dJ9_max_7cf53_2 : decode cJ9_max_7cf53 2 = .ok (.if_icmp .lt 7, 3) := by decide +kernel
theorem dJ9_max_7cf53_5 : decode cJ9_max_7cf53 5 = .ok (.iload_n 0, 1) := by decide +kernel
theorem dJ9_max_7cf53_6 : decode cJ9_max_7cf53 6 = .ok (.goto 4, 3) := by decide +kernel
theorem dJ9_max_7cf53_9 : decode cJ9_max_7cf53 9 = .ok (.iload_n 1, 1) := by decide +kernel
theorem dJ9_max_7cf53_10 : decode cJ9_max_7cf53 10 = .ok (.ireturn, 1) := by decide +kernel
theorem dJ9_max_f86c9_0 : decode cJ9_max_f86c9 0 = .ok (.lload_n 0, 1) := by decide +kernel
theorem dJ9_max_f86c9_1 : decode cJ9_max_f86c9 1 = .ok (.lload_n 2, 1) := by decide +kernel
theorem dJ9_max_f86c9_2 : decode cJ9_max_f86c9 2 = .ok (.lcmp, 1) := by decide +kernel
theorem dJ9_max_f86c9_3 : decode cJ9_max_f86c9 3 = .ok (.ifCond .lt 7, 3) := by decide +kernel
theorem dJ9_max_f86c9_6 : decode cJ9_max_f86c9 6 = .ok (.lload_n 0, 1) := by decide +kernel
theorem dJ9_max_f86c9_7 : decode cJ9_max_f86c9 7 = .ok (.goto 4, 3) := by decide +kernel
theorem dJ9_max_f86c9_10 : decode cJ9_max_f86c9 10 = .ok (.lload_n 2, 1) := by decide +kernel
theorem dJ9_max_f86c9_11 : decode cJ9_max_f86c9 11 = .ok (.lreturn, 1) := by decide +kernel
theorem dJ9_min_f86c9_0 : decode cJ9_min_f86c9 0 = .ok (.lload_n 0, 1) := by decide +kernel
theorem dJ9_min_f86c9_1 : decode cJ9_min_f86c9 1 = .ok (.lload_n 2, 1) := by decide +kernel
theorem dJ9_min_f86c9_2 : decode cJ9_min_f86c9 2 = .ok (.lcmp, 1) := by decide +kernel
theorem dJ9_min_f86c9_3 : decode cJ9_min_f86c9 3 = .ok (.ifCond .gt 7, 3) := by decide +kernel
theorem dJ9_min_f86c9_6 : decode cJ9_min_f86c9 6 = .ok (.lload_n 0, 1) := by decide +kernel
theorem dJ9_min_f86c9_7 : decode cJ9_min_f86c9 7 = .ok (.goto 4, 3) := by decide +kernel
theorem dJ9_min_f86c9_10 : decode cJ9_min_f86c9 10 = .ok (.lload_n 2, 1) := by decide +kernel
theorem dJ9_min_f86c9_11 : decode cJ9_min_f86c9 11 = .ok (.lreturn, 1) := by decide +kernel
