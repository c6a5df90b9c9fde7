theorem dX5_produce_76 : decode cX5_produce 76 = .ok (.lsub, 1) := by decide +kernel
theorem dX5_produce_77 : decode cX5_produce 77 = .ok (.ldc2_w 99, 3) := by decide +kernel
theorem dX5_produce_80 : decode cX5_produce 80 = .ok (.invokestatic 101, 3) := by decide +kernel
theorem dX5_produce_83 : decode cX5_produce 83 = .ok (.lmul, 1) := by decide +kernel
theorem dX5_produce_84 : decode cX5_produce 84 = .ok (.lsub, 1) := by decide +kernel
theorem dX5_produce_85 : decode cX5_produce 85 = .ok (.lstore 4, 2) := by decide +kernel
theorem dX5_produce_87 : decode cX5_produce 87 = .ok (.ldc2_w 215, 3) := by decide +kernel
theorem dX5_produce_90 : decode cX5_produce 90 = .ok (.ldc2_w 217, 3) := by decide +kernel
theorem dX5_produce_93 : decode cX5_produce 93 = .ok (.lload 4, 2) := by decide +kernel
theorem dX5_produce_95 : decode cX5_produce 95 = .ok (.invokestatic 219, 3) := by decide +kernel
theorem dX5_produce_98 : decode cX5_produce 98 = .ok (.invokestatic 202, 3) := by decide +kernel
theorem dX5_produce_101 : decode cX5_produce 101 = .ok (.lstore 4, 2) := by decide +kernel
theorem dX5_produce_103 : decode cX5_produce 103 = .ok (.aload_n 0, 1) := by decide +kernel
theorem dX5_produce_104 : decode cX5_produce 104 = .ok (.lload_n 2, 1) := by decide +kernel
theorem dX5_produce_105 : decode cX5_produce 105 = .ok (.ldc2_w 215, 3) := by decide +kernel
theorem dX5_produce_108 : decode cX5_produce 108 = .ok (.lmul, 1) := by decide +kernel
theorem dX5_produce_109 : decode cX5_produce 109 = .ok (.lload 4, 2) := by decide +kernel
theorem dX5_produce_111 : decode cX5_produce 111 = .ok (.ladd, 1) := by decide +kernel
theorem dX5_produce_112 : decode cX5_produce 112 = .ok (.lconst 1, 1) := by decide +kernel
theorem dX5_produce_113 : decode cX5_produce 113 = .ok (.lsub, 1) := by decide +kernel
theorem dX5_produce_114 : decode cX5_produce 114 = .ok (.lload 4, 2) := by decide +kernel
theorem dX5_produce_116 : decode cX5_produce 116 = .ok (.invokestatic 101, 3) := by decide +kernel
theorem dX5_produce_119 : decode cX5_produce 119 = .ok (.invokevirtual 222, 3) := by decide +kernel
theorem dX5_produce_122 : decode cX5_produce 122 = .ok (.aload_n 0, 1) := by decide +kernel
theorem dX5_produce_123 : decode cX5_produce 123 = .ok (.getfield 35, 3) := by decide +kernel
theorem dX5_produce_126 : decode cX5_produce 126 = .ok (.iconst 3, 1) := by decide +kernel
theorem dX5_produce_127 : decode cX5_produce 127 = .ok (.lload_n 2, 1) := by decide +kernel
theorem dX5_produce_128 : decode cX5_produce 128 = .ok (.invokevirtual 226, 3) := by decide +kernel
theorem dX5_produce_131 : decode cX5_produce 131 = .ok (.aload_n 0, 1) := by decide +kernel
theorem dX5_produce_132 : decode cX5_produce 132 = .ok (.getfield 49, 3) := by decide +kernel
theorem dX5_produce_135 : decode cX5_produce 135 = .ok (.dup, 1) := by decide +kernel
theorem dX5_produce_136 : decode cX5_produce 136 = .ok (.getfield 230, 3) := by decide +kernel
theorem dX5_produce_139 : decode cX5_produce 139 = .ok (.lload_n 2, 1) := by decide +kernel
theorem dX5_produce_140 : decode cX5_produce 140 = .ok (.ladd, 1) := by decide +kernel
theorem dX5_produce_141 : decode cX5_produce 141 = .ok (.putfield 230, 3) := by decide +kernel
theorem dX5_produce_144 : decode cX5_produce 144 = .ok (.iload_n 1, 1) := by decide +kernel
theorem dX5_produce_145 : decode cX5_produce 145 = .ok (.aload_n 0, 1) := by decide +kernel
theorem dX5_produce_146 : decode cX5_produce 146 = .ok (.getfield 12, 3) := by decide +kernel
theorem dX5_produce_149 : decode cX5_produce 149 = .ok (.bipush 9, 2) := by decide +kernel
theorem dX5_produce_151 : decode cX5_produce 151 = .ok (.invokevirtual 88, 3) := by decide +kernel
theorem dX5_produce_154 : decode cX5_produce 154 = .ok (.if_icmp .ge 16, 3) := by decide +kernel
theorem dX5_produce_157 : decode cX5_produce 157 = .ok (.aload_n 0, 1) := by decide +kernel
theorem dX5_produce_158 : decode cX5_produce 158 = .ok (.getfield 42, 3) := by decide +kernel
theorem dX5_produce_161 : decode cX5_produce 161 = .ok (.dup, 1) := by decide +kernel
theorem dX5_produce_162 : decode cX5_produce 162 = .ok (.getfield 233, 3) := by decide +kernel
theorem dX5_produce_165 : decode cX5_produce 165 = .ok (.iconst 1, 1) := by decide +kernel
theorem dX5_produce_166 : decode cX5_produce 166 = .ok (.iadd, 1) := by decide +kernel
theorem dX5_produce_167 : decode cX5_produce 167 = .ok (.putfield 233, 3) := by decide +kernel
theorem dX5_produce_170 : decode cX5_produce 170 = .ok (.return_, 1) := by decide +kernel
set_option maxRecDepth 20000 in
theorem ggX5_defrost_X7_valueOf : GoodIn wsX5_defrost wsX7_valueOf := goodIn_r _ [10, 11, 12, 13, 14, 49] (by decide +kernel) (by decide +kernel)
set_option maxRecDepth 20000 in
theorem gX5_defrost_X7_valueOf : GoodIn wsX5_defrost (wsV RX5 88 RX7 yX7_valueOf wsX7_valueOf) := goodIn_app (goodIn_of _ (by decide +kernel)) ggX5_defrost_X7_valueOf
set_option maxRecDepth 20000 in
theorem ggX5_defrost_X1_add : GoodIn wsX5_defrost wsX1_add := goodIn_r _ [19, 20, 50, 51] (by decide +kernel) (by decide +kernel)
set_option maxRecDepth 20000 in
theorem gX5_defrost_X1_add : GoodIn wsX5_defrost (wsV RX5 226 RX1 yX1_add wsX1_add) := goodIn_app (goodIn_of _ (by decide +kernel)) ggX5_defrost_X1_add
set_option maxRecDepth 20000 in
theorem ggX5_defrost_X5_use : GoodIn wsX5_defrost wsX5_use := goodIn_r _ [25, 3, 26, 27, 28, 29, 30, 31, 32, 33, 34, 35, 36, 37, 38, 39, 40, 41, 42, 43, 44, 45, 46, 47, 48, 52, 53, 54, 55, 56] (by decide +kernel) (by decide +kernel)
set_option maxRecDepth 20000 in
theorem gX5_defrost_X5_use : GoodIn wsX5_defrost (wsV RX5 222 RX5 yX5_use wsX5_use) := goodIn_app (goodIn_of _ (by decide +kernel)) ggX5_defrost_X5_use
theorem dX5_defrost_0 : decode cX5_defrost 0 = .ok (.aload_n 0, 1) := by decide +kernel
theorem dX5_defrost_1 : decode cX5_defrost 1 = .ok (.getfield 12, 3) := by decide +kernel
theorem dX5_defrost_4 : decode cX5_defrost 4 = .ok (.bipush 12, 2) := by decide +kernel
theorem dX5_defrost_6 : decode cX5_defrost 6 = .ok (.invokevirtual 88, 3) := by decide +kernel
theorem dX5_defrost_9 : decode cX5_defrost 9 = .ok (.istore_n 1, 1) := by decide +kernel
theorem dX5_defrost_10 : decode cX5_defrost 10 = .ok (.aload_n 0, 1) := by decide +kernel
theorem dX5_defrost_11 : decode cX5_defrost 11 = .ok (.getfield 35, 3) := by decide +kernel
theorem dX5_defrost_14 : decode cX5_defrost 14 = .ok (.iconst 3, 1) := by decide +kernel
theorem dX5_defrost_15 : decode cX5_defrost 15 = .ok (.iload_n 1, 1) := by decide +kernel
theorem dX5_defrost_16 : decode cX5_defrost 16 = .ok (.ineg, 1) := by decide +kernel
theorem dX5_defrost_17 : decode cX5_defrost 17 = .ok (.i2l, 1) := by decide +kernel
theorem dX5_defrost_18 : decode cX5_defrost 18 = .ok (.invokevirtual 226, 3) := by decide +kernel
theorem dX5_defrost_21 : decode cX5_defrost 21 = .ok (.aload_n 0, 1) := by decide +kernel
theorem dX5_defrost_22 : decode cX5_defrost 22 = .ok (.getfield 49, 3) := by decide +kernel
theorem dX5_defrost_25 : decode cX5_defrost 25 = .ok (.dup, 1) := by decide +kernel
theorem dX5_defrost_26 : decode cX5_defrost 26 = .ok (.getfield 236, 3) := by decide +kernel
theorem dX5_defrost_29 : decode cX5_defrost 29 = .ok (.iload_n 1, 1) := by decide +kernel
theorem dX5_defrost_30 : decode cX5_defrost 30 = .ok (.i2l, 1) := by decide +kernel
theorem dX5_defrost_31 : decode cX5_defrost 31 = .ok (.ladd, 1) := by decide +kernel
theorem dX5_defrost_32 : decode cX5_defrost 32 = .ok (.putfield 236, 3) := by decide +kernel
theorem dX5_defrost_35 : decode cX5_defrost 35 = .ok (.aload_n 0, 1) := by decide +kernel
theorem dX5_defrost_36 : decode cX5_defrost 36 = .ok (.ldc2_w 239, 3) := by decide +kernel
theorem dX5_defrost_39 : decode cX5_defrost 39 = .ok (.invokevirtual 222, 3) := by decide +kernel
theorem dX5_defrost_42 : decode cX5_defrost 42 = .ok (.return_, 1) := by decide +kernel
theorem dX5_use_0 : decode cX5_use 0 = .ok (.aload_n 0, 1) := by decide +kernel
theorem dX5_use_1 : decode cX5_use 1 = .ok (.getfield 49, 3) := by decide +kernel
theorem dX5_use_4 : decode cX5_use 4 = .ok (.dup, 1) := by decide +kernel
theorem dX5_use_5 : decode cX5_use 5 = .ok (.getfield 241, 3) := by decide +kernel
theorem dX5_use_8 : decode cX5_use 8 = .ok (.lload_n 1, 1) := by decide +kernel
theorem dX5_use_9 : decode cX5_use 9 = .ok (.ladd, 1) := by decide +kernel
theorem dX5_use_10 : decode cX5_use 10 = .ok (.putfield 241, 3) := by decide +kernel
theorem dX5_use_13 : decode cX5_use 13 = .ok (.aload_n 0, 1) := by decide +kernel
theorem dX5_use_14 : decode cX5_use 14 = .ok (.getfield 49, 3) := by decide +kernel
theorem dX5_use_17 : decode cX5_use 17 = .ok (.dup, 1) := by decide +kernel
theorem dX5_use_18 : decode cX5_use 18 = .ok (.getfield 244, 3) := by decide +kernel
theorem dX5_use_21 : decode cX5_use 21 = .ok (.lload_n 1, 1) := by decide +kernel
theorem dX5_use_22 : decode cX5_use 22 = .ok (.aload_n 0, 1) := by decide +kernel
theorem dX5_use_23 : decode cX5_use 23 = .ok (.getfield 56, 3) := by decide +kernel
theorem dX5_use_26 : decode cX5_use 26 = .ok (.getfield 133, 3) := by decide +kernel
theorem dX5_use_29 : decode cX5_use 29 = .ok (.i2l, 1) := by decide +kernel
theorem dX5_use_30 : decode cX5_use 30 = .ok (.lmul, 1) := by decide +kernel
theorem dX5_use_31 : decode cX5_use 31 = .ok (.ladd, 1) := by decide +kernel
theorem dX5_use_32 : decode cX5_use 32 = .ok (.putfield 244, 3) := by decide +kernel
theorem dX5_use_35 : decode cX5_use 35 = .ok (.return_, 1) := by decide +kernel
theorem dX6_init_0 : decode cX6_init 0 = .ok (.aload_n 0, 1) := by decide +kernel
theorem dX6_init_1 : decode cX6_init 1 = .ok (.invokespecial 3, 3) := by decide +kernel
theorem dX6_init_4 : decode cX6_init 4 = .ok (.aload_n 0, 1) := by decide +kernel
theorem dX6_init_5 : decode cX6_init 5 = .ok (.iconst 0, 1) := by decide +kernel
theorem dX6_init_6 : decode cX6_init 6 = .ok (.putfield 9, 3) := by decide +kernel
theorem dX6_init_9 : decode cX6_init 9 = .ok (.aload_n 0, 1) := by decide +kernel
theorem dX6_init_10 : decode cX6_init 10 = .ok (.sipush 1000, 3) := by decide +kernel
theorem dX6_init_13 : decode cX6_init 13 = .ok (.putfield 15, 3) := by decide +kernel
theorem dX6_init_16 : decode cX6_init 16 = .ok (.aload_n 0, 1) := by decide +kernel
theorem dX6_init_17 : decode cX6_init 17 = .ok (.bipush 60, 2) := by decide +kernel
theorem dX6_init_19 : decode cX6_init 19 = .ok (.newarray .int, 2) := by decide +kernel
theorem dX6_init_21 : decode cX6_init 21 = .ok (.putfield 18, 3) := by decide +kernel
theorem dX6_init_24 : decode cX6_init 24 = .ok (.return_, 1) := by decide +kernel
set_option maxRecDepth 20000 in
theorem ggX6_copyFrom_X10_copyRow : GoodIn wsX6_copyFrom wsX10_copyRow := goodIn_r _ [10] (by decide +kernel) (by decide +kernel)
set_option maxRecDepth 20000 in
theorem gX6_copyFrom_X10_copyRow_n34 : GoodIn wsX6_copyFrom (wsX10_copyRow) := ggX6_copyFrom_X10_copyRow
theorem dX6_copyFrom_0 : decode cX6_copyFrom 0 = .ok (.aload_n 0, 1) := by decide +kernel
theorem dX6_copyFrom_1 : decode cX6_copyFrom 1 = .ok (.aload_n 1, 1) := by decide +kernel
theorem dX6_copyFrom_2 : decode cX6_copyFrom 2 = .ok (.getfield 9, 3) := by decide +kernel
theorem dX6_copyFrom_5 : decode cX6_copyFrom 5 = .ok (.putfield 9, 3) := by decide +kernel
theorem dX6_copyFrom_8 : decode cX6_copyFrom 8 = .ok (.aload_n 0, 1) := by decide +kernel
theorem dX6_copyFrom_9 : decode cX6_copyFrom 9 = .ok (.aload_n 1, 1) := by decide +kernel
theorem dX6_copyFrom_10 : decode cX6_copyFrom 10 = .ok (.getfield 22, 3) := by decide +kernel
theorem dX6_copyFrom_13 : decode cX6_copyFrom 13 = .ok (.putfield 22, 3) := by decide +kernel
theorem dX6_copyFrom_16 : decode cX6_copyFrom 16 = .ok (.aload_n 0, 1) := by decide +kernel
theorem dX6_copyFrom_17 : decode cX6_copyFrom 17 = .ok (.aload_n 1, 1) := by decide +kernel
theorem dX6_copyFrom_18 : decode cX6_copyFrom 18 = .ok (.getfield 15, 3) := by decide +kernel
theorem dX6_copyFrom_21 : decode cX6_copyFrom 21 = .ok (.putfield 15, 3) := by decide +kernel
theorem dX6_copyFrom_24 : decode cX6_copyFrom 24 = .ok (.aload_n 0, 1) := by decide +kernel
theorem dX6_copyFrom_25 : decode cX6_copyFrom 25 = .ok (.aload_n 1, 1) := by decide +kernel
theorem dX6_copyFrom_26 : decode cX6_copyFrom 26 = .ok (.getfield 25, 3) := by decide +kernel
theorem dX6_copyFrom_29 : decode cX6_copyFrom 29 = .ok (.putfield 25, 3) := by decide +kernel
theorem dX6_copyFrom_32 : decode cX6_copyFrom 32 = .ok (.aload_n 0, 1) := by decide +kernel
theorem dX6_copyFrom_33 : decode cX6_copyFrom 33 = .ok (.aload_n 1, 1) := by decide +kernel
theorem dX6_copyFrom_34 : decode cX6_copyFrom 34 = .ok (.getfield 28, 3) := by decide +kernel
theorem dX6_copyFrom_37 : decode cX6_copyFrom 37 = .ok (.putfield 28, 3) := by decide +kernel
theorem dX6_copyFrom_40 : decode cX6_copyFrom 40 = .ok (.aload_n 0, 1) := by decide +kernel
theorem dX6_copyFrom_41 : decode cX6_copyFrom 41 = .ok (.aload_n 1, 1) := by decide +kernel
theorem dX6_copyFrom_42 : decode cX6_copyFrom 42 = .ok (.getfield 31, 3) := by decide +kernel
theorem dX6_copyFrom_45 : decode cX6_copyFrom 45 = .ok (.putfield 31, 3) := by decide +kernel
theorem dX6_copyFrom_48 : decode cX6_copyFrom 48 = .ok (.aload_n 1, 1) := by decide +kernel
theorem dX6_copyFrom_49 : decode cX6_copyFrom 49 = .ok (.getfield 18, 3) := by decide +kernel
theorem dX6_copyFrom_52 : decode cX6_copyFrom 52 = .ok (.aload_n 0, 1) := by decide +kernel
theorem dX6_copyFrom_53 : decode cX6_copyFrom 53 = .ok (.getfield 18, 3) := by decide +kernel
theorem dX6_copyFrom_56 : decode cX6_copyFrom 56 = .ok (.invokestatic 34, 3) := by decide +kernel
theorem dX6_copyFrom_59 : decode cX6_copyFrom 59 = .ok (.return_, 1) := by decide +kernel
theorem dX6_endDefrosting_0 : decode cX6_endDefrosting 0 = .ok (.aload_n 0, 1) := by decide +kernel
theorem dX6_endDefrosting_1 : decode cX6_endDefrosting 1 = .ok (.getfield 9, 3) := by decide +kernel
theorem dX6_endDefrosting_4 : decode cX6_endDefrosting 4 = .ok (.iconst 2, 1) := by decide +kernel
theorem dX6_endDefrosting_5 : decode cX6_endDefrosting 5 = .ok (.if_icmp .ne 21, 3) := by decide +kernel
theorem dX6_endDefrosting_8 : decode cX6_endDefrosting 8 = .ok (.aload_n 0, 1) := by decide +kernel
theorem dX6_endDefrosting_9 : decode cX6_endDefrosting 9 = .ok (.getfield 25, 3) := by decide +kernel
theorem dX6_endDefrosting_12 : decode cX6_endDefrosting 12 = .ok (.iload_n 1, 1) := by decide +kernel
theorem dX6_endDefrosting_13 : decode cX6_endDefrosting 13 = .ok (.if_icmp .lt 13, 3) := by decide +kernel
theorem dX6_endDefrosting_16 : decode cX6_endDefrosting 16 = .ok (.aload_n 0, 1) := by decide +kernel
theorem dX6_endDefrosting_17 : decode cX6_endDefrosting 17 = .ok (.iconst 1, 1) := by decide +kernel
theorem dX6_endDefrosting_18 : decode cX6_endDefrosting 18 = .ok (.putfield 9, 3) := by decide +kernel
theorem dX6_endDefrosting_21 : decode cX6_endDefrosting 21 = .ok (.aload_n 0, 1) := by decide +kernel
theorem dX6_endDefrosting_22 : decode cX6_endDefrosting 22 = .ok (.iconst 0, 1) := by decide +kernel
theorem dX6_endDefrosting_23 : decode cX6_endDefrosting 23 = .ok (.putfield 28, 3) := by decide +kernel
theorem dX6_endDefrosting_26 : decode cX6_endDefrosting 26 = .ok (.return_, 1) := by decide +kernel
set_option maxRecDepth 20000 in
theorem ggX6_decide_X1_temperatureOf : GoodIn wsX6_decide wsX1_temperatureOf := goodIn_r _ [8, 9, 10, 11, 12, 13, 14, 48, 49] (by decide +kernel) (by decide +kernel)
set_option maxRecDepth 20000 in
theorem gX6_decide_X1_temperatureOf : GoodIn wsX6_decide (wsV RX6 40 RX1 yX1_temperatureOf wsX1_temperatureOf) := goodIn_app (goodIn_of _ (by decide +kernel)) ggX6_decide_X1_temperatureOf
set_option maxRecDepth 20000 in
theorem ggX6_decide_X7_valueOf : GoodIn wsX6_decide wsX7_valueOf := goodIn_r _ [19, 20, 21, 13, 22, 50] (by decide +kernel) (by decide +kernel)
set_option maxRecDepth 20000 in
theorem gX6_decide_X7_valueOf : GoodIn wsX6_decide (wsV RX6 46 RX7 yX7_valueOf wsX7_valueOf) := goodIn_app (goodIn_of _ (by decide +kernel)) ggX6_decide_X7_valueOf
set_option maxRecDepth 20000 in
theorem ggX6_decide_X6_decideWhileOn : GoodIn wsX6_decide wsX6_decideWhileOn := goodIn_r _ [27, 28, 29, 15, 16, 17, 18, 19, 20, 21, 13, 22, 36, 37, 38, 39, 40, 41, 42, 50] (by decide +kernel) (by decide +kernel)
set_option maxRecDepth 20000 in
theorem gX6_decide_X6_decideWhileOn : GoodIn wsX6_decide (wsV RX6 55 RX6 yX6_decideWhileOn wsX6_decideWhileOn) := goodIn_app (goodIn_of _ (by decide +kernel)) ggX6_decide_X6_decideWhileOn
set_option maxRecDepth 20000 in
theorem ggX6_decide_X6_decideWhileNeeded : GoodIn wsX6_decide wsX6_decideWhileNeeded := goodIn_r _ [33, 34, 35, 15, 16, 17, 18, 19, 20, 21, 13, 22, 36, 37, 38, 39, 40, 41, 42, 50] (by decide +kernel) (by decide +kernel)
set_option maxRecDepth 20000 in
theorem gX6_decide_X6_decideWhileNeeded : GoodIn wsX6_decide (wsV RX6 64 RX6 yX6_decideWhileNeeded wsX6_decideWhileNeeded) := goodIn_app (goodIn_of _ (by decide +kernel)) ggX6_decide_X6_decideWhileNeeded
theorem dX6_decide_0 : decode cX6_decide 0 = .ok (.aload_n 0, 1) := by decide +kernel
theorem dX6_decide_1 : decode cX6_decide 1 = .ok (.getfield 9, 3) := by decide +kernel
theorem dX6_decide_4 : decode cX6_decide 4 = .ok (.iconst 2, 1) := by decide +kernel
theorem dX6_decide_5 : decode cX6_decide 5 = .ok (.if_icmp .ne 5, 3) := by decide +kernel
theorem dX6_decide_8 : decode cX6_decide 8 = .ok (.iconst 0, 1) := by decide +kernel
theorem dX6_decide_9 : decode cX6_decide 9 = .ok (.ireturn, 1) := by decide +kernel
theorem dX6_decide_10 : decode cX6_decide 10 = .ok (.aload_n 2, 1) := by decide +kernel
theorem dX6_decide_11 : decode cX6_decide 11 = .ok (.iconst 0, 1) := by decide +kernel
theorem dX6_decide_12 : decode cX6_decide 12 = .ok (.invokevirtual 40, 3) := by decide +kernel
theorem dX6_decide_15 : decode cX6_decide 15 = .ok (.lstore 4, 2) := by decide +kernel
theorem dX6_decide_17 : decode cX6_decide 17 = .ok (.aload_n 2, 1) := by decide +kernel
theorem dX6_decide_18 : decode cX6_decide 18 = .ok (.iconst 3, 1) := by decide +kernel
theorem dX6_decide_19 : decode cX6_decide 19 = .ok (.invokevirtual 40, 3) := by decide +kernel
theorem dX6_decide_22 : decode cX6_decide 22 = .ok (.aload_n 1, 1) := by decide +kernel
theorem dX6_decide_23 : decode cX6_decide 23 = .ok (.iconst 4, 1) := by decide +kernel
theorem dX6_decide_24 : decode cX6_decide 24 = .ok (.invokevirtual 46, 3) := by decide +kernel
theorem dX6_decide_27 : decode cX6_decide 27 = .ok (.i2l, 1) := by decide +kernel
theorem dX6_decide_28 : decode cX6_decide 28 = .ok (.lcmp, 1) := by decide +kernel
theorem dX6_decide_29 : decode cX6_decide 29 = .ok (.ifCond .lt 7, 3) := by decide +kernel
theorem dX6_decide_32 : decode cX6_decide 32 = .ok (.iconst 1, 1) := by decide +kernel
theorem dX6_decide_33 : decode cX6_decide 33 = .ok (.goto 4, 3) := by decide +kernel
theorem dX6_decide_36 : decode cX6_decide 36 = .ok (.iconst 0, 1) := by decide +kernel
theorem dX6_decide_37 : decode cX6_decide 37 = .ok (.istore 6, 2) := by decide +kernel
theorem dX6_decide_39 : decode cX6_decide 39 = .ok (.aload_n 0, 1) := by decide +kernel
theorem dX6_decide_40 : decode cX6_decide 40 = .ok (.getfield 9, 3) := by decide +kernel
theorem dX6_decide_43 : decode cX6_decide 43 = .ok (.iconst 1, 1) := by decide +kernel
theorem dX6_decide_44 : decode cX6_decide 44 = .ok (.if_icmp .ne 33, 3) := by decide +kernel
theorem dX6_decide_47 : decode cX6_decide 47 = .ok (.aload_n 0, 1) := by decide +kernel
theorem dX6_decide_48 : decode cX6_decide 48 = .ok (.aload_n 1, 1) := by decide +kernel
theorem dX6_decide_49 : decode cX6_decide 49 = .ok (.iload 6, 2) := by decide +kernel
theorem dX6_decide_51 : decode cX6_decide 51 = .ok (.lload 4, 2) := by decide +kernel
theorem dX6_decide_53 : decode cX6_decide 53 = .ok (.aload_n 3, 1) := by decide +kernel
theorem dX6_decide_54 : decode cX6_decide 54 = .ok (.getfield 50, 3) := by decide +kernel
theorem dX6_decide_57 : decode cX6_decide 57 = .ok (.aload_n 1, 1) := by decide +kernel
theorem dX6_decide_58 : decode cX6_decide 58 = .ok (.iconst 3, 1) := by decide +kernel
theorem dX6_decide_59 : decode cX6_decide 59 = .ok (.invokevirtual 46, 3) := by decide +kernel
theorem dX6_decide_62 : decode cX6_decide 62 = .ok (.iadd, 1) := by decide +kernel
theorem dX6_decide_63 : decode cX6_decide 63 = .ok (.i2l, 1) := by decide +kernel
theorem dX6_decide_64 : decode cX6_decide 64 = .ok (.lcmp, 1) := by decide +kernel
theorem dX6_decide_65 : decode cX6_decide 65 = .ok (.ifCond .lt 7, 3) := by decide +kernel
theorem dX6_decide_68 : decode cX6_decide 68 = .ok (.iconst 1, 1) := by decide +kernel
theorem dX6_decide_69 : decode cX6_decide 69 = .ok (.goto 4, 3) := by decide +kernel
theorem dX6_decide_72 : decode cX6_decide 72 = .ok (.iconst 0, 1) := by decide +kernel
theorem dX6_decide_73 : decode cX6_decide 73 = .ok (.invokevirtual 55, 3) := by decide +kernel
theorem dX6_decide_76 : decode cX6_decide 76 = .ok (.ireturn, 1) := by decide +kernel
theorem dX6_decide_77 : decode cX6_decide 77 = .ok (.lload 4, 2) := by decide +kernel
theorem dX6_decide_79 : decode cX6_decide 79 = .ok (.aload_n 3, 1) := by decide +kernel
theorem dX6_decide_80 : decode cX6_decide 80 = .ok (.getfield 50, 3) := by decide +kernel
theorem dX6_decide_83 : decode cX6_decide 83 = .ok (.aload_n 1, 1) := by decide +kernel
theorem dX6_decide_84 : decode cX6_decide 84 = .ok (.iconst 3, 1) := by decide +kernel
theorem dX6_decide_85 : decode cX6_decide 85 = .ok (.invokevirtual 46, 3) := by decide +kernel
theorem dX6_decide_88 : decode cX6_decide 88 = .ok (.isub, 1) := by decide +kernel
theorem dX6_decide_89 : decode cX6_decide 89 = .ok (.i2l, 1) := by decide +kernel
theorem dX6_decide_90 : decode cX6_decide 90 = .ok (.lcmp, 1) := by decide +kernel
theorem dX6_decide_91 : decode cX6_decide 91 = .ok (.ifCond .lt 6, 3) := by decide +kernel
theorem dX6_decide_94 : decode cX6_decide 94 = .ok (.bipush 6, 2) := by decide +kernel
theorem dX6_decide_96 : decode cX6_decide 96 = .ok (.ireturn, 1) := by decide +kernel
theorem dX6_decide_97 : decode cX6_decide 97 = .ok (.aload_n 3, 1) := by decide +kernel
theorem dX6_decide_98 : decode cX6_decide 98 = .ok (.getfield 59, 3) := by decide +kernel
theorem dX6_decide_101 : decode cX6_decide 101 = .ok (.iconst 2, 1) := by decide +kernel
theorem dX6_decide_102 : decode cX6_decide 102 = .ok (.if_icmp .ne 20, 3) := by decide +kernel
theorem dX6_decide_105 : decode cX6_decide 105 = .ok (.lload 4, 2) := by decide +kernel
theorem dX6_decide_107 : decode cX6_decide 107 = .ok (.aload_n 1, 1) := by decide +kernel
theorem dX6_decide_108 : decode cX6_decide 108 = .ok (.bipush 6, 2) := by decide +kernel
theorem dX6_decide_110 : decode cX6_decide 110 = .ok (.invokevirtual 46, 3) := by decide +kernel
theorem dX6_decide_113 : decode cX6_decide 113 = .ok (.i2l, 1) := by decide +kernel
theorem dX6_decide_114 : decode cX6_decide 114 = .ok (.lcmp, 1) := by decide +kernel
theorem dX6_decide_115 : decode cX6_decide 115 = .ok (.ifCond .lt 7, 3) := by decide +kernel
theorem dX6_decide_118 : decode cX6_decide 118 = .ok (.iconst 1, 1) := by decide +kernel
theorem dX6_decide_119 : decode cX6_decide 119 = .ok (.goto 4, 3) := by decide +kernel
theorem dX6_decide_122 : decode cX6_decide 122 = .ok (.iconst 0, 1) := by decide +kernel
theorem dX6_decide_123 : decode cX6_decide 123 = .ok (.istore 7, 2) := by decide +kernel
theorem dX6_decide_125 : decode cX6_decide 125 = .ok (.aload_n 0, 1) := by decide +kernel
theorem dX6_decide_126 : decode cX6_decide 126 = .ok (.aload_n 1, 1) := by decide +kernel
theorem dX6_decide_127 : decode cX6_decide 127 = .ok (.iload 6, 2) := by decide +kernel
theorem dX6_decide_129 : decode cX6_decide 129 = .ok (.iload 7, 2) := by decide +kernel
theorem dX6_decide_131 : decode cX6_decide 131 = .ok (.invokevirtual 64, 3) := by decide +kernel
theorem dX6_decide_134 : decode cX6_decide 134 = .ok (.ireturn, 1) := by decide +kernel
set_option maxRecDepth 20000 in
theorem ggX6_decideWhileOn_X7_valueOf : GoodIn wsX6_decideWhileOn wsX7_valueOf := goodIn_r _ [7, 8, 9, 10, 11, 19] (by decide +kernel) (by decide +kernel)
set_option maxRecDepth 20000 in
theorem gX6_decideWhileOn_X7_valueOf : GoodIn wsX6_decideWhileOn (wsV RX6 46 RX7 yX7_valueOf wsX7_valueOf) := goodIn_app (goodIn_of _ (by decide +kernel)) ggX6_decideWhileOn_X7_valueOf
theorem dX6_decideWhileOn_0 : decode cX6_decideWhileOn 0 = .ok (.iload_n 2, 1) := by decide +kernel
theorem dX6_decideWhileOn_1 : decode cX6_decideWhileOn 1 = .ok (.ifCond .eq 5, 3) := by decide +kernel
theorem dX6_decideWhileOn_4 : decode cX6_decideWhileOn 4 = .ok (.iconst 1, 1) := by decide +kernel
theorem dX6_decideWhileOn_5 : decode cX6_decideWhileOn 5 = .ok (.ireturn, 1) := by decide +kernel
theorem dX6_decideWhileOn_6 : decode cX6_decideWhileOn 6 = .ok (.aload_n 0, 1) := by decide +kernel
theorem dX6_decideWhileOn_7 : decode cX6_decideWhileOn 7 = .ok (.getfield 22, 3) := by decide +kernel
theorem dX6_decideWhileOn_10 : decode cX6_decideWhileOn 10 = .ok (.aload_n 1, 1) := by decide +kernel
theorem dX6_decideWhileOn_11 : decode cX6_decideWhileOn 11 = .ok (.iconst 0, 1) := by decide +kernel
theorem dX6_decideWhileOn_12 : decode cX6_decideWhileOn 12 = .ok (.invokevirtual 46, 3) := by decide +kernel
theorem dX6_decideWhileOn_15 : decode cX6_decideWhileOn 15 = .ok (.if_icmp .ge 5, 3) := by decide +kernel
theorem dX6_decideWhileOn_18 : decode cX6_decideWhileOn 18 = .ok (.iconst 2, 1) := by decide +kernel
theorem dX6_decideWhileOn_19 : decode cX6_decideWhileOn 19 = .ok (.ireturn, 1) := by decide +kernel
theorem dX6_decideWhileOn_20 : decode cX6_decideWhileOn 20 = .ok (.iload_n 3, 1) := by decide +kernel
theorem dX6_decideWhileOn_21 : decode cX6_decideWhileOn 21 = .ok (.ifCond .eq 5, 3) := by decide +kernel
theorem dX6_decideWhileOn_24 : decode cX6_decideWhileOn 24 = .ok (.iconst 3, 1) := by decide +kernel
theorem dX6_decideWhileOn_25 : decode cX6_decideWhileOn 25 = .ok (.ireturn, 1) := by decide +kernel
theorem dX6_decideWhileOn_26 : decode cX6_decideWhileOn 26 = .ok (.aload_n 0, 1) := by decide +kernel
theorem dX6_decideWhileOn_27 : decode cX6_decideWhileOn 27 = .ok (.getfield 28, 3) := by decide +kernel
theorem dX6_decideWhileOn_30 : decode cX6_decideWhileOn 30 = .ok (.aload_n 1, 1) := by decide +kernel
theorem dX6_decideWhileOn_31 : decode cX6_decideWhileOn 31 = .ok (.bipush 10, 2) := by decide +kernel
theorem dX6_decideWhileOn_33 : decode cX6_decideWhileOn 33 = .ok (.invokevirtual 46, 3) := by decide +kernel
theorem dX6_decideWhileOn_36 : decode cX6_decideWhileOn 36 = .ok (.if_icmp .lt 7, 3) := by decide +kernel
theorem dX6_decideWhileOn_39 : decode cX6_decideWhileOn 39 = .ok (.iconst 4, 1) := by decide +kernel
theorem dX6_decideWhileOn_40 : decode cX6_decideWhileOn 40 = .ok (.goto 4, 3) := by decide +kernel
theorem dX6_decideWhileOn_43 : decode cX6_decideWhileOn 43 = .ok (.iconst 5, 1) := by decide +kernel
theorem dX6_decideWhileOn_44 : decode cX6_decideWhileOn 44 = .ok (.ireturn, 1) := by decide +kernel
set_option maxRecDepth 20000 in
theorem ggX6_decideWhileNeeded_X7_valueOf : GoodIn wsX6_decideWhileNeeded wsX7_valueOf := goodIn_r _ [7, 8, 9, 10, 11, 19] (by decide +kernel) (by decide +kernel)
set_option maxRecDepth 20000 in
theorem gX6_decideWhileNeeded_X7_valueOf : GoodIn wsX6_decideWhileNeeded (wsV RX6 46 RX7 yX7_valueOf wsX7_valueOf) := goodIn_app (goodIn_of _ (by decide +kernel)) ggX6_decideWhileNeeded_X7_valueOf
theorem dX6_decideWhileNeeded_0 : decode cX6_decideWhileNeeded 0 = .ok (.iload_n 2, 1) := by decide +kernel
theorem dX6_decideWhileNeeded_1 : decode cX6_decideWhileNeeded 1 = .ok (.ifCond .eq 6, 3) := by decide +kernel
theorem dX6_decideWhileNeeded_4 : decode cX6_decideWhileNeeded 4 = .ok (.bipush 7, 2) := by decide +kernel
theorem dX6_decideWhileNeeded_6 : decode cX6_decideWhileNeeded 6 = .ok (.ireturn, 1) := by decide +kernel
theorem dX6_decideWhileNeeded_7 : decode cX6_decideWhileNeeded 7 = .ok (.aload_n 0, 1) := by decide +kernel
theorem dX6_decideWhileNeeded_8 : decode cX6_decideWhileNeeded 8 = .ok (.getfield 15, 3) := by decide +kernel
theorem dX6_decideWhileNeeded_11 : decode cX6_decideWhileNeeded 11 = .ok (.aload_n 1, 1) := by decide +kernel
theorem dX6_decideWhileNeeded_12 : decode cX6_decideWhileNeeded 12 = .ok (.iconst 1, 1) := by decide +kernel
theorem dX6_decideWhileNeeded_13 : decode cX6_decideWhileNeeded 13 = .ok (.invokevirtual 46, 3) := by decide +kernel
theorem dX6_decideWhileNeeded_16 : decode cX6_decideWhileNeeded 16 = .ok (.if_icmp .ge 6, 3) := by decide +kernel
theorem dX6_decideWhileNeeded_19 : decode cX6_decideWhileNeeded 19 = .ok (.bipush 8, 2) := by decide +kernel
theorem dX6_decideWhileNeeded_21 : decode cX6_decideWhileNeeded 21 = .ok (.ireturn, 1) := by decide +kernel
theorem dX6_decideWhileNeeded_22 : decode cX6_decideWhileNeeded 22 = .ok (.aload_n 0, 1) := by decide +kernel
theorem dX6_decideWhileNeeded_23 : decode cX6_decideWhileNeeded 23 = .ok (.getfield 31, 3) := by decide +kernel
theorem dX6_decideWhileNeeded_26 : decode cX6_decideWhileNeeded 26 = .ok (.aload_n 1, 1) := by decide +kernel
theorem dX6_decideWhileNeeded_27 : decode cX6_decideWhileNeeded 27 = .ok (.iconst 2, 1) := by decide +kernel
theorem dX6_decideWhileNeeded_28 : decode cX6_decideWhileNeeded 28 = .ok (.invokevirtual 46, 3) := by decide +kernel
theorem dX6_decideWhileNeeded_31 : decode cX6_decideWhileNeeded 31 = .ok (.if_icmp .lt 6, 3) := by decide +kernel
theorem dX6_decideWhileNeeded_34 : decode cX6_decideWhileNeeded 34 = .ok (.bipush 9, 2) := by decide +kernel
theorem dX6_decideWhileNeeded_36 : decode cX6_decideWhileNeeded 36 = .ok (.ireturn, 1) := by decide +kernel
theorem dX6_decideWhileNeeded_37 : decode cX6_decideWhileNeeded 37 = .ok (.iload_n 3, 1) := by decide +kernel
theorem dX6_decideWhileNeeded_38 : decode cX6_decideWhileNeeded 38 = .ok (.ifCond .eq 8, 3) := by decide +kernel
theorem dX6_decideWhileNeeded_41 : decode cX6_decideWhileNeeded 41 = .ok (.bipush 10, 2) := by decide +kernel
theorem dX6_decideWhileNeeded_43 : decode cX6_decideWhileNeeded 43 = .ok (.goto 5, 3) := by decide +kernel
theorem dX6_decideWhileNeeded_46 : decode cX6_decideWhileNeeded 46 = .ok (.bipush 11, 2) := by decide +kernel
theorem dX6_decideWhileNeeded_48 : decode cX6_decideWhileNeeded 48 = .ok (.ireturn, 1) := by decide +kernel
theorem dX6_obey_0 : decode cX6_obey 0 = .ok (.iload_n 1, 1) := by decide +kernel
theorem dX6_obey_1 : decode cX6_obey 1 = .ok (.iconst 1, 1) := by decide +kernel
theorem dX6_obey_2 : decode cX6_obey 2 = .ok (.if_icmp .eq 8, 3) := by decide +kernel
theorem dX6_obey_5 : decode cX6_obey 5 = .ok (.iload_n 1, 1) := by decide +kernel
theorem dX6_obey_6 : decode cX6_obey 6 = .ok (.iconst 3, 1) := by decide +kernel
theorem dX6_obey_7 : decode cX6_obey 7 = .ok (.if_icmp .ne 16, 3) := by decide +kernel
theorem dX6_obey_10 : decode cX6_obey 10 = .ok (.aload_n 0, 1) := by decide +kernel
theorem dX6_obey_11 : decode cX6_obey 11 = .ok (.iconst 0, 1) := by decide +kernel
theorem dX6_obey_12 : decode cX6_obey 12 = .ok (.putfield 9, 3) := by decide +kernel
theorem dX6_obey_15 : decode cX6_obey 15 = .ok (.aload_n 0, 1) := by decide +kernel
theorem dX6_obey_16 : decode cX6_obey 16 = .ok (.iconst 0, 1) := by decide +kernel
theorem dX6_obey_17 : decode cX6_obey 17 = .ok (.putfield 15, 3) := by decide +kernel
theorem dX6_obey_20 : decode cX6_obey 20 = .ok (.goto 37, 3) := by decide +kernel
theorem dX6_obey_23 : decode cX6_obey 23 = .ok (.iload_n 1, 1) := by decide +kernel
theorem dX6_obey_24 : decode cX6_obey 24 = .ok (.iconst 4, 1) := by decide +kernel
theorem dX6_obey_25 : decode cX6_obey 25 = .ok (.if_icmp .ne 16, 3) := by decide +kernel
theorem dX6_obey_28 : decode cX6_obey 28 = .ok (.aload_n 0, 1) := by decide +kernel
theorem dX6_obey_29 : decode cX6_obey 29 = .ok (.iconst 2, 1) := by decide +kernel
theorem dX6_obey_30 : decode cX6_obey 30 = .ok (.putfield 9, 3) := by decide +kernel
theorem dX6_obey_33 : decode cX6_obey 33 = .ok (.aload_n 0, 1) := by decide +kernel
theorem dX6_obey_34 : decode cX6_obey 34 = .ok (.iconst 0, 1) := by decide +kernel
theorem dX6_obey_35 : decode cX6_obey 35 = .ok (.putfield 25, 3) := by decide +kernel
theorem dX6_obey_38 : decode cX6_obey 38 = .ok (.goto 19, 3) := by decide +kernel
theorem dX6_obey_41 : decode cX6_obey 41 = .ok (.iload_n 1, 1) := by decide +kernel
theorem dX6_obey_42 : decode cX6_obey 42 = .ok (.bipush 11, 2) := by decide +kernel
theorem dX6_obey_44 : decode cX6_obey 44 = .ok (.if_icmp .ne 13, 3) := by decide +kernel
theorem dX6_obey_47 : decode cX6_obey 47 = .ok (.aload_n 0, 1) := by decide +kernel
theorem dX6_obey_48 : decode cX6_obey 48 = .ok (.iconst 1, 1) := by decide +kernel
theorem dX6_obey_49 : decode cX6_obey 49 = .ok (.putfield 9, 3) := by decide +kernel
theorem dX6_obey_52 : decode cX6_obey 52 = .ok (.aload_n 0, 1) := by decide +kernel
theorem dX6_obey_53 : decode cX6_obey 53 = .ok (.iconst 0, 1) := by decide +kernel
theorem dX6_obey_54 : decode cX6_obey 54 = .ok (.putfield 22, 3) := by decide +kernel
theorem dX6_obey_57 : decode cX6_obey 57 = .ok (.return_, 1) := by decide +kernel
set_option maxRecDepth 20000 in
theorem ggX6_noteStart_X10_elementOr : GoodIn wsX6_noteStart wsX10_elementOr := goodIn_r _ [5] (by decide +kernel) (by decide +kernel)
set_option maxRecDepth 20000 in
theorem gX6_noteStart_X10_elementOr_n67 : GoodIn wsX6_noteStart (wsX10_elementOr) := ggX6_noteStart_X10_elementOr
set_option maxRecDepth 20000 in
theorem ggX6_noteStart_X10_replace : GoodIn wsX6_noteStart wsX10_replace := goodIn_r _ [7] (by decide +kernel) (by decide +kernel)
set_option maxRecDepth 20000 in
theorem gX6_noteStart_X10_replace_n71 : GoodIn wsX6_noteStart (wsX10_replace) := ggX6_noteStart_X10_replace
theorem dX6_noteStart_0 : decode cX6_noteStart 0 = .ok (.iload_n 1, 1) := by decide +kernel
theorem dX6_noteStart_1 : decode cX6_noteStart 1 = .ok (.bipush 60, 2) := by decide +kernel
theorem dX6_noteStart_3 : decode cX6_noteStart 3 = .ok (.irem, 1) := by decide +kernel
theorem dX6_noteStart_4 : decode cX6_noteStart 4 = .ok (.istore_n 3, 1) := by decide +kernel
theorem dX6_noteStart_5 : decode cX6_noteStart 5 = .ok (.aload_n 0, 1) := by decide +kernel
theorem dX6_noteStart_6 : decode cX6_noteStart 6 = .ok (.dup, 1) := by decide +kernel
theorem dX6_noteStart_7 : decode cX6_noteStart 7 = .ok (.getfield 31, 3) := by decide +kernel
theorem dX6_noteStart_10 : decode cX6_noteStart 10 = .ok (.iload_n 2, 1) := by decide +kernel
theorem dX6_noteStart_11 : decode cX6_noteStart 11 = .ok (.aload_n 0, 1) := by decide +kernel
theorem dX6_noteStart_12 : decode cX6_noteStart 12 = .ok (.getfield 18, 3) := by decide +kernel
theorem dX6_noteStart_15 : decode cX6_noteStart 15 = .ok (.iload_n 3, 1) := by decide +kernel
theorem dX6_noteStart_16 : decode cX6_noteStart 16 = .ok (.iconst 0, 1) := by decide +kernel
theorem dX6_noteStart_17 : decode cX6_noteStart 17 = .ok (.invokestatic 67, 3) := by decide +kernel
theorem dX6_noteStart_20 : decode cX6_noteStart 20 = .ok (.isub, 1) := by decide +kernel
theorem dX6_noteStart_21 : decode cX6_noteStart 21 = .ok (.iadd, 1) := by decide +kernel
theorem dX6_noteStart_22 : decode cX6_noteStart 22 = .ok (.putfield 31, 3) := by decide +kernel
theorem dX6_noteStart_25 : decode cX6_noteStart 25 = .ok (.aload_n 0, 1) := by decide +kernel
theorem dX6_noteStart_26 : decode cX6_noteStart 26 = .ok (.getfield 18, 3) := by decide +kernel
theorem dX6_noteStart_29 : decode cX6_noteStart 29 = .ok (.iload_n 3, 1) := by decide +kernel
theorem dX6_noteStart_30 : decode cX6_noteStart 30 = .ok (.iload_n 2, 1) := by decide +kernel
theorem dX6_noteStart_31 : decode cX6_noteStart 31 = .ok (.invokestatic 71, 3) := by decide +kernel
theorem dX6_noteStart_34 : decode cX6_noteStart 34 = .ok (.return_, 1) := by decide +kernel
theorem dX6_countMinute_0 : decode cX6_countMinute 0 = .ok (.aload_n 0, 1) := by decide +kernel
theorem dX6_countMinute_1 : decode cX6_countMinute 1 = .ok (.getfield 9, 3) := by decide +kernel
theorem dX6_countMinute_4 : decode cX6_countMinute 4 = .ok (.ifCond .ne 16, 3) := by decide +kernel
theorem dX6_countMinute_7 : decode cX6_countMinute 7 = .ok (.aload_n 0, 1) := by decide +kernel
theorem dX6_countMinute_8 : decode cX6_countMinute 8 = .ok (.dup, 1) := by decide +kernel
theorem dX6_countMinute_9 : decode cX6_countMinute 9 = .ok (.getfield 15, 3) := by decide +kernel
theorem dX6_countMinute_12 : decode cX6_countMinute 12 = .ok (.iconst 1, 1) := by decide +kernel
theorem dX6_countMinute_13 : decode cX6_countMinute 13 = .ok (.iadd, 1) := by decide +kernel
theorem dX6_countMinute_14 : decode cX6_countMinute 14 = .ok (.putfield 15, 3) := by decide +kernel
theorem dX6_countMinute_17 : decode cX6_countMinute 17 = .ok (.goto 13, 3) := by decide +kernel
theorem dX6_countMinute_20 : decode cX6_countMinute 20 = .ok (.aload_n 0, 1) := by decide +kernel
theorem dX6_countMinute_21 : decode cX6_countMinute 21 = .ok (.dup, 1) := by decide +kernel
theorem dX6_countMinute_22 : decode cX6_countMinute 22 = .ok (.getfield 22, 3) := by decide +kernel
theorem dX6_countMinute_25 : decode cX6_countMinute 25 = .ok (.iconst 1, 1) := by decide +kernel
theorem dX6_countMinute_26 : decode cX6_countMinute 26 = .ok (.iadd, 1) := by decide +kernel
theorem dX6_countMinute_27 : decode cX6_countMinute 27 = .ok (.putfield 22, 3) := by decide +kernel
theorem dX6_countMinute_30 : decode cX6_countMinute 30 = .ok (.aload_n 0, 1) := by decide +kernel
theorem dX6_countMinute_31 : decode cX6_countMinute 31 = .ok (.getfield 9, 3) := by decide +kernel
theorem dX6_countMinute_34 : decode cX6_countMinute 34 = .ok (.iconst 2, 1) := by decide +kernel
theorem dX6_countMinute_35 : decode cX6_countMinute 35 = .ok (.if_icmp .ne 13, 3) := by decide +kernel
theorem dX6_countMinute_38 : decode cX6_countMinute 38 = .ok (.aload_n 0, 1) := by decide +kernel
theorem dX6_countMinute_39 : decode cX6_countMinute 39 = .ok (.dup, 1) := by decide +kernel
theorem dX6_countMinute_40 : decode cX6_countMinute 40 = .ok (.getfield 25, 3) := by decide +kernel
theorem dX6_countMinute_43 : decode cX6_countMinute 43 = .ok (.iconst 1, 1) := by decide +kernel
theorem dX6_countMinute_44 : decode cX6_countMinute 44 = .ok (.iadd, 1) := by decide +kernel
theorem dX6_countMinute_45 : decode cX6_countMinute 45 = .ok (.putfield 25, 3) := by decide +kernel
theorem dX6_countMinute_48 : decode cX6_countMinute 48 = .ok (.return_, 1) := by decide +kernel
theorem dX7_init_0 : decode cX7_init 0 = .ok (.aload_n 0, 1) := by decide +kernel
theorem dX7_init_1 : decode cX7_init 1 = .ok (.invokespecial 1, 3) := by decide +kernel
theorem dX7_init_4 : decode cX7_init 4 = .ok (.aload_n 0, 1) := by decide +kernel
theorem dX7_init_5 : decode cX7_init 5 = .ok (.bipush 17, 2) := by decide +kernel
theorem dX7_init_7 : decode cX7_init 7 = .ok (.newarray .int, 2) := by decide +kernel
theorem dX7_init_9 : decode cX7_init 9 = .ok (.putfield 9, 3) := by decide +kernel
theorem dX7_init_12 : decode cX7_init 12 = .ok (.iconst 0, 1) := by decide +kernel
theorem dX7_init_13 : decode cX7_init 13 = .ok (.istore_n 1, 1) := by decide +kernel
theorem dX7_init_14 : decode cX7_init 14 = .ok (.iload_n 1, 1) := by decide +kernel
theorem dX7_init_15 : decode cX7_init 15 = .ok (.aload_n 0, 1) := by decide +kernel
theorem dX7_init_16 : decode cX7_init 16 = .ok (.getfield 9, 3) := by decide +kernel
theorem dX7_init_19 : decode cX7_init 19 = .ok (.arraylength, 1) := by decide +kernel
theorem dX7_init_20 : decode cX7_init 20 = .ok (.if_icmp .ge 28, 3) := by decide +kernel
theorem dX7_init_23 : decode cX7_init 23 = .ok (.iload_n 1, 1) := by decide +kernel
theorem dX7_init_24 : decode cX7_init 24 = .ok (.getstatic 13, 3) := by decide +kernel
theorem dX7_init_27 : decode cX7_init 27 = .ok (.arraylength, 1) := by decide +kernel
theorem dX7_init_28 : decode cX7_init 28 = .ok (.if_icmp .ge 20, 3) := by decide +kernel
theorem dX7_init_31 : decode cX7_init 31 = .ok (.aload_n 0, 1) := by decide +kernel
theorem dX7_init_32 : decode cX7_init 32 = .ok (.getfield 9, 3) := by decide +kernel
theorem dX7_init_35 : decode cX7_init 35 = .ok (.iload_n 1, 1) := by decide +kernel
theorem dX7_init_36 : decode cX7_init 36 = .ok (.getstatic 13, 3) := by decide +kernel
theorem dX7_init_39 : decode cX7_init 39 = .ok (.iload_n 1, 1) := by decide +kernel
theorem dX7_init_40 : decode cX7_init 40 = .ok (.iaload, 1) := by decide +kernel
theorem dX7_init_41 : decode cX7_init 41 = .ok (.iastore, 1) := by decide +kernel
theorem dX7_init_42 : decode cX7_init 42 = .ok (.iinc 1 1, 3) := by decide +kernel
theorem dX7_init_45 : decode cX7_init 45 = .ok (.goto (-31), 3) := by decide +kernel
theorem dX7_init_48 : decode cX7_init 48 = .ok (.return_, 1) := by decide +kernel
theorem dX7_allows_0 : decode cX7_allows 0 = .ok (.iload_n 0, 1) := by decide +kernel
theorem dX7_allows_1 : decode cX7_allows 1 = .ok (.ifCond .lt 41, 3) := by decide +kernel
theorem dX7_allows_4 : decode cX7_allows 4 = .ok (.iload_n 0, 1) := by decide +kernel
theorem dX7_allows_5 : decode cX7_allows 5 = .ok (.getstatic 16, 3) := by decide +kernel
theorem dX7_allows_8 : decode cX7_allows 8 = .ok (.arraylength, 1) := by decide +kernel
theorem dX7_allows_9 : decode cX7_allows 9 = .ok (.if_icmp .ge 33, 3) := by decide +kernel
theorem dX7_allows_12 : decode cX7_allows 12 = .ok (.iload_n 0, 1) := by decide +kernel
theorem dX7_allows_13 : decode cX7_allows 13 = .ok (.getstatic 19, 3) := by decide +kernel
theorem dX7_allows_16 : decode cX7_allows 16 = .ok (.arraylength, 1) := by decide +kernel
theorem dX7_allows_17 : decode cX7_allows 17 = .ok (.if_icmp .ge 25, 3) := by decide +kernel
theorem dX7_allows_20 : decode cX7_allows 20 = .ok (.iload_n 1, 1) := by decide +kernel
theorem dX7_allows_21 : decode cX7_allows 21 = .ok (.getstatic 16, 3) := by decide +kernel
theorem dX7_allows_24 : decode cX7_allows 24 = .ok (.iload_n 0, 1) := by decide +kernel
theorem dX7_allows_25 : decode cX7_allows 25 = .ok (.iaload, 1) := by decide +kernel
theorem dX7_allows_26 : decode cX7_allows 26 = .ok (.if_icmp .lt 16, 3) := by decide +kernel
theorem dX7_allows_29 : decode cX7_allows 29 = .ok (.iload_n 1, 1) := by decide +kernel
theorem dX7_allows_30 : decode cX7_allows 30 = .ok (.getstatic 19, 3) := by decide +kernel
theorem dX7_allows_33 : decode cX7_allows 33 = .ok (.iload_n 0, 1) := by decide +kernel
theorem dX7_allows_34 : decode cX7_allows 34 = .ok (.iaload, 1) := by decide +kernel
theorem dX7_allows_35 : decode cX7_allows 35 = .ok (.if_icmp .gt 7, 3) := by decide +kernel
theorem dX7_allows_38 : decode cX7_allows 38 = .ok (.iconst 1, 1) := by decide +kernel
theorem dX7_allows_39 : decode cX7_allows 39 = .ok (.goto 4, 3) := by decide +kernel
theorem dX7_allows_42 : decode cX7_allows 42 = .ok (.iconst 0, 1) := by decide +kernel
theorem dX7_allows_43 : decode cX7_allows 43 = .ok (.ireturn, 1) := by decide +kernel
set_option maxRecDepth 20000 in
theorem ggX7_valueOf_X10_elementOr : GoodIn wsX7_valueOf wsX10_elementOr := goodIn_r _ [4] (by decide +kernel) (by decide +kernel)
set_option maxRecDepth 20000 in
theorem gX7_valueOf_X10_elementOr_n22 : GoodIn wsX7_valueOf (wsX10_elementOr) := ggX7_valueOf_X10_elementOr
theorem dX7_valueOf_0 : decode cX7_valueOf 0 = .ok (.aload_n 0, 1) := by decide +kernel
theorem dX7_valueOf_1 : decode cX7_valueOf 1 = .ok (.getfield 9, 3) := by decide +kernel
theorem dX7_valueOf_4 : decode cX7_valueOf 4 = .ok (.iload_n 1, 1) := by decide +kernel
theorem dX7_valueOf_5 : decode cX7_valueOf 5 = .ok (.iconst 0, 1) := by decide +kernel
theorem dX7_valueOf_6 : decode cX7_valueOf 6 = .ok (.invokestatic 22, 3) := by decide +kernel
theorem dX7_valueOf_9 : decode cX7_valueOf 9 = .ok (.ireturn, 1) := by decide +kernel
set_option maxRecDepth 20000 in
theorem ggX7_change_X10_replace : GoodIn wsX7_change wsX10_replace := goodIn_r _ [4] (by decide +kernel) (by decide +kernel)
set_option maxRecDepth 20000 in
theorem gX7_change_X10_replace_n28 : GoodIn wsX7_change (wsX10_replace) := ggX7_change_X10_replace
theorem dX7_change_0 : decode cX7_change 0 = .ok (.aload_n 0, 1) := by decide +kernel
theorem dX7_change_1 : decode cX7_change 1 = .ok (.getfield 9, 3) := by decide +kernel
theorem dX7_change_4 : decode cX7_change 4 = .ok (.iload_n 1, 1) := by decide +kernel
theorem dX7_change_5 : decode cX7_change 5 = .ok (.iload_n 2, 1) := by decide +kernel
theorem dX7_change_6 : decode cX7_change 6 = .ok (.invokestatic 28, 3) := by decide +kernel
theorem dX7_change_9 : decode cX7_change 9 = .ok (.return_, 1) := by decide +kernel
set_option maxRecDepth 20000 in
theorem ggX8_init_X10_setAll : GoodIn wsX8_init wsX10_setAll := goodIn_r _ [10] (by decide +kernel) (by decide +kernel)
set_option maxRecDepth 20000 in
theorem gX8_init_X10_setAll_n21 : GoodIn wsX8_init (wsX10_setAll) := ggX8_init_X10_setAll
set_option maxRecDepth 20000 in
theorem ggX8_init_X10_replace : GoodIn wsX8_init wsX10_replace := goodIn_r _ [12] (by decide +kernel) (by decide +kernel)
set_option maxRecDepth 20000 in
theorem gX8_init_X10_replace_n25 : GoodIn wsX8_init (wsX10_replace) := ggX8_init_X10_replace
theorem dX8_init_0 : decode cX8_init 0 = .ok (.aload_n 0, 1) := by decide +kernel
theorem dX8_init_1 : decode cX8_init 1 = .ok (.invokespecial 3, 3) := by decide +kernel
theorem dX8_init_4 : decode cX8_init 4 = .ok (.aload_n 0, 1) := by decide +kernel
theorem dX8_init_5 : decode cX8_init 5 = .ok (.bipush 24, 2) := by decide +kernel
theorem dX8_init_7 : decode cX8_init 7 = .ok (.newarray .int, 2) := by decide +kernel
theorem dX8_init_9 : decode cX8_init 9 = .ok (.putfield 9, 3) := by decide +kernel
theorem dX8_init_12 : decode cX8_init 12 = .ok (.aload_n 0, 1) := by decide +kernel
theorem dX8_init_13 : decode cX8_init 13 = .ok (.bipush 24, 2) := by decide +kernel
theorem dX8_init_15 : decode cX8_init 15 = .ok (.newarray .int, 2) := by decide +kernel
theorem dX8_init_17 : decode cX8_init 17 = .ok (.putfield 15, 3) := by decide +kernel
theorem dX8_init_20 : decode cX8_init 20 = .ok (.aload_n 0, 1) := by decide +kernel
theorem dX8_init_21 : decode cX8_init 21 = .ok (.iconst 3, 1) := by decide +kernel
theorem dX8_init_22 : decode cX8_init 22 = .ok (.newarray .int, 2) := by decide +kernel
theorem dX8_init_24 : decode cX8_init 24 = .ok (.putfield 18, 3) := by decide +kernel
theorem dX8_init_27 : decode cX8_init 27 = .ok (.aload_n 0, 1) := by decide +kernel
theorem dX8_init_28 : decode cX8_init 28 = .ok (.getfield 9, 3) := by decide +kernel
theorem dX8_init_31 : decode cX8_init 31 = .ok (.bipush 50, 2) := by decide +kernel
theorem dX8_init_33 : decode cX8_init 33 = .ok (.invokestatic 21, 3) := by decide +kernel
theorem dX8_init_36 : decode cX8_init 36 = .ok (.aload_n 0, 1) := by decide +kernel
theorem dX8_init_37 : decode cX8_init 37 = .ok (.getfield 15, 3) := by decide +kernel
theorem dX8_init_40 : decode cX8_init 40 = .ok (.iconst 1, 1) := by decide +kernel
theorem dX8_init_41 : decode cX8_init 41 = .ok (.invokestatic 21, 3) := by decide +kernel
theorem dX8_init_44 : decode cX8_init 44 = .ok (.aload_n 0, 1) := by decide +kernel
theorem dX8_init_45 : decode cX8_init 45 = .ok (.getfield 18, 3) := by decide +kernel
theorem dX8_init_48 : decode cX8_init 48 = .ok (.iconst 0, 1) := by decide +kernel
theorem dX8_init_49 : decode cX8_init 49 = .ok (.bipush 10, 2) := by decide +kernel
theorem dX8_init_51 : decode cX8_init 51 = .ok (.invokestatic 25, 3) := by decide +kernel
theorem dX8_init_54 : decode cX8_init 54 = .ok (.aload_n 0, 1) := by decide +kernel
theorem dX8_init_55 : decode cX8_init 55 = .ok (.getfield 18, 3) := by decide +kernel
theorem dX8_init_58 : decode cX8_init 58 = .ok (.iconst 1, 1) := by decide +kernel
theorem dX8_init_59 : decode cX8_init 59 = .ok (.bipush 20, 2) := by decide +kernel
theorem dX8_init_61 : decode cX8_init 61 = .ok (.invokestatic 25, 3) := by decide +kernel
theorem dX8_init_64 : decode cX8_init 64 = .ok (.aload_n 0, 1) := by decide +kernel
theorem dX8_init_65 : decode cX8_init 65 = .ok (.getfield 18, 3) := by decide +kernel
theorem dX8_init_68 : decode cX8_init 68 = .ok (.iconst 2, 1) := by decide +kernel
theorem dX8_init_69 : decode cX8_init 69 = .ok (.bipush 40, 2) := by decide +kernel
theorem dX8_init_71 : decode cX8_init 71 = .ok (.invokestatic 25, 3) := by decide +kernel
theorem dX8_init_74 : decode cX8_init 74 = .ok (.return_, 1) := by decide +kernel
theorem dX8_isHour_0 : decode cX8_isHour 0 = .ok (.iload_n 0, 1) := by decide +kernel
theorem dX8_isHour_1 : decode cX8_isHour 1 = .ok (.ifCond .lt 13, 3) := by decide +kernel
theorem dX8_isHour_4 : decode cX8_isHour 4 = .ok (.iload_n 0, 1) := by decide +kernel
theorem dX8_isHour_5 : decode cX8_isHour 5 = .ok (.bipush 24, 2) := by decide +kernel
theorem dX8_isHour_7 : decode cX8_isHour 7 = .ok (.if_icmp .ge 7, 3) := by decide +kernel
theorem dX8_isHour_10 : decode cX8_isHour 10 = .ok (.iconst 1, 1) := by decide +kernel
theorem dX8_isHour_11 : decode cX8_isHour 11 = .ok (.goto 4, 3) := by decide +kernel
theorem dX8_isHour_14 : decode cX8_isHour 14 = .ok (.iconst 0, 1) := by decide +kernel
theorem dX8_isHour_15 : decode cX8_isHour 15 = .ok (.ireturn, 1) := by decide +kernel
theorem dX8_isOutdoor_0 : decode cX8_isOutdoor 0 = .ok (.iload_n 0, 1) := by decide +kernel
theorem dX8_isOutdoor_1 : decode cX8_isOutdoor 1 = .ok (.sipush (-300), 3) := by decide +kernel
theorem dX8_isOutdoor_4 : decode cX8_isOutdoor 4 = .ok (.if_icmp .lt 14, 3) := by decide +kernel
theorem dX8_isOutdoor_7 : decode cX8_isOutdoor 7 = .ok (.iload_n 0, 1) := by decide +kernel
theorem dX8_isOutdoor_8 : decode cX8_isOutdoor 8 = .ok (.sipush 400, 3) := by decide +kernel
theorem dX8_isOutdoor_11 : decode cX8_isOutdoor 11 = .ok (.if_icmp .gt 7, 3) := by decide +kernel
theorem dX8_isOutdoor_14 : decode cX8_isOutdoor 14 = .ok (.iconst 1, 1) := by decide +kernel
theorem dX8_isOutdoor_15 : decode cX8_isOutdoor 15 = .ok (.goto 4, 3) := by decide +kernel
theorem dX8_isOutdoor_18 : decode cX8_isOutdoor 18 = .ok (.iconst 0, 1) := by decide +kernel
theorem dX8_isOutdoor_19 : decode cX8_isOutdoor 19 = .ok (.ireturn, 1) := by decide +kernel
theorem dX8_isTariff_0 : decode cX8_isTariff 0 = .ok (.iload_n 0, 1) := by decide +kernel
theorem dX8_isTariff_1 : decode cX8_isTariff 1 = .ok (.ifCond .lt 12, 3) := by decide +kernel
theorem dX8_isTariff_4 : decode cX8_isTariff 4 = .ok (.iload_n 0, 1) := by decide +kernel
theorem dX8_isTariff_5 : decode cX8_isTariff 5 = .ok (.iconst 3, 1) := by decide +kernel
theorem dX8_isTariff_6 : decode cX8_isTariff 6 = .ok (.if_icmp .ge 7, 3) := by decide +kernel
theorem dX8_isTariff_9 : decode cX8_isTariff 9 = .ok (.iconst 1, 1) := by decide +kernel
theorem dX8_isTariff_10 : decode cX8_isTariff 10 = .ok (.goto 4, 3) := by decide +kernel
theorem dX8_isTariff_13 : decode cX8_isTariff 13 = .ok (.iconst 0, 1) := by decide +kernel
theorem dX8_isTariff_14 : decode cX8_isTariff 14 = .ok (.ireturn, 1) := by decide +kernel
theorem dX8_isPrice_0 : decode cX8_isPrice 0 = .ok (.iload_n 0, 1) := by decide +kernel
theorem dX8_isPrice_1 : decode cX8_isPrice 1 = .ok (.ifCond .lt 14, 3) := by decide +kernel
theorem dX8_isPrice_4 : decode cX8_isPrice 4 = .ok (.iload_n 0, 1) := by decide +kernel
theorem dX8_isPrice_5 : decode cX8_isPrice 5 = .ok (.sipush 1000, 3) := by decide +kernel
theorem dX8_isPrice_8 : decode cX8_isPrice 8 = .ok (.if_icmp .gt 7, 3) := by decide +kernel
theorem dX8_isPrice_11 : decode cX8_isPrice 11 = .ok (.iconst 1, 1) := by decide +kernel
theorem dX8_isPrice_12 : decode cX8_isPrice 12 = .ok (.goto 4, 3) := by decide +kernel
theorem dX8_isPrice_15 : decode cX8_isPrice 15 = .ok (.iconst 0, 1) := by decide +kernel
theorem dX8_isPrice_16 : decode cX8_isPrice 16 = .ok (.ireturn, 1) := by decide +kernel
set_option maxRecDepth 20000 in
theorem ggX8_copyFrom_X10_copyRow : GoodIn wsX8_copyFrom wsX10_copyRow := goodIn_r _ [6] (by decide +kernel) (by decide +kernel)
set_option maxRecDepth 20000 in
theorem gX8_copyFrom_X10_copyRow_n29 : GoodIn wsX8_copyFrom (wsX10_copyRow) := ggX8_copyFrom_X10_copyRow
theorem dX8_copyFrom_0 : decode cX8_copyFrom 0 = .ok (.aload_n 1, 1) := by decide +kernel
theorem dX8_copyFrom_1 : decode cX8_copyFrom 1 = .ok (.getfield 9, 3) := by decide +kernel
theorem dX8_copyFrom_4 : decode cX8_copyFrom 4 = .ok (.aload_n 0, 1) := by decide +kernel
theorem dX8_copyFrom_5 : decode cX8_copyFrom 5 = .ok (.getfield 9, 3) := by decide +kernel
theorem dX8_copyFrom_8 : decode cX8_copyFrom 8 = .ok (.invokestatic 29, 3) := by decide +kernel
theorem dX8_copyFrom_11 : decode cX8_copyFrom 11 = .ok (.aload_n 1, 1) := by decide +kernel
theorem dX8_copyFrom_12 : decode cX8_copyFrom 12 = .ok (.getfield 15, 3) := by decide +kernel
theorem dX8_copyFrom_15 : decode cX8_copyFrom 15 = .ok (.aload_n 0, 1) := by decide +kernel
theorem dX8_copyFrom_16 : decode cX8_copyFrom 16 = .ok (.getfield 15, 3) := by decide +kernel
theorem dX8_copyFrom_19 : decode cX8_copyFrom 19 = .ok (.invokestatic 29, 3) := by decide +kernel
theorem dX8_copyFrom_22 : decode cX8_copyFrom 22 = .ok (.aload_n 1, 1) := by decide +kernel
theorem dX8_copyFrom_23 : decode cX8_copyFrom 23 = .ok (.getfield 18, 3) := by decide +kernel
theorem dX8_copyFrom_26 : decode cX8_copyFrom 26 = .ok (.aload_n 0, 1) := by decide +kernel
theorem dX8_copyFrom_27 : decode cX8_copyFrom 27 = .ok (.getfield 18, 3) := by decide +kernel
theorem dX8_copyFrom_30 : decode cX8_copyFrom 30 = .ok (.invokestatic 29, 3) := by decide +kernel
theorem dX8_copyFrom_33 : decode cX8_copyFrom 33 = .ok (.return_, 1) := by decide +kernel
theorem dX9_init_0 : decode cX9_init 0 = .ok (.aload_n 0, 1) := by decide +kernel
theorem dX9_init_1 : decode cX9_init 1 = .ok (.invokespecial 3, 3) := by decide +kernel
theorem dX9_init_4 : decode cX9_init 4 = .ok (.aload_n 0, 1) := by decide +kernel
theorem dX9_init_5 : decode cX9_init 5 = .ok (.bipush 100, 2) := by decide +kernel
theorem dX9_init_7 : decode cX9_init 7 = .ok (.newarray .int, 2) := by decide +kernel
theorem dX9_init_9 : decode cX9_init 9 = .ok (.putfield 11, 3) := by decide +kernel
theorem dX9_init_12 : decode cX9_init 12 = .ok (.return_, 1) := by decide +kernel
set_option maxRecDepth 20000 in
theorem ggX9_countEntries_X9_readEntry : GoodIn wsX9_countEntries wsX9_readEntry := goodIn_r _ [10, 4, 5, 3, 11, 12, 13, 14, 9, 15, 16, 17, 18, 19, 1, 20, 21, 22, 23, 2, 24, 25, 26, 27, 28, 29, 30, 31, 32, 33, 34, 35, 36, 37, 38, 39, 44, 45, 46, 47, 48, 49, 50] (by decide +kernel) (by decide +kernel)
set_option maxRecDepth 20000 in
theorem gX9_countEntries_X9_readEntry : GoodIn wsX9_countEntries (wsV RX9 26 RX9 yX9_readEntry wsX9_readEntry) := goodIn_app (goodIn_of _ (by decide +kernel)) ggX9_countEntries_X9_readEntry
set_option maxRecDepth 20000 in
theorem ggX9_countEntries_X8_isOutdoor : GoodIn wsX9_countEntries wsX8_isOutdoor := goodIn_r _ [43] (by decide +kernel) (by decide +kernel)
set_option maxRecDepth 20000 in
theorem gX9_countEntries_X8_isOutdoor : GoodIn wsX9_countEntries (va_wsS RX9 33 yX8_isOutdoor wsX8_isOutdoor) := goodIn_app (goodIn_of _ (by decide +kernel)) ggX9_countEntries_X8_isOutdoor
theorem dX9_countEntries_0 : decode cX9_countEntries 0 = .ok (.iconst 0, 1) := by decide +kernel
theorem dX9_countEntries_1 : decode cX9_countEntries 1 = .ok (.istore_n 1, 1) := by decide +kernel
theorem dX9_countEntries_2 : decode cX9_countEntries 2 = .ok (.iconst 1, 1) := by decide +kernel
theorem dX9_countEntries_3 : decode cX9_countEntries 3 = .ok (.istore_n 2, 1) := by decide +kernel
theorem dX9_countEntries_4 : decode cX9_countEntries 4 = .ok (.aload_n 0, 1) := by decide +kernel
theorem dX9_countEntries_5 : decode cX9_countEntries 5 = .ok (.iconst 0, 1) := by decide +kernel
theorem dX9_countEntries_6 : decode cX9_countEntries 6 = .ok (.putfield 23, 3) := by decide +kernel
theorem dX9_countEntries_9 : decode cX9_countEntries 9 = .ok (.iload_n 1, 1) := by decide +kernel
theorem dX9_countEntries_10 : decode cX9_countEntries 10 = .ok (.bipush 100, 2) := by decide +kernel
theorem dX9_countEntries_12 : decode cX9_countEntries 12 = .ok (.if_icmp .ge 66, 3) := by decide +kernel
theorem dX9_countEntries_15 : decode cX9_countEntries 15 = .ok (.aload_n 0, 1) := by decide +kernel
theorem dX9_countEntries_16 : decode cX9_countEntries 16 = .ok (.getfield 23, 3) := by decide +kernel
theorem dX9_countEntries_19 : decode cX9_countEntries 19 = .ok (.aload_n 0, 1) := by decide +kernel
theorem dX9_countEntries_20 : decode cX9_countEntries 20 = .ok (.getfield 15, 3) := by decide +kernel
theorem dX9_countEntries_23 : decode cX9_countEntries 23 = .ok (.if_icmp .ge 55, 3) := by decide +kernel
theorem dX9_countEntries_26 : decode cX9_countEntries 26 = .ok (.aload_n 0, 1) := by decide +kernel
theorem dX9_countEntries_27 : decode cX9_countEntries 27 = .ok (.invokevirtual 26, 3) := by decide +kernel
theorem dX9_countEntries_30 : decode cX9_countEntries 30 = .ok (.ifCond .ne 11, 3) := by decide +kernel
theorem dX9_countEntries_33 : decode cX9_countEntries 33 = .ok (.bipush (-10), 2) := by decide +kernel
theorem dX9_countEntries_35 : decode cX9_countEntries 35 = .ok (.aload_n 0, 1) := by decide +kernel
theorem dX9_countEntries_36 : decode cX9_countEntries 36 = .ok (.getfield 23, 3) := by decide +kernel
theorem dX9_countEntries_39 : decode cX9_countEntries 39 = .ok (.isub, 1) := by decide +kernel
theorem dX9_countEntries_40 : decode cX9_countEntries 40 = .ok (.ireturn, 1) := by decide +kernel
theorem dX9_countEntries_41 : decode cX9_countEntries 41 = .ok (.iload_n 2, 1) := by decide +kernel
theorem dX9_countEntries_42 : decode cX9_countEntries 42 = .ok (.ifCond .eq 28, 3) := by decide +kernel
theorem dX9_countEntries_45 : decode cX9_countEntries 45 = .ok (.aload_n 0, 1) := by decide +kernel
theorem dX9_countEntries_46 : decode cX9_countEntries 46 = .ok (.getfield 30, 3) := by decide +kernel
theorem dX9_countEntries_49 : decode cX9_countEntries 49 = .ok (.invokestatic 33, 3) := by decide +kernel
theorem dX9_countEntries_52 : decode cX9_countEntries 52 = .ok (.ifCond .eq 18, 3) := by decide +kernel
theorem dX9_countEntries_55 : decode cX9_countEntries 55 = .ok (.aload_n 0, 1) := by decide +kernel
theorem dX9_countEntries_56 : decode cX9_countEntries 56 = .ok (.getfield 39, 3) := by decide +kernel
theorem dX9_countEntries_59 : decode cX9_countEntries 59 = .ok (.aload_n 0, 1) := by decide +kernel
theorem dX9_countEntries_60 : decode cX9_countEntries 60 = .ok (.getfield 42, 3) := by decide +kernel
theorem dX9_countEntries_63 : decode cX9_countEntries 63 = .ok (.if_icmp .gt 7, 3) := by decide +kernel
theorem dX9_countEntries_66 : decode cX9_countEntries 66 = .ok (.iconst 1, 1) := by decide +kernel
theorem dX9_countEntries_67 : decode cX9_countEntries 67 = .ok (.goto 4, 3) := by decide +kernel
theorem dX9_countEntries_70 : decode cX9_countEntries 70 = .ok (.iconst 0, 1) := by decide +kernel
theorem dX9_countEntries_71 : decode cX9_countEntries 71 = .ok (.istore_n 2, 1) := by decide +kernel
theorem dX9_countEntries_72 : decode cX9_countEntries 72 = .ok (.iinc 1 1, 3) := by decide +kernel
theorem dX9_countEntries_75 : decode cX9_countEntries 75 = .ok (.goto (-66), 3) := by decide +kernel
theorem dX9_countEntries_78 : decode cX9_countEntries 78 = .ok (.iload_n 2, 1) := by decide +kernel
theorem dX9_countEntries_79 : decode cX9_countEntries 79 = .ok (.ifCond .eq 7, 3) := by decide +kernel
theorem dX9_countEntries_82 : decode cX9_countEntries 82 = .ok (.iload_n 1, 1) := by decide +kernel
theorem dX9_countEntries_83 : decode cX9_countEntries 83 = .ok (.goto 5, 3) := by decide +kernel
theorem dX9_countEntries_86 : decode cX9_countEntries 86 = .ok (.bipush (-2), 2) := by decide +kernel
theorem dX9_countEntries_88 : decode cX9_countEntries 88 = .ok (.ireturn, 1) := by decide +kernel
set_option maxRecDepth 20000 in
theorem ggX9_carryOut_X9_readEntry : GoodIn wsX9_carryOut wsX9_readEntry := goodIn_r _ [13, 3, 4, 6, 7, 14, 15, 16, 12, 17, 18, 19, 20, 21, 1, 22, 23, 24, 25, 2, 26, 27, 28, 29, 30, 31, 32, 33, 34, 35, 36, 37, 38, 39, 40, 41, 44, 45, 46, 47, 48, 49, 50] (by decide +kernel) (by decide +kernel)
set_option maxRecDepth 20000 in
theorem gX9_carryOut_X9_readEntry : GoodIn wsX9_carryOut (wsV RX9 26 RX9 yX9_readEntry wsX9_readEntry) := goodIn_app (goodIn_of _ (by decide +kernel)) ggX9_carryOut_X9_readEntry
set_option maxRecDepth 20000 in
theorem ggX9_carryOut_X10_replace : GoodIn wsX9_carryOut wsX10_replace := goodIn_r _ [43] (by decide +kernel) (by decide +kernel)
set_option maxRecDepth 20000 in
theorem gX9_carryOut_X10_replace_n19 : GoodIn wsX9_carryOut (wsX10_replace) := ggX9_carryOut_X10_replace
theorem dX9_carryOut_0 : decode cX9_carryOut 0 = .ok (.aload_n 0, 1) := by decide +kernel
theorem dX9_carryOut_1 : decode cX9_carryOut 1 = .ok (.iconst 0, 1) := by decide +kernel
theorem dX9_carryOut_2 : decode cX9_carryOut 2 = .ok (.putfield 23, 3) := by decide +kernel
theorem dX9_carryOut_5 : decode cX9_carryOut 5 = .ok (.iconst 0, 1) := by decide +kernel
theorem dX9_carryOut_6 : decode cX9_carryOut 6 = .ok (.istore_n 2, 1) := by decide +kernel
theorem dX9_carryOut_7 : decode cX9_carryOut 7 = .ok (.iload_n 2, 1) := by decide +kernel
theorem dX9_carryOut_8 : decode cX9_carryOut 8 = .ok (.bipush 100, 2) := by decide +kernel
theorem dX9_carryOut_10 : decode cX9_carryOut 10 = .ok (.if_icmp .ge 78, 3) := by decide +kernel
theorem dX9_carryOut_13 : decode cX9_carryOut 13 = .ok (.aload_n 0, 1) := by decide +kernel
theorem dX9_carryOut_14 : decode cX9_carryOut 14 = .ok (.getfield 23, 3) := by decide +kernel
theorem dX9_carryOut_17 : decode cX9_carryOut 17 = .ok (.aload_n 0, 1) := by decide +kernel
theorem dX9_carryOut_18 : decode cX9_carryOut 18 = .ok (.getfield 15, 3) := by decide +kernel
theorem dX9_carryOut_21 : decode cX9_carryOut 21 = .ok (.if_icmp .ge 67, 3) := by decide +kernel
theorem dX9_carryOut_24 : decode cX9_carryOut 24 = .ok (.aload_n 0, 1) := by decide +kernel
theorem dX9_carryOut_25 : decode cX9_carryOut 25 = .ok (.invokevirtual 26, 3) := by decide +kernel
theorem dX9_carryOut_28 : decode cX9_carryOut 28 = .ok (.ifCond .eq 60, 3) := by decide +kernel
theorem dX9_carryOut_31 : decode cX9_carryOut 31 = .ok (.aload_n 0, 1) := by decide +kernel
theorem dX9_carryOut_32 : decode cX9_carryOut 32 = .ok (.getfield 39, 3) := by decide +kernel
theorem dX9_carryOut_35 : decode cX9_carryOut 35 = .ok (.istore_n 3, 1) := by decide +kernel
theorem dX9_carryOut_36 : decode cX9_carryOut 36 = .ok (.iload_n 3, 1) := by decide +kernel
theorem dX9_carryOut_37 : decode cX9_carryOut 37 = .ok (.aload_n 0, 1) := by decide +kernel
theorem dX9_carryOut_38 : decode cX9_carryOut 38 = .ok (.getfield 42, 3) := by decide +kernel
theorem dX9_carryOut_41 : decode cX9_carryOut 41 = .ok (.if_icmp .gt 41, 3) := by decide +kernel
theorem dX9_carryOut_44 : decode cX9_carryOut 44 = .ok (.aload_n 1, 1) := by decide +kernel
theorem dX9_carryOut_45 : decode cX9_carryOut 45 = .ok (.getfield 45, 3) := by decide +kernel
theorem dX9_carryOut_48 : decode cX9_carryOut 48 = .ok (.iload_n 3, 1) := by decide +kernel
theorem dX9_carryOut_49 : decode cX9_carryOut 49 = .ok (.aload_n 0, 1) := by decide +kernel
theorem dX9_carryOut_50 : decode cX9_carryOut 50 = .ok (.getfield 30, 3) := by decide +kernel
theorem dX9_carryOut_53 : decode cX9_carryOut 53 = .ok (.invokestatic 19, 3) := by decide +kernel
theorem dX9_carryOut_56 : decode cX9_carryOut 56 = .ok (.aload_n 0, 1) := by decide +kernel
theorem dX9_carryOut_57 : decode cX9_carryOut 57 = .ok (.getfield 48, 3) := by decide +kernel
theorem dX9_carryOut_60 : decode cX9_carryOut 60 = .ok (.iconst (-1), 1) := by decide +kernel
theorem dX9_carryOut_61 : decode cX9_carryOut 61 = .ok (.if_icmp .eq 15, 3) := by decide +kernel
theorem dX9_carryOut_64 : decode cX9_carryOut 64 = .ok (.aload_n 1, 1) := by decide +kernel
theorem dX9_carryOut_65 : decode cX9_carryOut 65 = .ok (.getfield 51, 3) := by decide +kernel
theorem dX9_carryOut_68 : decode cX9_carryOut 68 = .ok (.iload_n 3, 1) := by decide +kernel
theorem dX9_carryOut_69 : decode cX9_carryOut 69 = .ok (.aload_n 0, 1) := by decide +kernel
theorem dX9_carryOut_70 : decode cX9_carryOut 70 = .ok (.getfield 48, 3) := by decide +kernel
theorem dX9_carryOut_73 : decode cX9_carryOut 73 = .ok (.invokestatic 19, 3) := by decide +kernel
theorem dX9_carryOut_76 : decode cX9_carryOut 76 = .ok (.iinc 3 1, 3) := by decide +kernel
theorem dX9_carryOut_79 : decode cX9_carryOut 79 = .ok (.goto (-43), 3) := by decide +kernel
theorem dX9_carryOut_82 : decode cX9_carryOut 82 = .ok (.iinc 2 1, 3) := by decide +kernel
theorem dX9_carryOut_85 : decode cX9_carryOut 85 = .ok (.goto (-78), 3) := by decide +kernel
theorem dX9_carryOut_88 : decode cX9_carryOut 88 = .ok (.return_, 1) := by decide +kernel
set_option maxRecDepth 20000 in
theorem ggX9_readEntry_X9_readHour : GoodIn wsX9_readEntry wsX9_readHour := goodIn_r _ [9, 10, 11, 12, 8, 13, 14, 15, 16, 17, 18, 19, 20, 21, 22, 23, 36, 37, 38, 39, 40, 41, 42] (by decide +kernel) (by decide +kernel)
set_option maxRecDepth 20000 in
theorem gX9_readEntry_X9_readHour : GoodIn wsX9_readEntry (wsV RX9 54 RX9 yX9_readHour wsX9_readHour) := goodIn_app (goodIn_of _ (by decide +kernel)) ggX9_readEntry_X9_readHour
set_option maxRecDepth 20000 in
theorem ggX9_readEntry_X9_accept : GoodIn wsX9_readEntry wsX9_accept := goodIn_r _ [27, 14, 15, 16, 17, 8, 18, 19, 20, 21, 22, 23, 36, 37, 38, 39, 40, 41, 42] (by decide +kernel) (by decide +kernel)
set_option maxRecDepth 20000 in
theorem gX9_readEntry_X9_accept : GoodIn wsX9_readEntry (wsV RX9 58 RX9 yX9_accept wsX9_accept) := goodIn_app (goodIn_of _ (by decide +kernel)) ggX9_readEntry_X9_accept
set_option maxRecDepth 20000 in
theorem ggX9_readEntry_X9_readNumber : GoodIn wsX9_readEntry wsX9_readNumber := goodIn_r _ [31, 10, 11, 12, 8, 13, 14, 15, 16, 17, 18, 19, 20, 21, 22, 23, 36, 37, 38, 39, 40, 41, 42] (by decide +kernel) (by decide +kernel)
set_option maxRecDepth 20000 in
theorem gX9_readEntry_X9_readNumber : GoodIn wsX9_readEntry (wsV RX9 61 RX9 yX9_readNumber wsX9_readNumber) := goodIn_app (goodIn_of _ (by decide +kernel)) ggX9_readEntry_X9_readNumber
set_option maxRecDepth 20000 in
theorem ggX9_readEntry_X9_readTariff : GoodIn wsX9_readEntry wsX9_readTariff := goodIn_r _ [35, 24, 25, 26, 8, 27, 14, 15, 16, 17, 18, 19, 20, 21, 22, 23, 36, 37, 38, 39, 40, 41, 42] (by decide +kernel) (by decide +kernel)
set_option maxRecDepth 20000 in
theorem gX9_readEntry_X9_readTariff : GoodIn wsX9_readEntry (wsV RX9 64 RX9 yX9_readTariff wsX9_readTariff) := goodIn_app (goodIn_of _ (by decide +kernel)) ggX9_readEntry_X9_readTariff
theorem dX9_readEntry_0 : decode cX9_readEntry 0 = .ok (.aload_n 0, 1) := by decide +kernel
theorem dX9_readEntry_1 : decode cX9_readEntry 1 = .ok (.aload_n 0, 1) := by decide +kernel
theorem dX9_readEntry_2 : decode cX9_readEntry 2 = .ok (.invokevirtual 54, 3) := by decide +kernel
theorem dX9_readEntry_5 : decode cX9_readEntry 5 = .ok (.putfield 39, 3) := by decide +kernel
