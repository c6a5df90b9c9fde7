set_option maxRecDepth 20000 in
theorem ggX5_init_X7_init : GoodIn wsX5_init wsX7_init := goodIn_r _ [34, 35, 2, 3, 36, 37, 38, 85] (by decide +kernel) (by decide +kernel)
set_option maxRecDepth 20000 in
theorem gX5_init_X7_init : GoodIn wsX5_init (wsX7_init) := ggX5_init_X7_init
set_option maxRecDepth 20000 in
theorem ggX5_init_X8_init : GoodIn wsX5_init wsX8_init := goodIn_r _ [41, 42, 2, 3, 36, 43, 44, 45, 46, 47, 48, 49, 50, 94, 95, 96] (by decide +kernel) (by decide +kernel)
set_option maxRecDepth 20000 in
theorem gX5_init_X8_init : GoodIn wsX5_init (wsX8_init) := ggX5_init_X8_init
set_option maxRecDepth 20000 in
theorem ggX5_init_X3_init : GoodIn wsX5_init wsX3_init := goodIn_r _ [53, 54, 2, 3, 36, 55, 56, 57, 49, 47, 50, 97, 98, 99] (by decide +kernel) (by decide +kernel)
set_option maxRecDepth 20000 in
theorem gX5_init_X3_init : GoodIn wsX5_init (wsX3_init) := ggX5_init_X3_init
set_option maxRecDepth 20000 in
theorem ggX5_init_X1_init : GoodIn wsX5_init wsX1_init := goodIn_r _ [60, 61, 2, 3, 62, 63, 64, 65, 66, 18, 67, 68, 100, 101] (by decide +kernel) (by decide +kernel)
set_option maxRecDepth 20000 in
theorem gX5_init_X1_init : GoodIn wsX5_init (wsX1_init) := ggX5_init_X1_init
set_option maxRecDepth 20000 in
theorem ggX5_init_X6_init : GoodIn wsX5_init wsX6_init := goodIn_r _ [71, 72, 2, 3, 73, 74, 36, 75, 102, 103, 104, 105, 106, 107, 108] (by decide +kernel) (by decide +kernel)
set_option maxRecDepth 20000 in
theorem gX5_init_X6_init : GoodIn wsX5_init (wsX6_init) := ggX5_init_X6_init
set_option maxRecDepth 20000 in
theorem ggX5_init_X0_init : GoodIn wsX5_init wsX0_init := goodIn_r _ [78, 79, 2, 3, 36, 80, 81, 109, 110, 111, 112, 113, 114, 115, 116, 117, 118, 119] (by decide +kernel) (by decide +kernel)
set_option maxRecDepth 20000 in
theorem gX5_init_X0_init : GoodIn wsX5_init (wsX0_init) := ggX5_init_X0_init
set_option maxRecDepth 20000 in
theorem ggX5_init_X2_init : GoodIn wsX5_init wsX2_init := goodIn_r _ [83, 84, 2, 3] (by decide +kernel) (by decide +kernel)
set_option maxRecDepth 20000 in
theorem gX5_init_X2_init_n55 : GoodIn wsX5_init (wsX2_init) := ggX5_init_X2_init
theorem dX5_init_0 : decode cX5_init 0 = .ok (.aload_n 0, 1) := by decide +kernel
theorem dX5_init_1 : decode cX5_init 1 = .ok (.invokespecial 3, 3) := by decide +kernel
theorem dX5_init_4 : decode cX5_init 4 = .ok (.aload_n 0, 1) := by decide +kernel
theorem dX5_init_5 : decode cX5_init 5 = .ok (.new 9, 3) := by decide +kernel
theorem dX5_init_8 : decode cX5_init 8 = .ok (.dup, 1) := by decide +kernel
theorem dX5_init_9 : decode cX5_init 9 = .ok (.invokespecial 11, 3) := by decide +kernel
theorem dX5_init_12 : decode cX5_init 12 = .ok (.putfield 12, 3) := by decide +kernel
theorem dX5_init_15 : decode cX5_init 15 = .ok (.aload_n 0, 1) := by decide +kernel
theorem dX5_init_16 : decode cX5_init 16 = .ok (.new 18, 3) := by decide +kernel
theorem dX5_init_19 : decode cX5_init 19 = .ok (.dup, 1) := by decide +kernel
theorem dX5_init_20 : decode cX5_init 20 = .ok (.invokespecial 20, 3) := by decide +kernel
theorem dX5_init_23 : decode cX5_init 23 = .ok (.putfield 21, 3) := by decide +kernel
theorem dX5_init_26 : decode cX5_init 26 = .ok (.aload_n 0, 1) := by decide +kernel
theorem dX5_init_27 : decode cX5_init 27 = .ok (.new 25, 3) := by decide +kernel
theorem dX5_init_30 : decode cX5_init 30 = .ok (.dup, 1) := by decide +kernel
theorem dX5_init_31 : decode cX5_init 31 = .ok (.invokespecial 27, 3) := by decide +kernel
theorem dX5_init_34 : decode cX5_init 34 = .ok (.putfield 28, 3) := by decide +kernel
theorem dX5_init_37 : decode cX5_init 37 = .ok (.aload_n 0, 1) := by decide +kernel
theorem dX5_init_38 : decode cX5_init 38 = .ok (.new 32, 3) := by decide +kernel
theorem dX5_init_41 : decode cX5_init 41 = .ok (.dup, 1) := by decide +kernel
theorem dX5_init_42 : decode cX5_init 42 = .ok (.invokespecial 34, 3) := by decide +kernel
theorem dX5_init_45 : decode cX5_init 45 = .ok (.putfield 35, 3) := by decide +kernel
theorem dX5_init_48 : decode cX5_init 48 = .ok (.aload_n 0, 1) := by decide +kernel
theorem dX5_init_49 : decode cX5_init 49 = .ok (.new 39, 3) := by decide +kernel
theorem dX5_init_52 : decode cX5_init 52 = .ok (.dup, 1) := by decide +kernel
theorem dX5_init_53 : decode cX5_init 53 = .ok (.invokespecial 41, 3) := by decide +kernel
theorem dX5_init_56 : decode cX5_init 56 = .ok (.putfield 42, 3) := by decide +kernel
theorem dX5_init_59 : decode cX5_init 59 = .ok (.aload_n 0, 1) := by decide +kernel
theorem dX5_init_60 : decode cX5_init 60 = .ok (.new 46, 3) := by decide +kernel
theorem dX5_init_63 : decode cX5_init 63 = .ok (.dup, 1) := by decide +kernel
theorem dX5_init_64 : decode cX5_init 64 = .ok (.invokespecial 48, 3) := by decide +kernel
theorem dX5_init_67 : decode cX5_init 67 = .ok (.putfield 49, 3) := by decide +kernel
theorem dX5_init_70 : decode cX5_init 70 = .ok (.aload_n 0, 1) := by decide +kernel
theorem dX5_init_71 : decode cX5_init 71 = .ok (.new 53, 3) := by decide +kernel
theorem dX5_init_74 : decode cX5_init 74 = .ok (.dup, 1) := by decide +kernel
theorem dX5_init_75 : decode cX5_init 75 = .ok (.invokespecial 55, 3) := by decide +kernel
theorem dX5_init_78 : decode cX5_init 78 = .ok (.putfield 56, 3) := by decide +kernel
theorem dX5_init_81 : decode cX5_init 81 = .ok (.return_, 1) := by decide +kernel
set_option maxRecDepth 20000 in
theorem ggX5_copyFrom_X10_copyRow : GoodIn wsX5_copyFrom wsX10_copyRow := goodIn_r _ [11] (by decide +kernel) (by decide +kernel)
set_option maxRecDepth 20000 in
theorem gX5_copyFrom_X10_copyRow_n64 : GoodIn wsX5_copyFrom (wsX10_copyRow) := ggX5_copyFrom_X10_copyRow
set_option maxRecDepth 20000 in
theorem ggX5_copyFrom_X8_copyFrom : GoodIn wsX5_copyFrom wsX8_copyFrom := goodIn_r _ [16, 17, 18, 19, 9, 10, 11, 72, 73, 74] (by decide +kernel) (by decide +kernel)
set_option maxRecDepth 20000 in
theorem gX5_copyFrom_X8_copyFrom : GoodIn wsX5_copyFrom (wsV RX5 68 RX8 yX8_copyFrom wsX8_copyFrom) := goodIn_app (goodIn_of _ (by decide +kernel)) ggX5_copyFrom_X8_copyFrom
set_option maxRecDepth 20000 in
theorem ggX5_copyFrom_X3_copyFrom : GoodIn wsX5_copyFrom wsX3_copyFrom := goodIn_r _ [24, 25, 26, 27, 9, 10, 11, 75, 76, 77] (by decide +kernel) (by decide +kernel)
set_option maxRecDepth 20000 in
theorem gX5_copyFrom_X3_copyFrom : GoodIn wsX5_copyFrom (wsV RX5 72 RX3 yX3_copyFrom wsX3_copyFrom) := goodIn_app (goodIn_of _ (by decide +kernel)) ggX5_copyFrom_X3_copyFrom
set_option maxRecDepth 20000 in
theorem ggX5_copyFrom_X1_copyFrom : GoodIn wsX5_copyFrom wsX1_copyFrom := goodIn_r _ [32, 33, 34, 78, 79] (by decide +kernel) (by decide +kernel)
set_option maxRecDepth 20000 in
theorem gX5_copyFrom_X1_copyFrom : GoodIn wsX5_copyFrom (wsV RX5 75 RX1 yX1_copyFrom wsX1_copyFrom) := goodIn_app (goodIn_of _ (by decide +kernel)) ggX5_copyFrom_X1_copyFrom
set_option maxRecDepth 20000 in
theorem ggX5_copyFrom_X6_copyFrom : GoodIn wsX5_copyFrom wsX6_copyFrom := goodIn_r _ [39, 40, 41, 42, 43, 44, 45, 46, 9, 10, 11, 80, 81, 82, 83, 84, 85, 86] (by decide +kernel) (by decide +kernel)
set_option maxRecDepth 20000 in
theorem gX5_copyFrom_X6_copyFrom : GoodIn wsX5_copyFrom (wsV RX5 78 RX6 yX6_copyFrom wsX6_copyFrom) := goodIn_app (goodIn_of _ (by decide +kernel)) ggX5_copyFrom_X6_copyFrom
set_option maxRecDepth 20000 in
theorem ggX5_copyFrom_X0_copyFrom : GoodIn wsX5_copyFrom wsX0_copyFrom := goodIn_r _ [51, 52, 53, 54, 55, 56, 57, 58, 59, 60, 61, 62, 9, 10, 11, 87, 88, 89, 90, 91, 92, 93, 94, 95, 96, 97] (by decide +kernel) (by decide +kernel)
set_option maxRecDepth 20000 in
theorem gX5_copyFrom_X0_copyFrom : GoodIn wsX5_copyFrom (wsV RX5 81 RX0 yX0_copyFrom wsX0_copyFrom) := goodIn_app (goodIn_of _ (by decide +kernel)) ggX5_copyFrom_X0_copyFrom
theorem dX5_copyFrom_0 : decode cX5_copyFrom 0 = .ok (.aload_n 1, 1) := by decide +kernel
theorem dX5_copyFrom_1 : decode cX5_copyFrom 1 = .ok (.getfield 12, 3) := by decide +kernel
theorem dX5_copyFrom_4 : decode cX5_copyFrom 4 = .ok (.getfield 60, 3) := by decide +kernel
theorem dX5_copyFrom_7 : decode cX5_copyFrom 7 = .ok (.aload_n 0, 1) := by decide +kernel
theorem dX5_copyFrom_8 : decode cX5_copyFrom 8 = .ok (.getfield 12, 3) := by decide +kernel
theorem dX5_copyFrom_11 : decode cX5_copyFrom 11 = .ok (.getfield 60, 3) := by decide +kernel
theorem dX5_copyFrom_14 : decode cX5_copyFrom 14 = .ok (.invokestatic 64, 3) := by decide +kernel
theorem dX5_copyFrom_17 : decode cX5_copyFrom 17 = .ok (.aload_n 0, 1) := by decide +kernel
theorem dX5_copyFrom_18 : decode cX5_copyFrom 18 = .ok (.getfield 21, 3) := by decide +kernel
theorem dX5_copyFrom_21 : decode cX5_copyFrom 21 = .ok (.aload_n 1, 1) := by decide +kernel
theorem dX5_copyFrom_22 : decode cX5_copyFrom 22 = .ok (.getfield 21, 3) := by decide +kernel
theorem dX5_copyFrom_25 : decode cX5_copyFrom 25 = .ok (.invokevirtual 68, 3) := by decide +kernel
theorem dX5_copyFrom_28 : decode cX5_copyFrom 28 = .ok (.aload_n 0, 1) := by decide +kernel
theorem dX5_copyFrom_29 : decode cX5_copyFrom 29 = .ok (.getfield 28, 3) := by decide +kernel
theorem dX5_copyFrom_32 : decode cX5_copyFrom 32 = .ok (.aload_n 1, 1) := by decide +kernel
theorem dX5_copyFrom_33 : decode cX5_copyFrom 33 = .ok (.getfield 28, 3) := by decide +kernel
theorem dX5_copyFrom_36 : decode cX5_copyFrom 36 = .ok (.invokevirtual 72, 3) := by decide +kernel
theorem dX5_copyFrom_39 : decode cX5_copyFrom 39 = .ok (.aload_n 0, 1) := by decide +kernel
theorem dX5_copyFrom_40 : decode cX5_copyFrom 40 = .ok (.getfield 35, 3) := by decide +kernel
theorem dX5_copyFrom_43 : decode cX5_copyFrom 43 = .ok (.aload_n 1, 1) := by decide +kernel
theorem dX5_copyFrom_44 : decode cX5_copyFrom 44 = .ok (.getfield 35, 3) := by decide +kernel
theorem dX5_copyFrom_47 : decode cX5_copyFrom 47 = .ok (.invokevirtual 75, 3) := by decide +kernel
theorem dX5_copyFrom_50 : decode cX5_copyFrom 50 = .ok (.aload_n 0, 1) := by decide +kernel
theorem dX5_copyFrom_51 : decode cX5_copyFrom 51 = .ok (.getfield 42, 3) := by decide +kernel
theorem dX5_copyFrom_54 : decode cX5_copyFrom 54 = .ok (.aload_n 1, 1) := by decide +kernel
theorem dX5_copyFrom_55 : decode cX5_copyFrom 55 = .ok (.getfield 42, 3) := by decide +kernel
theorem dX5_copyFrom_58 : decode cX5_copyFrom 58 = .ok (.invokevirtual 78, 3) := by decide +kernel
theorem dX5_copyFrom_61 : decode cX5_copyFrom 61 = .ok (.aload_n 0, 1) := by decide +kernel
theorem dX5_copyFrom_62 : decode cX5_copyFrom 62 = .ok (.getfield 49, 3) := by decide +kernel
theorem dX5_copyFrom_65 : decode cX5_copyFrom 65 = .ok (.aload_n 1, 1) := by decide +kernel
theorem dX5_copyFrom_66 : decode cX5_copyFrom 66 = .ok (.getfield 49, 3) := by decide +kernel
theorem dX5_copyFrom_69 : decode cX5_copyFrom 69 = .ok (.invokevirtual 81, 3) := by decide +kernel
theorem dX5_copyFrom_72 : decode cX5_copyFrom 72 = .ok (.aload_n 0, 1) := by decide +kernel
theorem dX5_copyFrom_73 : decode cX5_copyFrom 73 = .ok (.aload_n 1, 1) := by decide +kernel
theorem dX5_copyFrom_74 : decode cX5_copyFrom 74 = .ok (.getfield 84, 3) := by decide +kernel
theorem dX5_copyFrom_77 : decode cX5_copyFrom 77 = .ok (.putfield 84, 3) := by decide +kernel
theorem dX5_copyFrom_80 : decode cX5_copyFrom 80 = .ok (.return_, 1) := by decide +kernel
set_option maxRecDepth 20000 in
theorem ggX5_demandIn_X7_valueOf : GoodIn wsX5_demandIn wsX7_valueOf := goodIn_r _ [13, 14, 15, 16, 17, 31] (by decide +kernel) (by decide +kernel)
set_option maxRecDepth 20000 in
theorem gX5_demandIn_X7_valueOf : GoodIn wsX5_demandIn (wsV RX5 88 RX7 yX7_valueOf wsX7_valueOf) := goodIn_app (goodIn_of _ (by decide +kernel)) ggX5_demandIn_X7_valueOf
set_option maxRecDepth 20000 in
theorem ggX5_demandIn_X10_elementOr : GoodIn wsX5_demandIn wsX10_elementOr := goodIn_r _ [17] (by decide +kernel) (by decide +kernel)
set_option maxRecDepth 20000 in
theorem gX5_demandIn_X10_elementOr_n95 : GoodIn wsX5_demandIn (wsX10_elementOr) := ggX5_demandIn_X10_elementOr
set_option maxRecDepth 20000 in
theorem ggX5_demandIn_X10_div : GoodIn wsX5_demandIn wsX10_div := goodIn_r _ [19] (by decide +kernel) (by decide +kernel)
set_option maxRecDepth 20000 in
theorem gX5_demandIn_X10_div_n101 : GoodIn wsX5_demandIn (wsX10_div) := ggX5_demandIn_X10_div
theorem dX5_demandIn_0 : decode cX5_demandIn 0 = .ok (.aload_n 0, 1) := by decide +kernel
theorem dX5_demandIn_1 : decode cX5_demandIn 1 = .ok (.getfield 12, 3) := by decide +kernel
theorem dX5_demandIn_4 : decode cX5_demandIn 4 = .ok (.bipush 15, 2) := by decide +kernel
theorem dX5_demandIn_6 : decode cX5_demandIn 6 = .ok (.invokevirtual 88, 3) := by decide +kernel
theorem dX5_demandIn_9 : decode cX5_demandIn 9 = .ok (.aload_n 0, 1) := by decide +kernel
theorem dX5_demandIn_10 : decode cX5_demandIn 10 = .ok (.getfield 21, 3) := by decide +kernel
theorem dX5_demandIn_13 : decode cX5_demandIn 13 = .ok (.getfield 92, 3) := by decide +kernel
theorem dX5_demandIn_16 : decode cX5_demandIn 16 = .ok (.iload_n 1, 1) := by decide +kernel
theorem dX5_demandIn_17 : decode cX5_demandIn 17 = .ok (.iconst 0, 1) := by decide +kernel
theorem dX5_demandIn_18 : decode cX5_demandIn 18 = .ok (.invokestatic 95, 3) := by decide +kernel
theorem dX5_demandIn_21 : decode cX5_demandIn 21 = .ok (.isub, 1) := by decide +kernel
theorem dX5_demandIn_22 : decode cX5_demandIn 22 = .ok (.istore_n 2, 1) := by decide +kernel
theorem dX5_demandIn_23 : decode cX5_demandIn 23 = .ok (.iconst 0, 1) := by decide +kernel
theorem dX5_demandIn_24 : decode cX5_demandIn 24 = .ok (.iload_n 2, 1) := by decide +kernel
theorem dX5_demandIn_25 : decode cX5_demandIn 25 = .ok (.aload_n 0, 1) := by decide +kernel
theorem dX5_demandIn_26 : decode cX5_demandIn 26 = .ok (.getfield 12, 3) := by decide +kernel
theorem dX5_demandIn_29 : decode cX5_demandIn 29 = .ok (.bipush 16, 2) := by decide +kernel
theorem dX5_demandIn_31 : decode cX5_demandIn 31 = .ok (.invokevirtual 88, 3) := by decide +kernel
theorem dX5_demandIn_34 : decode cX5_demandIn 34 = .ok (.imul, 1) := by decide +kernel
theorem dX5_demandIn_35 : decode cX5_demandIn 35 = .ok (.i2l, 1) := by decide +kernel
theorem dX5_demandIn_36 : decode cX5_demandIn 36 = .ok (.ldc2_w 99, 3) := by decide +kernel
theorem dX5_demandIn_39 : decode cX5_demandIn 39 = .ok (.invokestatic 101, 3) := by decide +kernel
theorem dX5_demandIn_42 : decode cX5_demandIn 42 = .ok (.l2i, 1) := by decide +kernel
theorem dX5_demandIn_43 : decode cX5_demandIn 43 = .ok (.invokestatic 105, 3) := by decide +kernel
theorem dX5_demandIn_46 : decode cX5_demandIn 46 = .ok (.ireturn, 1) := by decide +kernel
set_option maxRecDepth 20000 in
theorem ggX5_targetIn_X10_elementOr : GoodIn wsX5_targetIn wsX10_elementOr := goodIn_r _ [8] (by decide +kernel) (by decide +kernel)
set_option maxRecDepth 20000 in
theorem gX5_targetIn_X10_elementOr_n95 : GoodIn wsX5_targetIn (wsX10_elementOr) := ggX5_targetIn_X10_elementOr
set_option maxRecDepth 20000 in
theorem ggX5_targetIn_X3_supplyAt : GoodIn wsX5_targetIn wsX3_supplyAt := goodIn_r _ [13, 14, 15, 16, 17, 18, 19, 12, 20, 6, 7, 8, 21, 22, 40, 41, 42] (by decide +kernel) (by decide +kernel)
set_option maxRecDepth 20000 in
theorem gX5_targetIn_X3_supplyAt : GoodIn wsX5_targetIn (wsV RX5 111 RX3 yX3_supplyAt wsX3_supplyAt) := goodIn_app (goodIn_of _ (by decide +kernel)) ggX5_targetIn_X3_supplyAt
set_option maxRecDepth 20000 in
theorem ggX5_targetIn_X7_valueOf : GoodIn wsX5_targetIn wsX7_valueOf := goodIn_r _ [27, 28, 6, 7, 8, 43] (by decide +kernel) (by decide +kernel)
set_option maxRecDepth 20000 in
theorem gX5_targetIn_X7_valueOf : GoodIn wsX5_targetIn (wsV RX5 88 RX7 yX7_valueOf wsX7_valueOf) := goodIn_app (goodIn_of _ (by decide +kernel)) ggX5_targetIn_X7_valueOf
theorem dX5_targetIn_0 : decode cX5_targetIn 0 = .ok (.aload_n 0, 1) := by decide +kernel
theorem dX5_targetIn_1 : decode cX5_targetIn 1 = .ok (.getfield 28, 3) := by decide +kernel
theorem dX5_targetIn_4 : decode cX5_targetIn 4 = .ok (.aload_n 0, 1) := by decide +kernel
theorem dX5_targetIn_5 : decode cX5_targetIn 5 = .ok (.getfield 21, 3) := by decide +kernel
theorem dX5_targetIn_8 : decode cX5_targetIn 8 = .ok (.getfield 92, 3) := by decide +kernel
theorem dX5_targetIn_11 : decode cX5_targetIn 11 = .ok (.iload_n 1, 1) := by decide +kernel
theorem dX5_targetIn_12 : decode cX5_targetIn 12 = .ok (.iconst 0, 1) := by decide +kernel
theorem dX5_targetIn_13 : decode cX5_targetIn 13 = .ok (.invokestatic 95, 3) := by decide +kernel
theorem dX5_targetIn_16 : decode cX5_targetIn 16 = .ok (.invokevirtual 111, 3) := by decide +kernel
theorem dX5_targetIn_19 : decode cX5_targetIn 19 = .ok (.istore_n 2, 1) := by decide +kernel
theorem dX5_targetIn_20 : decode cX5_targetIn 20 = .ok (.aload_n 0, 1) := by decide +kernel
theorem dX5_targetIn_21 : decode cX5_targetIn 21 = .ok (.getfield 21, 3) := by decide +kernel
theorem dX5_targetIn_24 : decode cX5_targetIn 24 = .ok (.getfield 114, 3) := by decide +kernel
theorem dX5_targetIn_27 : decode cX5_targetIn 27 = .ok (.iload_n 1, 1) := by decide +kernel
theorem dX5_targetIn_28 : decode cX5_targetIn 28 = .ok (.iconst 1, 1) := by decide +kernel
theorem dX5_targetIn_29 : decode cX5_targetIn 29 = .ok (.invokestatic 95, 3) := by decide +kernel
theorem dX5_targetIn_32 : decode cX5_targetIn 32 = .ok (.ifCond .ne 7, 3) := by decide +kernel
theorem dX5_targetIn_35 : decode cX5_targetIn 35 = .ok (.iconst 1, 1) := by decide +kernel
theorem dX5_targetIn_36 : decode cX5_targetIn 36 = .ok (.goto 4, 3) := by decide +kernel
theorem dX5_targetIn_39 : decode cX5_targetIn 39 = .ok (.iconst 0, 1) := by decide +kernel
theorem dX5_targetIn_40 : decode cX5_targetIn 40 = .ok (.istore_n 3, 1) := by decide +kernel
theorem dX5_targetIn_41 : decode cX5_targetIn 41 = .ok (.iload_n 3, 1) := by decide +kernel
theorem dX5_targetIn_42 : decode cX5_targetIn 42 = .ok (.ifCond .eq 16, 3) := by decide +kernel
theorem dX5_targetIn_45 : decode cX5_targetIn 45 = .ok (.iload_n 2, 1) := by decide +kernel
theorem dX5_targetIn_46 : decode cX5_targetIn 46 = .ok (.aload_n 0, 1) := by decide +kernel
theorem dX5_targetIn_47 : decode cX5_targetIn 47 = .ok (.getfield 12, 3) := by decide +kernel
theorem dX5_targetIn_50 : decode cX5_targetIn 50 = .ok (.iconst 5, 1) := by decide +kernel
theorem dX5_targetIn_51 : decode cX5_targetIn 51 = .ok (.invokevirtual 88, 3) := by decide +kernel
theorem dX5_targetIn_54 : decode cX5_targetIn 54 = .ok (.iadd, 1) := by decide +kernel
theorem dX5_targetIn_55 : decode cX5_targetIn 55 = .ok (.goto 4, 3) := by decide +kernel
theorem dX5_targetIn_58 : decode cX5_targetIn 58 = .ok (.iload_n 2, 1) := by decide +kernel
theorem dX5_targetIn_59 : decode cX5_targetIn 59 = .ok (.ireturn, 1) := by decide +kernel
set_option maxRecDepth 20000 in
theorem ggX5_advance_X5_readConditions : GoodIn wsX5_advance wsX5_readConditions := goodIn_r _ [6, 7, 8, 9, 10, 11, 12, 13, 14, 15, 16, 17, 18, 19, 20, 21, 22, 5, 23, 24, 25, 26, 27, 28, 29, 30, 31, 32, 33, 34, 35, 36, 37, 38, 39, 40, 41, 42, 43, 44, 45, 46, 47, 48, 49, 50, 51, 52, 53, 54, 182, 183, 184, 185, 186, 187, 188, 189, 190, 191, 192, 193, 194, 195, 196, 197, 198, 199, 200, 201] (by decide +kernel) (by decide +kernel)
set_option maxRecDepth 20000 in
theorem gX5_advance_X5_readConditions : GoodIn wsX5_advance (wsV RX5 117 RX5 yX5_readConditions wsX5_readConditions) := goodIn_app (goodIn_of _ (by decide +kernel)) ggX5_advance_X5_readConditions
set_option maxRecDepth 20000 in
theorem ggX5_advance_X5_simulateMinute : GoodIn wsX5_advance wsX5_simulateMinute := goodIn_r _ [58, 59, 24, 60, 7, 1, 61, 62, 15, 63, 64, 65, 30, 31, 32, 33, 34, 35, 17, 18, 19, 66, 67, 68, 69, 70, 71, 72, 73, 74, 75, 76, 77, 78, 79, 80, 81, 82, 83, 84, 85, 86, 87, 36, 37, 88, 89, 90, 91, 92, 93, 94, 95, 96, 97, 98, 99, 100, 101, 102, 103, 104, 105, 106, 107, 108, 109, 110, 111, 112, 113, 114, 115, 116, 117, 118, 119, 120, 121, 122, 5, 123, 10, 25, 124, 125, 126, 28, 127, 128, 129, 130, 131, 132, 133, 134, 135, 136, 137, 138, 139, 140, 141, 142, 143, 144, 145, 14, 146, 147, 148, 149, 150, 151, 152, 153, 154, 155, 156, 157, 158, 159, 160, 161, 162, 163, 164, 165, 166, 167, 168, 169, 170, 171, 172, 173, 174, 175, 176, 177, 178, 179, 180, 181, 182, 183, 184, 185, 186, 187, 188, 189, 202, 203, 204, 205, 206, 207, 208, 193, 194, 195, 196, 197, 209, 210, 211, 212, 213, 214, 215, 216, 217, 218, 219, 198, 220, 221] (by decide +kernel) (by decide +kernel)
set_option maxRecDepth 20000 in
theorem gX5_advance_X5_simulateMinute : GoodIn wsX5_advance (wsV RX5 121 RX5 yX5_simulateMinute wsX5_simulateMinute) := goodIn_app (goodIn_of _ (by decide +kernel)) ggX5_advance_X5_simulateMinute
theorem dX5_advance_0 : decode cX5_advance 0 = .ok (.iconst 0, 1) := by decide +kernel
theorem dX5_advance_1 : decode cX5_advance 1 = .ok (.istore_n 2, 1) := by decide +kernel
theorem dX5_advance_2 : decode cX5_advance 2 = .ok (.iload_n 2, 1) := by decide +kernel
theorem dX5_advance_3 : decode cX5_advance 3 = .ok (.iload_n 1, 1) := by decide +kernel
theorem dX5_advance_4 : decode cX5_advance 4 = .ok (.if_icmp .ge 41, 3) := by decide +kernel
theorem dX5_advance_7 : decode cX5_advance 7 = .ok (.iload_n 2, 1) := by decide +kernel
theorem dX5_advance_8 : decode cX5_advance 8 = .ok (.ifCond .eq 13, 3) := by decide +kernel
theorem dX5_advance_11 : decode cX5_advance 11 = .ok (.aload_n 0, 1) := by decide +kernel
theorem dX5_advance_12 : decode cX5_advance 12 = .ok (.getfield 84, 3) := by decide +kernel
theorem dX5_advance_15 : decode cX5_advance 15 = .ok (.bipush 60, 2) := by decide +kernel
theorem dX5_advance_17 : decode cX5_advance 17 = .ok (.irem, 1) := by decide +kernel
theorem dX5_advance_18 : decode cX5_advance 18 = .ok (.ifCond .ne 17, 3) := by decide +kernel
theorem dX5_advance_21 : decode cX5_advance 21 = .ok (.aload_n 0, 1) := by decide +kernel
theorem dX5_advance_22 : decode cX5_advance 22 = .ok (.aload_n 0, 1) := by decide +kernel
theorem dX5_advance_23 : decode cX5_advance 23 = .ok (.getfield 84, 3) := by decide +kernel
theorem dX5_advance_26 : decode cX5_advance 26 = .ok (.bipush 60, 2) := by decide +kernel
theorem dX5_advance_28 : decode cX5_advance 28 = .ok (.idiv, 1) := by decide +kernel
theorem dX5_advance_29 : decode cX5_advance 29 = .ok (.bipush 24, 2) := by decide +kernel
theorem dX5_advance_31 : decode cX5_advance 31 = .ok (.irem, 1) := by decide +kernel
theorem dX5_advance_32 : decode cX5_advance 32 = .ok (.invokevirtual 117, 3) := by decide +kernel
theorem dX5_advance_35 : decode cX5_advance 35 = .ok (.aload_n 0, 1) := by decide +kernel
theorem dX5_advance_36 : decode cX5_advance 36 = .ok (.invokevirtual 121, 3) := by decide +kernel
theorem dX5_advance_39 : decode cX5_advance 39 = .ok (.iinc 2 1, 3) := by decide +kernel
theorem dX5_advance_42 : decode cX5_advance 42 = .ok (.goto (-40), 3) := by decide +kernel
theorem dX5_advance_45 : decode cX5_advance 45 = .ok (.return_, 1) := by decide +kernel
set_option maxRecDepth 20000 in
theorem ggX5_readConditions_X10_elementOr : GoodIn wsX5_readConditions wsX10_elementOr := goodIn_r _ [13] (by decide +kernel) (by decide +kernel)
set_option maxRecDepth 20000 in
theorem gX5_readConditions_X10_elementOr_n95 : GoodIn wsX5_readConditions (wsX10_elementOr) := ggX5_readConditions_X10_elementOr
set_option maxRecDepth 20000 in
theorem ggX5_readConditions_X5_demandIn : GoodIn wsX5_readConditions wsX5_demandIn := goodIn_r _ [18, 19, 2, 3, 20, 21, 22, 23, 24, 25, 26, 27, 28, 29, 30, 11, 12, 13, 31, 32, 50, 51, 52, 53, 54, 55, 56, 57, 58, 59, 60, 66] (by decide +kernel) (by decide +kernel)
set_option maxRecDepth 20000 in
theorem gX5_readConditions_X5_demandIn : GoodIn wsX5_readConditions (wsV RX5 136 RX5 yX5_demandIn wsX5_demandIn) := goodIn_app (goodIn_of _ (by decide +kernel)) ggX5_readConditions_X5_demandIn
set_option maxRecDepth 20000 in
theorem ggX5_readConditions_X5_targetIn : GoodIn wsX5_readConditions wsX5_targetIn := goodIn_r _ [36, 37, 2, 3, 5, 19, 11, 12, 13, 38, 39, 40, 41, 42, 43, 44, 45, 46, 47, 48, 49, 31, 32, 25, 26, 27, 28, 29, 30, 50, 51, 52, 53, 54, 55, 56, 57, 58, 59, 60, 67, 68, 69, 66] (by decide +kernel) (by decide +kernel)
set_option maxRecDepth 20000 in
theorem gX5_readConditions_X5_targetIn : GoodIn wsX5_readConditions (wsV RX5 142 RX5 yX5_targetIn wsX5_targetIn) := goodIn_app (goodIn_of _ (by decide +kernel)) ggX5_readConditions_X5_targetIn
theorem dX5_readConditions_0 : decode cX5_readConditions 0 = .ok (.aload_n 0, 1) := by decide +kernel
theorem dX5_readConditions_1 : decode cX5_readConditions 1 = .ok (.getfield 56, 3) := by decide +kernel
theorem dX5_readConditions_4 : decode cX5_readConditions 4 = .ok (.aload_n 0, 1) := by decide +kernel
theorem dX5_readConditions_5 : decode cX5_readConditions 5 = .ok (.getfield 21, 3) := by decide +kernel
theorem dX5_readConditions_8 : decode cX5_readConditions 8 = .ok (.getfield 92, 3) := by decide +kernel
theorem dX5_readConditions_11 : decode cX5_readConditions 11 = .ok (.iload_n 1, 1) := by decide +kernel
theorem dX5_readConditions_12 : decode cX5_readConditions 12 = .ok (.iconst 0, 1) := by decide +kernel
theorem dX5_readConditions_13 : decode cX5_readConditions 13 = .ok (.invokestatic 95, 3) := by decide +kernel
theorem dX5_readConditions_16 : decode cX5_readConditions 16 = .ok (.putfield 124, 3) := by decide +kernel
theorem dX5_readConditions_19 : decode cX5_readConditions 19 = .ok (.aload_n 0, 1) := by decide +kernel
theorem dX5_readConditions_20 : decode cX5_readConditions 20 = .ok (.getfield 56, 3) := by decide +kernel
theorem dX5_readConditions_23 : decode cX5_readConditions 23 = .ok (.aload_n 0, 1) := by decide +kernel
theorem dX5_readConditions_24 : decode cX5_readConditions 24 = .ok (.getfield 21, 3) := by decide +kernel
theorem dX5_readConditions_27 : decode cX5_readConditions 27 = .ok (.getfield 114, 3) := by decide +kernel
theorem dX5_readConditions_30 : decode cX5_readConditions 30 = .ok (.iload_n 1, 1) := by decide +kernel
theorem dX5_readConditions_31 : decode cX5_readConditions 31 = .ok (.iconst 1, 1) := by decide +kernel
theorem dX5_readConditions_32 : decode cX5_readConditions 32 = .ok (.invokestatic 95, 3) := by decide +kernel
theorem dX5_readConditions_35 : decode cX5_readConditions 35 = .ok (.putfield 127, 3) := by decide +kernel
theorem dX5_readConditions_38 : decode cX5_readConditions 38 = .ok (.aload_n 0, 1) := by decide +kernel
theorem dX5_readConditions_39 : decode cX5_readConditions 39 = .ok (.getfield 56, 3) := by decide +kernel
theorem dX5_readConditions_42 : decode cX5_readConditions 42 = .ok (.aload_n 0, 1) := by decide +kernel
theorem dX5_readConditions_43 : decode cX5_readConditions 43 = .ok (.getfield 21, 3) := by decide +kernel
theorem dX5_readConditions_46 : decode cX5_readConditions 46 = .ok (.getfield 130, 3) := by decide +kernel
theorem dX5_readConditions_49 : decode cX5_readConditions 49 = .ok (.aload_n 0, 1) := by decide +kernel
theorem dX5_readConditions_50 : decode cX5_readConditions 50 = .ok (.getfield 56, 3) := by decide +kernel
theorem dX5_readConditions_53 : decode cX5_readConditions 53 = .ok (.getfield 127, 3) := by decide +kernel
theorem dX5_readConditions_56 : decode cX5_readConditions 56 = .ok (.iconst 0, 1) := by decide +kernel
theorem dX5_readConditions_57 : decode cX5_readConditions 57 = .ok (.invokestatic 95, 3) := by decide +kernel
theorem dX5_readConditions_60 : decode cX5_readConditions 60 = .ok (.putfield 133, 3) := by decide +kernel
theorem dX5_readConditions_63 : decode cX5_readConditions 63 = .ok (.aload_n 0, 1) := by decide +kernel
theorem dX5_readConditions_64 : decode cX5_readConditions 64 = .ok (.getfield 56, 3) := by decide +kernel
theorem dX5_readConditions_67 : decode cX5_readConditions 67 = .ok (.aload_n 0, 1) := by decide +kernel
theorem dX5_readConditions_68 : decode cX5_readConditions 68 = .ok (.iload_n 1, 1) := by decide +kernel
theorem dX5_readConditions_69 : decode cX5_readConditions 69 = .ok (.invokevirtual 136, 3) := by decide +kernel
theorem dX5_readConditions_72 : decode cX5_readConditions 72 = .ok (.putfield 139, 3) := by decide +kernel
theorem dX5_readConditions_75 : decode cX5_readConditions 75 = .ok (.aload_n 0, 1) := by decide +kernel
theorem dX5_readConditions_76 : decode cX5_readConditions 76 = .ok (.getfield 56, 3) := by decide +kernel
theorem dX5_readConditions_79 : decode cX5_readConditions 79 = .ok (.aload_n 0, 1) := by decide +kernel
theorem dX5_readConditions_80 : decode cX5_readConditions 80 = .ok (.iload_n 1, 1) := by decide +kernel
theorem dX5_readConditions_81 : decode cX5_readConditions 81 = .ok (.invokevirtual 142, 3) := by decide +kernel
theorem dX5_readConditions_84 : decode cX5_readConditions 84 = .ok (.putfield 145, 3) := by decide +kernel
theorem dX5_readConditions_87 : decode cX5_readConditions 87 = .ok (.return_, 1) := by decide +kernel
set_option maxRecDepth 20000 in
theorem ggX5_simulateMinute_X7_valueOf : GoodIn wsX5_simulateMinute wsX7_valueOf := goodIn_r _ [16, 17, 18, 19, 20, 175] (by decide +kernel) (by decide +kernel)
set_option maxRecDepth 20000 in
theorem gX5_simulateMinute_X7_valueOf : GoodIn wsX5_simulateMinute (wsV RX5 88 RX7 yX7_valueOf wsX7_valueOf) := goodIn_app (goodIn_of _ (by decide +kernel)) ggX5_simulateMinute_X7_valueOf
set_option maxRecDepth 20000 in
theorem ggX5_simulateMinute_X6_endDefrosting : GoodIn wsX5_simulateMinute wsX6_endDefrosting := goodIn_r _ [25, 26, 27, 28, 152, 153, 154, 155, 156, 157, 158] (by decide +kernel) (by decide +kernel)
set_option maxRecDepth 20000 in
theorem gX5_simulateMinute_X6_endDefrosting : GoodIn wsX5_simulateMinute (wsV RX5 148 RX6 yX6_endDefrosting wsX6_endDefrosting) := goodIn_app (goodIn_of _ (by decide +kernel)) ggX5_simulateMinute_X6_endDefrosting
set_option maxRecDepth 20000 in
theorem ggX5_simulateMinute_X6_decide : GoodIn wsX5_simulateMinute wsX6_decide := goodIn_r _ [32, 26, 33, 34, 35, 36, 37, 38, 39, 40, 41, 42, 43, 19, 44, 45, 13, 14, 15, 16, 17, 18, 20, 46, 47, 48, 24, 49, 50, 28, 51, 52, 53, 54, 55, 56, 152, 153, 154, 155, 156, 157, 158, 159, 160, 161, 162, 163, 176, 177, 175] (by decide +kernel) (by decide +kernel)
set_option maxRecDepth 20000 in
theorem gX5_simulateMinute_X6_decide : GoodIn wsX5_simulateMinute (wsV RX5 151 RX6 yX6_decide wsX6_decide) := goodIn_app (goodIn_of _ (by decide +kernel)) ggX5_simulateMinute_X6_decide
set_option maxRecDepth 20000 in
theorem ggX5_simulateMinute_X6_obey : GoodIn wsX5_simulateMinute wsX6_obey := goodIn_r _ [60, 26, 55, 27, 50, 152, 153, 154, 155, 156, 157, 158] (by decide +kernel) (by decide +kernel)
set_option maxRecDepth 20000 in
theorem gX5_simulateMinute_X6_obey : GoodIn wsX5_simulateMinute (wsV RX5 155 RX6 yX6_obey wsX6_obey) := goodIn_app (goodIn_of _ (by decide +kernel)) ggX5_simulateMinute_X6_obey
set_option maxRecDepth 20000 in
theorem ggX5_simulateMinute_X6_noteStart : GoodIn wsX5_simulateMinute wsX6_noteStart := goodIn_r _ [64, 56, 65, 18, 19, 20, 66, 67, 152, 153, 154, 155, 156, 157, 158] (by decide +kernel) (by decide +kernel)
set_option maxRecDepth 20000 in
theorem gX5_simulateMinute_X6_noteStart : GoodIn wsX5_simulateMinute (wsV RX5 158 RX6 yX6_noteStart wsX6_noteStart) := goodIn_app (goodIn_of _ (by decide +kernel)) ggX5_simulateMinute_X6_noteStart
set_option maxRecDepth 20000 in
theorem ggX5_simulateMinute_X0_countMinute : GoodIn wsX5_simulateMinute wsX0_countMinute := goodIn_r _ [72, 73, 74, 75, 76, 18, 19, 20, 66, 67, 164, 165, 166, 167, 168, 169, 170, 171, 172, 173, 174] (by decide +kernel) (by decide +kernel)
set_option maxRecDepth 20000 in
theorem gX5_simulateMinute_X0_countMinute : GoodIn wsX5_simulateMinute (wsV RX5 162 RX0 yX0_countMinute wsX0_countMinute) := goodIn_app (goodIn_of _ (by decide +kernel)) ggX5_simulateMinute_X0_countMinute
set_option maxRecDepth 20000 in
theorem ggX5_simulateMinute_X5_produce : GoodIn wsX5_simulateMinute wsX5_produce := goodIn_r _ [81, 4, 82, 2, 83, 84, 85, 86, 87, 88, 89, 90, 91, 3, 92, 93, 94, 95, 96, 97, 6, 98, 1, 99, 12, 13, 14, 15, 16, 17, 18, 19, 20, 43, 44, 100, 36, 37, 38, 39, 40, 41, 42, 101, 102, 103, 80, 104, 105, 106, 107, 108, 109, 110, 111, 144, 145, 146, 147, 148, 149, 150, 151, 159, 160, 161, 162, 163, 164, 165, 166, 167, 168, 169, 170, 171, 172, 173, 174, 152, 153, 154, 155, 156, 157, 158, 175, 176, 177] (by decide +kernel) (by decide +kernel)
set_option maxRecDepth 20000 in
theorem gX5_simulateMinute_X5_produce : GoodIn wsX5_simulateMinute (wsV RX5 168 RX5 yX5_produce wsX5_produce) := goodIn_app (goodIn_of _ (by decide +kernel)) ggX5_simulateMinute_X5_produce
set_option maxRecDepth 20000 in
theorem ggX5_simulateMinute_X5_defrost : GoodIn wsX5_simulateMinute wsX5_defrost := goodIn_r _ [115, 2, 3, 6, 116, 117, 12, 13, 14, 15, 16, 17, 18, 19, 20, 108, 109, 110, 38, 111, 40, 101, 102, 103, 80, 104, 105, 106, 4, 107, 144, 145, 146, 147, 148, 149, 150, 151, 164, 165, 166, 167, 168, 169, 170, 171, 172, 173, 174, 175, 176, 177, 159, 160, 161, 162, 163] (by decide +kernel) (by decide +kernel)
set_option maxRecDepth 20000 in
theorem gX5_simulateMinute_X5_defrost : GoodIn wsX5_simulateMinute (wsV RX5 171 RX5 yX5_defrost wsX5_defrost) := goodIn_app (goodIn_of _ (by decide +kernel)) ggX5_simulateMinute_X5_defrost
set_option maxRecDepth 20000 in
theorem ggX5_simulateMinute_X1_draw : GoodIn wsX5_simulateMinute wsX1_draw := goodIn_r _ [121, 40, 122, 41, 123, 96, 87, 97, 124, 86, 88, 176, 177] (by decide +kernel) (by decide +kernel)
set_option maxRecDepth 20000 in
theorem gX5_simulateMinute_X1_draw : GoodIn wsX5_simulateMinute (wsV RX5 174 RX1 yX1_draw wsX1_draw) := goodIn_app (goodIn_of _ (by decide +kernel)) ggX5_simulateMinute_X1_draw
set_option maxRecDepth 20000 in
theorem ggX5_simulateMinute_X1_lose : GoodIn wsX5_simulateMinute wsX1_lose := goodIn_r _ [128, 40, 122, 129, 124, 86, 87, 88, 130, 36, 37, 38, 39, 41, 42, 43, 19, 44, 176, 177] (by decide +kernel) (by decide +kernel)
set_option maxRecDepth 20000 in
theorem gX5_simulateMinute_X1_lose : GoodIn wsX5_simulateMinute (wsV RX5 188 RX1 yX1_lose wsX1_lose) := goodIn_app (goodIn_of _ (by decide +kernel)) ggX5_simulateMinute_X1_lose
set_option maxRecDepth 20000 in
theorem ggX5_simulateMinute_X1_rise : GoodIn wsX5_simulateMinute wsX1_rise := goodIn_r _ [134, 40, 135, 130, 36, 37, 38, 39, 41, 42, 43, 19, 44, 176, 177] (by decide +kernel) (by decide +kernel)
set_option maxRecDepth 20000 in
theorem gX5_simulateMinute_X1_rise : GoodIn wsX5_simulateMinute (wsV RX5 192 RX1 yX1_rise wsX1_rise) := goodIn_app (goodIn_of _ (by decide +kernel)) ggX5_simulateMinute_X1_rise
set_option maxRecDepth 20000 in
theorem ggX5_simulateMinute_X1_conduct : GoodIn wsX5_simulateMinute wsX1_conduct := goodIn_r _ [139, 40, 129, 130, 36, 37, 38, 39, 41, 42, 43, 19, 44, 176, 177] (by decide +kernel) (by decide +kernel)
set_option maxRecDepth 20000 in
theorem gX5_simulateMinute_X1_conduct : GoodIn wsX5_simulateMinute (wsV RX5 195 RX1 yX1_conduct wsX1_conduct) := goodIn_app (goodIn_of _ (by decide +kernel)) ggX5_simulateMinute_X1_conduct
set_option maxRecDepth 20000 in
theorem ggX5_simulateMinute_X6_countMinute : GoodIn wsX5_simulateMinute wsX6_countMinute := goodIn_r _ [143, 26, 55, 50, 27, 152, 153, 154, 155, 156, 157, 158] (by decide +kernel) (by decide +kernel)
set_option maxRecDepth 20000 in
theorem gX5_simulateMinute_X6_countMinute : GoodIn wsX5_simulateMinute (wsV RX5 198 RX6 yX6_countMinute wsX6_countMinute) := goodIn_app (goodIn_of _ (by decide +kernel)) ggX5_simulateMinute_X6_countMinute
theorem dX5_simulateMinute_0 : decode cX5_simulateMinute 0 = .ok (.aload_n 0, 1) := by decide +kernel
theorem dX5_simulateMinute_1 : decode cX5_simulateMinute 1 = .ok (.getfield 42, 3) := by decide +kernel
theorem dX5_simulateMinute_4 : decode cX5_simulateMinute 4 = .ok (.aload_n 0, 1) := by decide +kernel
theorem dX5_simulateMinute_5 : decode cX5_simulateMinute 5 = .ok (.getfield 12, 3) := by decide +kernel
theorem dX5_simulateMinute_8 : decode cX5_simulateMinute 8 = .ok (.bipush 11, 2) := by decide +kernel
theorem dX5_simulateMinute_10 : decode cX5_simulateMinute 10 = .ok (.invokevirtual 88, 3) := by decide +kernel
theorem dX5_simulateMinute_13 : decode cX5_simulateMinute 13 = .ok (.invokevirtual 148, 3) := by decide +kernel
theorem dX5_simulateMinute_16 : decode cX5_simulateMinute 16 = .ok (.aload_n 0, 1) := by decide +kernel
theorem dX5_simulateMinute_17 : decode cX5_simulateMinute 17 = .ok (.getfield 42, 3) := by decide +kernel
theorem dX5_simulateMinute_20 : decode cX5_simulateMinute 20 = .ok (.aload_n 0, 1) := by decide +kernel
theorem dX5_simulateMinute_21 : decode cX5_simulateMinute 21 = .ok (.getfield 12, 3) := by decide +kernel
theorem dX5_simulateMinute_24 : decode cX5_simulateMinute 24 = .ok (.aload_n 0, 1) := by decide +kernel
theorem dX5_simulateMinute_25 : decode cX5_simulateMinute 25 = .ok (.getfield 35, 3) := by decide +kernel
theorem dX5_simulateMinute_28 : decode cX5_simulateMinute 28 = .ok (.aload_n 0, 1) := by decide +kernel
theorem dX5_simulateMinute_29 : decode cX5_simulateMinute 29 = .ok (.getfield 56, 3) := by decide +kernel
theorem dX5_simulateMinute_32 : decode cX5_simulateMinute 32 = .ok (.invokevirtual 151, 3) := by decide +kernel
theorem dX5_simulateMinute_35 : decode cX5_simulateMinute 35 = .ok (.istore_n 1, 1) := by decide +kernel
theorem dX5_simulateMinute_36 : decode cX5_simulateMinute 36 = .ok (.aload_n 0, 1) := by decide +kernel
theorem dX5_simulateMinute_37 : decode cX5_simulateMinute 37 = .ok (.getfield 42, 3) := by decide +kernel
theorem dX5_simulateMinute_40 : decode cX5_simulateMinute 40 = .ok (.iload_n 1, 1) := by decide +kernel
theorem dX5_simulateMinute_41 : decode cX5_simulateMinute 41 = .ok (.invokevirtual 155, 3) := by decide +kernel
theorem dX5_simulateMinute_44 : decode cX5_simulateMinute 44 = .ok (.aload_n 0, 1) := by decide +kernel
theorem dX5_simulateMinute_45 : decode cX5_simulateMinute 45 = .ok (.getfield 42, 3) := by decide +kernel
theorem dX5_simulateMinute_48 : decode cX5_simulateMinute 48 = .ok (.aload_n 0, 1) := by decide +kernel
theorem dX5_simulateMinute_49 : decode cX5_simulateMinute 49 = .ok (.getfield 84, 3) := by decide +kernel
theorem dX5_simulateMinute_52 : decode cX5_simulateMinute 52 = .ok (.iload_n 1, 1) := by decide +kernel
theorem dX5_simulateMinute_53 : decode cX5_simulateMinute 53 = .ok (.bipush 11, 2) := by decide +kernel
theorem dX5_simulateMinute_55 : decode cX5_simulateMinute 55 = .ok (.if_icmp .ne 7, 3) := by decide +kernel
theorem dX5_simulateMinute_58 : decode cX5_simulateMinute 58 = .ok (.iconst 1, 1) := by decide +kernel
theorem dX5_simulateMinute_59 : decode cX5_simulateMinute 59 = .ok (.goto 4, 3) := by decide +kernel
theorem dX5_simulateMinute_62 : decode cX5_simulateMinute 62 = .ok (.iconst 0, 1) := by decide +kernel
theorem dX5_simulateMinute_63 : decode cX5_simulateMinute 63 = .ok (.invokevirtual 158, 3) := by decide +kernel
theorem dX5_simulateMinute_66 : decode cX5_simulateMinute 66 = .ok (.aload_n 0, 1) := by decide +kernel
theorem dX5_simulateMinute_67 : decode cX5_simulateMinute 67 = .ok (.getfield 49, 3) := by decide +kernel
theorem dX5_simulateMinute_70 : decode cX5_simulateMinute 70 = .ok (.iload_n 1, 1) := by decide +kernel
theorem dX5_simulateMinute_71 : decode cX5_simulateMinute 71 = .ok (.invokevirtual 162, 3) := by decide +kernel
theorem dX5_simulateMinute_74 : decode cX5_simulateMinute 74 = .ok (.aload_n 0, 1) := by decide +kernel
theorem dX5_simulateMinute_75 : decode cX5_simulateMinute 75 = .ok (.getfield 42, 3) := by decide +kernel
theorem dX5_simulateMinute_78 : decode cX5_simulateMinute 78 = .ok (.getfield 165, 3) := by decide +kernel
theorem dX5_simulateMinute_81 : decode cX5_simulateMinute 81 = .ok (.iconst 1, 1) := by decide +kernel
theorem dX5_simulateMinute_82 : decode cX5_simulateMinute 82 = .ok (.if_icmp .ne 10, 3) := by decide +kernel
theorem dX5_simulateMinute_85 : decode cX5_simulateMinute 85 = .ok (.aload_n 0, 1) := by decide +kernel
theorem dX5_simulateMinute_86 : decode cX5_simulateMinute 86 = .ok (.invokevirtual 168, 3) := by decide +kernel
theorem dX5_simulateMinute_89 : decode cX5_simulateMinute 89 = .ok (.goto 18, 3) := by decide +kernel
theorem dX5_simulateMinute_92 : decode cX5_simulateMinute 92 = .ok (.aload_n 0, 1) := by decide +kernel
theorem dX5_simulateMinute_93 : decode cX5_simulateMinute 93 = .ok (.getfield 42, 3) := by decide +kernel
theorem dX5_simulateMinute_96 : decode cX5_simulateMinute 96 = .ok (.getfield 165, 3) := by decide +kernel
theorem dX5_simulateMinute_99 : decode cX5_simulateMinute 99 = .ok (.iconst 2, 1) := by decide +kernel
theorem dX5_simulateMinute_100 : decode cX5_simulateMinute 100 = .ok (.if_icmp .ne 7, 3) := by decide +kernel
theorem dX5_simulateMinute_103 : decode cX5_simulateMinute 103 = .ok (.aload_n 0, 1) := by decide +kernel
theorem dX5_simulateMinute_104 : decode cX5_simulateMinute 104 = .ok (.invokevirtual 171, 3) := by decide +kernel
theorem dX5_simulateMinute_107 : decode cX5_simulateMinute 107 = .ok (.aload_n 0, 1) := by decide +kernel
theorem dX5_simulateMinute_108 : decode cX5_simulateMinute 108 = .ok (.getfield 35, 3) := by decide +kernel
theorem dX5_simulateMinute_111 : decode cX5_simulateMinute 111 = .ok (.aload_n 0, 1) := by decide +kernel
theorem dX5_simulateMinute_112 : decode cX5_simulateMinute 112 = .ok (.getfield 56, 3) := by decide +kernel
theorem dX5_simulateMinute_115 : decode cX5_simulateMinute 115 = .ok (.getfield 139, 3) := by decide +kernel
theorem dX5_simulateMinute_118 : decode cX5_simulateMinute 118 = .ok (.i2l, 1) := by decide +kernel
theorem dX5_simulateMinute_119 : decode cX5_simulateMinute 119 = .ok (.invokevirtual 174, 3) := by decide +kernel
theorem dX5_simulateMinute_122 : decode cX5_simulateMinute 122 = .ok (.lstore_n 2, 1) := by decide +kernel
theorem dX5_simulateMinute_123 : decode cX5_simulateMinute 123 = .ok (.aload_n 0, 1) := by decide +kernel
theorem dX5_simulateMinute_124 : decode cX5_simulateMinute 124 = .ok (.getfield 49, 3) := by decide +kernel
theorem dX5_simulateMinute_127 : decode cX5_simulateMinute 127 = .ok (.dup, 1) := by decide +kernel
theorem dX5_simulateMinute_128 : decode cX5_simulateMinute 128 = .ok (.getfield 178, 3) := by decide +kernel
theorem dX5_simulateMinute_131 : decode cX5_simulateMinute 131 = .ok (.lload_n 2, 1) := by decide +kernel
theorem dX5_simulateMinute_132 : decode cX5_simulateMinute 132 = .ok (.ladd, 1) := by decide +kernel
theorem dX5_simulateMinute_133 : decode cX5_simulateMinute 133 = .ok (.putfield 178, 3) := by decide +kernel
theorem dX5_simulateMinute_136 : decode cX5_simulateMinute 136 = .ok (.aload_n 0, 1) := by decide +kernel
theorem dX5_simulateMinute_137 : decode cX5_simulateMinute 137 = .ok (.getfield 49, 3) := by decide +kernel
theorem dX5_simulateMinute_140 : decode cX5_simulateMinute 140 = .ok (.dup, 1) := by decide +kernel
theorem dX5_simulateMinute_141 : decode cX5_simulateMinute 141 = .ok (.getfield 182, 3) := by decide +kernel
theorem dX5_simulateMinute_144 : decode cX5_simulateMinute 144 = .ok (.aload_n 0, 1) := by decide +kernel
theorem dX5_simulateMinute_145 : decode cX5_simulateMinute 145 = .ok (.getfield 56, 3) := by decide +kernel
theorem dX5_simulateMinute_148 : decode cX5_simulateMinute 148 = .ok (.getfield 139, 3) := by decide +kernel
theorem dX5_simulateMinute_151 : decode cX5_simulateMinute 151 = .ok (.i2l, 1) := by decide +kernel
theorem dX5_simulateMinute_152 : decode cX5_simulateMinute 152 = .ok (.lload_n 2, 1) := by decide +kernel
theorem dX5_simulateMinute_153 : decode cX5_simulateMinute 153 = .ok (.lsub, 1) := by decide +kernel
theorem dX5_simulateMinute_154 : decode cX5_simulateMinute 154 = .ok (.ladd, 1) := by decide +kernel
theorem dX5_simulateMinute_155 : decode cX5_simulateMinute 155 = .ok (.putfield 182, 3) := by decide +kernel
theorem dX5_simulateMinute_158 : decode cX5_simulateMinute 158 = .ok (.aload_n 0, 1) := by decide +kernel
theorem dX5_simulateMinute_159 : decode cX5_simulateMinute 159 = .ok (.getfield 49, 3) := by decide +kernel
theorem dX5_simulateMinute_162 : decode cX5_simulateMinute 162 = .ok (.dup, 1) := by decide +kernel
theorem dX5_simulateMinute_163 : decode cX5_simulateMinute 163 = .ok (.getfield 185, 3) := by decide +kernel
theorem dX5_simulateMinute_166 : decode cX5_simulateMinute 166 = .ok (.aload_n 0, 1) := by decide +kernel
theorem dX5_simulateMinute_167 : decode cX5_simulateMinute 167 = .ok (.getfield 35, 3) := by decide +kernel
theorem dX5_simulateMinute_170 : decode cX5_simulateMinute 170 = .ok (.aload_n 0, 1) := by decide +kernel
theorem dX5_simulateMinute_171 : decode cX5_simulateMinute 171 = .ok (.getfield 12, 3) := by decide +kernel
theorem dX5_simulateMinute_174 : decode cX5_simulateMinute 174 = .ok (.bipush 13, 2) := by decide +kernel
theorem dX5_simulateMinute_176 : decode cX5_simulateMinute 176 = .ok (.invokevirtual 88, 3) := by decide +kernel
theorem dX5_simulateMinute_179 : decode cX5_simulateMinute 179 = .ok (.invokevirtual 188, 3) := by decide +kernel
theorem dX5_simulateMinute_182 : decode cX5_simulateMinute 182 = .ok (.ladd, 1) := by decide +kernel
theorem dX5_simulateMinute_183 : decode cX5_simulateMinute 183 = .ok (.putfield 185, 3) := by decide +kernel
theorem dX5_simulateMinute_186 : decode cX5_simulateMinute 186 = .ok (.aload_n 0, 1) := by decide +kernel
theorem dX5_simulateMinute_187 : decode cX5_simulateMinute 187 = .ok (.getfield 35, 3) := by decide +kernel
theorem dX5_simulateMinute_190 : decode cX5_simulateMinute 190 = .ok (.invokevirtual 192, 3) := by decide +kernel
theorem dX5_simulateMinute_193 : decode cX5_simulateMinute 193 = .ok (.aload_n 0, 1) := by decide +kernel
theorem dX5_simulateMinute_194 : decode cX5_simulateMinute 194 = .ok (.getfield 35, 3) := by decide +kernel
theorem dX5_simulateMinute_197 : decode cX5_simulateMinute 197 = .ok (.aload_n 0, 1) := by decide +kernel
theorem dX5_simulateMinute_198 : decode cX5_simulateMinute 198 = .ok (.getfield 12, 3) := by decide +kernel
theorem dX5_simulateMinute_201 : decode cX5_simulateMinute 201 = .ok (.bipush 14, 2) := by decide +kernel
theorem dX5_simulateMinute_203 : decode cX5_simulateMinute 203 = .ok (.invokevirtual 88, 3) := by decide +kernel
theorem dX5_simulateMinute_206 : decode cX5_simulateMinute 206 = .ok (.invokevirtual 195, 3) := by decide +kernel
theorem dX5_simulateMinute_209 : decode cX5_simulateMinute 209 = .ok (.aload_n 0, 1) := by decide +kernel
theorem dX5_simulateMinute_210 : decode cX5_simulateMinute 210 = .ok (.getfield 42, 3) := by decide +kernel
theorem dX5_simulateMinute_213 : decode cX5_simulateMinute 213 = .ok (.invokevirtual 198, 3) := by decide +kernel
theorem dX5_simulateMinute_216 : decode cX5_simulateMinute 216 = .ok (.aload_n 0, 1) := by decide +kernel
theorem dX5_simulateMinute_217 : decode cX5_simulateMinute 217 = .ok (.dup, 1) := by decide +kernel
theorem dX5_simulateMinute_218 : decode cX5_simulateMinute 218 = .ok (.getfield 84, 3) := by decide +kernel
theorem dX5_simulateMinute_221 : decode cX5_simulateMinute 221 = .ok (.iconst 1, 1) := by decide +kernel
theorem dX5_simulateMinute_222 : decode cX5_simulateMinute 222 = .ok (.iadd, 1) := by decide +kernel
theorem dX5_simulateMinute_223 : decode cX5_simulateMinute 223 = .ok (.putfield 84, 3) := by decide +kernel
theorem dX5_simulateMinute_226 : decode cX5_simulateMinute 226 = .ok (.return_, 1) := by decide +kernel
set_option maxRecDepth 20000 in
theorem ggX5_produce_X7_valueOf : GoodIn wsX5_produce wsX7_valueOf := goodIn_r _ [28, 29, 30, 31, 32, 86] (by decide +kernel) (by decide +kernel)
set_option maxRecDepth 20000 in
theorem gX5_produce_X7_valueOf : GoodIn wsX5_produce (wsV RX5 88 RX7 yX7_valueOf wsX7_valueOf) := goodIn_app (goodIn_of _ (by decide +kernel)) ggX5_produce_X7_valueOf
set_option maxRecDepth 20000 in
theorem ggX5_produce_X10_div : GoodIn wsX5_produce wsX10_div := goodIn_r _ [34] (by decide +kernel) (by decide +kernel)
set_option maxRecDepth 20000 in
theorem gX5_produce_X10_div_n101 : GoodIn wsX5_produce (wsX10_div) := ggX5_produce_X10_div
set_option maxRecDepth 20000 in
theorem ggX5_produce_X1_temperatureOf : GoodIn wsX5_produce wsX1_temperatureOf := goodIn_r _ [39, 40, 41, 42, 33, 31, 34, 87, 88] (by decide +kernel) (by decide +kernel)
set_option maxRecDepth 20000 in
theorem gX5_produce_X1_temperatureOf : GoodIn wsX5_produce (wsV RX5 210 RX1 yX1_temperatureOf wsX1_temperatureOf) := goodIn_app (goodIn_of _ (by decide +kernel)) ggX5_produce_X1_temperatureOf
set_option maxRecDepth 20000 in
theorem ggX5_produce_X5_use : GoodIn wsX5_produce wsX5_use := goodIn_r _ [47, 20, 48, 49, 1, 50, 55, 56, 57, 58, 59, 60, 61, 62, 68, 69, 70, 71, 72, 73, 74, 75, 76, 77, 78, 63, 64, 65, 66, 67] (by decide +kernel) (by decide +kernel)
set_option maxRecDepth 20000 in
theorem gX5_produce_X5_use : GoodIn wsX5_produce (wsV RX5 222 RX5 yX5_use wsX5_use) := goodIn_app (goodIn_of _ (by decide +kernel)) ggX5_produce_X5_use
set_option maxRecDepth 20000 in
theorem ggX5_produce_X1_add : GoodIn wsX5_produce wsX1_add := goodIn_r _ [54, 40, 87, 88] (by decide +kernel) (by decide +kernel)
set_option maxRecDepth 20000 in
theorem gX5_produce_X1_add : GoodIn wsX5_produce (wsV RX5 226 RX1 yX1_add wsX1_add) := goodIn_app (goodIn_of _ (by decide +kernel)) ggX5_produce_X1_add
theorem dX5_produce_0 : decode cX5_produce 0 = .ok (.aload_n 0, 1) := by decide +kernel
theorem dX5_produce_1 : decode cX5_produce 1 = .ok (.getfield 56, 3) := by decide +kernel
theorem dX5_produce_4 : decode cX5_produce 4 = .ok (.getfield 124, 3) := by decide +kernel
theorem dX5_produce_7 : decode cX5_produce 7 = .ok (.istore_n 1, 1) := by decide +kernel
theorem dX5_produce_8 : decode cX5_produce 8 = .ok (.aload_n 0, 1) := by decide +kernel
theorem dX5_produce_9 : decode cX5_produce 9 = .ok (.getfield 12, 3) := by decide +kernel
theorem dX5_produce_12 : decode cX5_produce 12 = .ok (.bipush 7, 2) := by decide +kernel
theorem dX5_produce_14 : decode cX5_produce 14 = .ok (.invokevirtual 88, 3) := by decide +kernel
theorem dX5_produce_17 : decode cX5_produce 17 = .ok (.i2l, 1) := by decide +kernel
theorem dX5_produce_18 : decode cX5_produce 18 = .ok (.aload_n 0, 1) := by decide +kernel
theorem dX5_produce_19 : decode cX5_produce 19 = .ok (.getfield 12, 3) := by decide +kernel
theorem dX5_produce_22 : decode cX5_produce 22 = .ok (.bipush 8, 2) := by decide +kernel
theorem dX5_produce_24 : decode cX5_produce 24 = .ok (.invokevirtual 88, 3) := by decide +kernel
theorem dX5_produce_27 : decode cX5_produce 27 = .ok (.iload_n 1, 1) := by decide +kernel
theorem dX5_produce_28 : decode cX5_produce 28 = .ok (.imul, 1) := by decide +kernel
theorem dX5_produce_29 : decode cX5_produce 29 = .ok (.i2l, 1) := by decide +kernel
theorem dX5_produce_30 : decode cX5_produce 30 = .ok (.ldc2_w 99, 3) := by decide +kernel
theorem dX5_produce_33 : decode cX5_produce 33 = .ok (.invokestatic 101, 3) := by decide +kernel
theorem dX5_produce_36 : decode cX5_produce 36 = .ok (.ladd, 1) := by decide +kernel
theorem dX5_produce_37 : decode cX5_produce 37 = .ok (.lstore_n 2, 1) := by decide +kernel
theorem dX5_produce_38 : decode cX5_produce 38 = .ok (.ldc2_w 200, 3) := by decide +kernel
theorem dX5_produce_41 : decode cX5_produce 41 = .ok (.lload_n 2, 1) := by decide +kernel
theorem dX5_produce_42 : decode cX5_produce 42 = .ok (.invokestatic 202, 3) := by decide +kernel
theorem dX5_produce_45 : decode cX5_produce 45 = .ok (.lstore_n 2, 1) := by decide +kernel
theorem dX5_produce_46 : decode cX5_produce 46 = .ok (.ldc2_w 204, 3) := by decide +kernel
theorem dX5_produce_49 : decode cX5_produce 49 = .ok (.ldc2_w 206, 3) := by decide +kernel
theorem dX5_produce_52 : decode cX5_produce 52 = .ok (.iload_n 1, 1) := by decide +kernel
theorem dX5_produce_53 : decode cX5_produce 53 = .ok (.i2l, 1) := by decide +kernel
theorem dX5_produce_54 : decode cX5_produce 54 = .ok (.ldc2_w 99, 3) := by decide +kernel
theorem dX5_produce_57 : decode cX5_produce 57 = .ok (.invokestatic 101, 3) := by decide +kernel
theorem dX5_produce_60 : decode cX5_produce 60 = .ok (.lmul, 1) := by decide +kernel
theorem dX5_produce_61 : decode cX5_produce 61 = .ok (.ladd, 1) := by decide +kernel
theorem dX5_produce_62 : decode cX5_produce 62 = .ok (.ldc2_w 208, 3) := by decide +kernel
theorem dX5_produce_65 : decode cX5_produce 65 = .ok (.aload_n 0, 1) := by decide +kernel
theorem dX5_produce_66 : decode cX5_produce 66 = .ok (.getfield 35, 3) := by decide +kernel
theorem dX5_produce_69 : decode cX5_produce 69 = .ok (.iconst 3, 1) := by decide +kernel
theorem dX5_produce_70 : decode cX5_produce 70 = .ok (.invokevirtual 210, 3) := by decide +kernel
theorem dX5_produce_73 : decode cX5_produce 73 = .ok (.ldc2_w 213, 3) := by decide +kernel
theorem dX5_produce_76 : decode cX5_produce 76 = .ok (.lsub, 1) := by decide +kernel
theorem dX5_produce_77 : decode cX5_produce 77 = .ok (.ldc2_w 99, 3) := by decide +kernel
theorem dX5_produce_80 : decode cX5_produce 80 = .ok (.invokestatic 101, 3) := by decide +kernel
theorem dX5_produce_83 : decode cX5_produce 83 = .ok (.lmul, 1) := by decide +kernel
theorem dX5_produce_84 : decode cX5_produce 84 = .ok (.lsub, 1) := by decide +kernel
theorem dX5_produce_85 : decode cX5_produce 85 = .ok (.lstore 4, 2) := by decide +kernel
theorem dX5_produce_87 : decode cX5_produce 87 = .ok (.ldc2_w 215, 3) := by decide +kernel
theorem dX5_produce_90 : decode cX5_produce 90 = .ok (.ldc2_w 217, 3) := by decide +kernel
theorem dX5_produce_93 : decode cX5_produce 93 = .ok (.lload 4, 2) := by decide +kernel
theorem dX5_produce_95 : decode cX5_produce 95 = .ok (.invokestatic 219, 3) := by decide +kernel
theorem dX5_produce_98 : decode cX5_produce 98 = .ok (.invokestatic 202, 3) := by decide +kernel
theorem dX5_produce_101 : decode cX5_produce 101 = .ok (.lstore 4, 2) := by decide +kernel
theorem dX5_produce_103 : decode cX5_produce 103 = .ok (.aload_n 0, 1) := by decide +kernel
theorem dX5_produce_104 : decode cX5_produce 104 = .ok (.lload_n 2, 1) := by decide +kernel
theorem dX5_produce_105 : decode cX5_produce 105 = .ok (.ldc2_w 215, 3) := by decide +kernel
theorem dX5_produce_108 : decode cX5_produce 108 = .ok (.lmul, 1) := by decide +kernel
theorem dX5_produce_109 : decode cX5_produce 109 = .ok (.lload 4, 2) := by decide +kernel
theorem dX5_produce_111 : decode cX5_produce 111 = .ok (.ladd, 1) := by decide +kernel
theorem dX5_produce_112 : decode cX5_produce 112 = .ok (.lconst 1, 1) := by decide +kernel
theorem dX5_produce_113 : decode cX5_produce 113 = .ok (.lsub, 1) := by decide +kernel
theorem dX5_produce_114 : decode cX5_produce 114 = .ok (.lload 4, 2) := by decide +kernel
theorem dX5_produce_116 : decode cX5_produce 116 = .ok (.invokestatic 101, 3) := by decide +kernel
theorem dX5_produce_119 : decode cX5_produce 119 = .ok (.invokevirtual 222, 3) := by decide +kernel
theorem dX5_produce_122 : decode cX5_produce 122 = .ok (.aload_n 0, 1) := by decide +kernel
theorem dX5_produce_123 : decode cX5_produce 123 = .ok (.getfield 35, 3) := by decide +kernel
theorem dX5_produce_126 : decode cX5_produce 126 = .ok (.iconst 3, 1) := by decide +kernel
theorem dX5_produce_127 : decode cX5_produce 127 = .ok (.lload_n 2, 1) := by decide +kernel
theorem dX5_produce_128 : decode cX5_produce 128 = .ok (.invokevirtual 226, 3) := by decide +kernel
theorem dX5_produce_131 : decode cX5_produce 131 = .ok (.aload_n 0, 1) := by decide +kernel
theorem dX5_produce_132 : decode cX5_produce 132 = .ok (.getfield 49, 3) := by decide +kernel
theorem dX5_produce_135 : decode cX5_produce 135 = .ok (.dup, 1) := by decide +kernel
theorem dX5_produce_136 : decode cX5_produce 136 = .ok (.getfield 230, 3) := by decide +kernel
theorem dX5_produce_139 : decode cX5_produce 139 = .ok (.lload_n 2, 1) := by decide +kernel
theorem dX5_produce_140 : decode cX5_produce 140 = .ok (.ladd, 1) := by decide +kernel
theorem dX5_produce_141 : decode cX5_produce 141 = .ok (.putfield 230, 3) := by decide +kernel
theorem dX5_produce_144 : decode cX5_produce 144 = .ok (.iload_n 1, 1) := by decide +kernel
theorem dX5_produce_145 : decode cX5_produce 145 = .ok (.aload_n 0, 1) := by decide +kernel
theorem dX5_produce_146 : decode cX5_produce 146 = .ok (.getfield 12, 3) := by decide +kernel
theorem dX5_produce_149 : decode cX5_produce 149 = .ok (.bipush 9, 2) := by decide +kernel
theorem dX5_produce_151 : decode cX5_produce 151 = .ok (.invokevirtual 88, 3) := by decide +kernel
theorem dX5_produce_154 : decode cX5_produce 154 = .ok (.if_icmp .ge 16, 3) := by decide +kernel
theorem dX5_produce_157 : decode cX5_produce 157 = .ok (.aload_n 0, 1) := by decide +kernel
theorem dX5_produce_158 : decode cX5_produce 158 = .ok (.getfield 42, 3) := by decide +kernel
theorem dX5_produce_161 : decode cX5_produce 161 = .ok (.dup, 1) := by decide +kernel
theorem dX5_produce_162 : decode cX5_produce 162 = .ok (.getfield 233, 3) := by decide +kernel
theorem dX5_produce_165 : decode cX5_produce 165 = .ok (.iconst 1, 1) := by decide +kernel
theorem dX5_produce_166 : decode cX5_produce 166 = .ok (.iadd, 1) := by decide +kernel
theorem dX5_produce_167 : decode cX5_produce 167 = .ok (.putfield 233, 3) := by decide +kernel
theorem dX5_produce_170 : decode cX5_produce 170 = .ok (.return_, 1) := by decide +kernel
set_option maxRecDepth 20000 in
theorem ggX5_defrost_X7_valueOf : GoodIn wsX5_defrost wsX7_valueOf := goodIn_r _ [10, 11, 12, 13, 14, 49] (by decide +kernel) (by decide +kernel)
set_option maxRecDepth 20000 in
theorem gX5_defrost_X7_valueOf : GoodIn wsX5_defrost (wsV RX5 88 RX7 yX7_valueOf wsX7_valueOf) := goodIn_app (goodIn_of _ (by decide +kernel)) ggX5_defrost_X7_valueOf
set_option maxRecDepth 20000 in
theorem ggX5_defrost_X1_add : GoodIn wsX5_defrost wsX1_add := goodIn_r _ [19, 20, 50, 51] (by decide +kernel) (by decide +kernel)
set_option maxRecDepth 20000 in
theorem gX5_defrost_X1_add : GoodIn wsX5_defrost (wsV RX5 226 RX1 yX1_add wsX1_add) := goodIn_app (goodIn_of _ (by decide +kernel)) ggX5_defrost_X1_add
set_option maxRecDepth 20000 in
theorem ggX5_defrost_X5_use : GoodIn wsX5_defrost wsX5_use := goodIn_r _ [25, 3, 26, 27, 28, 29, 30, 31, 32, 33, 34, 35, 36, 37, 38, 39, 40, 41, 42, 43, 44, 45, 46, 47, 48, 52, 53, 54, 55, 56] (by decide +kernel) (by decide +kernel)
set_option maxRecDepth 20000 in
theorem gX5_defrost_X5_use : GoodIn wsX5_defrost (wsV RX5 222 RX5 yX5_use wsX5_use) := goodIn_app (goodIn_of _ (by decide +kernel)) ggX5_defrost_X5_use
theorem dX5_defrost_0 : decode cX5_defrost 0 = .ok (.aload_n 0, 1) := by decide +kernel
theorem dX5_defrost_1 : decode cX5_defrost 1 = .ok (.getfield 12, 3) := by decide +kernel
theorem dX5_defrost_4 : decode cX5_defrost 4 = .ok (.bipush 12, 2) := by decide +kernel
theorem dX5_defrost_6 : decode cX5_defrost 6 = .ok (.invokevirtual 88, 3) := by decide +kernel
theorem dX5_defrost_9 : decode cX5_defrost 9 = .ok (.istore_n 1, 1) := by decide +kernel
theorem dX5_defrost_10 : decode cX5_defrost 10 = .ok (.aload_n 0, 1) := by decide +kernel
theorem dX5_defrost_11 : decode cX5_defrost 11 = .ok (.getfield 35, 3) := by decide +kernel
theorem dX5_defrost_14 : decode cX5_defrost 14 = .ok (.iconst 3, 1) := by decide +kernel
theorem dX5_defrost_15 : decode cX5_defrost 15 = .ok (.iload_n 1, 1) := by decide +kernel
theorem dX5_defrost_16 : decode cX5_defrost 16 = .ok (.ineg, 1) := by decide +kernel
theorem dX5_defrost_17 : decode cX5_defrost 17 = .ok (.i2l, 1) := by decide +kernel
theorem dX5_defrost_18 : decode cX5_defrost 18 = .ok (.invokevirtual 226, 3) := by decide +kernel
theorem dX5_defrost_21 : decode cX5_defrost 21 = .ok (.aload_n 0, 1) := by decide +kernel
theorem dX5_defrost_22 : decode cX5_defrost 22 = .ok (.getfield 49, 3) := by decide +kernel
theorem dX5_defrost_25 : decode cX5_defrost 25 = .ok (.dup, 1) := by decide +kernel
theorem dX5_defrost_26 : decode cX5_defrost 26 = .ok (.getfield 236, 3) := by decide +kernel
theorem dX5_defrost_29 : decode cX5_defrost 29 = .ok (.iload_n 1, 1) := by decide +kernel
theorem dX5_defrost_30 : decode cX5_defrost 30 = .ok (.i2l, 1) := by decide +kernel
theorem dX5_defrost_31 : decode cX5_defrost 31 = .ok (.ladd, 1) := by decide +kernel
theorem dX5_defrost_32 : decode cX5_defrost 32 = .ok (.putfield 236, 3) := by decide +kernel
theorem dX5_defrost_35 : decode cX5_defrost 35 = .ok (.aload_n 0, 1) := by decide +kernel
theorem dX5_defrost_36 : decode cX5_defrost 36 = .ok (.ldc2_w 239, 3) := by decide +kernel
theorem dX5_defrost_39 : decode cX5_defrost 39 = .ok (.invokevirtual 222, 3) := by decide +kernel
theorem dX5_defrost_42 : decode cX5_defrost 42 = .ok (.return_, 1) := by decide +kernel
theorem dX5_use_0 : decode cX5_use 0 = .ok (.aload_n 0, 1) := by decide +kernel
theorem dX5_use_1 : decode cX5_use 1 = .ok (.getfield 49, 3) := by decide +kernel
theorem dX5_use_4 : decode cX5_use 4 = .ok (.dup, 1) := by decide +kernel
theorem dX5_use_5 : decode cX5_use 5 = .ok (.getfield 241, 3) := by decide +kernel
theorem dX5_use_8 : decode cX5_use 8 = .ok (.lload_n 1, 1) := by decide +kernel
theorem dX5_use_9 : decode cX5_use 9 = .ok (.ladd, 1) := by decide +kernel
theorem dX5_use_10 : decode cX5_use 10 = .ok (.putfield 241, 3) := by decide +kernel
theorem dX5_use_13 : decode cX5_use 13 = .ok (.aload_n 0, 1) := by decide +kernel
theorem dX5_use_14 : decode cX5_use 14 = .ok (.getfield 49, 3) := by decide +kernel
theorem dX5_use_17 : decode cX5_use 17 = .ok (.dup, 1) := by decide +kernel
theorem dX5_use_18 : decode cX5_use 18 = .ok (.getfield 244, 3) := by decide +kernel
theorem dX5_use_21 : decode cX5_use 21 = .ok (.lload_n 1, 1) := by decide +kernel
theorem dX5_use_22 : decode cX5_use 22 = .ok (.aload_n 0, 1) := by decide +kernel
theorem dX5_use_23 : decode cX5_use 23 = .ok (.getfield 56, 3) := by decide +kernel
theorem dX5_use_26 : decode cX5_use 26 = .ok (.getfield 133, 3) := by decide +kernel
theorem dX5_use_29 : decode cX5_use 29 = .ok (.i2l, 1) := by decide +kernel
theorem dX5_use_30 : decode cX5_use 30 = .ok (.lmul, 1) := by decide +kernel
theorem dX5_use_31 : decode cX5_use 31 = .ok (.ladd, 1) := by decide +kernel
theorem dX5_use_32 : decode cX5_use 32 = .ok (.putfield 244, 3) := by decide +kernel
theorem dX5_use_35 : decode cX5_use 35 = .ok (.return_, 1) := by decide +kernel
theorem dX6_init_0 : decode cX6_init 0 = .ok (.aload_n 0, 1) := by decide +kernel
theorem dX6_init_1 : decode cX6_init 1 = .ok (.invokespecial 3, 3) := by decide +kernel
theorem dX6_init_4 : decode cX6_init 4 = .ok (.aload_n 0, 1) := by decide +kernel
theorem dX6_init_5 : decode cX6_init 5 = .ok (.iconst 0, 1) := by decide +kernel
theorem dX6_init_6 : decode cX6_init 6 = .ok (.putfield 9, 3) := by decide +kernel
theorem dX6_init_9 : decode cX6_init 9 = .ok (.aload_n 0, 1) := by decide +kernel
theorem dX6_init_10 : decode cX6_init 10 = .ok (.sipush 1000, 3) := by decide +kernel
theorem dX6_init_13 : decode cX6_init 13 = .ok (.putfield 15, 3) := by decide +kernel
theorem dX6_init_16 : decode cX6_init 16 = .ok (.aload_n 0, 1) := by decide +kernel
theorem dX6_init_17 : decode cX6_init 17 = .ok (.bipush 60, 2) := by decide +kernel
theorem dX6_init_19 : decode cX6_init 19 = .ok (.newarray .int, 2) := by decide +kernel
theorem dX6_init_21 : decode cX6_init 21 = .ok (.putfield 18, 3) := by decide +kernel
theorem dX6_init_24 : decode cX6_init 24 = .ok (.return_, 1) := by decide +kernel
set_option maxRecDepth 20000 in
theorem ggX6_copyFrom_X10_copyRow : GoodIn wsX6_copyFrom wsX10_copyRow := goodIn_r _ [10] (by decide +kernel) (by decide +kernel)
set_option maxRecDepth 20000 in
theorem gX6_copyFrom_X10_copyRow_n34 : GoodIn wsX6_copyFrom (wsX10_copyRow) := ggX6_copyFrom_X10_copyRow
theorem dX6_copyFrom_0 : decode cX6_copyFrom 0 = .ok (.aload_n 0, 1) := by decide +kernel
theorem dX6_copyFrom_1 : decode cX6_copyFrom 1 = .ok (.aload_n 1, 1) := by decide +kernel
theorem dX6_copyFrom_2 : decode cX6_copyFrom 2 = .ok (.getfield 9, 3) := by decide +kernel
theorem dX6_copyFrom_5 : decode cX6_copyFrom 5 = .ok (.putfield 9, 3) := by decide +kernel
theorem dX6_copyFrom_8 : decode cX6_copyFrom 8 = .ok (.aload_n 0, 1) := by decide +kernel
theorem dX6_copyFrom_9 : decode cX6_copyFrom 9 = .ok (.aload_n 1, 1) := by decide +kernel
theorem dX6_copyFrom_10 : decode cX6_copyFrom 10 = .ok (.getfield 22, 3) := by decide +kernel
theorem dX6_copyFrom_13 : decode cX6_copyFrom 13 = .ok (.putfield 22, 3) := by decide +kernel
theorem dX6_copyFrom_16 : decode cX6_copyFrom 16 = .ok (.aload_n 0, 1) := by decide +kernel
theorem dX6_copyFrom_17 : decode cX6_copyFrom 17 = .ok (.aload_n 1, 1) := by decide +kernel
theorem dX6_copyFrom_18 : decode cX6_copyFrom 18 = .ok (.getfield 15, 3) := by decide +kernel
theorem dX6_copyFrom_21 : decode cX6_copyFrom 21 = .ok (.putfield 15, 3) := by decide +kernel
theorem dX6_copyFrom_24 : decode cX6_copyFrom 24 = .ok (.aload_n 0, 1) := by decide +kernel
theorem dX6_copyFrom_25 : decode cX6_copyFrom 25 = .ok (.aload_n 1, 1) := by decide +kernel
theorem dX6_copyFrom_26 : decode cX6_copyFrom 26 = .ok (.getfield 25, 3) := by decide +kernel
theorem dX6_copyFrom_29 : decode cX6_copyFrom 29 = .ok (.putfield 25, 3) := by decide +kernel
theorem dX6_copyFrom_32 : decode cX6_copyFrom 32 = .ok (.aload_n 0, 1) := by decide +kernel
theorem dX6_copyFrom_33 : decode cX6_copyFrom 33 = .ok (.aload_n 1, 1) := by decide +kernel
theorem dX6_copyFrom_34 : decode cX6_copyFrom 34 = .ok (.getfield 28, 3) := by decide +kernel
theorem dX6_copyFrom_37 : decode cX6_copyFrom 37 = .ok (.putfield 28, 3) := by decide +kernel
theorem dX6_copyFrom_40 : decode cX6_copyFrom 40 = .ok (.aload_n 0, 1) := by decide +kernel
theorem dX6_copyFrom_41 : decode cX6_copyFrom 41 = .ok (.aload_n 1, 1) := by decide +kernel
theorem dX6_copyFrom_42 : decode cX6_copyFrom 42 = .ok (.getfield 31, 3) := by decide +kernel
theorem dX6_copyFrom_45 : decode cX6_copyFrom 45 = .ok (.putfield 31, 3) := by decide +kernel
theorem dX6_copyFrom_48 : decode cX6_copyFrom 48 = .ok (.aload_n 1, 1) := by decide +kernel
theorem dX6_copyFrom_49 : decode cX6_copyFrom 49 = .ok (.getfield 18, 3) := by decide +kernel
theorem dX6_copyFrom_52 : decode cX6_copyFrom 52 = .ok (.aload_n 0, 1) := by decide +kernel
theorem dX6_copyFrom_53 : decode cX6_copyFrom 53 = .ok (.getfield 18, 3) := by decide +kernel
theorem dX6_copyFrom_56 : decode cX6_copyFrom 56 = .ok (.invokestatic 34, 3) := by decide +kernel
theorem dX6_copyFrom_59 : decode cX6_copyFrom 59 = .ok (.return_, 1) := by decide +kernel
theorem dX6_endDefrosting_0 : decode cX6_endDefrosting 0 = .ok (.aload_n 0, 1) := by decide +kernel
theorem dX6_endDefrosting_1 : decode cX6_endDefrosting 1 = .ok (.getfield 9, 3) := by decide +kernel
theorem dX6_endDefrosting_4 : decode cX6_endDefrosting 4 = .ok (.iconst 2, 1) := by decide +kernel
theorem dX6_endDefrosting_5 : decode cX6_endDefrosting 5 = .ok (.if_icmp .ne 21, 3) := by decide +kernel
theorem dX6_endDefrosting_8 : decode cX6_endDefrosting 8 = .ok (.aload_n 0, 1) := by decide +kernel
theorem dX6_endDefrosting_9 : decode cX6_endDefrosting 9 = .ok (.getfield 25, 3) := by decide +kernel
theorem dX6_endDefrosting_12 : decode cX6_endDefrosting 12 = .ok (.iload_n 1, 1) := by decide +kernel
theorem dX6_endDefrosting_13 : decode cX6_endDefrosting 13 = .ok (.if_icmp .lt 13, 3) := by decide +kernel
theorem dX6_endDefrosting_16 : decode cX6_endDefrosting 16 = .ok (.aload_n 0, 1) := by decide +kernel
theorem dX6_endDefrosting_17 : decode cX6_endDefrosting 17 = .ok (.iconst 1, 1) := by decide +kernel
theorem dX6_endDefrosting_18 : decode cX6_endDefrosting 18 = .ok (.putfield 9, 3) := by decide +kernel
theorem dX6_endDefrosting_21 : decode cX6_endDefrosting 21 = .ok (.aload_n 0, 1) := by decide +kernel
theorem dX6_endDefrosting_22 : decode cX6_endDefrosting 22 = .ok (.iconst 0, 1) := by decide +kernel
theorem dX6_endDefrosting_23 : decode cX6_endDefrosting 23 = .ok (.putfield 28, 3) := by decide +kernel
theorem dX6_endDefrosting_26 : decode cX6_endDefrosting 26 = .ok (.return_, 1) := by decide +kernel
set_option maxRecDepth 20000 in
theorem ggX6_decide_X1_temperatureOf : GoodIn wsX6_decide wsX1_temperatureOf := goodIn_r _ [8, 9, 10, 11, 12, 13, 14, 48, 49] (by decide +kernel) (by decide +kernel)
set_option maxRecDepth 20000 in
theorem gX6_decide_X1_temperatureOf : GoodIn wsX6_decide (wsV RX6 40 RX1 yX1_temperatureOf wsX1_temperatureOf) := goodIn_app (goodIn_of _ (by decide +kernel)) ggX6_decide_X1_temperatureOf
set_option maxRecDepth 20000 in
theorem ggX6_decide_X7_valueOf : GoodIn wsX6_decide wsX7_valueOf := goodIn_r _ [19, 20, 21, 13, 22, 50] (by decide +kernel) (by decide +kernel)
set_option maxRecDepth 20000 in
theorem gX6_decide_X7_valueOf : GoodIn wsX6_decide (wsV RX6 46 RX7 yX7_valueOf wsX7_valueOf) := goodIn_app (goodIn_of _ (by decide +kernel)) ggX6_decide_X7_valueOf
set_option maxRecDepth 20000 in
theorem ggX6_decide_X6_decideWhileOn : GoodIn wsX6_decide wsX6_decideWhileOn := goodIn_r _ [27, 28, 29, 15, 16, 17, 18, 19, 20, 21, 13, 22, 36, 37, 38, 39, 40, 41, 42, 50] (by decide +kernel) (by decide +kernel)
set_option maxRecDepth 20000 in
theorem gX6_decide_X6_decideWhileOn : GoodIn wsX6_decide (wsV RX6 55 RX6 yX6_decideWhileOn wsX6_decideWhileOn) := goodIn_app (goodIn_of _ (by decide +kernel)) ggX6_decide_X6_decideWhileOn
set_option maxRecDepth 20000 in
theorem ggX6_decide_X6_decideWhileNeeded : GoodIn wsX6_decide wsX6_decideWhileNeeded := goodIn_r _ [33, 34, 35, 15, 16, 17, 18, 19, 20, 21, 13, 22, 36, 37, 38, 39, 40, 41, 42, 50] (by decide +kernel) (by decide +kernel)
set_option maxRecDepth 20000 in
theorem gX6_decide_X6_decideWhileNeeded : GoodIn wsX6_decide (wsV RX6 64 RX6 yX6_decideWhileNeeded wsX6_decideWhileNeeded) := goodIn_app (goodIn_of _ (by decide +kernel)) ggX6_decide_X6_decideWhileNeeded
theorem dX6_decide_0 : decode cX6_decide 0 = .ok (.aload_n 0, 1) := by decide +kernel
theorem dX6_decide_1 : decode cX6_decide 1 = .ok (.getfield 9, 3) := by decide +kernel
theorem dX6_decide_4 : decode cX6_decide 4 = .ok (.iconst 2, 1) := by decide +kernel
theorem dX6_decide_5 : decode cX6_decide 5 = .ok (.if_icmp .ne 5, 3) := by decide +kernel
theorem dX6_decide_8 : decode cX6_decide 8 = .ok (.iconst 0, 1) := by decide +kernel
theorem dX6_decide_9 : decode cX6_decide 9 = .ok (.ireturn, 1) := by decide +kernel
theorem dX6_decide_10 : decode cX6_decide 10 = .ok (.aload_n 2, 1) := by decide +kernel
theorem dX6_decide_11 : decode cX6_decide 11 = .ok (.iconst 0, 1) := by decide +kernel
theorem dX6_decide_12 : decode cX6_decide 12 = .ok (.invokevirtual 40, 3) := by decide +kernel
theorem dX6_decide_15 : decode cX6_decide 15 = .ok (.lstore 4, 2) := by decide +kernel
theorem dX6_decide_17 : decode cX6_decide 17 = .ok (.aload_n 2, 1) := by decide +kernel
theorem dX6_decide_18 : decode cX6_decide 18 = .ok (.iconst 3, 1) := by decide +kernel
theorem dX6_decide_19 : decode cX6_decide 19 = .ok (.invokevirtual 40, 3) := by decide +kernel
theorem dX6_decide_22 : decode cX6_decide 22 = .ok (.aload_n 1, 1) := by decide +kernel
theorem dX6_decide_23 : decode cX6_decide 23 = .ok (.iconst 4, 1) := by decide +kernel
theorem dX6_decide_24 : decode cX6_decide 24 = .ok (.invokevirtual 46, 3) := by decide +kernel
theorem dX6_decide_27 : decode cX6_decide 27 = .ok (.i2l, 1) := by decide +kernel
theorem dX6_decide_28 : decode cX6_decide 28 = .ok (.lcmp, 1) := by decide +kernel
theorem dX6_decide_29 : decode cX6_decide 29 = .ok (.ifCond .lt 7, 3) := by decide +kernel
theorem dX6_decide_32 : decode cX6_decide 32 = .ok (.iconst 1, 1) := by decide +kernel
theorem dX6_decide_33 : decode cX6_decide 33 = .ok (.goto 4, 3) := by decide +kernel
theorem dX6_decide_36 : decode cX6_decide 36 = .ok (.iconst 0, 1) := by decide +kernel
theorem dX6_decide_37 : decode cX6_decide 37 = .ok (.istore 6, 2) := by decide +kernel
theorem dX6_decide_39 : decode cX6_decide 39 = .ok (.aload_n 0, 1) := by decide +kernel
theorem dX6_decide_40 : decode cX6_decide 40 = .ok (.getfield 9, 3) := by decide +kernel
theorem dX6_decide_43 : decode cX6_decide 43 = .ok (.iconst 1, 1) := by decide +kernel
theorem dX6_decide_44 : decode cX6_decide 44 = .ok (.if_icmp .ne 33, 3) := by decide +kernel
theorem dX6_decide_47 : decode cX6_decide 47 = .ok (.aload_n 0, 1) := by decide +kernel
theorem dX6_decide_48 : decode cX6_decide 48 = .ok (.aload_n 1, 1) := by decide +kernel
theorem dX6_decide_49 : decode cX6_decide 49 = .ok (.iload 6, 2) := by decide +kernel
theorem dX6_decide_51 : decode cX6_decide 51 = .ok (.lload 4, 2) := by decide +kernel
theorem dX6_decide_53 : decode cX6_decide 53 = .ok (.aload_n 3, 1) := by decide +kernel
theorem dX6_decide_54 : decode cX6_decide 54 = .ok (.getfield 50, 3) := by decide +kernel
theorem dX6_decide_57 : decode cX6_decide 57 = .ok (.aload_n 1, 1) := by decide +kernel
theorem dX6_decide_58 : decode cX6_decide 58 = .ok (.iconst 3, 1) := by decide +kernel
theorem dX6_decide_59 : decode cX6_decide 59 = .ok (.invokevirtual 46, 3) := by decide +kernel
theorem dX6_decide_62 : decode cX6_decide 62 = .ok (.iadd, 1) := by decide +kernel
theorem dX6_decide_63 : decode cX6_decide 63 = .ok (.i2l, 1) := by decide +kernel
theorem dX6_decide_64 : decode cX6_decide 64 = .ok (.lcmp, 1) := by decide +kernel
theorem dX6_decide_65 : decode cX6_decide 65 = .ok (.ifCond .lt 7, 3) := by decide +kernel
theorem dX6_decide_68 : decode cX6_decide 68 = .ok (.iconst 1, 1) := by decide +kernel
theorem dX6_decide_69 : decode cX6_decide 69 = .ok (.goto 4, 3) := by decide +kernel
theorem dX6_decide_72 : decode cX6_decide 72 = .ok (.iconst 0, 1) := by decide +kernel
theorem dX6_decide_73 : decode cX6_decide 73 = .ok (.invokevirtual 55, 3) := by decide +kernel
theorem dX6_decide_76 : decode cX6_decide 76 = .ok (.ireturn, 1) := by decide +kernel
theorem dX6_decide_77 : decode cX6_decide 77 = .ok (.lload 4, 2) := by decide +kernel
theorem dX6_decide_79 : decode cX6_decide 79 = .ok (.aload_n 3, 1) := by decide +kernel
theorem dX6_decide_80 : decode cX6_decide 80 = .ok (.getfield 50, 3) := by decide +kernel
theorem dX6_decide_83 : decode cX6_decide 83 = .ok (.aload_n 1, 1) := by decide +kernel
theorem dX6_decide_84 : decode cX6_decide 84 = .ok (.iconst 3, 1) := by decide +kernel
theorem dX6_decide_85 : decode cX6_decide 85 = .ok (.invokevirtual 46, 3) := by decide +kernel
theorem dX6_decide_88 : decode cX6_decide 88 = .ok (.isub, 1) := by decide +kernel
theorem dX6_decide_89 : decode cX6_decide 89 = .ok (.i2l, 1) := by decide +kernel
theorem dX6_decide_90 : decode cX6_decide 90 = .ok (.lcmp, 1) := by decide +kernel
theorem dX6_decide_91 : decode cX6_decide 91 = .ok (.ifCond .lt 6, 3) := by decide +kernel
theorem dX6_decide_94 : decode cX6_decide 94 = .ok (.bipush 6, 2) := by decide +kernel
theorem dX6_decide_96 : decode cX6_decide 96 = .ok (.ireturn, 1) := by decide +kernel
theorem dX6_decide_97 : decode cX6_decide 97 = .ok (.aload_n 3, 1) := by decide +kernel
theorem dX6_decide_98 : decode cX6_decide 98 = .ok (.getfield 59, 3) := by decide +kernel
theorem dX6_decide_101 : decode cX6_decide 101 = .ok (.iconst 2, 1) := by decide +kernel
theorem dX6_decide_102 : decode cX6_decide 102 = .ok (.if_icmp .ne 20, 3) := by decide +kernel
theorem dX6_decide_105 : decode cX6_decide 105 = .ok (.lload 4, 2) := by decide +kernel
theorem dX6_decide_107 : decode cX6_decide 107 = .ok (.aload_n 1, 1) := by decide +kernel
theorem dX6_decide_108 : decode cX6_decide 108 = .ok (.bipush 6, 2) := by decide +kernel
theorem dX6_decide_110 : decode cX6_decide 110 = .ok (.invokevirtual 46, 3) := by decide +kernel
theorem dX6_decide_113 : decode cX6_decide 113 = .ok (.i2l, 1) := by decide +kernel
theorem dX6_decide_114 : decode cX6_decide 114 = .ok (.lcmp, 1) := by decide +kernel
theorem dX6_decide_115 : decode cX6_decide 115 = .ok (.ifCond .lt 7, 3) := by decide +kernel
theorem dX6_decide_118 : decode cX6_decide 118 = .ok (.iconst 1, 1) := by decide +kernel
theorem dX6_decide_119 : decode cX6_decide 119 = .ok (.goto 4, 3) := by decide +kernel
theorem dX6_decide_122 : decode cX6_decide 122 = .ok (.iconst 0, 1) := by decide +kernel
theorem dX6_decide_123 : decode cX6_decide 123 = .ok (.istore 7, 2) := by decide +kernel
theorem dX6_decide_125 : decode cX6_decide 125 = .ok (.aload_n 0, 1) := by decide +kernel
theorem dX6_decide_126 : decode cX6_decide 126 = .ok (.aload_n 1, 1) := by decide +kernel
theorem dX6_decide_127 : decode cX6_decide 127 = .ok (.iload 6, 2) := by decide +kernel
theorem dX6_decide_129 : decode cX6_decide 129 = .ok (.iload 7, 2) := by decide +kernel
theorem dX6_decide_131 : decode cX6_decide 131 = .ok (.invokevirtual 64, 3) := by decide +kernel
theorem dX6_decide_134 : decode cX6_decide 134 = .ok (.ireturn, 1) := by decide +kernel
set_option maxRecDepth 20000 in
theorem ggX6_decideWhileOn_X7_valueOf : GoodIn wsX6_decideWhileOn wsX7_valueOf := goodIn_r _ [7, 8, 9, 10, 11, 19] (by decide +kernel) (by decide +kernel)
set_option maxRecDepth 20000 in
theorem gX6_decideWhileOn_X7_valueOf : GoodIn wsX6_decideWhileOn (wsV RX6 46 RX7 yX7_valueOf wsX7_valueOf) := goodIn_app (goodIn_of _ (by decide +kernel)) ggX6_decideWhileOn_X7_valueOf
theorem dX6_decideWhileOn_0 : decode cX6_decideWhileOn 0 = .ok (.iload_n 2, 1) := by decide +kernel
theorem dX6_decideWhileOn_1 : decode cX6_decideWhileOn 1 = .ok (.ifCond .eq 5, 3) := by decide +kernel
theorem dX6_decideWhileOn_4 : decode cX6_decideWhileOn 4 = .ok (.iconst 1, 1) := by decide +kernel
theorem dX6_decideWhileOn_5 : decode cX6_decideWhileOn 5 = .ok (.ireturn, 1) := by decide +kernel
theorem dX6_decideWhileOn_6 : decode cX6_decideWhileOn 6 = .ok (.aload_n 0, 1) := by decide +kernel
theorem dX6_decideWhileOn_7 : decode cX6_decideWhileOn 7 = .ok (.getfield 22, 3) := by decide +kernel
theorem dX6_decideWhileOn_10 : decode cX6_decideWhileOn 10 = .ok (.aload_n 1, 1) := by decide +kernel
theorem dX6_decideWhileOn_11 : decode cX6_decideWhileOn 11 = .ok (.iconst 0, 1) := by decide +kernel
theorem dX6_decideWhileOn_12 : decode cX6_decideWhileOn 12 = .ok (.invokevirtual 46, 3) := by decide +kernel
theorem dX6_decideWhileOn_15 : decode cX6_decideWhileOn 15 = .ok (.if_icmp .ge 5, 3) := by decide +kernel
theorem dX6_decideWhileOn_18 : decode cX6_decideWhileOn 18 = .ok (.iconst 2, 1) := by decide +kernel
theorem dX6_decideWhileOn_19 : decode cX6_decideWhileOn 19 = .ok (.ireturn, 1) := by decide +kernel
theorem dX6_decideWhileOn_20 : decode cX6_decideWhileOn 20 = .ok (.iload_n 3, 1) := by decide +kernel
theorem dX6_decideWhileOn_21 : decode cX6_decideWhileOn 21 = .ok (.ifCond .eq 5, 3) := by decide +kernel
theorem dX6_decideWhileOn_24 : decode cX6_decideWhileOn 24 = .ok (.iconst 3, 1) := by decide +kernel
theorem dX6_decideWhileOn_25 : decode cX6_decideWhileOn 25 = .ok (.ireturn, 1) := by decide +kernel
theorem dX6_decideWhileOn_26 : decode cX6_decideWhileOn 26 = .ok (.aload_n 0, 1) := by decide +kernel
theorem dX6_decideWhileOn_27 : decode cX6_decideWhileOn 27 = .ok (.getfield 28, 3) := by decide +kernel
theorem dX6_decideWhileOn_30 : decode cX6_decideWhileOn 30 = .ok (.aload_n 1, 1) := by decide +kernel
theorem dX6_decideWhileOn_31 : decode cX6_decideWhileOn 31 = .ok (.bipush 10, 2) := by decide +kernel
theorem dX6_decideWhileOn_33 : decode cX6_decideWhileOn 33 = .ok (.invokevirtual 46, 3) := by decide +kernel
theorem dX6_decideWhileOn_36 : decode cX6_decideWhileOn 36 = .ok (.if_icmp .lt 7, 3) := by decide +kernel
theorem dX6_decideWhileOn_39 : decode cX6_decideWhileOn 39 = .ok (.iconst 4, 1) := by decide +kernel
theorem dX6_decideWhileOn_40 : decode cX6_decideWhileOn 40 = .ok (.goto 4, 3) := by decide +kernel
theorem dX6_decideWhileOn_43 : decode cX6_decideWhileOn 43 = .ok (.iconst 5, 1) := by decide +kernel
theorem dX6_decideWhileOn_44 : decode cX6_decideWhileOn 44 = .ok (.ireturn, 1) := by decide +kernel
set_option maxRecDepth 20000 in
theorem ggX6_decideWhileNeeded_X7_valueOf : GoodIn wsX6_decideWhileNeeded wsX7_valueOf := goodIn_r _ [7, 8, 9, 10, 11, 19] (by decide +kernel) (by decide +kernel)
set_option maxRecDepth 20000 in
theorem gX6_decideWhileNeeded_X7_valueOf : GoodIn wsX6_decideWhileNeeded (wsV RX6 46 RX7 yX7_valueOf wsX7_valueOf) := goodIn_app (goodIn_of _ (by decide +kernel)) ggX6_decideWhileNeeded_X7_valueOf
theorem dX6_decideWhileNeeded_0 : decode cX6_decideWhileNeeded 0 = .ok (.iload_n 2, 1) := by decide +kernel
theorem dX6_decideWhileNeeded_1 : decode cX6_decideWhileNeeded 1 = .ok (.ifCond .eq 6, 3) := by decide +kernel
theorem dX6_decideWhileNeeded_4 : decode cX6_decideWhileNeeded 4 = .ok (.bipush 7, 2) := by decide +kernel
theorem dX6_decideWhileNeeded_6 : decode cX6_decideWhileNeeded 6 = .ok (.ireturn, 1) := by decide +kernel
theorem dX6_decideWhileNeeded_7 : decode cX6_decideWhileNeeded 7 = .ok (.aload_n 0, 1) := by decide +kernel
theorem dX6_decideWhileNeeded_8 : decode cX6_decideWhileNeeded 8 = .ok (.getfield 15, 3) := by decide +kernel
theorem dX6_decideWhileNeeded_11 : decode cX6_decideWhileNeeded 11 = .ok (.aload_n 1, 1) := by decide +kernel
theorem dX6_decideWhileNeeded_12 : decode cX6_decideWhileNeeded 12 = .ok (.iconst 1, 1) := by decide +kernel
theorem dX6_decideWhileNeeded_13 : decode cX6_decideWhileNeeded 13 = .ok (.invokevirtual 46, 3) := by decide +kernel
theorem dX6_decideWhileNeeded_16 : decode cX6_decideWhileNeeded 16 = .ok (.if_icmp .ge 6, 3) := by decide +kernel
theorem dX6_decideWhileNeeded_19 : decode cX6_decideWhileNeeded 19 = .ok (.bipush 8, 2) := by decide +kernel
theorem dX6_decideWhileNeeded_21 : decode cX6_decideWhileNeeded 21 = .ok (.ireturn, 1) := by decide +kernel
theorem dX6_decideWhileNeeded_22 : decode cX6_decideWhileNeeded 22 = .ok (.aload_n 0, 1) := by decide +kernel
theorem dX6_decideWhileNeeded_23 : decode cX6_decideWhileNeeded 23 = .ok (.getfield 31, 3) := by decide +kernel
theorem dX6_decideWhileNeeded_26 : decode cX6_decideWhileNeeded 26 = .ok (.aload_n 1, 1) := by decide +kernel
theorem dX6_decideWhileNeeded_27 : decode cX6_decideWhileNeeded 27 = .ok (.iconst 2, 1) := by decide +kernel
theorem dX6_decideWhileNeeded_28 : decode cX6_decideWhileNeeded 28 = .ok (.invokevirtual 46, 3) := by decide +kernel
theorem dX6_decideWhileNeeded_31 : decode cX6_decideWhileNeeded 31 = .ok (.if_icmp .lt 6, 3) := by decide +kernel
theorem dX6_decideWhileNeeded_34 : decode cX6_decideWhileNeeded 34 = .ok (.bipush 9, 2) := by decide +kernel
theorem dX6_decideWhileNeeded_36 : decode cX6_decideWhileNeeded 36 = .ok (.ireturn, 1) := by decide +kernel
theorem dX6_decideWhileNeeded_37 : decode cX6_decideWhileNeeded 37 = .ok (.iload_n 3, 1) := by decide +kernel
theorem dX6_decideWhileNeeded_38 : decode cX6_decideWhileNeeded 38 = .ok (.ifCond .eq 8, 3) := by decide +kernel
theorem dX6_decideWhileNeeded_41 : decode cX6_decideWhileNeeded 41 = .ok (.bipush 10, 2) := by decide +kernel
theorem dX6_decideWhileNeeded_43 : decode cX6_decideWhileNeeded 43 = .ok (.goto 5, 3) := by decide +kernel
theorem dX6_decideWhileNeeded_46 : decode cX6_decideWhileNeeded 46 = .ok (.bipush 11, 2) := by decide +kernel
theorem dX6_decideWhileNeeded_48 : decode cX6_decideWhileNeeded 48 = .ok (.ireturn, 1) := by decide +kernel
theorem dX6_obey_0 : decode cX6_obey 0 = .ok (.iload_n 1, 1) := by decide +kernel
theorem dX6_obey_1 : decode cX6_obey 1 = .ok (.iconst 1, 1) := by decide +kernel
theorem dX6_obey_2 : decode cX6_obey 2 = .ok (.if_icmp .eq 8, 3) := by decide +kernel
theorem dX6_obey_5 : decode cX6_obey 5 = .ok (.iload_n 1, 1) := by decide +kernel
theorem dX6_obey_6 : decode cX6_obey 6 = .ok (.iconst 3, 1) := by decide +kernel
theorem dX6_obey_7 : decode cX6_obey 7 = .ok (.if_icmp .ne 16, 3) := by decide +kernel
theorem dX6_obey_10 : decode cX6_obey 10 = .ok (.aload_n 0, 1) := by decide +kernel
theorem dX6_obey_11 : decode cX6_obey 11 = .ok (.iconst 0, 1) := by decide +kernel
theorem dX6_obey_12 : decode cX6_obey 12 = .ok (.putfield 9, 3) := by decide +kernel
theorem dX6_obey_15 : decode cX6_obey 15 = .ok (.aload_n 0, 1) := by decide +kernel
theorem dX6_obey_16 : decode cX6_obey 16 = .ok (.iconst 0, 1) := by decide +kernel
theorem dX6_obey_17 : decode cX6_obey 17 = .ok (.putfield 15, 3) := by decide +kernel
theorem dX6_obey_20 : decode cX6_obey 20 = .ok (.goto 37, 3) := by decide +kernel
theorem dX6_obey_23 : decode cX6_obey 23 = .ok (.iload_n 1, 1) := by decide +kernel
theorem dX6_obey_24 : decode cX6_obey 24 = .ok (.iconst 4, 1) := by decide +kernel
theorem dX6_obey_25 : decode cX6_obey 25 = .ok (.if_icmp .ne 16, 3) := by decide +kernel
theorem dX6_obey_28 : decode cX6_obey 28 = .ok (.aload_n 0, 1) := by decide +kernel
theorem dX6_obey_29 : decode cX6_obey 29 = .ok (.iconst 2, 1) := by decide +kernel
theorem dX6_obey_30 : decode cX6_obey 30 = .ok (.putfield 9, 3) := by decide +kernel
theorem dX6_obey_33 : decode cX6_obey 33 = .ok (.aload_n 0, 1) := by decide +kernel
theorem dX6_obey_34 : decode cX6_obey 34 = .ok (.iconst 0, 1) := by decide +kernel
theorem dX6_obey_35 : decode cX6_obey 35 = .ok (.putfield 25, 3) := by decide +kernel
theorem dX6_obey_38 : decode cX6_obey 38 = .ok (.goto 19, 3) := by decide +kernel
theorem dX6_obey_41 : decode cX6_obey 41 = .ok (.iload_n 1, 1) := by decide +kernel
theorem dX6_obey_42 : decode cX6_obey 42 = .ok (.bipush 11, 2) := by decide +kernel
theorem dX6_obey_44 : decode cX6_obey 44 = .ok (.if_icmp .ne 13, 3) := by decide +kernel
theorem dX6_obey_47 : decode cX6_obey 47 = .ok (.aload_n 0, 1) := by decide +kernel
theorem dX6_obey_48 : decode cX6_obey 48 = .ok (.iconst 1, 1) := by decide +kernel
theorem dX6_obey_49 : decode cX6_obey 49 = .ok (.putfield 9, 3) := by decide +kernel
theorem dX6_obey_52 : decode cX6_obey 52 = .ok (.aload_n 0, 1) := by decide +kernel
theorem dX6_obey_53 : decode cX6_obey 53 = .ok (.iconst 0, 1) := by decide +kernel
theorem dX6_obey_54 : decode cX6_obey 54 = .ok (.putfield 22, 3) := by decide +kernel
theorem dX6_obey_57 : decode cX6_obey 57 = .ok (.return_, 1) := by decide +kernel
set_option maxRecDepth 20000 in
theorem ggX6_noteStart_X10_elementOr : GoodIn wsX6_noteStart wsX10_elementOr := goodIn_r _ [5] (by decide +kernel) (by decide +kernel)
set_option maxRecDepth 20000 in
theorem gX6_noteStart_X10_elementOr_n67 : GoodIn wsX6_noteStart (wsX10_elementOr) := ggX6_noteStart_X10_elementOr
set_option maxRecDepth 20000 in
theorem ggX6_noteStart_X10_replace : GoodIn wsX6_noteStart wsX10_replace := goodIn_r _ [7] (by decide +kernel) (by decide +kernel)
set_option maxRecDepth 20000 in
theorem gX6_noteStart_X10_replace_n71 : GoodIn wsX6_noteStart (wsX10_replace) := ggX6_noteStart_X10_replace
theorem dX6_noteStart_0 : decode cX6_noteStart 0 = .ok (.iload_n 1, 1) := by decide +kernel
theorem dX6_noteStart_1 : decode cX6_noteStart 1 = .ok (.bipush 60, 2) := by decide +kernel
theorem dX6_noteStart_3 : decode cX6_noteStart 3 = .ok (.irem, 1) := by decide +kernel
theorem dX6_noteStart_4 : decode cX6_noteStart 4 = .ok (.istore_n 3, 1) := by decide +kernel
theorem dX6_noteStart_5 : decode cX6_noteStart 5 = .ok (.aload_n 0, 1) := by decide +kernel
theorem dX6_noteStart_6 : decode cX6_noteStart 6 = .ok (.dup, 1) := by decide +kernel
theorem dX6_noteStart_7 : decode cX6_noteStart 7 = .ok (.getfield 31, 3) := by decide +kernel
theorem dX6_noteStart_10 : decode cX6_noteStart 10 = .ok (.iload_n 2, 1) := by decide +kernel
theorem dX6_noteStart_11 : decode cX6_noteStart 11 = .ok (.aload_n 0, 1) := by decide +kernel
theorem dX6_noteStart_12 : decode cX6_noteStart 12 = .ok (.getfield 18, 3) := by decide +kernel
theorem dX6_noteStart_15 : decode cX6_noteStart 15 = .ok (.iload_n 3, 1) := by decide +kernel
theorem dX6_noteStart_16 : decode cX6_noteStart 16 = .ok (.iconst 0, 1) := by decide +kernel
theorem dX6_noteStart_17 : decode cX6_noteStart 17 = .ok (.invokestatic 67, 3) := by decide +kernel
theorem dX6_noteStart_20 : decode cX6_noteStart 20 = .ok (.isub, 1) := by decide +kernel
theorem dX6_noteStart_21 : decode cX6_noteStart 21 = .ok (.iadd, 1) := by decide +kernel
theorem dX6_noteStart_22 : decode cX6_noteStart 22 = .ok (.putfield 31, 3) := by decide +kernel
theorem dX6_noteStart_25 : decode cX6_noteStart 25 = .ok (.aload_n 0, 1) := by decide +kernel
theorem dX6_noteStart_26 : decode cX6_noteStart 26 = .ok (.getfield 18, 3) := by decide +kernel
theorem dX6_noteStart_29 : decode cX6_noteStart 29 = .ok (.iload_n 3, 1) := by decide +kernel
theorem dX6_noteStart_30 : decode cX6_noteStart 30 = .ok (.iload_n 2, 1) := by decide +kernel
theorem dX6_noteStart_31 : decode cX6_noteStart 31 = .ok (.invokestatic 71, 3) := by decide +kernel
theorem dX6_noteStart_34 : decode cX6_noteStart 34 = .ok (.return_, 1) := by decide +kernel
theorem dX6_countMinute_0 : decode cX6_countMinute 0 = .ok (.aload_n 0, 1) := by decide +kernel
theorem dX6_countMinute_1 : decode cX6_countMinute 1 = .ok (.getfield 9, 3) := by decide +kernel
theorem dX6_countMinute_4 : decode cX6_countMinute 4 = .ok (.ifCond .ne 16, 3) := by decide +kernel
theorem dX6_countMinute_7 : decode cX6_countMinute 7 = .ok (.aload_n 0, 1) := by decide +kernel
theorem dX6_countMinute_8 : decode cX6_countMinute 8 = .ok (.dup, 1) := by decide +kernel
theorem dX6_countMinute_9 : decode cX6_countMinute 9 = .ok (.getfield 15, 3) := by decide +kernel
theorem dX6_countMinute_12 : decode cX6_countMinute 12 = .ok (.iconst 1, 1) := by decide +kernel
theorem dX6_countMinute_13 : decode cX6_countMinute 13 = .ok (.iadd, 1) := by decide +kernel
theorem dX6_countMinute_14 : decode cX6_countMinute 14 = .ok (.putfield 15, 3) := by decide +kernel
theorem dX6_countMinute_17 : decode cX6_countMinute 17 = .ok (.goto 13, 3) := by decide +kernel
theorem dX6_countMinute_20 : decode cX6_countMinute 20 = .ok (.aload_n 0, 1) := by decide +kernel
theorem dX6_countMinute_21 : decode cX6_countMinute 21 = .ok (.dup, 1) := by decide +kernel
theorem dX6_countMinute_22 : decode cX6_countMinute 22 = .ok (.getfield 22, 3) := by decide +kernel
theorem dX6_countMinute_25 : decode cX6_countMinute 25 = .ok (.iconst 1, 1) := by decide +kernel
theorem dX6_countMinute_26 : decode cX6_countMinute 26 = .ok (.iadd, 1) := by decide +kernel
theorem dX6_countMinute_27 : decode cX6_countMinute 27 = .ok (.putfield 22, 3) := by decide +kernel
theorem dX6_countMinute_30 : decode cX6_countMinute 30 = .ok (.aload_n 0, 1) := by decide +kernel
theorem dX6_countMinute_31 : decode cX6_countMinute 31 = .ok (.getfield 9, 3) := by decide +kernel
theorem dX6_countMinute_34 : decode cX6_countMinute 34 = .ok (.iconst 2, 1) := by decide +kernel
theorem dX6_countMinute_35 : decode cX6_countMinute 35 = .ok (.if_icmp .ne 13, 3) := by decide +kernel
theorem dX6_countMinute_38 : decode cX6_countMinute 38 = .ok (.aload_n 0, 1) := by decide +kernel
theorem dX6_countMinute_39 : decode cX6_countMinute 39 = .ok (.dup, 1) := by decide +kernel
theorem dX6_countMinute_40 : decode cX6_countMinute 40 = .ok (.getfield 25, 3) := by decide +kernel
theorem dX6_countMinute_43 : decode cX6_countMinute 43 = .ok (.iconst 1, 1) := by decide +kernel
theorem dX6_countMinute_44 : decode cX6_countMinute 44 = .ok (.iadd, 1) := by decide +kernel
theorem dX6_countMinute_45 : decode cX6_countMinute 45 = .ok (.putfield 25, 3) := by decide +kernel
theorem dX6_countMinute_48 : decode cX6_countMinute 48 = .ok (.return_, 1) := by decide +kernel
theorem dX7_init_0 : decode cX7_init 0 = .ok (.aload_n 0, 1) := by decide +kernel
theorem dX7_init_1 : decode cX7_init 1 = .ok (.invokespecial 1, 3) := by decide +kernel
theorem dX7_init_4 : decode cX7_init 4 = .ok (.aload_n 0, 1) := by decide +kernel
theorem dX7_init_5 : decode cX7_init 5 = .ok (.bipush 17, 2) := by decide +kernel
theorem dX7_init_7 : decode cX7_init 7 = .ok (.newarray .int, 2) := by decide +kernel
theorem dX7_init_9 : decode cX7_init 9 = .ok (.putfield 9, 3) := by decide +kernel
theorem dX7_init_12 : decode cX7_init 12 = .ok (.iconst 0, 1) := by decide +kernel
theorem dX7_init_13 : decode cX7_init 13 = .ok (.istore_n 1, 1) := by decide +kernel
theorem dX7_init_14 : decode cX7_init 14 = .ok (.iload_n 1, 1) := by decide +kernel
theorem dX7_init_15 : decode cX7_init 15 = .ok (.aload_n 0, 1) := by decide +kernel
theorem dX7_init_16 : decode cX7_init 16 = .ok (.getfield 9, 3) := by decide +kernel
theorem dX7_init_19 : decode cX7_init 19 = .ok (.arraylength, 1) := by decide +kernel
theorem dX7_init_20 : decode cX7_init 20 = .ok (.if_icmp .ge 28, 3) := by decide +kernel
theorem dX7_init_23 : decode cX7_init 23 = .ok (.iload_n 1, 1) := by decide +kernel
theorem dX7_init_24 : decode cX7_init 24 = .ok (.getstatic 13, 3) := by decide +kernel
theorem dX7_init_27 : decode cX7_init 27 = .ok (.arraylength, 1) := by decide +kernel
theorem dX7_init_28 : decode cX7_init 28 = .ok (.if_icmp .ge 20, 3) := by decide +kernel
theorem dX7_init_31 : decode cX7_init 31 = .ok (.aload_n 0, 1) := by decide +kernel
theorem dX7_init_32 : decode cX7_init 32 = .ok (.getfield 9, 3) := by decide +kernel
theorem dX7_init_35 : decode cX7_init 35 = .ok (.iload_n 1, 1) := by decide +kernel
theorem dX7_init_36 : decode cX7_init 36 = .ok (.getstatic 13, 3) := by decide +kernel
theorem dX7_init_39 : decode cX7_init 39 = .ok (.iload_n 1, 1) := by decide +kernel
theorem dX7_init_40 : decode cX7_init 40 = .ok (.iaload, 1) := by decide +kernel
theorem dX7_init_41 : decode cX7_init 41 = .ok (.iastore, 1) := by decide +kernel
theorem dX7_init_42 : decode cX7_init 42 = .ok (.iinc 1 1, 3) := by decide +kernel
theorem dX7_init_45 : decode cX7_init 45 = .ok (.goto (-31), 3) := by decide +kernel
theorem dX7_init_48 : decode cX7_init 48 = .ok (.return_, 1) := by decide +kernel
theorem dX7_allows_0 : decode cX7_allows 0 = .ok (.iload_n 0, 1) := by decide +kernel
theorem dX7_allows_1 : decode cX7_allows 1 = .ok (.ifCond .lt 41, 3) := by decide +kernel
theorem dX7_allows_4 : decode cX7_allows 4 = .ok (.iload_n 0, 1) := by decide +kernel
theorem dX7_allows_5 : decode cX7_allows 5 = .ok (.getstatic 16, 3) := by decide +kernel
theorem dX7_allows_8 : decode cX7_allows 8 = .ok (.arraylength, 1) := by decide +kernel
theorem dX7_allows_9 : decode cX7_allows 9 = .ok (.if_icmp .ge 33, 3) := by decide +kernel
theorem dX7_allows_12 : decode cX7_allows 12 = .ok (.iload_n 0, 1) := by decide +kernel
theorem dX7_allows_13 : decode cX7_allows 13 = .ok (.getstatic 19, 3) := by decide +kernel
theorem dX7_allows_16 : decode cX7_allows 16 = .ok (.arraylength, 1) := by decide +kernel
theorem dX7_allows_17 : decode cX7_allows 17 = .ok (.if_icmp .ge 25, 3) := by decide +kernel
theorem dX7_allows_20 : decode cX7_allows 20 = .ok (.iload_n 1, 1) := by decide +kernel
theorem dX7_allows_21 : decode cX7_allows 21 = .ok (.getstatic 16, 3) := by decide +kernel
theorem dX7_allows_24 : decode cX7_allows 24 = .ok (.iload_n 0, 1) := by decide +kernel
theorem dX7_allows_25 : decode cX7_allows 25 = .ok (.iaload, 1) := by decide +kernel
theorem dX7_allows_26 : decode cX7_allows 26 = .ok (.if_icmp .lt 16, 3) := by decide +kernel
theorem dX7_allows_29 : decode cX7_allows 29 = .ok (.iload_n 1, 1) := by decide +kernel
theorem dX7_allows_30 : decode cX7_allows 30 = .ok (.getstatic 19, 3) := by decide +kernel
theorem dX7_allows_33 : decode cX7_allows 33 = .ok (.iload_n 0, 1) := by decide +kernel
theorem dX7_allows_34 : decode cX7_allows 34 = .ok (.iaload, 1) := by decide +kernel
theorem dX7_allows_35 : decode cX7_allows 35 = .ok (.if_icmp .gt 7, 3) := by decide +kernel
theorem dX7_allows_38 : decode cX7_allows 38 = .ok (.iconst 1, 1) := by decide +kernel
theorem dX7_allows_39 : decode cX7_allows 39 = .ok (.goto 4, 3) := by decide +kernel
theorem dX7_allows_42 : decode cX7_allows 42 = .ok (.iconst 0, 1) := by decide +kernel
theorem dX7_allows_43 : decode cX7_allows 43 = .ok (.ireturn, 1) := by decide +kernel
set_option maxRecDepth 20000 in
theorem ggX7_valueOf_X10_elementOr : GoodIn wsX7_valueOf wsX10_elementOr := goodIn_r _ [4] (by decide +kernel) (by decide +kernel)
set_option maxRecDepth 20000 in
theorem gX7_valueOf_X10_elementOr_n22 : GoodIn wsX7_valueOf (wsX10_elementOr) := ggX7_valueOf_X10_elementOr
theorem dX7_valueOf_0 : decode cX7_valueOf 0 = .ok (.aload_n 0, 1) := by decide +kernel
theorem dX7_valueOf_1 : decode cX7_valueOf 1 = .ok (.getfield 9, 3) := by decide +kernel
theorem dX7_valueOf_4 : decode cX7_valueOf 4 = .ok (.iload_n 1, 1) := by decide +kernel
theorem dX7_valueOf_5 : decode cX7_valueOf 5 = .ok (.iconst 0, 1) := by decide +kernel
theorem dX7_valueOf_6 : decode cX7_valueOf 6 = .ok (.invokestatic 22, 3) := by decide +kernel
theorem dX7_valueOf_9 : decode cX7_valueOf 9 = .ok (.ireturn, 1) := by decide +kernel
set_option maxRecDepth 20000 in
theorem ggX7_change_X10_replace : GoodIn wsX7_change wsX10_replace := goodIn_r _ [4] (by decide +kernel) (by decide +kernel)
set_option maxRecDepth 20000 in
theorem gX7_change_X10_replace_n28 : GoodIn wsX7_change (wsX10_replace) := ggX7_change_X10_replace
theorem dX7_change_0 : decode cX7_change 0 = .ok (.aload_n 0, 1) := by decide +kernel
theorem dX7_change_1 : decode cX7_change 1 = .ok (.getfield 9, 3) := by decide +kernel
theorem dX7_change_4 : decode cX7_change 4 = .ok (.iload_n 1, 1) := by decide +kernel
theorem dX7_change_5 : decode cX7_change 5 = .ok (.iload_n 2, 1) := by decide +kernel
theorem dX7_change_6 : decode cX7_change 6 = .ok (.invokestatic 28, 3) := by decide +kernel
theorem dX7_change_9 : decode cX7_change 9 = .ok (.return_, 1) := by decide +kernel
set_option maxRecDepth 20000 in
theorem ggX8_init_X10_setAll : GoodIn wsX8_init wsX10_setAll := goodIn_r _ [10] (by decide +kernel) (by decide +kernel)
set_option maxRecDepth 20000 in
theorem gX8_init_X10_setAll_n21 : GoodIn wsX8_init (wsX10_setAll) := ggX8_init_X10_setAll
set_option maxRecDepth 20000 in
theorem ggX8_init_X10_replace : GoodIn wsX8_init wsX10_replace := goodIn_r _ [12] (by decide +kernel) (by decide +kernel)
set_option maxRecDepth 20000 in
theorem gX8_init_X10_replace_n25 : GoodIn wsX8_init (wsX10_replace) := ggX8_init_X10_replace
theorem dX8_init_0 : decode cX8_init 0 = .ok (.aload_n 0, 1) := by decide +kernel
theorem dX8_init_1 : decode cX8_init 1 = .ok (.invokespecial 3, 3) := by decide +kernel
theorem dX8_init_4 : decode cX8_init 4 = .ok (.aload_n 0, 1) := by decide +kernel
theorem dX8_init_5 : decode cX8_init 5 = .ok (.bipush 24, 2) := by decide +kernel
theorem dX8_init_7 : decode cX8_init 7 = .ok (.newarray .int, 2) := by decide +kernel
theorem dX8_init_9 : decode cX8_init 9 = .ok (.putfield 9, 3) := by decide +kernel
theorem dX8_init_12 : decode cX8_init 12 = .ok (.aload_n 0, 1) := by decide +kernel
theorem dX8_init_13 : decode cX8_init 13 = .ok (.bipush 24, 2) := by decide +kernel
theorem dX8_init_15 : decode cX8_init 15 = .ok (.newarray .int, 2) := by decide +kernel
theorem dX8_init_17 : decode cX8_init 17 = .ok (.putfield 15, 3) := by decide +kernel
theorem dX8_init_20 : decode cX8_init 20 = .ok (.aload_n 0, 1) := by decide +kernel
theorem dX8_init_21 : decode cX8_init 21 = .ok (.iconst 3, 1) := by decide +kernel
theorem dX8_init_22 : decode cX8_init 22 = .ok (.newarray .int, 2) := by decide +kernel
theorem dX8_init_24 : decode cX8_init 24 = .ok (.putfield 18, 3) := by decide +kernel
theorem dX8_init_27 : decode cX8_init 27 = .ok (.aload_n 0, 1) := by decide +kernel
theorem dX8_init_28 : decode cX8_init 28 = .ok (.getfield 9, 3) := by decide +kernel
theorem dX8_init_31 : decode cX8_init 31 = .ok (.bipush 50, 2) := by decide +kernel
theorem dX8_init_33 : decode cX8_init 33 = .ok (.invokestatic 21, 3) := by decide +kernel
theorem dX8_init_36 : decode cX8_init 36 = .ok (.aload_n 0, 1) := by decide +kernel
theorem dX8_init_37 : decode cX8_init 37 = .ok (.getfield 15, 3) := by decide +kernel
theorem dX8_init_40 : decode cX8_init 40 = .ok (.iconst 1, 1) := by decide +kernel
theorem dX8_init_41 : decode cX8_init 41 = .ok (.invokestatic 21, 3) := by decide +kernel
theorem dX8_init_44 : decode cX8_init 44 = .ok (.aload_n 0, 1) := by decide +kernel
theorem dX8_init_45 : decode cX8_init 45 = .ok (.getfield 18, 3) := by decide +kernel
theorem dX8_init_48 : decode cX8_init 48 = .ok (.iconst 0, 1) := by decide +kernel
theorem dX8_init_49 : decode cX8_init 49 = .ok (.bipush 10, 2) := by decide +kernel
theorem dX8_init_51 : decode cX8_init 51 = .ok (.invokestatic 25, 3) := by decide +kernel
theorem dX8_init_54 : decode cX8_init 54 = .ok (.aload_n 0, 1) := by decide +kernel
theorem dX8_init_55 : decode cX8_init 55 = .ok (.getfield 18, 3) := by decide +kernel
theorem dX8_init_58 : decode cX8_init 58 = .ok (.iconst 1, 1) := by decide +kernel
theorem dX8_init_59 : decode cX8_init 59 = .ok (.bipush 20, 2) := by decide +kernel
theorem dX8_init_61 : decode cX8_init 61 = .ok (.invokestatic 25, 3) := by decide +kernel
theorem dX8_init_64 : decode cX8_init 64 = .ok (.aload_n 0, 1) := by decide +kernel
theorem dX8_init_65 : decode cX8_init 65 = .ok (.getfield 18, 3) := by decide +kernel
theorem dX8_init_68 : decode cX8_init 68 = .ok (.iconst 2, 1) := by decide +kernel
theorem dX8_init_69 : decode cX8_init 69 = .ok (.bipush 40, 2) := by decide +kernel
theorem dX8_init_71 : decode cX8_init 71 = .ok (.invokestatic 25, 3) := by decide +kernel
theorem dX8_init_74 : decode cX8_init 74 = .ok (.return_, 1) := by decide +kernel
theorem dX8_isHour_0 : decode cX8_isHour 0 = .ok (.iload_n 0, 1) := by decide +kernel
theorem dX8_isHour_1 : decode cX8_isHour 1 = .ok (.ifCond .lt 13, 3) := by decide +kernel
theorem dX8_isHour_4 : decode cX8_isHour 4 = .ok (.iload_n 0, 1) := by decide +kernel
theorem dX8_isHour_5 : decode cX8_isHour 5 = .ok (.bipush 24, 2) := by decide +kernel
theorem dX8_isHour_7 : decode cX8_isHour 7 = .ok (.if_icmp .ge 7, 3) := by decide +kernel
theorem dX8_isHour_10 : decode cX8_isHour 10 = .ok (.iconst 1, 1) := by decide +kernel
theorem dX8_isHour_11 : decode cX8_isHour 11 = .ok (.goto 4, 3) := by decide +kernel
theorem dX8_isHour_14 : decode cX8_isHour 14 = .ok (.iconst 0, 1) := by decide +kernel
theorem dX8_isHour_15 : decode cX8_isHour 15 = .ok (.ireturn, 1) := by decide +kernel
theorem dX8_isOutdoor_0 : decode cX8_isOutdoor 0 = .ok (.iload_n 0, 1) := by decide +kernel
theorem dX8_isOutdoor_1 : decode cX8_isOutdoor 1 = .ok (.sipush (-300), 3) := by decide +kernel
theorem dX8_isOutdoor_4 : decode cX8_isOutdoor 4 = .ok (.if_icmp .lt 14, 3) := by decide +kernel
theorem dX8_isOutdoor_7 : decode cX8_isOutdoor 7 = .ok (.iload_n 0, 1) := by decide +kernel
theorem dX8_isOutdoor_8 : decode cX8_isOutdoor 8 = .ok (.sipush 400, 3) := by decide +kernel
theorem dX8_isOutdoor_11 : decode cX8_isOutdoor 11 = .ok (.if_icmp .gt 7, 3) := by decide +kernel
theorem dX8_isOutdoor_14 : decode cX8_isOutdoor 14 = .ok (.iconst 1, 1) := by decide +kernel
theorem dX8_isOutdoor_15 : decode cX8_isOutdoor 15 = .ok (.goto 4, 3) := by decide +kernel
theorem dX8_isOutdoor_18 : decode cX8_isOutdoor 18 = .ok (.iconst 0, 1) := by decide +kernel
theorem dX8_isOutdoor_19 : decode cX8_isOutdoor 19 = .ok (.ireturn, 1) := by decide +kernel
theorem dX8_isTariff_0 : decode cX8_isTariff 0 = .ok (.iload_n 0, 1) := by decide +kernel
theorem dX8_isTariff_1 : decode cX8_isTariff 1 = .ok (.ifCond .lt 12, 3) := by decide +kernel
theorem dX8_isTariff_4 : decode cX8_isTariff 4 = .ok (.iload_n 0, 1) := by decide +kernel
theorem dX8_isTariff_5 : decode cX8_isTariff 5 = .ok (.iconst 3, 1) := by decide +kernel
theorem dX8_isTariff_6 : decode cX8_isTariff 6 = .ok (.if_icmp .ge 7, 3) := by decide +kernel
theorem dX8_isTariff_9 : decode cX8_isTariff 9 = .ok (.iconst 1, 1) := by decide +kernel
theorem dX8_isTariff_10 : decode cX8_isTariff 10 = .ok (.goto 4, 3) := by decide +kernel
theorem dX8_isTariff_13 : decode cX8_isTariff 13 = .ok (.iconst 0, 1) := by decide +kernel
theorem dX8_isTariff_14 : decode cX8_isTariff 14 = .ok (.ireturn, 1) := by decide +kernel
theorem dX8_isPrice_0 : decode cX8_isPrice 0 = .ok (.iload_n 0, 1) := by decide +kernel
theorem dX8_isPrice_1 : decode cX8_isPrice 1 = .ok (.ifCond .lt 14, 3) := by decide +kernel
theorem dX8_isPrice_4 : decode cX8_isPrice 4 = .ok (.iload_n 0, 1) := by decide +kernel
theorem dX8_isPrice_5 : decode cX8_isPrice 5 = .ok (.sipush 1000, 3) := by decide +kernel
theorem dX8_isPrice_8 : decode cX8_isPrice 8 = .ok (.if_icmp .gt 7, 3) := by decide +kernel
theorem dX8_isPrice_11 : decode cX8_isPrice 11 = .ok (.iconst 1, 1) := by decide +kernel
theorem dX8_isPrice_12 : decode cX8_isPrice 12 = .ok (.goto 4, 3) := by decide +kernel
theorem dX8_isPrice_15 : decode cX8_isPrice 15 = .ok (.iconst 0, 1) := by decide +kernel
theorem dX8_isPrice_16 : decode cX8_isPrice 16 = .ok (.ireturn, 1) := by decide +kernel
set_option maxRecDepth 20000 in
theorem ggX8_copyFrom_X10_copyRow : GoodIn wsX8_copyFrom wsX10_copyRow := goodIn_r _ [6] (by decide +kernel) (by decide +kernel)
set_option maxRecDepth 20000 in
theorem gX8_copyFrom_X10_copyRow_n29 : GoodIn wsX8_copyFrom (wsX10_copyRow) := ggX8_copyFrom_X10_copyRow
theorem dX8_copyFrom_0 : decode cX8_copyFrom 0 = .ok (.aload_n 1, 1) := by decide +kernel
theorem dX8_copyFrom_1 : decode cX8_copyFrom 1 = .ok (.getfield 9, 3) := by decide +kernel
theorem dX8_copyFrom_4 : decode cX8_copyFrom 4 = .ok (.aload_n 0, 1) := by decide +kernel
theorem dX8_copyFrom_5 : decode cX8_copyFrom 5 = .ok (.getfield 9, 3) := by decide +kernel
theorem dX8_copyFrom_8 : decode cX8_copyFrom 8 = .ok (.invokestatic 29, 3) := by decide +kernel
theorem dX8_copyFrom_11 : decode cX8_copyFrom 11 = .ok (.aload_n 1, 1) := by decide +kernel
theorem dX8_copyFrom_12 : decode cX8_copyFrom 12 = .ok (.getfield 15, 3) := by decide +kernel
theorem dX8_copyFrom_15 : decode cX8_copyFrom 15 = .ok (.aload_n 0, 1) := by decide +kernel
theorem dX8_copyFrom_16 : decode cX8_copyFrom 16 = .ok (.getfield 15, 3) := by decide +kernel
theorem dX8_copyFrom_19 : decode cX8_copyFrom 19 = .ok (.invokestatic 29, 3) := by decide +kernel
theorem dX8_copyFrom_22 : decode cX8_copyFrom 22 = .ok (.aload_n 1, 1) := by decide +kernel
theorem dX8_copyFrom_23 : decode cX8_copyFrom 23 = .ok (.getfield 18, 3) := by decide +kernel
theorem dX8_copyFrom_26 : decode cX8_copyFrom 26 = .ok (.aload_n 0, 1) := by decide +kernel
theorem dX8_copyFrom_27 : decode cX8_copyFrom 27 = .ok (.getfield 18, 3) := by decide +kernel
theorem dX8_copyFrom_30 : decode cX8_copyFrom 30 = .ok (.invokestatic 29, 3) := by decide +kernel
theorem dX8_copyFrom_33 : decode cX8_copyFrom 33 = .ok (.return_, 1) := by decide +kernel
theorem dX9_init_0 : decode cX9_init 0 = .ok (.aload_n 0, 1) := by decide +kernel
theorem dX9_init_1 : decode cX9_init 1 = .ok (.invokespecial 3, 3) := by decide +kernel
theorem dX9_init_4 : decode cX9_init 4 = .ok (.aload_n 0, 1) := by decide +kernel
theorem dX9_init_5 : decode cX9_init 5 = .ok (.bipush 100, 2) := by decide +kernel
theorem dX9_init_7 : decode cX9_init 7 = .ok (.newarray .int, 2) := by decide +kernel
theorem dX9_init_9 : decode cX9_init 9 = .ok (.putfield 11, 3) := by decide +kernel
theorem dX9_init_12 : decode cX9_init 12 = .ok (.return_, 1) := by decide +kernel
theorem dX9_isCode_0 : decode cX9_isCode 0 = .ok (.iload_n 0, 1) := by decide +kernel
theorem dX9_isCode_1 : decode cX9_isCode 1 = .ok (.bipush 32, 2) := by decide +kernel
theorem dX9_isCode_3 : decode cX9_isCode 3 = .ok (.if_icmp .lt 13, 3) := by decide +kernel
theorem dX9_isCode_6 : decode cX9_isCode 6 = .ok (.iload_n 0, 1) := by decide +kernel
theorem dX9_isCode_7 : decode cX9_isCode 7 = .ok (.bipush 126, 2) := by decide +kernel
theorem dX9_isCode_9 : decode cX9_isCode 9 = .ok (.if_icmp .gt 7, 3) := by decide +kernel
theorem dX9_isCode_12 : decode cX9_isCode 12 = .ok (.iconst 1, 1) := by decide +kernel
theorem dX9_isCode_13 : decode cX9_isCode 13 = .ok (.goto 4, 3) := by decide +kernel
theorem dX9_isCode_16 : decode cX9_isCode 16 = .ok (.iconst 0, 1) := by decide +kernel
theorem dX9_isCode_17 : decode cX9_isCode 17 = .ok (.ireturn, 1) := by decide +kernel
set_option maxRecDepth 20000 in
theorem ggX9_append_X10_replace : GoodIn wsX9_append wsX10_replace := goodIn_r _ [5] (by decide +kernel) (by decide +kernel)
set_option maxRecDepth 20000 in
theorem gX9_append_X10_replace_n19 : GoodIn wsX9_append (wsX10_replace) := ggX9_append_X10_replace
theorem dX9_append_0 : decode cX9_append 0 = .ok (.aload_n 0, 1) := by decide +kernel
theorem dX9_append_1 : decode cX9_append 1 = .ok (.getfield 15, 3) := by decide +kernel
theorem dX9_append_4 : decode cX9_append 4 = .ok (.bipush 100, 2) := by decide +kernel
theorem dX9_append_6 : decode cX9_append 6 = .ok (.if_icmp .lt 5, 3) := by decide +kernel
theorem dX9_append_9 : decode cX9_append 9 = .ok (.iconst 0, 1) := by decide +kernel
theorem dX9_append_10 : decode cX9_append 10 = .ok (.ireturn, 1) := by decide +kernel
theorem dX9_append_11 : decode cX9_append 11 = .ok (.aload_n 0, 1) := by decide +kernel
theorem dX9_append_12 : decode cX9_append 12 = .ok (.getfield 11, 3) := by decide +kernel
theorem dX9_append_15 : decode cX9_append 15 = .ok (.aload_n 0, 1) := by decide +kernel
theorem dX9_append_16 : decode cX9_append 16 = .ok (.getfield 15, 3) := by decide +kernel
theorem dX9_append_19 : decode cX9_append 19 = .ok (.iload_n 1, 1) := by decide +kernel
theorem dX9_append_20 : decode cX9_append 20 = .ok (.invokestatic 19, 3) := by decide +kernel
theorem dX9_append_23 : decode cX9_append 23 = .ok (.aload_n 0, 1) := by decide +kernel
theorem dX9_append_24 : decode cX9_append 24 = .ok (.dup, 1) := by decide +kernel
theorem dX9_append_25 : decode cX9_append 25 = .ok (.getfield 15, 3) := by decide +kernel
theorem dX9_append_28 : decode cX9_append 28 = .ok (.iconst 1, 1) := by decide +kernel
theorem dX9_append_29 : decode cX9_append 29 = .ok (.iadd, 1) := by decide +kernel
theorem dX9_append_30 : decode cX9_append 30 = .ok (.putfield 15, 3) := by decide +kernel
theorem dX9_append_33 : decode cX9_append 33 = .ok (.iconst 1, 1) := by decide +kernel
theorem dX9_append_34 : decode cX9_append 34 = .ok (.ireturn, 1) := by decide +kernel
set_option maxRecDepth 20000 in
theorem ggX9_countEntries_X9_readEntry : GoodIn wsX9_countEntries wsX9_readEntry := goodIn_r _ [10, 4, 5, 3, 11, 12, 13, 14, 9, 15, 16, 17, 18, 19, 1, 20, 21, 22, 23, 2, 24, 25, 26, 27, 28, 29, 30, 31, 32, 33, 34, 35, 36, 37, 38, 39, 44, 45, 46, 47, 48, 49, 50] (by decide +kernel) (by decide +kernel)
set_option maxRecDepth 20000 in
theorem gX9_countEntries_X9_readEntry : GoodIn wsX9_countEntries (wsV RX9 26 RX9 yX9_readEntry wsX9_readEntry) := goodIn_app (goodIn_of _ (by decide +kernel)) ggX9_countEntries_X9_readEntry
set_option maxRecDepth 20000 in
theorem ggX9_countEntries_X8_isOutdoor : GoodIn wsX9_countEntries wsX8_isOutdoor := goodIn_r _ [43] (by decide +kernel) (by decide +kernel)
set_option maxRecDepth 20000 in
theorem gX9_countEntries_X8_isOutdoor : GoodIn wsX9_countEntries (va_wsS RX9 33 yX8_isOutdoor wsX8_isOutdoor) := goodIn_app (goodIn_of _ (by decide +kernel)) ggX9_countEntries_X8_isOutdoor
theorem dX9_countEntries_0 : decode cX9_countEntries 0 = .ok (.iconst 0, 1) := by decide +kernel
theorem dX9_countEntries_1 : decode cX9_countEntries 1 = .ok (.istore_n 1, 1) := by decide +kernel
theorem dX9_countEntries_2 : decode cX9_countEntries 2 = .ok (.iconst 1, 1) := by decide +kernel
theorem dX9_countEntries_3 : decode cX9_countEntries 3 = .ok (.istore_n 2, 1) := by decide +kernel
theorem dX9_countEntries_4 : decode cX9_countEntries 4 = .ok (.aload_n 0, 1) := by decide +kernel
theorem dX9_countEntries_5 : decode cX9_countEntries 5 = .ok (.iconst 0, 1) := by decide +kernel
theorem dX9_countEntries_6 : decode cX9_countEntries 6 = .ok (.putfield 23, 3) := by decide +kernel
theorem dX9_countEntries_9 : decode cX9_countEntries 9 = .ok (.iload_n 1, 1) := by decide +kernel
theorem dX9_countEntries_10 : decode cX9_countEntries 10 = .ok (.bipush 100, 2) := by decide +kernel
theorem dX9_countEntries_12 : decode cX9_countEntries 12 = .ok (.if_icmp .ge 66, 3) := by decide +kernel
theorem dX9_countEntries_15 : decode cX9_countEntries 15 = .ok (.aload_n 0, 1) := by decide +kernel
theorem dX9_countEntries_16 : decode cX9_countEntries 16 = .ok (.getfield 23, 3) := by decide +kernel
theorem dX9_countEntries_19 : decode cX9_countEntries 19 = .ok (.aload_n 0, 1) := by decide +kernel
theorem dX9_countEntries_20 : decode cX9_countEntries 20 = .ok (.getfield 15, 3) := by decide +kernel
theorem dX9_countEntries_23 : decode cX9_countEntries 23 = .ok (.if_icmp .ge 55, 3) := by decide +kernel
theorem dX9_countEntries_26 : decode cX9_countEntries 26 = .ok (.aload_n 0, 1) := by decide +kernel
theorem dX9_countEntries_27 : decode cX9_countEntries 27 = .ok (.invokevirtual 26, 3) := by decide +kernel
theorem dX9_countEntries_30 : decode cX9_countEntries 30 = .ok (.ifCond .ne 11, 3) := by decide +kernel
theorem dX9_countEntries_33 : decode cX9_countEntries 33 = .ok (.bipush (-10), 2) := by decide +kernel
theorem dX9_countEntries_35 : decode cX9_countEntries 35 = .ok (.aload_n 0, 1) := by decide +kernel
theorem dX9_countEntries_36 : decode cX9_countEntries 36 = .ok (.getfield 23, 3) := by decide +kernel
theorem dX9_countEntries_39 : decode cX9_countEntries 39 = .ok (.isub, 1) := by decide +kernel
theorem dX9_countEntries_40 : decode cX9_countEntries 40 = .ok (.ireturn, 1) := by decide +kernel
theorem dX9_countEntries_41 : decode cX9_countEntries 41 = .ok (.iload_n 2, 1) := by decide +kernel
theorem dX9_countEntries_42 : decode cX9_countEntries 42 = .ok (.ifCond .eq 28, 3) := by decide +kernel
theorem dX9_countEntries_45 : decode cX9_countEntries 45 = .ok (.aload_n 0, 1) := by decide +kernel
theorem dX9_countEntries_46 : decode cX9_countEntries 46 = .ok (.getfield 30, 3) := by decide +kernel
theorem dX9_countEntries_49 : decode cX9_countEntries 49 = .ok (.invokestatic 33, 3) := by decide +kernel
theorem dX9_countEntries_52 : decode cX9_countEntries 52 = .ok (.ifCond .eq 18, 3) := by decide +kernel
theorem dX9_countEntries_55 : decode cX9_countEntries 55 = .ok (.aload_n 0, 1) := by decide +kernel
theorem dX9_countEntries_56 : decode cX9_countEntries 56 = .ok (.getfield 39, 3) := by decide +kernel
theorem dX9_countEntries_59 : decode cX9_countEntries 59 = .ok (.aload_n 0, 1) := by decide +kernel
theorem dX9_countEntries_60 : decode cX9_countEntries 60 = .ok (.getfield 42, 3) := by decide +kernel
theorem dX9_countEntries_63 : decode cX9_countEntries 63 = .ok (.if_icmp .gt 7, 3) := by decide +kernel
theorem dX9_countEntries_66 : decode cX9_countEntries 66 = .ok (.iconst 1, 1) := by decide +kernel
theorem dX9_countEntries_67 : decode cX9_countEntries 67 = .ok (.goto 4, 3) := by decide +kernel
theorem dX9_countEntries_70 : decode cX9_countEntries 70 = .ok (.iconst 0, 1) := by decide +kernel
theorem dX9_countEntries_71 : decode cX9_countEntries 71 = .ok (.istore_n 2, 1) := by decide +kernel
theorem dX9_countEntries_72 : decode cX9_countEntries 72 = .ok (.iinc 1 1, 3) := by decide +kernel
theorem dX9_countEntries_75 : decode cX9_countEntries 75 = .ok (.goto (-66), 3) := by decide +kernel
theorem dX9_countEntries_78 : decode cX9_countEntries 78 = .ok (.iload_n 2, 1) := by decide +kernel
theorem dX9_countEntries_79 : decode cX9_countEntries 79 = .ok (.ifCond .eq 7, 3) := by decide +kernel
theorem dX9_countEntries_82 : decode cX9_countEntries 82 = .ok (.iload_n 1, 1) := by decide +kernel
theorem dX9_countEntries_83 : decode cX9_countEntries 83 = .ok (.goto 5, 3) := by decide +kernel
theorem dX9_countEntries_86 : decode cX9_countEntries 86 = .ok (.bipush (-2), 2) := by decide +kernel
theorem dX9_countEntries_88 : decode cX9_countEntries 88 = .ok (.ireturn, 1) := by decide +kernel
set_option maxRecDepth 20000 in
theorem ggX9_carryOut_X9_readEntry : GoodIn wsX9_carryOut wsX9_readEntry := goodIn_r _ [13, 3, 4, 6, 7, 14, 15, 16, 12, 17, 18, 19, 20, 21, 1, 22, 23, 24, 25, 2, 26, 27, 28, 29, 30, 31, 32, 33, 34, 35, 36, 37, 38, 39, 40, 41, 44, 45, 46, 47, 48, 49, 50] (by decide +kernel) (by decide +kernel)
set_option maxRecDepth 20000 in
theorem gX9_carryOut_X9_readEntry : GoodIn wsX9_carryOut (wsV RX9 26 RX9 yX9_readEntry wsX9_readEntry) := goodIn_app (goodIn_of _ (by decide +kernel)) ggX9_carryOut_X9_readEntry
set_option maxRecDepth 20000 in
theorem ggX9_carryOut_X10_replace : GoodIn wsX9_carryOut wsX10_replace := goodIn_r _ [43] (by decide +kernel) (by decide +kernel)
set_option maxRecDepth 20000 in
theorem gX9_carryOut_X10_replace_n19 : GoodIn wsX9_carryOut (wsX10_replace) := ggX9_carryOut_X10_replace
theorem dX9_carryOut_0 : decode cX9_carryOut 0 = .ok (.aload_n 0, 1) := by decide +kernel
theorem dX9_carryOut_1 : decode cX9_carryOut 1 = .ok (.iconst 0, 1) := by decide +kernel
theorem dX9_carryOut_2 : decode cX9_carryOut 2 = .ok (.putfield 23, 3) := by decide +kernel
theorem dX9_carryOut_5 : decode cX9_carryOut 5 = .ok (.iconst 0, 1) := by decide +kernel
theorem dX9_carryOut_6 : decode cX9_carryOut 6 = .ok (.istore_n 2, 1) := by decide +kernel
theorem dX9_carryOut_7 : decode cX9_carryOut 7 = .ok (.iload_n 2, 1) := by decide +kernel
theorem dX9_carryOut_8 : decode cX9_carryOut 8 = .ok (.bipush 100, 2) := by decide +kernel
theorem dX9_carryOut_10 : decode cX9_carryOut 10 = .ok (.if_icmp .ge 78, 3) := by decide +kernel
theorem dX9_carryOut_13 : decode cX9_carryOut 13 = .ok (.aload_n 0, 1) := by decide +kernel
theorem dX9_carryOut_14 : decode cX9_carryOut 14 = .ok (.getfield 23, 3) := by decide +kernel
theorem dX9_carryOut_17 : decode cX9_carryOut 17 = .ok (.aload_n 0, 1) := by decide +kernel
theorem dX9_carryOut_18 : decode cX9_carryOut 18 = .ok (.getfield 15, 3) := by decide +kernel
theorem dX9_carryOut_21 : decode cX9_carryOut 21 = .ok (.if_icmp .ge 67, 3) := by decide +kernel
theorem dX9_carryOut_24 : decode cX9_carryOut 24 = .ok (.aload_n 0, 1) := by decide +kernel
theorem dX9_carryOut_25 : decode cX9_carryOut 25 = .ok (.invokevirtual 26, 3) := by decide +kernel
theorem dX9_carryOut_28 : decode cX9_carryOut 28 = .ok (.ifCond .eq 60, 3) := by decide +kernel
theorem dX9_carryOut_31 : decode cX9_carryOut 31 = .ok (.aload_n 0, 1) := by decide +kernel
theorem dX9_carryOut_32 : decode cX9_carryOut 32 = .ok (.getfield 39, 3) := by decide +kernel
theorem dX9_carryOut_35 : decode cX9_carryOut 35 = .ok (.istore_n 3, 1) := by decide +kernel
theorem dX9_carryOut_36 : decode cX9_carryOut 36 = .ok (.iload_n 3, 1) := by decide +kernel
theorem dX9_carryOut_37 : decode cX9_carryOut 37 = .ok (.aload_n 0, 1) := by decide +kernel
theorem dX9_carryOut_38 : decode cX9_carryOut 38 = .ok (.getfield 42, 3) := by decide +kernel
theorem dX9_carryOut_41 : decode cX9_carryOut 41 = .ok (.if_icmp .gt 41, 3) := by decide +kernel
theorem dX9_carryOut_44 : decode cX9_carryOut 44 = .ok (.aload_n 1, 1) := by decide +kernel
theorem dX9_carryOut_45 : decode cX9_carryOut 45 = .ok (.getfield 45, 3) := by decide +kernel
theorem dX9_carryOut_48 : decode cX9_carryOut 48 = .ok (.iload_n 3, 1) := by decide +kernel
theorem dX9_carryOut_49 : decode cX9_carryOut 49 = .ok (.aload_n 0, 1) := by decide +kernel
theorem dX9_carryOut_50 : decode cX9_carryOut 50 = .ok (.getfield 30, 3) := by decide +kernel
theorem dX9_carryOut_53 : decode cX9_carryOut 53 = .ok (.invokestatic 19, 3) := by decide +kernel
theorem dX9_carryOut_56 : decode cX9_carryOut 56 = .ok (.aload_n 0, 1) := by decide +kernel
theorem dX9_carryOut_57 : decode cX9_carryOut 57 = .ok (.getfield 48, 3) := by decide +kernel
theorem dX9_carryOut_60 : decode cX9_carryOut 60 = .ok (.iconst (-1), 1) := by decide +kernel
theorem dX9_carryOut_61 : decode cX9_carryOut 61 = .ok (.if_icmp .eq 15, 3) := by decide +kernel
theorem dX9_carryOut_64 : decode cX9_carryOut 64 = .ok (.aload_n 1, 1) := by decide +kernel
theorem dX9_carryOut_65 : decode cX9_carryOut 65 = .ok (.getfield 51, 3) := by decide +kernel
theorem dX9_carryOut_68 : decode cX9_carryOut 68 = .ok (.iload_n 3, 1) := by decide +kernel
theorem dX9_carryOut_69 : decode cX9_carryOut 69 = .ok (.aload_n 0, 1) := by decide +kernel
theorem dX9_carryOut_70 : decode cX9_carryOut 70 = .ok (.getfield 48, 3) := by decide +kernel
theorem dX9_carryOut_73 : decode cX9_carryOut 73 = .ok (.invokestatic 19, 3) := by decide +kernel
theorem dX9_carryOut_76 : decode cX9_carryOut 76 = .ok (.iinc 3 1, 3) := by decide +kernel
theorem dX9_carryOut_79 : decode cX9_carryOut 79 = .ok (.goto (-43), 3) := by decide +kernel
theorem dX9_carryOut_82 : decode cX9_carryOut 82 = .ok (.iinc 2 1, 3) := by decide +kernel
theorem dX9_carryOut_85 : decode cX9_carryOut 85 = .ok (.goto (-78), 3) := by decide +kernel
theorem dX9_carryOut_88 : decode cX9_carryOut 88 = .ok (.return_, 1) := by decide +kernel
set_option maxRecDepth 20000 in
theorem ggX9_readEntry_X9_readHour : GoodIn wsX9_readEntry wsX9_readHour := goodIn_r _ [9, 10, 11, 12, 8, 13, 14, 15, 16, 17, 18, 19, 20, 21, 22, 23, 36, 37, 38, 39, 40, 41, 42] (by decide +kernel) (by decide +kernel)
set_option maxRecDepth 20000 in
theorem gX9_readEntry_X9_readHour : GoodIn wsX9_readEntry (wsV RX9 54 RX9 yX9_readHour wsX9_readHour) := goodIn_app (goodIn_of _ (by decide +kernel)) ggX9_readEntry_X9_readHour
set_option maxRecDepth 20000 in
theorem ggX9_readEntry_X9_accept : GoodIn wsX9_readEntry wsX9_accept := goodIn_r _ [27, 14, 15, 16, 17, 8, 18, 19, 20, 21, 22, 23, 36, 37, 38, 39, 40, 41, 42] (by decide +kernel) (by decide +kernel)
set_option maxRecDepth 20000 in
theorem gX9_readEntry_X9_accept : GoodIn wsX9_readEntry (wsV RX9 58 RX9 yX9_accept wsX9_accept) := goodIn_app (goodIn_of _ (by decide +kernel)) ggX9_readEntry_X9_accept
set_option maxRecDepth 20000 in
theorem ggX9_readEntry_X9_readNumber : GoodIn wsX9_readEntry wsX9_readNumber := goodIn_r _ [31, 10, 11, 12, 8, 13, 14, 15, 16, 17, 18, 19, 20, 21, 22, 23, 36, 37, 38, 39, 40, 41, 42] (by decide +kernel) (by decide +kernel)
set_option maxRecDepth 20000 in
theorem gX9_readEntry_X9_readNumber : GoodIn wsX9_readEntry (wsV RX9 61 RX9 yX9_readNumber wsX9_readNumber) := goodIn_app (goodIn_of _ (by decide +kernel)) ggX9_readEntry_X9_readNumber
set_option maxRecDepth 20000 in
theorem ggX9_readEntry_X9_readTariff : GoodIn wsX9_readEntry wsX9_readTariff := goodIn_r _ [35, 24, 25, 26, 8, 27, 14, 15, 16, 17, 18, 19, 20, 21, 22, 23, 36, 37, 38, 39, 40, 41, 42] (by decide +kernel) (by decide +kernel)
set_option maxRecDepth 20000 in
theorem gX9_readEntry_X9_readTariff : GoodIn wsX9_readEntry (wsV RX9 64 RX9 yX9_readTariff wsX9_readTariff) := goodIn_app (goodIn_of _ (by decide +kernel)) ggX9_readEntry_X9_readTariff
theorem dX9_readEntry_0 : decode cX9_readEntry 0 = .ok (.aload_n 0, 1) := by decide +kernel
theorem dX9_readEntry_1 : decode cX9_readEntry 1 = .ok (.aload_n 0, 1) := by decide +kernel
theorem dX9_readEntry_2 : decode cX9_readEntry 2 = .ok (.invokevirtual 54, 3) := by decide +kernel
theorem dX9_readEntry_5 : decode cX9_readEntry 5 = .ok (.putfield 39, 3) := by decide +kernel
theorem dX9_readEntry_8 : decode cX9_readEntry 8 = .ok (.aload_n 0, 1) := by decide +kernel
theorem dX9_readEntry_9 : decode cX9_readEntry 9 = .ok (.getfield 39, 3) := by decide +kernel
theorem dX9_readEntry_12 : decode cX9_readEntry 12 = .ok (.ifCond .ge 5, 3) := by decide +kernel
theorem dX9_readEntry_15 : decode cX9_readEntry 15 = .ok (.iconst 0, 1) := by decide +kernel
theorem dX9_readEntry_16 : decode cX9_readEntry 16 = .ok (.ireturn, 1) := by decide +kernel
theorem dX9_readEntry_17 : decode cX9_readEntry 17 = .ok (.aload_n 0, 1) := by decide +kernel
theorem dX9_readEntry_18 : decode cX9_readEntry 18 = .ok (.aload_n 0, 1) := by decide +kernel
theorem dX9_readEntry_19 : decode cX9_readEntry 19 = .ok (.getfield 39, 3) := by decide +kernel
theorem dX9_readEntry_22 : decode cX9_readEntry 22 = .ok (.putfield 42, 3) := by decide +kernel
theorem dX9_readEntry_25 : decode cX9_readEntry 25 = .ok (.aload_n 0, 1) := by decide +kernel
theorem dX9_readEntry_26 : decode cX9_readEntry 26 = .ok (.bipush 45, 2) := by decide +kernel
theorem dX9_readEntry_28 : decode cX9_readEntry 28 = .ok (.invokevirtual 58, 3) := by decide +kernel
theorem dX9_readEntry_31 : decode cX9_readEntry 31 = .ok (.ifCond .eq 11, 3) := by decide +kernel
theorem dX9_readEntry_34 : decode cX9_readEntry 34 = .ok (.aload_n 0, 1) := by decide +kernel
theorem dX9_readEntry_35 : decode cX9_readEntry 35 = .ok (.aload_n 0, 1) := by decide +kernel
theorem dX9_readEntry_36 : decode cX9_readEntry 36 = .ok (.invokevirtual 54, 3) := by decide +kernel
theorem dX9_readEntry_39 : decode cX9_readEntry 39 = .ok (.putfield 42, 3) := by decide +kernel
theorem dX9_readEntry_42 : decode cX9_readEntry 42 = .ok (.aload_n 0, 1) := by decide +kernel
theorem dX9_readEntry_43 : decode cX9_readEntry 43 = .ok (.getfield 42, 3) := by decide +kernel
theorem dX9_readEntry_46 : decode cX9_readEntry 46 = .ok (.ifCond .lt 12, 3) := by decide +kernel
theorem dX9_readEntry_49 : decode cX9_readEntry 49 = .ok (.aload_n 0, 1) := by decide +kernel
theorem dX9_readEntry_50 : decode cX9_readEntry 50 = .ok (.bipush 58, 2) := by decide +kernel
theorem dX9_readEntry_52 : decode cX9_readEntry 52 = .ok (.invokevirtual 58, 3) := by decide +kernel
theorem dX9_readEntry_55 : decode cX9_readEntry 55 = .ok (.ifCond .ne 5, 3) := by decide +kernel
theorem dX9_readEntry_58 : decode cX9_readEntry 58 = .ok (.iconst 0, 1) := by decide +kernel
theorem dX9_readEntry_59 : decode cX9_readEntry 59 = .ok (.ireturn, 1) := by decide +kernel
theorem dX9_readEntry_60 : decode cX9_readEntry 60 = .ok (.aload_n 0, 1) := by decide +kernel
theorem dX9_readEntry_61 : decode cX9_readEntry 61 = .ok (.bipush 45, 2) := by decide +kernel
theorem dX9_readEntry_63 : decode cX9_readEntry 63 = .ok (.invokevirtual 58, 3) := by decide +kernel
theorem dX9_readEntry_66 : decode cX9_readEntry 66 = .ok (.istore_n 1, 1) := by decide +kernel
theorem dX9_readEntry_67 : decode cX9_readEntry 67 = .ok (.aload_n 0, 1) := by decide +kernel
theorem dX9_readEntry_68 : decode cX9_readEntry 68 = .ok (.invokevirtual 61, 3) := by decide +kernel
theorem dX9_readEntry_71 : decode cX9_readEntry 71 = .ok (.istore_n 2, 1) := by decide +kernel
theorem dX9_readEntry_72 : decode cX9_readEntry 72 = .ok (.iload_n 2, 1) := by decide +kernel
theorem dX9_readEntry_73 : decode cX9_readEntry 73 = .ok (.ifCond .ge 5, 3) := by decide +kernel
theorem dX9_readEntry_76 : decode cX9_readEntry 76 = .ok (.iconst 0, 1) := by decide +kernel
theorem dX9_readEntry_77 : decode cX9_readEntry 77 = .ok (.ireturn, 1) := by decide +kernel
theorem dX9_readEntry_78 : decode cX9_readEntry 78 = .ok (.aload_n 0, 1) := by decide +kernel
theorem dX9_readEntry_79 : decode cX9_readEntry 79 = .ok (.iload_n 1, 1) := by decide +kernel
theorem dX9_readEntry_80 : decode cX9_readEntry 80 = .ok (.ifCond .eq 8, 3) := by decide +kernel
theorem dX9_readEntry_83 : decode cX9_readEntry 83 = .ok (.iload_n 2, 1) := by decide +kernel
theorem dX9_readEntry_84 : decode cX9_readEntry 84 = .ok (.ineg, 1) := by decide +kernel
theorem dX9_readEntry_85 : decode cX9_readEntry 85 = .ok (.goto 4, 3) := by decide +kernel
theorem dX9_readEntry_88 : decode cX9_readEntry 88 = .ok (.iload_n 2, 1) := by decide +kernel
theorem dX9_readEntry_89 : decode cX9_readEntry 89 = .ok (.putfield 30, 3) := by decide +kernel
theorem dX9_readEntry_92 : decode cX9_readEntry 92 = .ok (.aload_n 0, 1) := by decide +kernel
theorem dX9_readEntry_93 : decode cX9_readEntry 93 = .ok (.aload_n 0, 1) := by decide +kernel
theorem dX9_readEntry_94 : decode cX9_readEntry 94 = .ok (.invokevirtual 64, 3) := by decide +kernel
theorem dX9_readEntry_97 : decode cX9_readEntry 97 = .ok (.putfield 48, 3) := by decide +kernel
theorem dX9_readEntry_100 : decode cX9_readEntry 100 = .ok (.aload_n 0, 1) := by decide +kernel
theorem dX9_readEntry_101 : decode cX9_readEntry 101 = .ok (.bipush 59, 2) := by decide +kernel
theorem dX9_readEntry_103 : decode cX9_readEntry 103 = .ok (.invokevirtual 58, 3) := by decide +kernel
theorem dX9_readEntry_106 : decode cX9_readEntry 106 = .ok (.ireturn, 1) := by decide +kernel
set_option maxRecDepth 20000 in
theorem ggX9_readHour_X9_readDigit : GoodIn wsX9_readHour wsX9_readDigit := goodIn_r _ [5, 6, 7, 8, 9, 4, 10, 11, 12, 13, 14, 15, 16, 17, 18, 19, 20, 21, 22] (by decide +kernel) (by decide +kernel)
set_option maxRecDepth 20000 in
theorem gX9_readHour_X9_readDigit : GoodIn wsX9_readHour (wsV RX9 67 RX9 yX9_readDigit wsX9_readDigit) := goodIn_app (goodIn_of _ (by decide +kernel)) ggX9_readHour_X9_readDigit
theorem dX9_readHour_0 : decode cX9_readHour 0 = .ok (.aload_n 0, 1) := by decide +kernel
theorem dX9_readHour_1 : decode cX9_readHour 1 = .ok (.bipush 9, 2) := by decide +kernel
theorem dX9_readHour_3 : decode cX9_readHour 3 = .ok (.invokevirtual 67, 3) := by decide +kernel
theorem dX9_readHour_6 : decode cX9_readHour 6 = .ok (.istore_n 1, 1) := by decide +kernel
theorem dX9_readHour_7 : decode cX9_readHour 7 = .ok (.iload_n 1, 1) := by decide +kernel
theorem dX9_readHour_8 : decode cX9_readHour 8 = .ok (.iconst 1, 1) := by decide +kernel
theorem dX9_readHour_9 : decode cX9_readHour 9 = .ok (.if_icmp .eq 10, 3) := by decide +kernel
theorem dX9_readHour_12 : decode cX9_readHour 12 = .ok (.iload_n 1, 1) := by decide +kernel
theorem dX9_readHour_13 : decode cX9_readHour 13 = .ok (.iconst 2, 1) := by decide +kernel
theorem dX9_readHour_14 : decode cX9_readHour 14 = .ok (.if_icmp .eq 5, 3) := by decide +kernel
theorem dX9_readHour_17 : decode cX9_readHour 17 = .ok (.iload_n 1, 1) := by decide +kernel
theorem dX9_readHour_18 : decode cX9_readHour 18 = .ok (.ireturn, 1) := by decide +kernel
theorem dX9_readHour_19 : decode cX9_readHour 19 = .ok (.aload_n 0, 1) := by decide +kernel
theorem dX9_readHour_20 : decode cX9_readHour 20 = .ok (.iload_n 1, 1) := by decide +kernel
theorem dX9_readHour_21 : decode cX9_readHour 21 = .ok (.iconst 1, 1) := by decide +kernel
theorem dX9_readHour_22 : decode cX9_readHour 22 = .ok (.if_icmp .ne 8, 3) := by decide +kernel
theorem dX9_readHour_25 : decode cX9_readHour 25 = .ok (.bipush 9, 2) := by decide +kernel
theorem dX9_readHour_27 : decode cX9_readHour 27 = .ok (.goto 4, 3) := by decide +kernel
theorem dX9_readHour_30 : decode cX9_readHour 30 = .ok (.iconst 3, 1) := by decide +kernel
theorem dX9_readHour_31 : decode cX9_readHour 31 = .ok (.invokevirtual 67, 3) := by decide +kernel
theorem dX9_readHour_34 : decode cX9_readHour 34 = .ok (.istore_n 2, 1) := by decide +kernel
theorem dX9_readHour_35 : decode cX9_readHour 35 = .ok (.iload_n 2, 1) := by decide +kernel
theorem dX9_readHour_36 : decode cX9_readHour 36 = .ok (.ifCond .ge 7, 3) := by decide +kernel
theorem dX9_readHour_39 : decode cX9_readHour 39 = .ok (.iload_n 1, 1) := by decide +kernel
theorem dX9_readHour_40 : decode cX9_readHour 40 = .ok (.goto 9, 3) := by decide +kernel
theorem dX9_readHour_43 : decode cX9_readHour 43 = .ok (.bipush 10, 2) := by decide +kernel
theorem dX9_readHour_45 : decode cX9_readHour 45 = .ok (.iload_n 1, 1) := by decide +kernel
theorem dX9_readHour_46 : decode cX9_readHour 46 = .ok (.imul, 1) := by decide +kernel
theorem dX9_readHour_47 : decode cX9_readHour 47 = .ok (.iload_n 2, 1) := by decide +kernel
theorem dX9_readHour_48 : decode cX9_readHour 48 = .ok (.iadd, 1) := by decide +kernel
theorem dX9_readHour_49 : decode cX9_readHour 49 = .ok (.ireturn, 1) := by decide +kernel
set_option maxRecDepth 20000 in
theorem ggX9_readNumber_X9_readDigit : GoodIn wsX9_readNumber wsX9_readDigit := goodIn_r _ [5, 6, 7, 8, 9, 4, 10, 11, 12, 13, 14, 15, 16, 17, 18, 19, 20, 21, 22] (by decide +kernel) (by decide +kernel)
set_option maxRecDepth 20000 in
theorem gX9_readNumber_X9_readDigit : GoodIn wsX9_readNumber (wsV RX9 67 RX9 yX9_readDigit wsX9_readDigit) := goodIn_app (goodIn_of _ (by decide +kernel)) ggX9_readNumber_X9_readDigit
theorem dX9_readNumber_0 : decode cX9_readNumber 0 = .ok (.aload_n 0, 1) := by decide +kernel
theorem dX9_readNumber_1 : decode cX9_readNumber 1 = .ok (.bipush 9, 2) := by decide +kernel
theorem dX9_readNumber_3 : decode cX9_readNumber 3 = .ok (.invokevirtual 67, 3) := by decide +kernel
theorem dX9_readNumber_6 : decode cX9_readNumber 6 = .ok (.istore_n 1, 1) := by decide +kernel
theorem dX9_readNumber_7 : decode cX9_readNumber 7 = .ok (.iload_n 1, 1) := by decide +kernel
theorem dX9_readNumber_8 : decode cX9_readNumber 8 = .ok (.ifCond .gt 5, 3) := by decide +kernel
theorem dX9_readNumber_11 : decode cX9_readNumber 11 = .ok (.iload_n 1, 1) := by decide +kernel
theorem dX9_readNumber_12 : decode cX9_readNumber 12 = .ok (.ireturn, 1) := by decide +kernel
theorem dX9_readNumber_13 : decode cX9_readNumber 13 = .ok (.iconst 0, 1) := by decide +kernel
theorem dX9_readNumber_14 : decode cX9_readNumber 14 = .ok (.istore_n 2, 1) := by decide +kernel
theorem dX9_readNumber_15 : decode cX9_readNumber 15 = .ok (.iload_n 2, 1) := by decide +kernel
theorem dX9_readNumber_16 : decode cX9_readNumber 16 = .ok (.iconst 2, 1) := by decide +kernel
theorem dX9_readNumber_17 : decode cX9_readNumber 17 = .ok (.if_icmp .ge 29, 3) := by decide +kernel
theorem dX9_readNumber_20 : decode cX9_readNumber 20 = .ok (.aload_n 0, 1) := by decide +kernel
theorem dX9_readNumber_21 : decode cX9_readNumber 21 = .ok (.bipush 9, 2) := by decide +kernel
theorem dX9_readNumber_23 : decode cX9_readNumber 23 = .ok (.invokevirtual 67, 3) := by decide +kernel
theorem dX9_readNumber_26 : decode cX9_readNumber 26 = .ok (.istore_n 3, 1) := by decide +kernel
theorem dX9_readNumber_27 : decode cX9_readNumber 27 = .ok (.iload_n 3, 1) := by decide +kernel
theorem dX9_readNumber_28 : decode cX9_readNumber 28 = .ok (.ifCond .ge 5, 3) := by decide +kernel
theorem dX9_readNumber_31 : decode cX9_readNumber 31 = .ok (.iload_n 1, 1) := by decide +kernel
theorem dX9_readNumber_32 : decode cX9_readNumber 32 = .ok (.ireturn, 1) := by decide +kernel
theorem dX9_readNumber_33 : decode cX9_readNumber 33 = .ok (.bipush 10, 2) := by decide +kernel
theorem dX9_readNumber_35 : decode cX9_readNumber 35 = .ok (.iload_n 1, 1) := by decide +kernel
theorem dX9_readNumber_36 : decode cX9_readNumber 36 = .ok (.imul, 1) := by decide +kernel
theorem dX9_readNumber_37 : decode cX9_readNumber 37 = .ok (.iload_n 3, 1) := by decide +kernel
theorem dX9_readNumber_38 : decode cX9_readNumber 38 = .ok (.iadd, 1) := by decide +kernel
theorem dX9_readNumber_39 : decode cX9_readNumber 39 = .ok (.istore_n 1, 1) := by decide +kernel
theorem dX9_readNumber_40 : decode cX9_readNumber 40 = .ok (.iinc 2 1, 3) := by decide +kernel
theorem dX9_readNumber_43 : decode cX9_readNumber 43 = .ok (.goto (-28), 3) := by decide +kernel
theorem dX9_readNumber_46 : decode cX9_readNumber 46 = .ok (.iload_n 1, 1) := by decide +kernel
theorem dX9_readNumber_47 : decode cX9_readNumber 47 = .ok (.ireturn, 1) := by decide +kernel
set_option maxRecDepth 20000 in
theorem ggX9_readTariff_X9_accept : GoodIn wsX9_readTariff wsX9_accept := goodIn_r _ [5, 6, 7, 8, 9, 4, 10, 11, 12, 13, 14, 15, 16, 17, 18, 19, 20, 21, 22] (by decide +kernel) (by decide +kernel)
set_option maxRecDepth 20000 in
theorem gX9_readTariff_X9_accept : GoodIn wsX9_readTariff (wsV RX9 58 RX9 yX9_accept wsX9_accept) := goodIn_app (goodIn_of _ (by decide +kernel)) ggX9_readTariff_X9_accept
theorem dX9_readTariff_0 : decode cX9_readTariff 0 = .ok (.aload_n 0, 1) := by decide +kernel
theorem dX9_readTariff_1 : decode cX9_readTariff 1 = .ok (.bipush 99, 2) := by decide +kernel
theorem dX9_readTariff_3 : decode cX9_readTariff 3 = .ok (.invokevirtual 58, 3) := by decide +kernel
theorem dX9_readTariff_6 : decode cX9_readTariff 6 = .ok (.ifCond .eq 5, 3) := by decide +kernel
theorem dX9_readTariff_9 : decode cX9_readTariff 9 = .ok (.iconst 0, 1) := by decide +kernel
theorem dX9_readTariff_10 : decode cX9_readTariff 10 = .ok (.ireturn, 1) := by decide +kernel
theorem dX9_readTariff_11 : decode cX9_readTariff 11 = .ok (.aload_n 0, 1) := by decide +kernel
theorem dX9_readTariff_12 : decode cX9_readTariff 12 = .ok (.bipush 110, 2) := by decide +kernel
theorem dX9_readTariff_14 : decode cX9_readTariff 14 = .ok (.invokevirtual 58, 3) := by decide +kernel
theorem dX9_readTariff_17 : decode cX9_readTariff 17 = .ok (.ifCond .eq 5, 3) := by decide +kernel
theorem dX9_readTariff_20 : decode cX9_readTariff 20 = .ok (.iconst 1, 1) := by decide +kernel
theorem dX9_readTariff_21 : decode cX9_readTariff 21 = .ok (.ireturn, 1) := by decide +kernel
theorem dX9_readTariff_22 : decode cX9_readTariff 22 = .ok (.aload_n 0, 1) := by decide +kernel
theorem dX9_readTariff_23 : decode cX9_readTariff 23 = .ok (.bipush 112, 2) := by decide +kernel
theorem dX9_readTariff_25 : decode cX9_readTariff 25 = .ok (.invokevirtual 58, 3) := by decide +kernel
theorem dX9_readTariff_28 : decode cX9_readTariff 28 = .ok (.ifCond .eq 7, 3) := by decide +kernel
theorem dX9_readTariff_31 : decode cX9_readTariff 31 = .ok (.iconst 2, 1) := by decide +kernel
theorem dX9_readTariff_32 : decode cX9_readTariff 32 = .ok (.goto 4, 3) := by decide +kernel
theorem dX9_readTariff_35 : decode cX9_readTariff 35 = .ok (.iconst (-1), 1) := by decide +kernel
theorem dX9_readTariff_36 : decode cX9_readTariff 36 = .ok (.ireturn, 1) := by decide +kernel
set_option maxRecDepth 20000 in
theorem ggX9_readDigit_X9_codeHere : GoodIn wsX9_readDigit wsX9_codeHere := goodIn_r _ [6, 1, 7, 8, 9, 10, 11, 12, 13, 14, 15, 16, 17, 18] (by decide +kernel) (by decide +kernel)
set_option maxRecDepth 20000 in
theorem gX9_readDigit_X9_codeHere : GoodIn wsX9_readDigit (wsV RX9 71 RX9 yX9_codeHere wsX9_codeHere) := goodIn_app (goodIn_of _ (by decide +kernel)) ggX9_readDigit_X9_codeHere
theorem dX9_readDigit_0 : decode cX9_readDigit 0 = .ok (.aload_n 0, 1) := by decide +kernel
theorem dX9_readDigit_1 : decode cX9_readDigit 1 = .ok (.invokevirtual 71, 3) := by decide +kernel
theorem dX9_readDigit_4 : decode cX9_readDigit 4 = .ok (.bipush 48, 2) := by decide +kernel
theorem dX9_readDigit_6 : decode cX9_readDigit 6 = .ok (.isub, 1) := by decide +kernel
theorem dX9_readDigit_7 : decode cX9_readDigit 7 = .ok (.istore_n 2, 1) := by decide +kernel
theorem dX9_readDigit_8 : decode cX9_readDigit 8 = .ok (.iload_n 2, 1) := by decide +kernel
theorem dX9_readDigit_9 : decode cX9_readDigit 9 = .ok (.ifCond .lt 8, 3) := by decide +kernel
theorem dX9_readDigit_12 : decode cX9_readDigit 12 = .ok (.iload_n 2, 1) := by decide +kernel
theorem dX9_readDigit_13 : decode cX9_readDigit 13 = .ok (.iload_n 1, 1) := by decide +kernel
theorem dX9_readDigit_14 : decode cX9_readDigit 14 = .ok (.if_icmp .le 5, 3) := by decide +kernel
theorem dX9_readDigit_17 : decode cX9_readDigit 17 = .ok (.iconst (-1), 1) := by decide +kernel
theorem dX9_readDigit_18 : decode cX9_readDigit 18 = .ok (.ireturn, 1) := by decide +kernel
theorem dX9_readDigit_19 : decode cX9_readDigit 19 = .ok (.aload_n 0, 1) := by decide +kernel
theorem dX9_readDigit_20 : decode cX9_readDigit 20 = .ok (.dup, 1) := by decide +kernel
theorem dX9_readDigit_21 : decode cX9_readDigit 21 = .ok (.getfield 23, 3) := by decide +kernel
theorem dX9_readDigit_24 : decode cX9_readDigit 24 = .ok (.iconst 1, 1) := by decide +kernel
theorem dX9_readDigit_25 : decode cX9_readDigit 25 = .ok (.iadd, 1) := by decide +kernel
theorem dX9_readDigit_26 : decode cX9_readDigit 26 = .ok (.putfield 23, 3) := by decide +kernel
theorem dX9_readDigit_29 : decode cX9_readDigit 29 = .ok (.iload_n 2, 1) := by decide +kernel
theorem dX9_readDigit_30 : decode cX9_readDigit 30 = .ok (.ireturn, 1) := by decide +kernel
set_option maxRecDepth 20000 in
theorem ggX9_accept_X9_codeHere : GoodIn wsX9_accept wsX9_codeHere := goodIn_r _ [6, 1, 7, 8, 9, 10, 11, 12, 13, 14, 15, 16, 17, 18] (by decide +kernel) (by decide +kernel)
set_option maxRecDepth 20000 in
theorem gX9_accept_X9_codeHere : GoodIn wsX9_accept (wsV RX9 71 RX9 yX9_codeHere wsX9_codeHere) := goodIn_app (goodIn_of _ (by decide +kernel)) ggX9_accept_X9_codeHere
theorem dX9_accept_0 : decode cX9_accept 0 = .ok (.aload_n 0, 1) := by decide +kernel
theorem dX9_accept_1 : decode cX9_accept 1 = .ok (.invokevirtual 71, 3) := by decide +kernel
theorem dX9_accept_4 : decode cX9_accept 4 = .ok (.iload_n 1, 1) := by decide +kernel
theorem dX9_accept_5 : decode cX9_accept 5 = .ok (.if_icmp .eq 5, 3) := by decide +kernel
theorem dX9_accept_8 : decode cX9_accept 8 = .ok (.iconst 0, 1) := by decide +kernel
theorem dX9_accept_9 : decode cX9_accept 9 = .ok (.ireturn, 1) := by decide +kernel
theorem dX9_accept_10 : decode cX9_accept 10 = .ok (.aload_n 0, 1) := by decide +kernel
theorem dX9_accept_11 : decode cX9_accept 11 = .ok (.dup, 1) := by decide +kernel
theorem dX9_accept_12 : decode cX9_accept 12 = .ok (.getfield 23, 3) := by decide +kernel
theorem dX9_accept_15 : decode cX9_accept 15 = .ok (.iconst 1, 1) := by decide +kernel
theorem dX9_accept_16 : decode cX9_accept 16 = .ok (.iadd, 1) := by decide +kernel
theorem dX9_accept_17 : decode cX9_accept 17 = .ok (.putfield 23, 3) := by decide +kernel
theorem dX9_accept_20 : decode cX9_accept 20 = .ok (.iconst 1, 1) := by decide +kernel
theorem dX9_accept_21 : decode cX9_accept 21 = .ok (.ireturn, 1) := by decide +kernel
set_option maxRecDepth 20000 in
theorem ggX9_codeHere_X10_elementOr : GoodIn wsX9_codeHere wsX10_elementOr := goodIn_r _ [6] (by decide +kernel) (by decide +kernel)
set_option maxRecDepth 20000 in
theorem gX9_codeHere_X10_elementOr_n74 : GoodIn wsX9_codeHere (wsX10_elementOr) := ggX9_codeHere_X10_elementOr
theorem dX9_codeHere_0 : decode cX9_codeHere 0 = .ok (.aload_n 0, 1) := by decide +kernel
theorem dX9_codeHere_1 : decode cX9_codeHere 1 = .ok (.getfield 23, 3) := by decide +kernel
theorem dX9_codeHere_4 : decode cX9_codeHere 4 = .ok (.aload_n 0, 1) := by decide +kernel
theorem dX9_codeHere_5 : decode cX9_codeHere 5 = .ok (.getfield 15, 3) := by decide +kernel
theorem dX9_codeHere_8 : decode cX9_codeHere 8 = .ok (.if_icmp .ge 18, 3) := by decide +kernel
theorem dX9_codeHere_11 : decode cX9_codeHere 11 = .ok (.aload_n 0, 1) := by decide +kernel
theorem dX9_codeHere_12 : decode cX9_codeHere 12 = .ok (.getfield 11, 3) := by decide +kernel
theorem dX9_codeHere_15 : decode cX9_codeHere 15 = .ok (.aload_n 0, 1) := by decide +kernel
theorem dX9_codeHere_16 : decode cX9_codeHere 16 = .ok (.getfield 23, 3) := by decide +kernel
theorem dX9_codeHere_19 : decode cX9_codeHere 19 = .ok (.iconst 0, 1) := by decide +kernel
theorem dX9_codeHere_20 : decode cX9_codeHere 20 = .ok (.invokestatic 74, 3) := by decide +kernel
theorem dX9_codeHere_23 : decode cX9_codeHere 23 = .ok (.goto 4, 3) := by decide +kernel
theorem dX9_codeHere_26 : decode cX9_codeHere 26 = .ok (.iconst 0, 1) := by decide +kernel
theorem dX9_codeHere_27 : decode cX9_codeHere 27 = .ok (.ireturn, 1) := by decide +kernel
