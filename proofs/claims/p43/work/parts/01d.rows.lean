theorem dX3_supplyAt_98 : decode cX3_supplyAt 98 = .ok (.iload 6, 2) := by decide +kernel
theorem dX3_supplyAt_100 : decode cX3_supplyAt 100 = .ok (.iload 4, 2) := by decide +kernel
theorem dX3_supplyAt_102 : decode cX3_supplyAt 102 = .ok (.iload 6, 2) := by decide +kernel
theorem dX3_supplyAt_104 : decode cX3_supplyAt 104 = .ok (.isub, 1) := by decide +kernel
theorem dX3_supplyAt_105 : decode cX3_supplyAt 105 = .ok (.iload_n 1, 1) := by decide +kernel
theorem dX3_supplyAt_106 : decode cX3_supplyAt 106 = .ok (.iload 5, 2) := by decide +kernel
theorem dX3_supplyAt_108 : decode cX3_supplyAt 108 = .ok (.isub, 1) := by decide +kernel
theorem dX3_supplyAt_109 : decode cX3_supplyAt 109 = .ok (.imul, 1) := by decide +kernel
theorem dX3_supplyAt_110 : decode cX3_supplyAt 110 = .ok (.i2l, 1) := by decide +kernel
theorem dX3_supplyAt_111 : decode cX3_supplyAt 111 = .ok (.iload_n 3, 1) := by decide +kernel
theorem dX3_supplyAt_112 : decode cX3_supplyAt 112 = .ok (.iload 5, 2) := by decide +kernel
theorem dX3_supplyAt_114 : decode cX3_supplyAt 114 = .ok (.isub, 1) := by decide +kernel
theorem dX3_supplyAt_115 : decode cX3_supplyAt 115 = .ok (.i2l, 1) := by decide +kernel
theorem dX3_supplyAt_116 : decode cX3_supplyAt 116 = .ok (.invokestatic 46, 3) := by decide +kernel
theorem dX3_supplyAt_119 : decode cX3_supplyAt 119 = .ok (.l2i, 1) := by decide +kernel
theorem dX3_supplyAt_120 : decode cX3_supplyAt 120 = .ok (.iadd, 1) := by decide +kernel
theorem dX3_supplyAt_121 : decode cX3_supplyAt 121 = .ok (.ireturn, 1) := by decide +kernel
theorem dX3_placeFor_0 : decode cX3_placeFor 0 = .ok (.iconst 0, 1) := by decide +kernel
theorem dX3_placeFor_1 : decode cX3_placeFor 1 = .ok (.istore_n 2, 1) := by decide +kernel
theorem dX3_placeFor_2 : decode cX3_placeFor 2 = .ok (.iload_n 2, 1) := by decide +kernel
theorem dX3_placeFor_3 : decode cX3_placeFor 3 = .ok (.aload_n 0, 1) := by decide +kernel
theorem dX3_placeFor_4 : decode cX3_placeFor 4 = .ok (.getfield 18, 3) := by decide +kernel
theorem dX3_placeFor_7 : decode cX3_placeFor 7 = .ok (.if_icmp .ge 28, 3) := by decide +kernel
theorem dX3_placeFor_10 : decode cX3_placeFor 10 = .ok (.iload_n 2, 1) := by decide +kernel
theorem dX3_placeFor_11 : decode cX3_placeFor 11 = .ok (.aload_n 0, 1) := by decide +kernel
theorem dX3_placeFor_12 : decode cX3_placeFor 12 = .ok (.getfield 11, 3) := by decide +kernel
theorem dX3_placeFor_15 : decode cX3_placeFor 15 = .ok (.arraylength, 1) := by decide +kernel
theorem dX3_placeFor_16 : decode cX3_placeFor 16 = .ok (.if_icmp .ge 19, 3) := by decide +kernel
theorem dX3_placeFor_19 : decode cX3_placeFor 19 = .ok (.aload_n 0, 1) := by decide +kernel
theorem dX3_placeFor_20 : decode cX3_placeFor 20 = .ok (.getfield 11, 3) := by decide +kernel
theorem dX3_placeFor_23 : decode cX3_placeFor 23 = .ok (.iload_n 2, 1) := by decide +kernel
theorem dX3_placeFor_24 : decode cX3_placeFor 24 = .ok (.iaload, 1) := by decide +kernel
theorem dX3_placeFor_25 : decode cX3_placeFor 25 = .ok (.iload_n 1, 1) := by decide +kernel
theorem dX3_placeFor_26 : decode cX3_placeFor 26 = .ok (.if_icmp .ge 9, 3) := by decide +kernel
theorem dX3_placeFor_29 : decode cX3_placeFor 29 = .ok (.iinc 2 1, 3) := by decide +kernel
theorem dX3_placeFor_32 : decode cX3_placeFor 32 = .ok (.goto (-30), 3) := by decide +kernel
theorem dX3_placeFor_35 : decode cX3_placeFor 35 = .ok (.iload_n 2, 1) := by decide +kernel
theorem dX3_placeFor_36 : decode cX3_placeFor 36 = .ok (.ireturn, 1) := by decide +kernel
set_option maxRecDepth 20000 in
theorem ggX3_moveUpFrom_X10_elementOr : GoodIn wsX3_moveUpFrom wsX10_elementOr := goodIn_r _ [6] (by decide +kernel) (by decide +kernel)
set_option maxRecDepth 20000 in
theorem gX3_moveUpFrom_X10_elementOr_n34 : GoodIn wsX3_moveUpFrom (wsX10_elementOr) := ggX3_moveUpFrom_X10_elementOr
set_option maxRecDepth 20000 in
theorem ggX3_moveUpFrom_X10_replace : GoodIn wsX3_moveUpFrom wsX10_replace := goodIn_r _ [8] (by decide +kernel) (by decide +kernel)
set_option maxRecDepth 20000 in
theorem gX3_moveUpFrom_X10_replace_n22 : GoodIn wsX3_moveUpFrom (wsX10_replace) := ggX3_moveUpFrom_X10_replace
theorem dX3_moveUpFrom_0 : decode cX3_moveUpFrom 0 = .ok (.aload_n 0, 1) := by decide +kernel
theorem dX3_moveUpFrom_1 : decode cX3_moveUpFrom 1 = .ok (.getfield 18, 3) := by decide +kernel
theorem dX3_moveUpFrom_4 : decode cX3_moveUpFrom 4 = .ok (.istore_n 2, 1) := by decide +kernel
theorem dX3_moveUpFrom_5 : decode cX3_moveUpFrom 5 = .ok (.iload_n 2, 1) := by decide +kernel
theorem dX3_moveUpFrom_6 : decode cX3_moveUpFrom 6 = .ok (.iload_n 1, 1) := by decide +kernel
theorem dX3_moveUpFrom_7 : decode cX3_moveUpFrom 7 = .ok (.if_icmp .le 47, 3) := by decide +kernel
theorem dX3_moveUpFrom_10 : decode cX3_moveUpFrom 10 = .ok (.aload_n 0, 1) := by decide +kernel
theorem dX3_moveUpFrom_11 : decode cX3_moveUpFrom 11 = .ok (.getfield 11, 3) := by decide +kernel
theorem dX3_moveUpFrom_14 : decode cX3_moveUpFrom 14 = .ok (.iload_n 2, 1) := by decide +kernel
theorem dX3_moveUpFrom_15 : decode cX3_moveUpFrom 15 = .ok (.aload_n 0, 1) := by decide +kernel
theorem dX3_moveUpFrom_16 : decode cX3_moveUpFrom 16 = .ok (.getfield 11, 3) := by decide +kernel
theorem dX3_moveUpFrom_19 : decode cX3_moveUpFrom 19 = .ok (.iload_n 2, 1) := by decide +kernel
theorem dX3_moveUpFrom_20 : decode cX3_moveUpFrom 20 = .ok (.iconst 1, 1) := by decide +kernel
theorem dX3_moveUpFrom_21 : decode cX3_moveUpFrom 21 = .ok (.isub, 1) := by decide +kernel
theorem dX3_moveUpFrom_22 : decode cX3_moveUpFrom 22 = .ok (.iconst 0, 1) := by decide +kernel
theorem dX3_moveUpFrom_23 : decode cX3_moveUpFrom 23 = .ok (.invokestatic 34, 3) := by decide +kernel
theorem dX3_moveUpFrom_26 : decode cX3_moveUpFrom 26 = .ok (.invokestatic 22, 3) := by decide +kernel
theorem dX3_moveUpFrom_29 : decode cX3_moveUpFrom 29 = .ok (.aload_n 0, 1) := by decide +kernel
theorem dX3_moveUpFrom_30 : decode cX3_moveUpFrom 30 = .ok (.getfield 15, 3) := by decide +kernel
theorem dX3_moveUpFrom_33 : decode cX3_moveUpFrom 33 = .ok (.iload_n 2, 1) := by decide +kernel
theorem dX3_moveUpFrom_34 : decode cX3_moveUpFrom 34 = .ok (.aload_n 0, 1) := by decide +kernel
theorem dX3_moveUpFrom_35 : decode cX3_moveUpFrom 35 = .ok (.getfield 15, 3) := by decide +kernel
theorem dX3_moveUpFrom_38 : decode cX3_moveUpFrom 38 = .ok (.iload_n 2, 1) := by decide +kernel
theorem dX3_moveUpFrom_39 : decode cX3_moveUpFrom 39 = .ok (.iconst 1, 1) := by decide +kernel
theorem dX3_moveUpFrom_40 : decode cX3_moveUpFrom 40 = .ok (.isub, 1) := by decide +kernel
theorem dX3_moveUpFrom_41 : decode cX3_moveUpFrom 41 = .ok (.iconst 0, 1) := by decide +kernel
theorem dX3_moveUpFrom_42 : decode cX3_moveUpFrom 42 = .ok (.invokestatic 34, 3) := by decide +kernel
theorem dX3_moveUpFrom_45 : decode cX3_moveUpFrom 45 = .ok (.invokestatic 22, 3) := by decide +kernel
theorem dX3_moveUpFrom_48 : decode cX3_moveUpFrom 48 = .ok (.iinc 2 (-1), 3) := by decide +kernel
theorem dX3_moveUpFrom_51 : decode cX3_moveUpFrom 51 = .ok (.goto (-46), 3) := by decide +kernel
theorem dX3_moveUpFrom_54 : decode cX3_moveUpFrom 54 = .ok (.return_, 1) := by decide +kernel
set_option maxRecDepth 20000 in
theorem ggX4_init_X5_init : GoodIn wsX4_init wsX5_init := goodIn_r _ [10, 11, 2, 3, 12, 13, 14, 15, 16, 17, 18, 19, 20, 21, 22, 23, 24, 25, 26, 27, 28, 29, 30, 31, 32, 33, 34, 35, 36, 37, 38, 39, 40, 41, 42, 43, 44, 45, 46, 47, 48, 49, 50, 51, 52, 53, 54, 55, 56, 57, 58, 59, 60, 61, 62, 63, 64, 65, 66, 67, 68, 69, 70, 71, 72, 73, 74, 75, 76, 77, 78, 79, 80, 81, 82, 83, 84, 85, 86, 87, 88, 89, 90, 91, 92, 104, 96, 97, 98, 99, 100, 101, 102, 103, 105, 106, 107, 108, 109, 110, 111, 112, 113, 114, 115, 116, 117, 118, 119, 120, 121, 122, 123, 124, 125, 126, 127, 128, 129, 130, 131, 132, 133, 134, 135] (by decide +kernel) (by decide +kernel)
set_option maxRecDepth 20000 in
theorem gX4_init_X5_init : GoodIn wsX4_init (wsX5_init) := ggX4_init_X5_init
theorem dX4_init_0 : decode cX4_init 0 = .ok (.aload_n 0, 1) := by decide +kernel
theorem dX4_init_1 : decode cX4_init 1 = .ok (.invokespecial 3, 3) := by decide +kernel
theorem dX4_init_4 : decode cX4_init 4 = .ok (.aload_n 0, 1) := by decide +kernel
theorem dX4_init_5 : decode cX4_init 5 = .ok (.iconst 4, 1) := by decide +kernel
theorem dX4_init_6 : decode cX4_init 6 = .ok (.anewarray 11, 3) := by decide +kernel
theorem dX4_init_9 : decode cX4_init 9 = .ok (.putfield 13, 3) := by decide +kernel
theorem dX4_init_12 : decode cX4_init 12 = .ok (.iconst 0, 1) := by decide +kernel
theorem dX4_init_13 : decode cX4_init 13 = .ok (.istore_n 1, 1) := by decide +kernel
theorem dX4_init_14 : decode cX4_init 14 = .ok (.iload_n 1, 1) := by decide +kernel
theorem dX4_init_15 : decode cX4_init 15 = .ok (.aload_n 0, 1) := by decide +kernel
theorem dX4_init_16 : decode cX4_init 16 = .ok (.getfield 13, 3) := by decide +kernel
theorem dX4_init_19 : decode cX4_init 19 = .ok (.arraylength, 1) := by decide +kernel
theorem dX4_init_20 : decode cX4_init 20 = .ok (.if_icmp .ge 22, 3) := by decide +kernel
theorem dX4_init_23 : decode cX4_init 23 = .ok (.aload_n 0, 1) := by decide +kernel
theorem dX4_init_24 : decode cX4_init 24 = .ok (.getfield 13, 3) := by decide +kernel
theorem dX4_init_27 : decode cX4_init 27 = .ok (.iload_n 1, 1) := by decide +kernel
theorem dX4_init_28 : decode cX4_init 28 = .ok (.new 11, 3) := by decide +kernel
theorem dX4_init_31 : decode cX4_init 31 = .ok (.dup, 1) := by decide +kernel
theorem dX4_init_32 : decode cX4_init 32 = .ok (.invokespecial 17, 3) := by decide +kernel
theorem dX4_init_35 : decode cX4_init 35 = .ok (.aastore, 1) := by decide +kernel
theorem dX4_init_36 : decode cX4_init 36 = .ok (.iinc 1 1, 3) := by decide +kernel
theorem dX4_init_39 : decode cX4_init 39 = .ok (.goto (-25), 3) := by decide +kernel
theorem dX4_init_42 : decode cX4_init 42 = .ok (.return_, 1) := by decide +kernel
set_option maxRecDepth 20000 in
theorem ggX4_record_X4_stateAt : GoodIn wsX4_record wsX4_stateAt := goodIn_r _ [7, 2, 8, 76, 77, 78] (by decide +kernel) (by decide +kernel)
set_option maxRecDepth 20000 in
theorem gX4_record_X4_stateAt : GoodIn wsX4_record (wsV RX4 25 RX4 yX4_stateAt wsX4_stateAt) := goodIn_app (goodIn_of _ (by decide +kernel)) ggX4_record_X4_stateAt
set_option maxRecDepth 20000 in
theorem ggX4_record_X5_copyFrom : GoodIn wsX4_record wsX5_copyFrom := goodIn_r _ [13, 14, 15, 16, 17, 18, 19, 20, 21, 22, 23, 24, 25, 26, 27, 28, 29, 30, 31, 32, 33, 34, 35, 36, 37, 38, 39, 40, 41, 42, 43, 44, 45, 46, 47, 48, 49, 50, 51, 52, 53, 54, 55, 56, 57, 58, 59, 60, 61, 62, 63, 64, 65, 66, 67, 68, 69, 70, 71, 72, 73, 74, 75, 79, 80, 81, 82, 83, 84, 85, 86, 87, 88, 89, 90, 91, 92, 93, 94, 95, 96, 97, 98, 99, 100, 101, 102, 103, 104, 105, 106, 107, 108, 109, 110, 111, 112, 113] (by decide +kernel) (by decide +kernel)
set_option maxRecDepth 20000 in
theorem gX4_record_X5_copyFrom : GoodIn wsX4_record (wsV RX4 29 RX5 yX5_copyFrom wsX5_copyFrom) := goodIn_app (goodIn_of _ (by decide +kernel)) ggX4_record_X5_copyFrom
theorem dX4_record_0 : decode cX4_record 0 = .ok (.aload_n 0, 1) := by decide +kernel
theorem dX4_record_1 : decode cX4_record 1 = .ok (.getfield 18, 3) := by decide +kernel
theorem dX4_record_4 : decode cX4_record 4 = .ok (.iconst 4, 1) := by decide +kernel
theorem dX4_record_5 : decode cX4_record 5 = .ok (.if_icmp .ne 25, 3) := by decide +kernel
theorem dX4_record_8 : decode cX4_record 8 = .ok (.aload_n 0, 1) := by decide +kernel
theorem dX4_record_9 : decode cX4_record 9 = .ok (.aload_n 0, 1) := by decide +kernel
theorem dX4_record_10 : decode cX4_record 10 = .ok (.getfield 22, 3) := by decide +kernel
theorem dX4_record_13 : decode cX4_record 13 = .ok (.iconst 1, 1) := by decide +kernel
theorem dX4_record_14 : decode cX4_record 14 = .ok (.iadd, 1) := by decide +kernel
theorem dX4_record_15 : decode cX4_record 15 = .ok (.iconst 4, 1) := by decide +kernel
theorem dX4_record_16 : decode cX4_record 16 = .ok (.irem, 1) := by decide +kernel
theorem dX4_record_17 : decode cX4_record 17 = .ok (.putfield 22, 3) := by decide +kernel
theorem dX4_record_20 : decode cX4_record 20 = .ok (.aload_n 0, 1) := by decide +kernel
theorem dX4_record_21 : decode cX4_record 21 = .ok (.dup, 1) := by decide +kernel
theorem dX4_record_22 : decode cX4_record 22 = .ok (.getfield 18, 3) := by decide +kernel
theorem dX4_record_25 : decode cX4_record 25 = .ok (.iconst 1, 1) := by decide +kernel
theorem dX4_record_26 : decode cX4_record 26 = .ok (.isub, 1) := by decide +kernel
theorem dX4_record_27 : decode cX4_record 27 = .ok (.putfield 18, 3) := by decide +kernel
theorem dX4_record_30 : decode cX4_record 30 = .ok (.aload_n 0, 1) := by decide +kernel
theorem dX4_record_31 : decode cX4_record 31 = .ok (.aload_n 0, 1) := by decide +kernel
theorem dX4_record_32 : decode cX4_record 32 = .ok (.getfield 18, 3) := by decide +kernel
theorem dX4_record_35 : decode cX4_record 35 = .ok (.invokevirtual 25, 3) := by decide +kernel
theorem dX4_record_38 : decode cX4_record 38 = .ok (.astore_n 2, 1) := by decide +kernel
theorem dX4_record_39 : decode cX4_record 39 = .ok (.aload_n 2, 1) := by decide +kernel
theorem dX4_record_40 : decode cX4_record 40 = .ok (.ifnull 18, 3) := by decide +kernel
theorem dX4_record_43 : decode cX4_record 43 = .ok (.aload_n 2, 1) := by decide +kernel
theorem dX4_record_44 : decode cX4_record 44 = .ok (.aload_n 1, 1) := by decide +kernel
theorem dX4_record_45 : decode cX4_record 45 = .ok (.invokevirtual 29, 3) := by decide +kernel
theorem dX4_record_48 : decode cX4_record 48 = .ok (.aload_n 0, 1) := by decide +kernel
theorem dX4_record_49 : decode cX4_record 49 = .ok (.dup, 1) := by decide +kernel
theorem dX4_record_50 : decode cX4_record 50 = .ok (.getfield 18, 3) := by decide +kernel
theorem dX4_record_53 : decode cX4_record 53 = .ok (.iconst 1, 1) := by decide +kernel
theorem dX4_record_54 : decode cX4_record 54 = .ok (.iadd, 1) := by decide +kernel
theorem dX4_record_55 : decode cX4_record 55 = .ok (.putfield 18, 3) := by decide +kernel
theorem dX4_record_58 : decode cX4_record 58 = .ok (.aload_n 0, 1) := by decide +kernel
theorem dX4_record_59 : decode cX4_record 59 = .ok (.getfield 18, 3) := by decide +kernel
theorem dX4_record_62 : decode cX4_record 62 = .ok (.ireturn, 1) := by decide +kernel
set_option maxRecDepth 20000 in
theorem ggX4_restore_X4_stateAt : GoodIn wsX4_restore wsX4_stateAt := goodIn_r _ [6, 7, 8, 76, 77, 78] (by decide +kernel) (by decide +kernel)
set_option maxRecDepth 20000 in
theorem gX4_restore_X4_stateAt : GoodIn wsX4_restore (wsV RX4 25 RX4 yX4_stateAt wsX4_stateAt) := goodIn_app (goodIn_of _ (by decide +kernel)) ggX4_restore_X4_stateAt
set_option maxRecDepth 20000 in
theorem ggX4_restore_X5_copyFrom : GoodIn wsX4_restore wsX5_copyFrom := goodIn_r _ [13, 14, 15, 16, 17, 18, 19, 20, 21, 22, 23, 24, 25, 26, 27, 28, 29, 30, 31, 32, 33, 34, 35, 36, 37, 38, 39, 40, 41, 42, 43, 44, 45, 46, 47, 48, 49, 50, 51, 52, 53, 54, 55, 56, 57, 58, 59, 60, 61, 62, 63, 64, 65, 66, 67, 68, 69, 70, 71, 72, 73, 74, 75, 79, 80, 81, 82, 83, 84, 85, 86, 87, 88, 89, 90, 91, 92, 93, 94, 95, 96, 97, 98, 99, 100, 101, 102, 103, 104, 105, 106, 107, 108, 109, 110, 111, 112, 113] (by decide +kernel) (by decide +kernel)
set_option maxRecDepth 20000 in
theorem gX4_restore_X5_copyFrom : GoodIn wsX4_restore (wsV RX4 29 RX5 yX5_copyFrom wsX5_copyFrom) := goodIn_app (goodIn_of _ (by decide +kernel)) ggX4_restore_X5_copyFrom
theorem dX4_restore_0 : decode cX4_restore 0 = .ok (.aload_n 0, 1) := by decide +kernel
theorem dX4_restore_1 : decode cX4_restore 1 = .ok (.getfield 18, 3) := by decide +kernel
theorem dX4_restore_4 : decode cX4_restore 4 = .ok (.ifCond .ne 6, 3) := by decide +kernel
theorem dX4_restore_7 : decode cX4_restore 7 = .ok (.bipush (-2), 2) := by decide +kernel
theorem dX4_restore_9 : decode cX4_restore 9 = .ok (.ireturn, 1) := by decide +kernel
theorem dX4_restore_10 : decode cX4_restore 10 = .ok (.aload_n 0, 1) := by decide +kernel
theorem dX4_restore_11 : decode cX4_restore 11 = .ok (.dup, 1) := by decide +kernel
theorem dX4_restore_12 : decode cX4_restore 12 = .ok (.getfield 18, 3) := by decide +kernel
theorem dX4_restore_15 : decode cX4_restore 15 = .ok (.iconst 1, 1) := by decide +kernel
theorem dX4_restore_16 : decode cX4_restore 16 = .ok (.isub, 1) := by decide +kernel
theorem dX4_restore_17 : decode cX4_restore 17 = .ok (.putfield 18, 3) := by decide +kernel
theorem dX4_restore_20 : decode cX4_restore 20 = .ok (.aload_n 0, 1) := by decide +kernel
theorem dX4_restore_21 : decode cX4_restore 21 = .ok (.aload_n 0, 1) := by decide +kernel
theorem dX4_restore_22 : decode cX4_restore 22 = .ok (.getfield 18, 3) := by decide +kernel
theorem dX4_restore_25 : decode cX4_restore 25 = .ok (.invokevirtual 25, 3) := by decide +kernel
theorem dX4_restore_28 : decode cX4_restore 28 = .ok (.astore_n 2, 1) := by decide +kernel
theorem dX4_restore_29 : decode cX4_restore 29 = .ok (.aload_n 2, 1) := by decide +kernel
theorem dX4_restore_30 : decode cX4_restore 30 = .ok (.ifnull 8, 3) := by decide +kernel
theorem dX4_restore_33 : decode cX4_restore 33 = .ok (.aload_n 1, 1) := by decide +kernel
theorem dX4_restore_34 : decode cX4_restore 34 = .ok (.aload_n 2, 1) := by decide +kernel
theorem dX4_restore_35 : decode cX4_restore 35 = .ok (.invokevirtual 29, 3) := by decide +kernel
theorem dX4_restore_38 : decode cX4_restore 38 = .ok (.aload_n 0, 1) := by decide +kernel
theorem dX4_restore_39 : decode cX4_restore 39 = .ok (.getfield 18, 3) := by decide +kernel
theorem dX4_restore_42 : decode cX4_restore 42 = .ok (.ireturn, 1) := by decide +kernel
theorem dX4_stateAt_0 : decode cX4_stateAt 0 = .ok (.aload_n 0, 1) := by decide +kernel
theorem dX4_stateAt_1 : decode cX4_stateAt 1 = .ok (.getfield 22, 3) := by decide +kernel
theorem dX4_stateAt_4 : decode cX4_stateAt 4 = .ok (.iload_n 1, 1) := by decide +kernel
theorem dX4_stateAt_5 : decode cX4_stateAt 5 = .ok (.iadd, 1) := by decide +kernel
theorem dX4_stateAt_6 : decode cX4_stateAt 6 = .ok (.iconst 4, 1) := by decide +kernel
theorem dX4_stateAt_7 : decode cX4_stateAt 7 = .ok (.irem, 1) := by decide +kernel
theorem dX4_stateAt_8 : decode cX4_stateAt 8 = .ok (.istore_n 2, 1) := by decide +kernel
theorem dX4_stateAt_9 : decode cX4_stateAt 9 = .ok (.iload_n 2, 1) := by decide +kernel
theorem dX4_stateAt_10 : decode cX4_stateAt 10 = .ok (.ifCond .lt 21, 3) := by decide +kernel
theorem dX4_stateAt_13 : decode cX4_stateAt 13 = .ok (.iload_n 2, 1) := by decide +kernel
theorem dX4_stateAt_14 : decode cX4_stateAt 14 = .ok (.aload_n 0, 1) := by decide +kernel
theorem dX4_stateAt_15 : decode cX4_stateAt 15 = .ok (.getfield 13, 3) := by decide +kernel
theorem dX4_stateAt_18 : decode cX4_stateAt 18 = .ok (.arraylength, 1) := by decide +kernel
theorem dX4_stateAt_19 : decode cX4_stateAt 19 = .ok (.if_icmp .ge 12, 3) := by decide +kernel
theorem dX4_stateAt_22 : decode cX4_stateAt 22 = .ok (.aload_n 0, 1) := by decide +kernel
theorem dX4_stateAt_23 : decode cX4_stateAt 23 = .ok (.getfield 13, 3) := by decide +kernel
theorem dX4_stateAt_26 : decode cX4_stateAt 26 = .ok (.iload_n 2, 1) := by decide +kernel
theorem dX4_stateAt_27 : decode cX4_stateAt 27 = .ok (.aaload, 1) := by decide +kernel
theorem dX4_stateAt_28 : decode cX4_stateAt 28 = .ok (.goto 4, 3) := by decide +kernel
theorem dX4_stateAt_31 : decode cX4_stateAt 31 = .ok (.aconst_null, 1) := by decide +kernel
theorem dX4_stateAt_32 : decode cX4_stateAt 32 = .ok (.areturn, 1) := by decide +kernel
set_option maxRecDepth 20000 in
theorem ggX5_init_X7_init : GoodIn wsX5_init wsX7_init := goodIn_r _ [34, 35, 2, 3, 36, 37, 38, 85] (by decide +kernel) (by decide +kernel)
set_option maxRecDepth 20000 in
theorem gX5_init_X7_init : GoodIn wsX5_init (wsX7_init) := ggX5_init_X7_init
set_option maxRecDepth 20000 in
theorem ggX5_init_X8_init : GoodIn wsX5_init wsX8_init := goodIn_r _ [41, 42, 2, 3, 36, 43, 44, 45, 46, 47, 48, 49, 50, 94, 95, 96] (by decide +kernel) (by decide +kernel)
set_option maxRecDepth 20000 in
theorem gX5_init_X8_init : GoodIn wsX5_init (wsX8_init) := ggX5_init_X8_init
set_option maxRecDepth 20000 in
theorem ggX5_init_X3_init : GoodIn wsX5_init wsX3_init := goodIn_r _ [53, 54, 2, 3, 36, 55, 56, 57, 49, 47, 50, 97, 98, 99] (by decide +kernel) (by decide +kernel)
set_option maxRecDepth 20000 in
theorem gX5_init_X3_init : GoodIn wsX5_init (wsX3_init) := ggX5_init_X3_init
set_option maxRecDepth 20000 in
theorem ggX5_init_X1_init : GoodIn wsX5_init wsX1_init := goodIn_r _ [60, 61, 2, 3, 62, 63, 64, 65, 66, 18, 67, 68, 100, 101] (by decide +kernel) (by decide +kernel)
set_option maxRecDepth 20000 in
theorem gX5_init_X1_init : GoodIn wsX5_init (wsX1_init) := ggX5_init_X1_init
set_option maxRecDepth 20000 in
theorem ggX5_init_X6_init : GoodIn wsX5_init wsX6_init := goodIn_r _ [71, 72, 2, 3, 73, 74, 36, 75, 102, 103, 104, 105, 106, 107, 108] (by decide +kernel) (by decide +kernel)
set_option maxRecDepth 20000 in
theorem gX5_init_X6_init : GoodIn wsX5_init (wsX6_init) := ggX5_init_X6_init
set_option maxRecDepth 20000 in
theorem ggX5_init_X0_init : GoodIn wsX5_init wsX0_init := goodIn_r _ [78, 79, 2, 3, 36, 80, 81, 109, 110, 111, 112, 113, 114, 115, 116, 117, 118, 119] (by decide +kernel) (by decide +kernel)
set_option maxRecDepth 20000 in
theorem gX5_init_X0_init : GoodIn wsX5_init (wsX0_init) := ggX5_init_X0_init
set_option maxRecDepth 20000 in
theorem ggX5_init_X2_init : GoodIn wsX5_init wsX2_init := goodIn_r _ [83, 84, 2, 3] (by decide +kernel) (by decide +kernel)
set_option maxRecDepth 20000 in
theorem gX5_init_X2_init_n55 : GoodIn wsX5_init (wsX2_init) := ggX5_init_X2_init
theorem dX5_init_0 : decode cX5_init 0 = .ok (.aload_n 0, 1) := by decide +kernel
theorem dX5_init_1 : decode cX5_init 1 = .ok (.invokespecial 3, 3) := by decide +kernel
theorem dX5_init_4 : decode cX5_init 4 = .ok (.aload_n 0, 1) := by decide +kernel
theorem dX5_init_5 : decode cX5_init 5 = .ok (.new 9, 3) := by decide +kernel
theorem dX5_init_8 : decode cX5_init 8 = .ok (.dup, 1) := by decide +kernel
theorem dX5_init_9 : decode cX5_init 9 = .ok (.invokespecial 11, 3) := by decide +kernel
theorem dX5_init_12 : decode cX5_init 12 = .ok (.putfield 12, 3) := by decide +kernel
theorem dX5_init_15 : decode cX5_init 15 = .ok (.aload_n 0, 1) := by decide +kernel
theorem dX5_init_16 : decode cX5_init 16 = .ok (.new 18, 3) := by decide +kernel
theorem dX5_init_19 : decode cX5_init 19 = .ok (.dup, 1) := by decide +kernel
theorem dX5_init_20 : decode cX5_init 20 = .ok (.invokespecial 20, 3) := by decide +kernel
theorem dX5_init_23 : decode cX5_init 23 = .ok (.putfield 21, 3) := by decide +kernel
theorem dX5_init_26 : decode cX5_init 26 = .ok (.aload_n 0, 1) := by decide +kernel
theorem dX5_init_27 : decode cX5_init 27 = .ok (.new 25, 3) := by decide +kernel
theorem dX5_init_30 : decode cX5_init 30 = .ok (.dup, 1) := by decide +kernel
theorem dX5_init_31 : decode cX5_init 31 = .ok (.invokespecial 27, 3) := by decide +kernel
theorem dX5_init_34 : decode cX5_init 34 = .ok (.putfield 28, 3) := by decide +kernel
theorem dX5_init_37 : decode cX5_init 37 = .ok (.aload_n 0, 1) := by decide +kernel
theorem dX5_init_38 : decode cX5_init 38 = .ok (.new 32, 3) := by decide +kernel
theorem dX5_init_41 : decode cX5_init 41 = .ok (.dup, 1) := by decide +kernel
theorem dX5_init_42 : decode cX5_init 42 = .ok (.invokespecial 34, 3) := by decide +kernel
theorem dX5_init_45 : decode cX5_init 45 = .ok (.putfield 35, 3) := by decide +kernel
theorem dX5_init_48 : decode cX5_init 48 = .ok (.aload_n 0, 1) := by decide +kernel
theorem dX5_init_49 : decode cX5_init 49 = .ok (.new 39, 3) := by decide +kernel
theorem dX5_init_52 : decode cX5_init 52 = .ok (.dup, 1) := by decide +kernel
theorem dX5_init_53 : decode cX5_init 53 = .ok (.invokespecial 41, 3) := by decide +kernel
theorem dX5_init_56 : decode cX5_init 56 = .ok (.putfield 42, 3) := by decide +kernel
theorem dX5_init_59 : decode cX5_init 59 = .ok (.aload_n 0, 1) := by decide +kernel
theorem dX5_init_60 : decode cX5_init 60 = .ok (.new 46, 3) := by decide +kernel
theorem dX5_init_63 : decode cX5_init 63 = .ok (.dup, 1) := by decide +kernel
theorem dX5_init_64 : decode cX5_init 64 = .ok (.invokespecial 48, 3) := by decide +kernel
theorem dX5_init_67 : decode cX5_init 67 = .ok (.putfield 49, 3) := by decide +kernel
theorem dX5_init_70 : decode cX5_init 70 = .ok (.aload_n 0, 1) := by decide +kernel
theorem dX5_init_71 : decode cX5_init 71 = .ok (.new 53, 3) := by decide +kernel
theorem dX5_init_74 : decode cX5_init 74 = .ok (.dup, 1) := by decide +kernel
theorem dX5_init_75 : decode cX5_init 75 = .ok (.invokespecial 55, 3) := by decide +kernel
theorem dX5_init_78 : decode cX5_init 78 = .ok (.putfield 56, 3) := by decide +kernel
theorem dX5_init_81 : decode cX5_init 81 = .ok (.return_, 1) := by decide +kernel
set_option maxRecDepth 20000 in
theorem ggX5_copyFrom_X10_copyRow : GoodIn wsX5_copyFrom wsX10_copyRow := goodIn_r _ [11] (by decide +kernel) (by decide +kernel)
set_option maxRecDepth 20000 in
theorem gX5_copyFrom_X10_copyRow_n64 : GoodIn wsX5_copyFrom (wsX10_copyRow) := ggX5_copyFrom_X10_copyRow
set_option maxRecDepth 20000 in
theorem ggX5_copyFrom_X8_copyFrom : GoodIn wsX5_copyFrom wsX8_copyFrom := goodIn_r _ [16, 17, 18, 19, 9, 10, 11, 72, 73, 74] (by decide +kernel) (by decide +kernel)
set_option maxRecDepth 20000 in
theorem gX5_copyFrom_X8_copyFrom : GoodIn wsX5_copyFrom (wsV RX5 68 RX8 yX8_copyFrom wsX8_copyFrom) := goodIn_app (goodIn_of _ (by decide +kernel)) ggX5_copyFrom_X8_copyFrom
set_option maxRecDepth 20000 in
theorem ggX5_copyFrom_X3_copyFrom : GoodIn wsX5_copyFrom wsX3_copyFrom := goodIn_r _ [24, 25, 26, 27, 9, 10, 11, 75, 76, 77] (by decide +kernel) (by decide +kernel)
set_option maxRecDepth 20000 in
theorem gX5_copyFrom_X3_copyFrom : GoodIn wsX5_copyFrom (wsV RX5 72 RX3 yX3_copyFrom wsX3_copyFrom) := goodIn_app (goodIn_of _ (by decide +kernel)) ggX5_copyFrom_X3_copyFrom
set_option maxRecDepth 20000 in
theorem ggX5_copyFrom_X1_copyFrom : GoodIn wsX5_copyFrom wsX1_copyFrom := goodIn_r _ [32, 33, 34, 78, 79] (by decide +kernel) (by decide +kernel)
set_option maxRecDepth 20000 in
theorem gX5_copyFrom_X1_copyFrom : GoodIn wsX5_copyFrom (wsV RX5 75 RX1 yX1_copyFrom wsX1_copyFrom) := goodIn_app (goodIn_of _ (by decide +kernel)) ggX5_copyFrom_X1_copyFrom
set_option maxRecDepth 20000 in
theorem ggX5_copyFrom_X6_copyFrom : GoodIn wsX5_copyFrom wsX6_copyFrom := goodIn_r _ [39, 40, 41, 42, 43, 44, 45, 46, 9, 10, 11, 80, 81, 82, 83, 84, 85, 86] (by decide +kernel) (by decide +kernel)
set_option maxRecDepth 20000 in
theorem gX5_copyFrom_X6_copyFrom : GoodIn wsX5_copyFrom (wsV RX5 78 RX6 yX6_copyFrom wsX6_copyFrom) := goodIn_app (goodIn_of _ (by decide +kernel)) ggX5_copyFrom_X6_copyFrom
set_option maxRecDepth 20000 in
theorem ggX5_copyFrom_X0_copyFrom : GoodIn wsX5_copyFrom wsX0_copyFrom := goodIn_r _ [51, 52, 53, 54, 55, 56, 57, 58, 59, 60, 61, 62, 9, 10, 11, 87, 88, 89, 90, 91, 92, 93, 94, 95, 96, 97] (by decide +kernel) (by decide +kernel)
set_option maxRecDepth 20000 in
theorem gX5_copyFrom_X0_copyFrom : GoodIn wsX5_copyFrom (wsV RX5 81 RX0 yX0_copyFrom wsX0_copyFrom) := goodIn_app (goodIn_of _ (by decide +kernel)) ggX5_copyFrom_X0_copyFrom
theorem dX5_copyFrom_0 : decode cX5_copyFrom 0 = .ok (.aload_n 1, 1) := by decide +kernel
theorem dX5_copyFrom_1 : decode cX5_copyFrom 1 = .ok (.getfield 12, 3) := by decide +kernel
theorem dX5_copyFrom_4 : decode cX5_copyFrom 4 = .ok (.getfield 60, 3) := by decide +kernel
theorem dX5_copyFrom_7 : decode cX5_copyFrom 7 = .ok (.aload_n 0, 1) := by decide +kernel
theorem dX5_copyFrom_8 : decode cX5_copyFrom 8 = .ok (.getfield 12, 3) := by decide +kernel
theorem dX5_copyFrom_11 : decode cX5_copyFrom 11 = .ok (.getfield 60, 3) := by decide +kernel
theorem dX5_copyFrom_14 : decode cX5_copyFrom 14 = .ok (.invokestatic 64, 3) := by decide +kernel
theorem dX5_copyFrom_17 : decode cX5_copyFrom 17 = .ok (.aload_n 0, 1) := by decide +kernel
theorem dX5_copyFrom_18 : decode cX5_copyFrom 18 = .ok (.getfield 21, 3) := by decide +kernel
theorem dX5_copyFrom_21 : decode cX5_copyFrom 21 = .ok (.aload_n 1, 1) := by decide +kernel
theorem dX5_copyFrom_22 : decode cX5_copyFrom 22 = .ok (.getfield 21, 3) := by decide +kernel
theorem dX5_copyFrom_25 : decode cX5_copyFrom 25 = .ok (.invokevirtual 68, 3) := by decide +kernel
theorem dX5_copyFrom_28 : decode cX5_copyFrom 28 = .ok (.aload_n 0, 1) := by decide +kernel
theorem dX5_copyFrom_29 : decode cX5_copyFrom 29 = .ok (.getfield 28, 3) := by decide +kernel
theorem dX5_copyFrom_32 : decode cX5_copyFrom 32 = .ok (.aload_n 1, 1) := by decide +kernel
theorem dX5_copyFrom_33 : decode cX5_copyFrom 33 = .ok (.getfield 28, 3) := by decide +kernel
theorem dX5_copyFrom_36 : decode cX5_copyFrom 36 = .ok (.invokevirtual 72, 3) := by decide +kernel
theorem dX5_copyFrom_39 : decode cX5_copyFrom 39 = .ok (.aload_n 0, 1) := by decide +kernel
theorem dX5_copyFrom_40 : decode cX5_copyFrom 40 = .ok (.getfield 35, 3) := by decide +kernel
theorem dX5_copyFrom_43 : decode cX5_copyFrom 43 = .ok (.aload_n 1, 1) := by decide +kernel
theorem dX5_copyFrom_44 : decode cX5_copyFrom 44 = .ok (.getfield 35, 3) := by decide +kernel
theorem dX5_copyFrom_47 : decode cX5_copyFrom 47 = .ok (.invokevirtual 75, 3) := by decide +kernel
theorem dX5_copyFrom_50 : decode cX5_copyFrom 50 = .ok (.aload_n 0, 1) := by decide +kernel
theorem dX5_copyFrom_51 : decode cX5_copyFrom 51 = .ok (.getfield 42, 3) := by decide +kernel
theorem dX5_copyFrom_54 : decode cX5_copyFrom 54 = .ok (.aload_n 1, 1) := by decide +kernel
theorem dX5_copyFrom_55 : decode cX5_copyFrom 55 = .ok (.getfield 42, 3) := by decide +kernel
theorem dX5_copyFrom_58 : decode cX5_copyFrom 58 = .ok (.invokevirtual 78, 3) := by decide +kernel
theorem dX5_copyFrom_61 : decode cX5_copyFrom 61 = .ok (.aload_n 0, 1) := by decide +kernel
theorem dX5_copyFrom_62 : decode cX5_copyFrom 62 = .ok (.getfield 49, 3) := by decide +kernel
theorem dX5_copyFrom_65 : decode cX5_copyFrom 65 = .ok (.aload_n 1, 1) := by decide +kernel
theorem dX5_copyFrom_66 : decode cX5_copyFrom 66 = .ok (.getfield 49, 3) := by decide +kernel
theorem dX5_copyFrom_69 : decode cX5_copyFrom 69 = .ok (.invokevirtual 81, 3) := by decide +kernel
theorem dX5_copyFrom_72 : decode cX5_copyFrom 72 = .ok (.aload_n 0, 1) := by decide +kernel
theorem dX5_copyFrom_73 : decode cX5_copyFrom 73 = .ok (.aload_n 1, 1) := by decide +kernel
theorem dX5_copyFrom_74 : decode cX5_copyFrom 74 = .ok (.getfield 84, 3) := by decide +kernel
theorem dX5_copyFrom_77 : decode cX5_copyFrom 77 = .ok (.putfield 84, 3) := by decide +kernel
theorem dX5_copyFrom_80 : decode cX5_copyFrom 80 = .ok (.return_, 1) := by decide +kernel
set_option maxRecDepth 20000 in
theorem ggX5_demandIn_X7_valueOf : GoodIn wsX5_demandIn wsX7_valueOf := goodIn_r _ [13, 14, 15, 16, 17, 31] (by decide +kernel) (by decide +kernel)
set_option maxRecDepth 20000 in
theorem gX5_demandIn_X7_valueOf : GoodIn wsX5_demandIn (wsV RX5 88 RX7 yX7_valueOf wsX7_valueOf) := goodIn_app (goodIn_of _ (by decide +kernel)) ggX5_demandIn_X7_valueOf
set_option maxRecDepth 20000 in
theorem ggX5_demandIn_X10_elementOr : GoodIn wsX5_demandIn wsX10_elementOr := goodIn_r _ [17] (by decide +kernel) (by decide +kernel)
set_option maxRecDepth 20000 in
theorem gX5_demandIn_X10_elementOr_n95 : GoodIn wsX5_demandIn (wsX10_elementOr) := ggX5_demandIn_X10_elementOr
set_option maxRecDepth 20000 in
theorem ggX5_demandIn_X10_div : GoodIn wsX5_demandIn wsX10_div := goodIn_r _ [19] (by decide +kernel) (by decide +kernel)
set_option maxRecDepth 20000 in
theorem gX5_demandIn_X10_div_n101 : GoodIn wsX5_demandIn (wsX10_div) := ggX5_demandIn_X10_div
theorem dX5_demandIn_0 : decode cX5_demandIn 0 = .ok (.aload_n 0, 1) := by decide +kernel
theorem dX5_demandIn_1 : decode cX5_demandIn 1 = .ok (.getfield 12, 3) := by decide +kernel
theorem dX5_demandIn_4 : decode cX5_demandIn 4 = .ok (.bipush 15, 2) := by decide +kernel
theorem dX5_demandIn_6 : decode cX5_demandIn 6 = .ok (.invokevirtual 88, 3) := by decide +kernel
theorem dX5_demandIn_9 : decode cX5_demandIn 9 = .ok (.aload_n 0, 1) := by decide +kernel
theorem dX5_demandIn_10 : decode cX5_demandIn 10 = .ok (.getfield 21, 3) := by decide +kernel
theorem dX5_demandIn_13 : decode cX5_demandIn 13 = .ok (.getfield 92, 3) := by decide +kernel
theorem dX5_demandIn_16 : decode cX5_demandIn 16 = .ok (.iload_n 1, 1) := by decide +kernel
theorem dX5_demandIn_17 : decode cX5_demandIn 17 = .ok (.iconst 0, 1) := by decide +kernel
theorem dX5_demandIn_18 : decode cX5_demandIn 18 = .ok (.invokestatic 95, 3) := by decide +kernel
theorem dX5_demandIn_21 : decode cX5_demandIn 21 = .ok (.isub, 1) := by decide +kernel
theorem dX5_demandIn_22 : decode cX5_demandIn 22 = .ok (.istore_n 2, 1) := by decide +kernel
theorem dX5_demandIn_23 : decode cX5_demandIn 23 = .ok (.iconst 0, 1) := by decide +kernel
theorem dX5_demandIn_24 : decode cX5_demandIn 24 = .ok (.iload_n 2, 1) := by decide +kernel
theorem dX5_demandIn_25 : decode cX5_demandIn 25 = .ok (.aload_n 0, 1) := by decide +kernel
theorem dX5_demandIn_26 : decode cX5_demandIn 26 = .ok (.getfield 12, 3) := by decide +kernel
theorem dX5_demandIn_29 : decode cX5_demandIn 29 = .ok (.bipush 16, 2) := by decide +kernel
theorem dX5_demandIn_31 : decode cX5_demandIn 31 = .ok (.invokevirtual 88, 3) := by decide +kernel
theorem dX5_demandIn_34 : decode cX5_demandIn 34 = .ok (.imul, 1) := by decide +kernel
theorem dX5_demandIn_35 : decode cX5_demandIn 35 = .ok (.i2l, 1) := by decide +kernel
theorem dX5_demandIn_36 : decode cX5_demandIn 36 = .ok (.ldc2_w 99, 3) := by decide +kernel
theorem dX5_demandIn_39 : decode cX5_demandIn 39 = .ok (.invokestatic 101, 3) := by decide +kernel
theorem dX5_demandIn_42 : decode cX5_demandIn 42 = .ok (.l2i, 1) := by decide +kernel
theorem dX5_demandIn_43 : decode cX5_demandIn 43 = .ok (.invokestatic 105, 3) := by decide +kernel
theorem dX5_demandIn_46 : decode cX5_demandIn 46 = .ok (.ireturn, 1) := by decide +kernel
set_option maxRecDepth 20000 in
theorem ggX5_targetIn_X10_elementOr : GoodIn wsX5_targetIn wsX10_elementOr := goodIn_r _ [8] (by decide +kernel) (by decide +kernel)
set_option maxRecDepth 20000 in
theorem gX5_targetIn_X10_elementOr_n95 : GoodIn wsX5_targetIn (wsX10_elementOr) := ggX5_targetIn_X10_elementOr
set_option maxRecDepth 20000 in
theorem ggX5_targetIn_X3_supplyAt : GoodIn wsX5_targetIn wsX3_supplyAt := goodIn_r _ [13, 14, 15, 16, 17, 18, 19, 12, 20, 6, 7, 8, 21, 22, 40, 41, 42] (by decide +kernel) (by decide +kernel)
set_option maxRecDepth 20000 in
theorem gX5_targetIn_X3_supplyAt : GoodIn wsX5_targetIn (wsV RX5 111 RX3 yX3_supplyAt wsX3_supplyAt) := goodIn_app (goodIn_of _ (by decide +kernel)) ggX5_targetIn_X3_supplyAt
set_option maxRecDepth 20000 in
theorem ggX5_targetIn_X7_valueOf : GoodIn wsX5_targetIn wsX7_valueOf := goodIn_r _ [27, 28, 6, 7, 8, 43] (by decide +kernel) (by decide +kernel)
set_option maxRecDepth 20000 in
theorem gX5_targetIn_X7_valueOf : GoodIn wsX5_targetIn (wsV RX5 88 RX7 yX7_valueOf wsX7_valueOf) := goodIn_app (goodIn_of _ (by decide +kernel)) ggX5_targetIn_X7_valueOf
theorem dX5_targetIn_0 : decode cX5_targetIn 0 = .ok (.aload_n 0, 1) := by decide +kernel
theorem dX5_targetIn_1 : decode cX5_targetIn 1 = .ok (.getfield 28, 3) := by decide +kernel
theorem dX5_targetIn_4 : decode cX5_targetIn 4 = .ok (.aload_n 0, 1) := by decide +kernel
theorem dX5_targetIn_5 : decode cX5_targetIn 5 = .ok (.getfield 21, 3) := by decide +kernel
theorem dX5_targetIn_8 : decode cX5_targetIn 8 = .ok (.getfield 92, 3) := by decide +kernel
theorem dX5_targetIn_11 : decode cX5_targetIn 11 = .ok (.iload_n 1, 1) := by decide +kernel
theorem dX5_targetIn_12 : decode cX5_targetIn 12 = .ok (.iconst 0, 1) := by decide +kernel
theorem dX5_targetIn_13 : decode cX5_targetIn 13 = .ok (.invokestatic 95, 3) := by decide +kernel
theorem dX5_targetIn_16 : decode cX5_targetIn 16 = .ok (.invokevirtual 111, 3) := by decide +kernel
theorem dX5_targetIn_19 : decode cX5_targetIn 19 = .ok (.istore_n 2, 1) := by decide +kernel
theorem dX5_targetIn_20 : decode cX5_targetIn 20 = .ok (.aload_n 0, 1) := by decide +kernel
theorem dX5_targetIn_21 : decode cX5_targetIn 21 = .ok (.getfield 21, 3) := by decide +kernel
theorem dX5_targetIn_24 : decode cX5_targetIn 24 = .ok (.getfield 114, 3) := by decide +kernel
theorem dX5_targetIn_27 : decode cX5_targetIn 27 = .ok (.iload_n 1, 1) := by decide +kernel
theorem dX5_targetIn_28 : decode cX5_targetIn 28 = .ok (.iconst 1, 1) := by decide +kernel
theorem dX5_targetIn_29 : decode cX5_targetIn 29 = .ok (.invokestatic 95, 3) := by decide +kernel
theorem dX5_targetIn_32 : decode cX5_targetIn 32 = .ok (.ifCond .ne 7, 3) := by decide +kernel
theorem dX5_targetIn_35 : decode cX5_targetIn 35 = .ok (.iconst 1, 1) := by decide +kernel
theorem dX5_targetIn_36 : decode cX5_targetIn 36 = .ok (.goto 4, 3) := by decide +kernel
theorem dX5_targetIn_39 : decode cX5_targetIn 39 = .ok (.iconst 0, 1) := by decide +kernel
theorem dX5_targetIn_40 : decode cX5_targetIn 40 = .ok (.istore_n 3, 1) := by decide +kernel
theorem dX5_targetIn_41 : decode cX5_targetIn 41 = .ok (.iload_n 3, 1) := by decide +kernel
theorem dX5_targetIn_42 : decode cX5_targetIn 42 = .ok (.ifCond .eq 16, 3) := by decide +kernel
theorem dX5_targetIn_45 : decode cX5_targetIn 45 = .ok (.iload_n 2, 1) := by decide +kernel
theorem dX5_targetIn_46 : decode cX5_targetIn 46 = .ok (.aload_n 0, 1) := by decide +kernel
theorem dX5_targetIn_47 : decode cX5_targetIn 47 = .ok (.getfield 12, 3) := by decide +kernel
theorem dX5_targetIn_50 : decode cX5_targetIn 50 = .ok (.iconst 5, 1) := by decide +kernel
theorem dX5_targetIn_51 : decode cX5_targetIn 51 = .ok (.invokevirtual 88, 3) := by decide +kernel
theorem dX5_targetIn_54 : decode cX5_targetIn 54 = .ok (.iadd, 1) := by decide +kernel
theorem dX5_targetIn_55 : decode cX5_targetIn 55 = .ok (.goto 4, 3) := by decide +kernel
theorem dX5_targetIn_58 : decode cX5_targetIn 58 = .ok (.iload_n 2, 1) := by decide +kernel
theorem dX5_targetIn_59 : decode cX5_targetIn 59 = .ok (.ireturn, 1) := by decide +kernel
set_option maxRecDepth 20000 in
theorem ggX5_advance_X5_readConditions : GoodIn wsX5_advance wsX5_readConditions := goodIn_r _ [6, 7, 8, 9, 10, 11, 12, 13, 14, 15, 16, 17, 18, 19, 20, 21, 22, 5, 23, 24, 25, 26, 27, 28, 29, 30, 31, 32, 33, 34, 35, 36, 37, 38, 39, 40, 41, 42, 43, 44, 45, 46, 47, 48, 49, 50, 51, 52, 53, 54, 182, 183, 184, 185, 186, 187, 188, 189, 190, 191, 192, 193, 194, 195, 196, 197, 198, 199, 200, 201] (by decide +kernel) (by decide +kernel)
set_option maxRecDepth 20000 in
theorem gX5_advance_X5_readConditions : GoodIn wsX5_advance (wsV RX5 117 RX5 yX5_readConditions wsX5_readConditions) := goodIn_app (goodIn_of _ (by decide +kernel)) ggX5_advance_X5_readConditions
set_option maxRecDepth 20000 in
theorem ggX5_advance_X5_simulateMinute : GoodIn wsX5_advance wsX5_simulateMinute := goodIn_r _ [58, 59, 24, 60, 7, 1, 61, 62, 15, 63, 64, 65, 30, 31, 32, 33, 34, 35, 17, 18, 19, 66, 67, 68, 69, 70, 71, 72, 73, 74, 75, 76, 77, 78, 79, 80, 81, 82, 83, 84, 85, 86, 87, 36, 37, 88, 89, 90, 91, 92, 93, 94, 95, 96, 97, 98, 99, 100, 101, 102, 103, 104, 105, 106, 107, 108, 109, 110, 111, 112, 113, 114, 115, 116, 117, 118, 119, 120, 121, 122, 5, 123, 10, 25, 124, 125, 126, 28, 127, 128, 129, 130, 131, 132, 133, 134, 135, 136, 137, 138, 139, 140, 141, 142, 143, 144, 145, 14, 146, 147, 148, 149, 150, 151, 152, 153, 154, 155, 156, 157, 158, 159, 160, 161, 162, 163, 164, 165, 166, 167, 168, 169, 170, 171, 172, 173, 174, 175, 176, 177, 178, 179, 180, 181, 182, 183, 184, 185, 186, 187, 188, 189, 202, 203, 204, 205, 206, 207, 208, 193, 194, 195, 196, 197, 209, 210, 211, 212, 213, 214, 215, 216, 217, 218, 219, 198, 220, 221] (by decide +kernel) (by decide +kernel)
set_option maxRecDepth 20000 in
theorem gX5_advance_X5_simulateMinute : GoodIn wsX5_advance (wsV RX5 121 RX5 yX5_simulateMinute wsX5_simulateMinute) := goodIn_app (goodIn_of _ (by decide +kernel)) ggX5_advance_X5_simulateMinute
theorem dX5_advance_0 : decode cX5_advance 0 = .ok (.iconst 0, 1) := by decide +kernel
theorem dX5_advance_1 : decode cX5_advance 1 = .ok (.istore_n 2, 1) := by decide +kernel
theorem dX5_advance_2 : decode cX5_advance 2 = .ok (.iload_n 2, 1) := by decide +kernel
theorem dX5_advance_3 : decode cX5_advance 3 = .ok (.iload_n 1, 1) := by decide +kernel
theorem dX5_advance_4 : decode cX5_advance 4 = .ok (.if_icmp .ge 41, 3) := by decide +kernel
theorem dX5_advance_7 : decode cX5_advance 7 = .ok (.iload_n 2, 1) := by decide +kernel
theorem dX5_advance_8 : decode cX5_advance 8 = .ok (.ifCond .eq 13, 3) := by decide +kernel
theorem dX5_advance_11 : decode cX5_advance 11 = .ok (.aload_n 0, 1) := by decide +kernel
theorem dX5_advance_12 : decode cX5_advance 12 = .ok (.getfield 84, 3) := by decide +kernel
theorem dX5_advance_15 : decode cX5_advance 15 = .ok (.bipush 60, 2) := by decide +kernel
theorem dX5_advance_17 : decode cX5_advance 17 = .ok (.irem, 1) := by decide +kernel
theorem dX5_advance_18 : decode cX5_advance 18 = .ok (.ifCond .ne 17, 3) := by decide +kernel
theorem dX5_advance_21 : decode cX5_advance 21 = .ok (.aload_n 0, 1) := by decide +kernel
theorem dX5_advance_22 : decode cX5_advance 22 = .ok (.aload_n 0, 1) := by decide +kernel
theorem dX5_advance_23 : decode cX5_advance 23 = .ok (.getfield 84, 3) := by decide +kernel
theorem dX5_advance_26 : decode cX5_advance 26 = .ok (.bipush 60, 2) := by decide +kernel
theorem dX5_advance_28 : decode cX5_advance 28 = .ok (.idiv, 1) := by decide +kernel
theorem dX5_advance_29 : decode cX5_advance 29 = .ok (.bipush 24, 2) := by decide +kernel
theorem dX5_advance_31 : decode cX5_advance 31 = .ok (.irem, 1) := by decide +kernel
theorem dX5_advance_32 : decode cX5_advance 32 = .ok (.invokevirtual 117, 3) := by decide +kernel
theorem dX5_advance_35 : decode cX5_advance 35 = .ok (.aload_n 0, 1) := by decide +kernel
theorem dX5_advance_36 : decode cX5_advance 36 = .ok (.invokevirtual 121, 3) := by decide +kernel
theorem dX5_advance_39 : decode cX5_advance 39 = .ok (.iinc 2 1, 3) := by decide +kernel
theorem dX5_advance_42 : decode cX5_advance 42 = .ok (.goto (-40), 3) := by decide +kernel
theorem dX5_advance_45 : decode cX5_advance 45 = .ok (.return_, 1) := by decide +kernel
set_option maxRecDepth 20000 in
theorem ggX5_readConditions_X10_elementOr : GoodIn wsX5_readConditions wsX10_elementOr := goodIn_r _ [13] (by decide +kernel) (by decide +kernel)
set_option maxRecDepth 20000 in
theorem gX5_readConditions_X10_elementOr_n95 : GoodIn wsX5_readConditions (wsX10_elementOr) := ggX5_readConditions_X10_elementOr
set_option maxRecDepth 20000 in
theorem ggX5_readConditions_X5_demandIn : GoodIn wsX5_readConditions wsX5_demandIn := goodIn_r _ [18, 19, 2, 3, 20, 21, 22, 23, 24, 25, 26, 27, 28, 29, 30, 11, 12, 13, 31, 32, 50, 51, 52, 53, 54, 55, 56, 57, 58, 59, 60, 66] (by decide +kernel) (by decide +kernel)
set_option maxRecDepth 20000 in
theorem gX5_readConditions_X5_demandIn : GoodIn wsX5_readConditions (wsV RX5 136 RX5 yX5_demandIn wsX5_demandIn) := goodIn_app (goodIn_of _ (by decide +kernel)) ggX5_readConditions_X5_demandIn
set_option maxRecDepth 20000 in
theorem ggX5_readConditions_X5_targetIn : GoodIn wsX5_readConditions wsX5_targetIn := goodIn_r _ [36, 37, 2, 3, 5, 19, 11, 12, 13, 38, 39, 40, 41, 42, 43, 44, 45, 46, 47, 48, 49, 31, 32, 25, 26, 27, 28, 29, 30, 50, 51, 52, 53, 54, 55, 56, 57, 58, 59, 60, 67, 68, 69, 66] (by decide +kernel) (by decide +kernel)
set_option maxRecDepth 20000 in
theorem gX5_readConditions_X5_targetIn : GoodIn wsX5_readConditions (wsV RX5 142 RX5 yX5_targetIn wsX5_targetIn) := goodIn_app (goodIn_of _ (by decide +kernel)) ggX5_readConditions_X5_targetIn
theorem dX5_readConditions_0 : decode cX5_readConditions 0 = .ok (.aload_n 0, 1) := by decide +kernel
theorem dX5_readConditions_1 : decode cX5_readConditions 1 = .ok (.getfield 56, 3) := by decide +kernel
theorem dX5_readConditions_4 : decode cX5_readConditions 4 = .ok (.aload_n 0, 1) := by decide +kernel
theorem dX5_readConditions_5 : decode cX5_readConditions 5 = .ok (.getfield 21, 3) := by decide +kernel
theorem dX5_readConditions_8 : decode cX5_readConditions 8 = .ok (.getfield 92, 3) := by decide +kernel
theorem dX5_readConditions_11 : decode cX5_readConditions 11 = .ok (.iload_n 1, 1) := by decide +kernel
theorem dX5_readConditions_12 : decode cX5_readConditions 12 = .ok (.iconst 0, 1) := by decide +kernel
theorem dX5_readConditions_13 : decode cX5_readConditions 13 = .ok (.invokestatic 95, 3) := by decide +kernel
theorem dX5_readConditions_16 : decode cX5_readConditions 16 = .ok (.putfield 124, 3) := by decide +kernel
theorem dX5_readConditions_19 : decode cX5_readConditions 19 = .ok (.aload_n 0, 1) := by decide +kernel
theorem dX5_readConditions_20 : decode cX5_readConditions 20 = .ok (.getfield 56, 3) := by decide +kernel
theorem dX5_readConditions_23 : decode cX5_readConditions 23 = .ok (.aload_n 0, 1) := by decide +kernel
theorem dX5_readConditions_24 : decode cX5_readConditions 24 = .ok (.getfield 21, 3) := by decide +kernel
theorem dX5_readConditions_27 : decode cX5_readConditions 27 = .ok (.getfield 114, 3) := by decide +kernel
theorem dX5_readConditions_30 : decode cX5_readConditions 30 = .ok (.iload_n 1, 1) := by decide +kernel
theorem dX5_readConditions_31 : decode cX5_readConditions 31 = .ok (.iconst 1, 1) := by decide +kernel
theorem dX5_readConditions_32 : decode cX5_readConditions 32 = .ok (.invokestatic 95, 3) := by decide +kernel
theorem dX5_readConditions_35 : decode cX5_readConditions 35 = .ok (.putfield 127, 3) := by decide +kernel
theorem dX5_readConditions_38 : decode cX5_readConditions 38 = .ok (.aload_n 0, 1) := by decide +kernel
theorem dX5_readConditions_39 : decode cX5_readConditions 39 = .ok (.getfield 56, 3) := by decide +kernel
theorem dX5_readConditions_42 : decode cX5_readConditions 42 = .ok (.aload_n 0, 1) := by decide +kernel
theorem dX5_readConditions_43 : decode cX5_readConditions 43 = .ok (.getfield 21, 3) := by decide +kernel
theorem dX5_readConditions_46 : decode cX5_readConditions 46 = .ok (.getfield 130, 3) := by decide +kernel
theorem dX5_readConditions_49 : decode cX5_readConditions 49 = .ok (.aload_n 0, 1) := by decide +kernel
theorem dX5_readConditions_50 : decode cX5_readConditions 50 = .ok (.getfield 56, 3) := by decide +kernel
theorem dX5_readConditions_53 : decode cX5_readConditions 53 = .ok (.getfield 127, 3) := by decide +kernel
theorem dX5_readConditions_56 : decode cX5_readConditions 56 = .ok (.iconst 0, 1) := by decide +kernel
theorem dX5_readConditions_57 : decode cX5_readConditions 57 = .ok (.invokestatic 95, 3) := by decide +kernel
theorem dX5_readConditions_60 : decode cX5_readConditions 60 = .ok (.putfield 133, 3) := by decide +kernel
theorem dX5_readConditions_63 : decode cX5_readConditions 63 = .ok (.aload_n 0, 1) := by decide +kernel
theorem dX5_readConditions_64 : decode cX5_readConditions 64 = .ok (.getfield 56, 3) := by decide +kernel
theorem dX5_readConditions_67 : decode cX5_readConditions 67 = .ok (.aload_n 0, 1) := by decide +kernel
theorem dX5_readConditions_68 : decode cX5_readConditions 68 = .ok (.iload_n 1, 1) := by decide +kernel
theorem dX5_readConditions_69 : decode cX5_readConditions 69 = .ok (.invokevirtual 136, 3) := by decide +kernel
theorem dX5_readConditions_72 : decode cX5_readConditions 72 = .ok (.putfield 139, 3) := by decide +kernel
theorem dX5_readConditions_75 : decode cX5_readConditions 75 = .ok (.aload_n 0, 1) := by decide +kernel
theorem dX5_readConditions_76 : decode cX5_readConditions 76 = .ok (.getfield 56, 3) := by decide +kernel
theorem dX5_readConditions_79 : decode cX5_readConditions 79 = .ok (.aload_n 0, 1) := by decide +kernel
theorem dX5_readConditions_80 : decode cX5_readConditions 80 = .ok (.iload_n 1, 1) := by decide +kernel
theorem dX5_readConditions_81 : decode cX5_readConditions 81 = .ok (.invokevirtual 142, 3) := by decide +kernel
theorem dX5_readConditions_84 : decode cX5_readConditions 84 = .ok (.putfield 145, 3) := by decide +kernel
theorem dX5_readConditions_87 : decode cX5_readConditions 87 = .ok (.return_, 1) := by decide +kernel
set_option maxRecDepth 20000 in
theorem ggX5_simulateMinute_X7_valueOf : GoodIn wsX5_simulateMinute wsX7_valueOf := goodIn_r _ [16, 17, 18, 19, 20, 175] (by decide +kernel) (by decide +kernel)
set_option maxRecDepth 20000 in
theorem gX5_simulateMinute_X7_valueOf : GoodIn wsX5_simulateMinute (wsV RX5 88 RX7 yX7_valueOf wsX7_valueOf) := goodIn_app (goodIn_of _ (by decide +kernel)) ggX5_simulateMinute_X7_valueOf
set_option maxRecDepth 20000 in
theorem ggX5_simulateMinute_X6_endDefrosting : GoodIn wsX5_simulateMinute wsX6_endDefrosting := goodIn_r _ [25, 26, 27, 28, 152, 153, 154, 155, 156, 157, 158] (by decide +kernel) (by decide +kernel)
set_option maxRecDepth 20000 in
theorem gX5_simulateMinute_X6_endDefrosting : GoodIn wsX5_simulateMinute (wsV RX5 148 RX6 yX6_endDefrosting wsX6_endDefrosting) := goodIn_app (goodIn_of _ (by decide +kernel)) ggX5_simulateMinute_X6_endDefrosting
set_option maxRecDepth 20000 in
theorem ggX5_simulateMinute_X6_decide : GoodIn wsX5_simulateMinute wsX6_decide := goodIn_r _ [32, 26, 33, 34, 35, 36, 37, 38, 39, 40, 41, 42, 43, 19, 44, 45, 13, 14, 15, 16, 17, 18, 20, 46, 47, 48, 24, 49, 50, 28, 51, 52, 53, 54, 55, 56, 152, 153, 154, 155, 156, 157, 158, 159, 160, 161, 162, 163, 176, 177, 175] (by decide +kernel) (by decide +kernel)
set_option maxRecDepth 20000 in
theorem gX5_simulateMinute_X6_decide : GoodIn wsX5_simulateMinute (wsV RX5 151 RX6 yX6_decide wsX6_decide) := goodIn_app (goodIn_of _ (by decide +kernel)) ggX5_simulateMinute_X6_decide
set_option maxRecDepth 20000 in
theorem ggX5_simulateMinute_X6_obey : GoodIn wsX5_simulateMinute wsX6_obey := goodIn_r _ [60, 26, 55, 27, 50, 152, 153, 154, 155, 156, 157, 158] (by decide +kernel) (by decide +kernel)
set_option maxRecDepth 20000 in
theorem gX5_simulateMinute_X6_obey : GoodIn wsX5_simulateMinute (wsV RX5 155 RX6 yX6_obey wsX6_obey) := goodIn_app (goodIn_of _ (by decide +kernel)) ggX5_simulateMinute_X6_obey
set_option maxRecDepth 20000 in
theorem ggX5_simulateMinute_X6_noteStart : GoodIn wsX5_simulateMinute wsX6_noteStart := goodIn_r _ [64, 56, 65, 18, 19, 20, 66, 67, 152, 153, 154, 155, 156, 157, 158] (by decide +kernel) (by decide +kernel)
set_option maxRecDepth 20000 in
theorem gX5_simulateMinute_X6_noteStart : GoodIn wsX5_simulateMinute (wsV RX5 158 RX6 yX6_noteStart wsX6_noteStart) := goodIn_app (goodIn_of _ (by decide +kernel)) ggX5_simulateMinute_X6_noteStart
set_option maxRecDepth 20000 in
theorem ggX5_simulateMinute_X0_countMinute : GoodIn wsX5_simulateMinute wsX0_countMinute := goodIn_r _ [72, 73, 74, 75, 76, 18, 19, 20, 66, 67, 164, 165, 166, 167, 168, 169, 170, 171, 172, 173, 174] (by decide +kernel) (by decide +kernel)
set_option maxRecDepth 20000 in
theorem gX5_simulateMinute_X0_countMinute : GoodIn wsX5_simulateMinute (wsV RX5 162 RX0 yX0_countMinute wsX0_countMinute) := goodIn_app (goodIn_of _ (by decide +kernel)) ggX5_simulateMinute_X0_countMinute
set_option maxRecDepth 20000 in
theorem ggX5_simulateMinute_X5_produce : GoodIn wsX5_simulateMinute wsX5_produce := goodIn_r _ [81, 4, 82, 2, 83, 84, 85, 86, 87, 88, 89, 90, 91, 3, 92, 93, 94, 95, 96, 97, 6, 98, 1, 99, 12, 13, 14, 15, 16, 17, 18, 19, 20, 43, 44, 100, 36, 37, 38, 39, 40, 41, 42, 101, 102, 103, 80, 104, 105, 106, 107, 108, 109, 110, 111, 144, 145, 146, 147, 148, 149, 150, 151, 159, 160, 161, 162, 163, 164, 165, 166, 167, 168, 169, 170, 171, 172, 173, 174, 152, 153, 154, 155, 156, 157, 158, 175, 176, 177] (by decide +kernel) (by decide +kernel)
set_option maxRecDepth 20000 in
theorem gX5_simulateMinute_X5_produce : GoodIn wsX5_simulateMinute (wsV RX5 168 RX5 yX5_produce wsX5_produce) := goodIn_app (goodIn_of _ (by decide +kernel)) ggX5_simulateMinute_X5_produce
set_option maxRecDepth 20000 in
theorem ggX5_simulateMinute_X5_defrost : GoodIn wsX5_simulateMinute wsX5_defrost := goodIn_r _ [115, 2, 3, 6, 116, 117, 12, 13, 14, 15, 16, 17, 18, 19, 20, 108, 109, 110, 38, 111, 40, 101, 102, 103, 80, 104, 105, 106, 4, 107, 144, 145, 146, 147, 148, 149, 150, 151, 164, 165, 166, 167, 168, 169, 170, 171, 172, 173, 174, 175, 176, 177, 159, 160, 161, 162, 163] (by decide +kernel) (by decide +kernel)
set_option maxRecDepth 20000 in
theorem gX5_simulateMinute_X5_defrost : GoodIn wsX5_simulateMinute (wsV RX5 171 RX5 yX5_defrost wsX5_defrost) := goodIn_app (goodIn_of _ (by decide +kernel)) ggX5_simulateMinute_X5_defrost
set_option maxRecDepth 20000 in
theorem ggX5_simulateMinute_X1_draw : GoodIn wsX5_simulateMinute wsX1_draw := goodIn_r _ [121, 40, 122, 41, 123, 96, 87, 97, 124, 86, 88, 176, 177] (by decide +kernel) (by decide +kernel)
set_option maxRecDepth 20000 in
theorem gX5_simulateMinute_X1_draw : GoodIn wsX5_simulateMinute (wsV RX5 174 RX1 yX1_draw wsX1_draw) := goodIn_app (goodIn_of _ (by decide +kernel)) ggX5_simulateMinute_X1_draw
set_option maxRecDepth 20000 in
theorem ggX5_simulateMinute_X1_lose : GoodIn wsX5_simulateMinute wsX1_lose := goodIn_r _ [128, 40, 122, 129, 124, 86, 87, 88, 130, 36, 37, 38, 39, 41, 42, 43, 19, 44, 176, 177] (by decide +kernel) (by decide +kernel)
set_option maxRecDepth 20000 in
theorem gX5_simulateMinute_X1_lose : GoodIn wsX5_simulateMinute (wsV RX5 188 RX1 yX1_lose wsX1_lose) := goodIn_app (goodIn_of _ (by decide +kernel)) ggX5_simulateMinute_X1_lose
set_option maxRecDepth 20000 in
theorem ggX5_simulateMinute_X1_rise : GoodIn wsX5_simulateMinute wsX1_rise := goodIn_r _ [134, 40, 135, 130, 36, 37, 38, 39, 41, 42, 43, 19, 44, 176, 177] (by decide +kernel) (by decide +kernel)
set_option maxRecDepth 20000 in
theorem gX5_simulateMinute_X1_rise : GoodIn wsX5_simulateMinute (wsV RX5 192 RX1 yX1_rise wsX1_rise) := goodIn_app (goodIn_of _ (by decide +kernel)) ggX5_simulateMinute_X1_rise
set_option maxRecDepth 20000 in
theorem ggX5_simulateMinute_X1_conduct : GoodIn wsX5_simulateMinute wsX1_conduct := goodIn_r _ [139, 40, 129, 130, 36, 37, 38, 39, 41, 42, 43, 19, 44, 176, 177] (by decide +kernel) (by decide +kernel)
set_option maxRecDepth 20000 in
theorem gX5_simulateMinute_X1_conduct : GoodIn wsX5_simulateMinute (wsV RX5 195 RX1 yX1_conduct wsX1_conduct) := goodIn_app (goodIn_of _ (by decide +kernel)) ggX5_simulateMinute_X1_conduct
set_option maxRecDepth 20000 in
theorem ggX5_simulateMinute_X6_countMinute : GoodIn wsX5_simulateMinute wsX6_countMinute := goodIn_r _ [143, 26, 55, 50, 27, 152, 153, 154, 155, 156, 157, 158] (by decide +kernel) (by decide +kernel)
set_option maxRecDepth 20000 in
theorem gX5_simulateMinute_X6_countMinute : GoodIn wsX5_simulateMinute (wsV RX5 198 RX6 yX6_countMinute wsX6_countMinute) := goodIn_app (goodIn_of _ (by decide +kernel)) ggX5_simulateMinute_X6_countMinute
theorem dX5_simulateMinute_0 : decode cX5_simulateMinute 0 = .ok (.aload_n 0, 1) := by decide +kernel
theorem dX5_simulateMinute_1 : decode cX5_simulateMinute 1 = .ok (.getfield 42, 3) := by decide +kernel
theorem dX5_simulateMinute_4 : decode cX5_simulateMinute 4 = .ok (.aload_n 0, 1) := by decide +kernel
theorem dX5_simulateMinute_5 : decode cX5_simulateMinute 5 = .ok (.getfield 12, 3) := by decide +kernel
theorem dX5_simulateMinute_8 : decode cX5_simulateMinute 8 = .ok (.bipush 11, 2) := by decide +kernel
theorem dX5_simulateMinute_10 : decode cX5_simulateMinute 10 = .ok (.invokevirtual 88, 3) := by decide +kernel
theorem dX5_simulateMinute_13 : decode cX5_simulateMinute 13 = .ok (.invokevirtual 148, 3) := by decide +kernel
theorem dX5_simulateMinute_16 : decode cX5_simulateMinute 16 = .ok (.aload_n 0, 1) := by decide +kernel
theorem dX5_simulateMinute_17 : decode cX5_simulateMinute 17 = .ok (.getfield 42, 3) := by decide +kernel
theorem dX5_simulateMinute_20 : decode cX5_simulateMinute 20 = .ok (.aload_n 0, 1) := by decide +kernel
theorem dX5_simulateMinute_21 : decode cX5_simulateMinute 21 = .ok (.getfield 12, 3) := by decide +kernel
theorem dX5_simulateMinute_24 : decode cX5_simulateMinute 24 = .ok (.aload_n 0, 1) := by decide +kernel
theorem dX5_simulateMinute_25 : decode cX5_simulateMinute 25 = .ok (.getfield 35, 3) := by decide +kernel
theorem dX5_simulateMinute_28 : decode cX5_simulateMinute 28 = .ok (.aload_n 0, 1) := by decide +kernel
theorem dX5_simulateMinute_29 : decode cX5_simulateMinute 29 = .ok (.getfield 56, 3) := by decide +kernel
theorem dX5_simulateMinute_32 : decode cX5_simulateMinute 32 = .ok (.invokevirtual 151, 3) := by decide +kernel
theorem dX5_simulateMinute_35 : decode cX5_simulateMinute 35 = .ok (.istore_n 1, 1) := by decide +kernel
theorem dX5_simulateMinute_36 : decode cX5_simulateMinute 36 = .ok (.aload_n 0, 1) := by decide +kernel
theorem dX5_simulateMinute_37 : decode cX5_simulateMinute 37 = .ok (.getfield 42, 3) := by decide +kernel
theorem dX5_simulateMinute_40 : decode cX5_simulateMinute 40 = .ok (.iload_n 1, 1) := by decide +kernel
theorem dX5_simulateMinute_41 : decode cX5_simulateMinute 41 = .ok (.invokevirtual 155, 3) := by decide +kernel
theorem dX5_simulateMinute_44 : decode cX5_simulateMinute 44 = .ok (.aload_n 0, 1) := by decide +kernel
theorem dX5_simulateMinute_45 : decode cX5_simulateMinute 45 = .ok (.getfield 42, 3) := by decide +kernel
theorem dX5_simulateMinute_48 : decode cX5_simulateMinute 48 = .ok (.aload_n 0, 1) := by decide +kernel
theorem dX5_simulateMinute_49 : decode cX5_simulateMinute 49 = .ok (.getfield 84, 3) := by decide +kernel
theorem dX5_simulateMinute_52 : decode cX5_simulateMinute 52 = .ok (.iload_n 1, 1) := by decide +kernel
theorem dX5_simulateMinute_53 : decode cX5_simulateMinute 53 = .ok (.bipush 11, 2) := by decide +kernel
theorem dX5_simulateMinute_55 : decode cX5_simulateMinute 55 = .ok (.if_icmp .ne 7, 3) := by decide +kernel
theorem dX5_simulateMinute_58 : decode cX5_simulateMinute 58 = .ok (.iconst 1, 1) := by decide +kernel
theorem dX5_simulateMinute_59 : decode cX5_simulateMinute 59 = .ok (.goto 4, 3) := by decide +kernel
theorem dX5_simulateMinute_62 : decode cX5_simulateMinute 62 = .ok (.iconst 0, 1) := by decide +kernel
theorem dX5_simulateMinute_63 : decode cX5_simulateMinute 63 = .ok (.invokevirtual 158, 3) := by decide +kernel
theorem dX5_simulateMinute_66 : decode cX5_simulateMinute 66 = .ok (.aload_n 0, 1) := by decide +kernel
theorem dX5_simulateMinute_67 : decode cX5_simulateMinute 67 = .ok (.getfield 49, 3) := by decide +kernel
theorem dX5_simulateMinute_70 : decode cX5_simulateMinute 70 = .ok (.iload_n 1, 1) := by decide +kernel
theorem dX5_simulateMinute_71 : decode cX5_simulateMinute 71 = .ok (.invokevirtual 162, 3) := by decide +kernel
theorem dX5_simulateMinute_74 : decode cX5_simulateMinute 74 = .ok (.aload_n 0, 1) := by decide +kernel
theorem dX5_simulateMinute_75 : decode cX5_simulateMinute 75 = .ok (.getfield 42, 3) := by decide +kernel
theorem dX5_simulateMinute_78 : decode cX5_simulateMinute 78 = .ok (.getfield 165, 3) := by decide +kernel
theorem dX5_simulateMinute_81 : decode cX5_simulateMinute 81 = .ok (.iconst 1, 1) := by decide +kernel
theorem dX5_simulateMinute_82 : decode cX5_simulateMinute 82 = .ok (.if_icmp .ne 10, 3) := by decide +kernel
theorem dX5_simulateMinute_85 : decode cX5_simulateMinute 85 = .ok (.aload_n 0, 1) := by decide +kernel
theorem dX5_simulateMinute_86 : decode cX5_simulateMinute 86 = .ok (.invokevirtual 168, 3) := by decide +kernel
theorem dX5_simulateMinute_89 : decode cX5_simulateMinute 89 = .ok (.goto 18, 3) := by decide +kernel
theorem dX5_simulateMinute_92 : decode cX5_simulateMinute 92 = .ok (.aload_n 0, 1) := by decide +kernel
theorem dX5_simulateMinute_93 : decode cX5_simulateMinute 93 = .ok (.getfield 42, 3) := by decide +kernel
theorem dX5_simulateMinute_96 : decode cX5_simulateMinute 96 = .ok (.getfield 165, 3) := by decide +kernel
theorem dX5_simulateMinute_99 : decode cX5_simulateMinute 99 = .ok (.iconst 2, 1) := by decide +kernel
theorem dX5_simulateMinute_100 : decode cX5_simulateMinute 100 = .ok (.if_icmp .ne 7, 3) := by decide +kernel
theorem dX5_simulateMinute_103 : decode cX5_simulateMinute 103 = .ok (.aload_n 0, 1) := by decide +kernel
theorem dX5_simulateMinute_104 : decode cX5_simulateMinute 104 = .ok (.invokevirtual 171, 3) := by decide +kernel
theorem dX5_simulateMinute_107 : decode cX5_simulateMinute 107 = .ok (.aload_n 0, 1) := by decide +kernel
theorem dX5_simulateMinute_108 : decode cX5_simulateMinute 108 = .ok (.getfield 35, 3) := by decide +kernel
theorem dX5_simulateMinute_111 : decode cX5_simulateMinute 111 = .ok (.aload_n 0, 1) := by decide +kernel
theorem dX5_simulateMinute_112 : decode cX5_simulateMinute 112 = .ok (.getfield 56, 3) := by decide +kernel
theorem dX5_simulateMinute_115 : decode cX5_simulateMinute 115 = .ok (.getfield 139, 3) := by decide +kernel
theorem dX5_simulateMinute_118 : decode cX5_simulateMinute 118 = .ok (.i2l, 1) := by decide +kernel
theorem dX5_simulateMinute_119 : decode cX5_simulateMinute 119 = .ok (.invokevirtual 174, 3) := by decide +kernel
theorem dX5_simulateMinute_122 : decode cX5_simulateMinute 122 = .ok (.lstore_n 2, 1) := by decide +kernel
theorem dX5_simulateMinute_123 : decode cX5_simulateMinute 123 = .ok (.aload_n 0, 1) := by decide +kernel
theorem dX5_simulateMinute_124 : decode cX5_simulateMinute 124 = .ok (.getfield 49, 3) := by decide +kernel
theorem dX5_simulateMinute_127 : decode cX5_simulateMinute 127 = .ok (.dup, 1) := by decide +kernel
theorem dX5_simulateMinute_128 : decode cX5_simulateMinute 128 = .ok (.getfield 178, 3) := by decide +kernel
theorem dX5_simulateMinute_131 : decode cX5_simulateMinute 131 = .ok (.lload_n 2, 1) := by decide +kernel
theorem dX5_simulateMinute_132 : decode cX5_simulateMinute 132 = .ok (.ladd, 1) := by decide +kernel
theorem dX5_simulateMinute_133 : decode cX5_simulateMinute 133 = .ok (.putfield 178, 3) := by decide +kernel
theorem dX5_simulateMinute_136 : decode cX5_simulateMinute 136 = .ok (.aload_n 0, 1) := by decide +kernel
theorem dX5_simulateMinute_137 : decode cX5_simulateMinute 137 = .ok (.getfield 49, 3) := by decide +kernel
theorem dX5_simulateMinute_140 : decode cX5_simulateMinute 140 = .ok (.dup, 1) := by decide +kernel
theorem dX5_simulateMinute_141 : decode cX5_simulateMinute 141 = .ok (.getfield 182, 3) := by decide +kernel
theorem dX5_simulateMinute_144 : decode cX5_simulateMinute 144 = .ok (.aload_n 0, 1) := by decide +kernel
theorem dX5_simulateMinute_145 : decode cX5_simulateMinute 145 = .ok (.getfield 56, 3) := by decide +kernel
theorem dX5_simulateMinute_148 : decode cX5_simulateMinute 148 = .ok (.getfield 139, 3) := by decide +kernel
theorem dX5_simulateMinute_151 : decode cX5_simulateMinute 151 = .ok (.i2l, 1) := by decide +kernel
theorem dX5_simulateMinute_152 : decode cX5_simulateMinute 152 = .ok (.lload_n 2, 1) := by decide +kernel
theorem dX5_simulateMinute_153 : decode cX5_simulateMinute 153 = .ok (.lsub, 1) := by decide +kernel
theorem dX5_simulateMinute_154 : decode cX5_simulateMinute 154 = .ok (.ladd, 1) := by decide +kernel
theorem dX5_simulateMinute_155 : decode cX5_simulateMinute 155 = .ok (.putfield 182, 3) := by decide +kernel
theorem dX5_simulateMinute_158 : decode cX5_simulateMinute 158 = .ok (.aload_n 0, 1) := by decide +kernel
theorem dX5_simulateMinute_159 : decode cX5_simulateMinute 159 = .ok (.getfield 49, 3) := by decide +kernel
theorem dX5_simulateMinute_162 : decode cX5_simulateMinute 162 = .ok (.dup, 1) := by decide +kernel
theorem dX5_simulateMinute_163 : decode cX5_simulateMinute 163 = .ok (.getfield 185, 3) := by decide +kernel
theorem dX5_simulateMinute_166 : decode cX5_simulateMinute 166 = .ok (.aload_n 0, 1) := by decide +kernel
theorem dX5_simulateMinute_167 : decode cX5_simulateMinute 167 = .ok (.getfield 35, 3) := by decide +kernel
theorem dX5_simulateMinute_170 : decode cX5_simulateMinute 170 = .ok (.aload_n 0, 1) := by decide +kernel
theorem dX5_simulateMinute_171 : decode cX5_simulateMinute 171 = .ok (.getfield 12, 3) := by decide +kernel
theorem dX5_simulateMinute_174 : decode cX5_simulateMinute 174 = .ok (.bipush 13, 2) := by decide +kernel
theorem dX5_simulateMinute_176 : decode cX5_simulateMinute 176 = .ok (.invokevirtual 88, 3) := by decide +kernel
theorem dX5_simulateMinute_179 : decode cX5_simulateMinute 179 = .ok (.invokevirtual 188, 3) := by decide +kernel
theorem dX5_simulateMinute_182 : decode cX5_simulateMinute 182 = .ok (.ladd, 1) := by decide +kernel
theorem dX5_simulateMinute_183 : decode cX5_simulateMinute 183 = .ok (.putfield 185, 3) := by decide +kernel
theorem dX5_simulateMinute_186 : decode cX5_simulateMinute 186 = .ok (.aload_n 0, 1) := by decide +kernel
theorem dX5_simulateMinute_187 : decode cX5_simulateMinute 187 = .ok (.getfield 35, 3) := by decide +kernel
theorem dX5_simulateMinute_190 : decode cX5_simulateMinute 190 = .ok (.invokevirtual 192, 3) := by decide +kernel
theorem dX5_simulateMinute_193 : decode cX5_simulateMinute 193 = .ok (.aload_n 0, 1) := by decide +kernel
theorem dX5_simulateMinute_194 : decode cX5_simulateMinute 194 = .ok (.getfield 35, 3) := by decide +kernel
theorem dX5_simulateMinute_197 : decode cX5_simulateMinute 197 = .ok (.aload_n 0, 1) := by decide +kernel
theorem dX5_simulateMinute_198 : decode cX5_simulateMinute 198 = .ok (.getfield 12, 3) := by decide +kernel
theorem dX5_simulateMinute_201 : decode cX5_simulateMinute 201 = .ok (.bipush 14, 2) := by decide +kernel
theorem dX5_simulateMinute_203 : decode cX5_simulateMinute 203 = .ok (.invokevirtual 88, 3) := by decide +kernel
theorem dX5_simulateMinute_206 : decode cX5_simulateMinute 206 = .ok (.invokevirtual 195, 3) := by decide +kernel
theorem dX5_simulateMinute_209 : decode cX5_simulateMinute 209 = .ok (.aload_n 0, 1) := by decide +kernel
theorem dX5_simulateMinute_210 : decode cX5_simulateMinute 210 = .ok (.getfield 42, 3) := by decide +kernel
theorem dX5_simulateMinute_213 : decode cX5_simulateMinute 213 = .ok (.invokevirtual 198, 3) := by decide +kernel
theorem dX5_simulateMinute_216 : decode cX5_simulateMinute 216 = .ok (.aload_n 0, 1) := by decide +kernel
theorem dX5_simulateMinute_217 : decode cX5_simulateMinute 217 = .ok (.dup, 1) := by decide +kernel
theorem dX5_simulateMinute_218 : decode cX5_simulateMinute 218 = .ok (.getfield 84, 3) := by decide +kernel
theorem dX5_simulateMinute_221 : decode cX5_simulateMinute 221 = .ok (.iconst 1, 1) := by decide +kernel
theorem dX5_simulateMinute_222 : decode cX5_simulateMinute 222 = .ok (.iadd, 1) := by decide +kernel
theorem dX5_simulateMinute_223 : decode cX5_simulateMinute 223 = .ok (.putfield 84, 3) := by decide +kernel
theorem dX5_simulateMinute_226 : decode cX5_simulateMinute 226 = .ok (.return_, 1) := by decide +kernel
set_option maxRecDepth 20000 in
theorem ggX5_produce_X7_valueOf : GoodIn wsX5_produce wsX7_valueOf := goodIn_r _ [28, 29, 30, 31, 32, 86] (by decide +kernel) (by decide +kernel)
set_option maxRecDepth 20000 in
theorem gX5_produce_X7_valueOf : GoodIn wsX5_produce (wsV RX5 88 RX7 yX7_valueOf wsX7_valueOf) := goodIn_app (goodIn_of _ (by decide +kernel)) ggX5_produce_X7_valueOf
set_option maxRecDepth 20000 in
theorem ggX5_produce_X10_div : GoodIn wsX5_produce wsX10_div := goodIn_r _ [34] (by decide +kernel) (by decide +kernel)
set_option maxRecDepth 20000 in
theorem gX5_produce_X10_div_n101 : GoodIn wsX5_produce (wsX10_div) := ggX5_produce_X10_div
set_option maxRecDepth 20000 in
theorem ggX5_produce_X1_temperatureOf : GoodIn wsX5_produce wsX1_temperatureOf := goodIn_r _ [39, 40, 41, 42, 33, 31, 34, 87, 88] (by decide +kernel) (by decide +kernel)
set_option maxRecDepth 20000 in
theorem gX5_produce_X1_temperatureOf : GoodIn wsX5_produce (wsV RX5 210 RX1 yX1_temperatureOf wsX1_temperatureOf) := goodIn_app (goodIn_of _ (by decide +kernel)) ggX5_produce_X1_temperatureOf
set_option maxRecDepth 20000 in
theorem ggX5_produce_X5_use : GoodIn wsX5_produce wsX5_use := goodIn_r _ [47, 20, 48, 49, 1, 50, 55, 56, 57, 58, 59, 60, 61, 62, 68, 69, 70, 71, 72, 73, 74, 75, 76, 77, 78, 63, 64, 65, 66, 67] (by decide +kernel) (by decide +kernel)
set_option maxRecDepth 20000 in
theorem gX5_produce_X5_use : GoodIn wsX5_produce (wsV RX5 222 RX5 yX5_use wsX5_use) := goodIn_app (goodIn_of _ (by decide +kernel)) ggX5_produce_X5_use
set_option maxRecDepth 20000 in
theorem ggX5_produce_X1_add : GoodIn wsX5_produce wsX1_add := goodIn_r _ [54, 40, 87, 88] (by decide +kernel) (by decide +kernel)
set_option maxRecDepth 20000 in
theorem gX5_produce_X1_add : GoodIn wsX5_produce (wsV RX5 226 RX1 yX1_add wsX1_add) := goodIn_app (goodIn_of _ (by decide +kernel)) ggX5_produce_X1_add
theorem dX5_produce_0 : decode cX5_produce 0 = .ok (.aload_n 0, 1) := by decide +kernel
theorem dX5_produce_1 : decode cX5_produce 1 = .ok (.getfield 56, 3) := by decide +kernel
theorem dX5_produce_4 : decode cX5_produce 4 = .ok (.getfield 124, 3) := by decide +kernel
theorem dX5_produce_7 : decode cX5_produce 7 = .ok (.istore_n 1, 1) := by decide +kernel
theorem dX5_produce_8 : decode cX5_produce 8 = .ok (.aload_n 0, 1) := by decide +kernel
theorem dX5_produce_9 : decode cX5_produce 9 = .ok (.getfield 12, 3) := by decide +kernel
theorem dX5_produce_12 : decode cX5_produce 12 = .ok (.bipush 7, 2) := by decide +kernel
theorem dX5_produce_14 : decode cX5_produce 14 = .ok (.invokevirtual 88, 3) := by decide +kernel
theorem dX5_produce_17 : decode cX5_produce 17 = .ok (.i2l, 1) := by decide +kernel
theorem dX5_produce_18 : decode cX5_produce 18 = .ok (.aload_n 0, 1) := by decide +kernel
theorem dX5_produce_19 : decode cX5_produce 19 = .ok (.getfield 12, 3) := by decide +kernel
theorem dX5_produce_22 : decode cX5_produce 22 = .ok (.bipush 8, 2) := by decide +kernel
theorem dX5_produce_24 : decode cX5_produce 24 = .ok (.invokevirtual 88, 3) := by decide +kernel
theorem dX5_produce_27 : decode cX5_produce 27 = .ok (.iload_n 1, 1) := by decide +kernel
theorem dX5_produce_28 : decode cX5_produce 28 = .ok (.imul, 1) := by decide +kernel
theorem dX5_produce_29 : decode cX5_produce 29 = .ok (.i2l, 1) := by decide +kernel
theorem dX5_produce_30 : decode cX5_produce 30 = .ok (.ldc2_w 99, 3) := by decide +kernel
theorem dX5_produce_33 : decode cX5_produce 33 = .ok (.invokestatic 101, 3) := by decide +kernel
theorem dX5_produce_36 : decode cX5_produce 36 = .ok (.ladd, 1) := by decide +kernel
theorem dX5_produce_37 : decode cX5_produce 37 = .ok (.lstore_n 2, 1) := by decide +kernel
theorem dX5_produce_38 : decode cX5_produce 38 = .ok (.ldc2_w 200, 3) := by decide +kernel
theorem dX5_produce_41 : decode cX5_produce 41 = .ok (.lload_n 2, 1) := by decide +kernel
theorem dX5_produce_42 : decode cX5_produce 42 = .ok (.invokestatic 202, 3) := by decide +kernel
theorem dX5_produce_45 : decode cX5_produce 45 = .ok (.lstore_n 2, 1) := by decide +kernel
theorem dX5_produce_46 : decode cX5_produce 46 = .ok (.ldc2_w 204, 3) := by decide +kernel
theorem dX5_produce_49 : decode cX5_produce 49 = .ok (.ldc2_w 206, 3) := by decide +kernel
theorem dX5_produce_52 : decode cX5_produce 52 = .ok (.iload_n 1, 1) := by decide +kernel
theorem dX5_produce_53 : decode cX5_produce 53 = .ok (.i2l, 1) := by decide +kernel
theorem dX5_produce_54 : decode cX5_produce 54 = .ok (.ldc2_w 99, 3) := by decide +kernel
theorem dX5_produce_57 : decode cX5_produce 57 = .ok (.invokestatic 101, 3) := by decide +kernel
theorem dX5_produce_60 : decode cX5_produce 60 = .ok (.lmul, 1) := by decide +kernel
theorem dX5_produce_61 : decode cX5_produce 61 = .ok (.ladd, 1) := by decide +kernel
theorem dX5_produce_62 : decode cX5_produce 62 = .ok (.ldc2_w 208, 3) := by decide +kernel
theorem dX5_produce_65 : decode cX5_produce 65 = .ok (.aload_n 0, 1) := by decide +kernel
theorem dX5_produce_66 : decode cX5_produce 66 = .ok (.getfield 35, 3) := by decide +kernel
theorem dX5_produce_69 : decode cX5_produce 69 = .ok (.iconst 3, 1) := by decide +kernel
theorem dX5_produce_70 : decode cX5_produce 70 = .ok (.invokevirtual 210, 3) := by decide +kernel
theorem dX5_produce_73 : decode cX5_produce 73 = .ok (.ldc2_w 213, 3) := by decide +kernel
