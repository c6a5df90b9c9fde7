theorem dX0_init_0 : decode cX0_init 0 = .ok (.aload_n 0, 1) := by decide +kernel
theorem dX0_init_1 : decode cX0_init 1 = .ok (.invokespecial 3, 3) := by decide +kernel
theorem dX0_init_4 : decode cX0_init 4 = .ok (.aload_n 0, 1) := by decide +kernel
theorem dX0_init_5 : decode cX0_init 5 = .ok (.bipush 12, 2) := by decide +kernel
theorem dX0_init_7 : decode cX0_init 7 = .ok (.newarray .int, 2) := by decide +kernel
theorem dX0_init_9 : decode cX0_init 9 = .ok (.putfield 11, 3) := by decide +kernel
theorem dX0_init_12 : decode cX0_init 12 = .ok (.aload_n 0, 1) := by decide +kernel
theorem dX0_init_13 : decode cX0_init 13 = .ok (.sipush (-9999), 3) := by decide +kernel
theorem dX0_init_16 : decode cX0_init 16 = .ok (.putfield 17, 3) := by decide +kernel
theorem dX0_init_19 : decode cX0_init 19 = .ok (.return_, 1) := by decide +kernel
set_option maxRecDepth 20000 in
theorem ggX0_copyFrom_X10_copyRow : GoodIn wsX0_copyFrom wsX10_copyRow := goodIn_r _ [14] (by decide +kernel) (by decide +kernel)
set_option maxRecDepth 20000 in
theorem gX0_copyFrom_X10_copyRow_n21 : GoodIn wsX0_copyFrom (wsX10_copyRow) := ggX0_copyFrom_X10_copyRow
theorem dX0_copyFrom_0 : decode cX0_copyFrom 0 = .ok (.aload_n 1, 1) := by decide +kernel
theorem dX0_copyFrom_1 : decode cX0_copyFrom 1 = .ok (.getfield 11, 3) := by decide +kernel
theorem dX0_copyFrom_4 : decode cX0_copyFrom 4 = .ok (.aload_n 0, 1) := by decide +kernel
theorem dX0_copyFrom_5 : decode cX0_copyFrom 5 = .ok (.getfield 11, 3) := by decide +kernel
theorem dX0_copyFrom_8 : decode cX0_copyFrom 8 = .ok (.invokestatic 21, 3) := by decide +kernel
theorem dX0_copyFrom_11 : decode cX0_copyFrom 11 = .ok (.aload_n 0, 1) := by decide +kernel
theorem dX0_copyFrom_12 : decode cX0_copyFrom 12 = .ok (.aload_n 1, 1) := by decide +kernel
theorem dX0_copyFrom_13 : decode cX0_copyFrom 13 = .ok (.getfield 17, 3) := by decide +kernel
theorem dX0_copyFrom_16 : decode cX0_copyFrom 16 = .ok (.putfield 17, 3) := by decide +kernel
theorem dX0_copyFrom_19 : decode cX0_copyFrom 19 = .ok (.aload_n 0, 1) := by decide +kernel
theorem dX0_copyFrom_20 : decode cX0_copyFrom 20 = .ok (.aload_n 1, 1) := by decide +kernel
theorem dX0_copyFrom_21 : decode cX0_copyFrom 21 = .ok (.getfield 25, 3) := by decide +kernel
theorem dX0_copyFrom_24 : decode cX0_copyFrom 24 = .ok (.putfield 25, 3) := by decide +kernel
theorem dX0_copyFrom_27 : decode cX0_copyFrom 27 = .ok (.aload_n 0, 1) := by decide +kernel
theorem dX0_copyFrom_28 : decode cX0_copyFrom 28 = .ok (.aload_n 1, 1) := by decide +kernel
theorem dX0_copyFrom_29 : decode cX0_copyFrom 29 = .ok (.getfield 28, 3) := by decide +kernel
theorem dX0_copyFrom_32 : decode cX0_copyFrom 32 = .ok (.putfield 28, 3) := by decide +kernel
theorem dX0_copyFrom_35 : decode cX0_copyFrom 35 = .ok (.aload_n 0, 1) := by decide +kernel
theorem dX0_copyFrom_36 : decode cX0_copyFrom 36 = .ok (.aload_n 1, 1) := by decide +kernel
theorem dX0_copyFrom_37 : decode cX0_copyFrom 37 = .ok (.getfield 31, 3) := by decide +kernel
theorem dX0_copyFrom_40 : decode cX0_copyFrom 40 = .ok (.putfield 31, 3) := by decide +kernel
theorem dX0_copyFrom_43 : decode cX0_copyFrom 43 = .ok (.aload_n 0, 1) := by decide +kernel
theorem dX0_copyFrom_44 : decode cX0_copyFrom 44 = .ok (.aload_n 1, 1) := by decide +kernel
theorem dX0_copyFrom_45 : decode cX0_copyFrom 45 = .ok (.getfield 35, 3) := by decide +kernel
theorem dX0_copyFrom_48 : decode cX0_copyFrom 48 = .ok (.putfield 35, 3) := by decide +kernel
theorem dX0_copyFrom_51 : decode cX0_copyFrom 51 = .ok (.aload_n 0, 1) := by decide +kernel
theorem dX0_copyFrom_52 : decode cX0_copyFrom 52 = .ok (.aload_n 1, 1) := by decide +kernel
theorem dX0_copyFrom_53 : decode cX0_copyFrom 53 = .ok (.getfield 38, 3) := by decide +kernel
theorem dX0_copyFrom_56 : decode cX0_copyFrom 56 = .ok (.putfield 38, 3) := by decide +kernel
theorem dX0_copyFrom_59 : decode cX0_copyFrom 59 = .ok (.aload_n 0, 1) := by decide +kernel
theorem dX0_copyFrom_60 : decode cX0_copyFrom 60 = .ok (.aload_n 1, 1) := by decide +kernel
theorem dX0_copyFrom_61 : decode cX0_copyFrom 61 = .ok (.getfield 41, 3) := by decide +kernel
theorem dX0_copyFrom_64 : decode cX0_copyFrom 64 = .ok (.putfield 41, 3) := by decide +kernel
theorem dX0_copyFrom_67 : decode cX0_copyFrom 67 = .ok (.aload_n 0, 1) := by decide +kernel
theorem dX0_copyFrom_68 : decode cX0_copyFrom 68 = .ok (.aload_n 1, 1) := by decide +kernel
theorem dX0_copyFrom_69 : decode cX0_copyFrom 69 = .ok (.getfield 44, 3) := by decide +kernel
theorem dX0_copyFrom_72 : decode cX0_copyFrom 72 = .ok (.putfield 44, 3) := by decide +kernel
theorem dX0_copyFrom_75 : decode cX0_copyFrom 75 = .ok (.aload_n 0, 1) := by decide +kernel
theorem dX0_copyFrom_76 : decode cX0_copyFrom 76 = .ok (.aload_n 1, 1) := by decide +kernel
theorem dX0_copyFrom_77 : decode cX0_copyFrom 77 = .ok (.getfield 47, 3) := by decide +kernel
theorem dX0_copyFrom_80 : decode cX0_copyFrom 80 = .ok (.putfield 47, 3) := by decide +kernel
theorem dX0_copyFrom_83 : decode cX0_copyFrom 83 = .ok (.aload_n 0, 1) := by decide +kernel
theorem dX0_copyFrom_84 : decode cX0_copyFrom 84 = .ok (.aload_n 1, 1) := by decide +kernel
theorem dX0_copyFrom_85 : decode cX0_copyFrom 85 = .ok (.getfield 50, 3) := by decide +kernel
theorem dX0_copyFrom_88 : decode cX0_copyFrom 88 = .ok (.putfield 50, 3) := by decide +kernel
theorem dX0_copyFrom_91 : decode cX0_copyFrom 91 = .ok (.return_, 1) := by decide +kernel
set_option maxRecDepth 20000 in
theorem ggX0_countMinute_X10_elementOr : GoodIn wsX0_countMinute wsX10_elementOr := goodIn_r _ [7] (by decide +kernel) (by decide +kernel)
set_option maxRecDepth 20000 in
theorem gX0_countMinute_X10_elementOr_n53 : GoodIn wsX0_countMinute (wsX10_elementOr) := ggX0_countMinute_X10_elementOr
set_option maxRecDepth 20000 in
theorem ggX0_countMinute_X10_replace : GoodIn wsX0_countMinute wsX10_replace := goodIn_r _ [9] (by decide +kernel) (by decide +kernel)
set_option maxRecDepth 20000 in
theorem gX0_countMinute_X10_replace_n57 : GoodIn wsX0_countMinute (wsX10_replace) := ggX0_countMinute_X10_replace
theorem dX0_countMinute_0 : decode cX0_countMinute 0 = .ok (.aload_n 0, 1) := by decide +kernel
theorem dX0_countMinute_1 : decode cX0_countMinute 1 = .ok (.iload_n 1, 1) := by decide +kernel
theorem dX0_countMinute_2 : decode cX0_countMinute 2 = .ok (.putfield 17, 3) := by decide +kernel
theorem dX0_countMinute_5 : decode cX0_countMinute 5 = .ok (.aload_n 0, 1) := by decide +kernel
theorem dX0_countMinute_6 : decode cX0_countMinute 6 = .ok (.getfield 11, 3) := by decide +kernel
theorem dX0_countMinute_9 : decode cX0_countMinute 9 = .ok (.iload_n 1, 1) := by decide +kernel
theorem dX0_countMinute_10 : decode cX0_countMinute 10 = .ok (.aload_n 0, 1) := by decide +kernel
theorem dX0_countMinute_11 : decode cX0_countMinute 11 = .ok (.getfield 11, 3) := by decide +kernel
theorem dX0_countMinute_14 : decode cX0_countMinute 14 = .ok (.iload_n 1, 1) := by decide +kernel
theorem dX0_countMinute_15 : decode cX0_countMinute 15 = .ok (.iconst 0, 1) := by decide +kernel
theorem dX0_countMinute_16 : decode cX0_countMinute 16 = .ok (.invokestatic 53, 3) := by decide +kernel
theorem dX0_countMinute_19 : decode cX0_countMinute 19 = .ok (.iconst 1, 1) := by decide +kernel
theorem dX0_countMinute_20 : decode cX0_countMinute 20 = .ok (.iadd, 1) := by decide +kernel
theorem dX0_countMinute_21 : decode cX0_countMinute 21 = .ok (.invokestatic 57, 3) := by decide +kernel
theorem dX0_countMinute_24 : decode cX0_countMinute 24 = .ok (.iload_n 1, 1) := by decide +kernel
theorem dX0_countMinute_25 : decode cX0_countMinute 25 = .ok (.bipush 11, 2) := by decide +kernel
theorem dX0_countMinute_27 : decode cX0_countMinute 27 = .ok (.if_icmp .ne 16, 3) := by decide +kernel
theorem dX0_countMinute_30 : decode cX0_countMinute 30 = .ok (.aload_n 0, 1) := by decide +kernel
theorem dX0_countMinute_31 : decode cX0_countMinute 31 = .ok (.dup, 1) := by decide +kernel
theorem dX0_countMinute_32 : decode cX0_countMinute 32 = .ok (.getfield 25, 3) := by decide +kernel
theorem dX0_countMinute_35 : decode cX0_countMinute 35 = .ok (.iconst 1, 1) := by decide +kernel
theorem dX0_countMinute_36 : decode cX0_countMinute 36 = .ok (.iadd, 1) := by decide +kernel
theorem dX0_countMinute_37 : decode cX0_countMinute 37 = .ok (.putfield 25, 3) := by decide +kernel
theorem dX0_countMinute_40 : decode cX0_countMinute 40 = .ok (.goto 18, 3) := by decide +kernel
theorem dX0_countMinute_43 : decode cX0_countMinute 43 = .ok (.iload_n 1, 1) := by decide +kernel
theorem dX0_countMinute_44 : decode cX0_countMinute 44 = .ok (.iconst 4, 1) := by decide +kernel
theorem dX0_countMinute_45 : decode cX0_countMinute 45 = .ok (.if_icmp .ne 13, 3) := by decide +kernel
theorem dX0_countMinute_48 : decode cX0_countMinute 48 = .ok (.aload_n 0, 1) := by decide +kernel
theorem dX0_countMinute_49 : decode cX0_countMinute 49 = .ok (.dup, 1) := by decide +kernel
theorem dX0_countMinute_50 : decode cX0_countMinute 50 = .ok (.getfield 28, 3) := by decide +kernel
theorem dX0_countMinute_53 : decode cX0_countMinute 53 = .ok (.iconst 1, 1) := by decide +kernel
theorem dX0_countMinute_54 : decode cX0_countMinute 54 = .ok (.iadd, 1) := by decide +kernel
theorem dX0_countMinute_55 : decode cX0_countMinute 55 = .ok (.putfield 28, 3) := by decide +kernel
theorem dX0_countMinute_58 : decode cX0_countMinute 58 = .ok (.return_, 1) := by decide +kernel
set_option maxRecDepth 20000 in
theorem ggX1_init_X1_refill : GoodIn wsX1_init wsX1_refill := goodIn_r _ [10, 11, 5, 12, 13] (by decide +kernel) (by decide +kernel)
set_option maxRecDepth 20000 in
theorem gX1_init_X1_refill : GoodIn wsX1_init (wsV RX1 15 RX1 yX1_refill wsX1_refill) := goodIn_app (goodIn_of _ (by decide +kernel)) ggX1_init_X1_refill
theorem dX1_init_0 : decode cX1_init 0 = .ok (.aload_n 0, 1) := by decide +kernel
theorem dX1_init_1 : decode cX1_init 1 = .ok (.invokespecial 3, 3) := by decide +kernel
theorem dX1_init_4 : decode cX1_init 4 = .ok (.aload_n 0, 1) := by decide +kernel
theorem dX1_init_5 : decode cX1_init 5 = .ok (.iconst 4, 1) := by decide +kernel
theorem dX1_init_6 : decode cX1_init 6 = .ok (.newarray .long, 2) := by decide +kernel
theorem dX1_init_8 : decode cX1_init 8 = .ok (.putfield 11, 3) := by decide +kernel
theorem dX1_init_11 : decode cX1_init 11 = .ok (.aload_n 0, 1) := by decide +kernel
theorem dX1_init_12 : decode cX1_init 12 = .ok (.sipush 700, 3) := by decide +kernel
theorem dX1_init_15 : decode cX1_init 15 = .ok (.sipush 300, 3) := by decide +kernel
theorem dX1_init_18 : decode cX1_init 18 = .ok (.invokevirtual 15, 3) := by decide +kernel
theorem dX1_init_21 : decode cX1_init 21 = .ok (.return_, 1) := by decide +kernel
theorem dX1_isCapacity_0 : decode cX1_isCapacity 0 = .ok (.iload_n 0, 1) := by decide +kernel
theorem dX1_isCapacity_1 : decode cX1_isCapacity 1 = .ok (.bipush 100, 2) := by decide +kernel
theorem dX1_isCapacity_3 : decode cX1_isCapacity 3 = .ok (.if_icmp .lt 14, 3) := by decide +kernel
theorem dX1_isCapacity_6 : decode cX1_isCapacity 6 = .ok (.iload_n 0, 1) := by decide +kernel
theorem dX1_isCapacity_7 : decode cX1_isCapacity 7 = .ok (.sipush 5000, 3) := by decide +kernel
theorem dX1_isCapacity_10 : decode cX1_isCapacity 10 = .ok (.if_icmp .gt 7, 3) := by decide +kernel
theorem dX1_isCapacity_13 : decode cX1_isCapacity 13 = .ok (.iconst 1, 1) := by decide +kernel
theorem dX1_isCapacity_14 : decode cX1_isCapacity 14 = .ok (.goto 4, 3) := by decide +kernel
theorem dX1_isCapacity_17 : decode cX1_isCapacity 17 = .ok (.iconst 0, 1) := by decide +kernel
theorem dX1_isCapacity_18 : decode cX1_isCapacity 18 = .ok (.ireturn, 1) := by decide +kernel
theorem dX1_isFilling_0 : decode cX1_isFilling 0 = .ok (.iload_n 0, 1) := by decide +kernel
theorem dX1_isFilling_1 : decode cX1_isFilling 1 = .ok (.ifCond .lt 14, 3) := by decide +kernel
theorem dX1_isFilling_4 : decode cX1_isFilling 4 = .ok (.iload_n 0, 1) := by decide +kernel
theorem dX1_isFilling_5 : decode cX1_isFilling 5 = .ok (.sipush 700, 3) := by decide +kernel
theorem dX1_isFilling_8 : decode cX1_isFilling 8 = .ok (.if_icmp .gt 7, 3) := by decide +kernel
theorem dX1_isFilling_11 : decode cX1_isFilling 11 = .ok (.iconst 1, 1) := by decide +kernel
theorem dX1_isFilling_12 : decode cX1_isFilling 12 = .ok (.goto 4, 3) := by decide +kernel
theorem dX1_isFilling_15 : decode cX1_isFilling 15 = .ok (.iconst 0, 1) := by decide +kernel
theorem dX1_isFilling_16 : decode cX1_isFilling 16 = .ok (.ireturn, 1) := by decide +kernel
theorem dX1_copyFrom_0 : decode cX1_copyFrom 0 = .ok (.iconst 0, 1) := by decide +kernel
theorem dX1_copyFrom_1 : decode cX1_copyFrom 1 = .ok (.istore_n 2, 1) := by decide +kernel
theorem dX1_copyFrom_2 : decode cX1_copyFrom 2 = .ok (.iload_n 2, 1) := by decide +kernel
theorem dX1_copyFrom_3 : decode cX1_copyFrom 3 = .ok (.aload_n 0, 1) := by decide +kernel
theorem dX1_copyFrom_4 : decode cX1_copyFrom 4 = .ok (.getfield 11, 3) := by decide +kernel
theorem dX1_copyFrom_7 : decode cX1_copyFrom 7 = .ok (.arraylength, 1) := by decide +kernel
theorem dX1_copyFrom_8 : decode cX1_copyFrom 8 = .ok (.if_icmp .ge 30, 3) := by decide +kernel
theorem dX1_copyFrom_11 : decode cX1_copyFrom 11 = .ok (.iload_n 2, 1) := by decide +kernel
theorem dX1_copyFrom_12 : decode cX1_copyFrom 12 = .ok (.aload_n 1, 1) := by decide +kernel
theorem dX1_copyFrom_13 : decode cX1_copyFrom 13 = .ok (.getfield 11, 3) := by decide +kernel
theorem dX1_copyFrom_16 : decode cX1_copyFrom 16 = .ok (.arraylength, 1) := by decide +kernel
theorem dX1_copyFrom_17 : decode cX1_copyFrom 17 = .ok (.if_icmp .ge 21, 3) := by decide +kernel
theorem dX1_copyFrom_20 : decode cX1_copyFrom 20 = .ok (.aload_n 0, 1) := by decide +kernel
theorem dX1_copyFrom_21 : decode cX1_copyFrom 21 = .ok (.getfield 11, 3) := by decide +kernel
theorem dX1_copyFrom_24 : decode cX1_copyFrom 24 = .ok (.iload_n 2, 1) := by decide +kernel
theorem dX1_copyFrom_25 : decode cX1_copyFrom 25 = .ok (.aload_n 1, 1) := by decide +kernel
theorem dX1_copyFrom_26 : decode cX1_copyFrom 26 = .ok (.getfield 11, 3) := by decide +kernel
theorem dX1_copyFrom_29 : decode cX1_copyFrom 29 = .ok (.iload_n 2, 1) := by decide +kernel
theorem dX1_copyFrom_30 : decode cX1_copyFrom 30 = .ok (.laload, 1) := by decide +kernel
theorem dX1_copyFrom_31 : decode cX1_copyFrom 31 = .ok (.lastore, 1) := by decide +kernel
theorem dX1_copyFrom_32 : decode cX1_copyFrom 32 = .ok (.iinc 2 1, 3) := by decide +kernel
theorem dX1_copyFrom_35 : decode cX1_copyFrom 35 = .ok (.goto (-33), 3) := by decide +kernel
theorem dX1_copyFrom_38 : decode cX1_copyFrom 38 = .ok (.aload_n 0, 1) := by decide +kernel
theorem dX1_copyFrom_39 : decode cX1_copyFrom 39 = .ok (.aload_n 1, 1) := by decide +kernel
theorem dX1_copyFrom_40 : decode cX1_copyFrom 40 = .ok (.getfield 19, 3) := by decide +kernel
theorem dX1_copyFrom_43 : decode cX1_copyFrom 43 = .ok (.putfield 19, 3) := by decide +kernel
theorem dX1_copyFrom_46 : decode cX1_copyFrom 46 = .ok (.return_, 1) := by decide +kernel
theorem dX1_refill_0 : decode cX1_refill 0 = .ok (.aload_n 0, 1) := by decide +kernel
theorem dX1_refill_1 : decode cX1_refill 1 = .ok (.iload_n 1, 1) := by decide +kernel
theorem dX1_refill_2 : decode cX1_refill 2 = .ok (.putfield 19, 3) := by decide +kernel
theorem dX1_refill_5 : decode cX1_refill 5 = .ok (.iconst 0, 1) := by decide +kernel
theorem dX1_refill_6 : decode cX1_refill 6 = .ok (.istore_n 3, 1) := by decide +kernel
theorem dX1_refill_7 : decode cX1_refill 7 = .ok (.iload_n 3, 1) := by decide +kernel
theorem dX1_refill_8 : decode cX1_refill 8 = .ok (.aload_n 0, 1) := by decide +kernel
theorem dX1_refill_9 : decode cX1_refill 9 = .ok (.getfield 11, 3) := by decide +kernel
theorem dX1_refill_12 : decode cX1_refill 12 = .ok (.arraylength, 1) := by decide +kernel
theorem dX1_refill_13 : decode cX1_refill 13 = .ok (.if_icmp .ge 20, 3) := by decide +kernel
theorem dX1_refill_16 : decode cX1_refill 16 = .ok (.aload_n 0, 1) := by decide +kernel
theorem dX1_refill_17 : decode cX1_refill 17 = .ok (.getfield 11, 3) := by decide +kernel
theorem dX1_refill_20 : decode cX1_refill 20 = .ok (.iload_n 3, 1) := by decide +kernel
theorem dX1_refill_21 : decode cX1_refill 21 = .ok (.iload_n 1, 1) := by decide +kernel
theorem dX1_refill_22 : decode cX1_refill 22 = .ok (.i2l, 1) := by decide +kernel
theorem dX1_refill_23 : decode cX1_refill 23 = .ok (.iload_n 2, 1) := by decide +kernel
theorem dX1_refill_24 : decode cX1_refill 24 = .ok (.i2l, 1) := by decide +kernel
theorem dX1_refill_25 : decode cX1_refill 25 = .ok (.lmul, 1) := by decide +kernel
theorem dX1_refill_26 : decode cX1_refill 26 = .ok (.lastore, 1) := by decide +kernel
theorem dX1_refill_27 : decode cX1_refill 27 = .ok (.iinc 3 1, 3) := by decide +kernel
theorem dX1_refill_30 : decode cX1_refill 30 = .ok (.goto (-23), 3) := by decide +kernel
theorem dX1_refill_33 : decode cX1_refill 33 = .ok (.return_, 1) := by decide +kernel
set_option maxRecDepth 20000 in
theorem ggX1_temperatureOf_X10_div : GoodIn wsX1_temperatureOf wsX10_div := goodIn_r _ [6] (by decide +kernel) (by decide +kernel)
set_option maxRecDepth 20000 in
theorem gX1_temperatureOf_X10_div_n23 : GoodIn wsX1_temperatureOf (wsX10_div) := ggX1_temperatureOf_X10_div
theorem dX1_temperatureOf_0 : decode cX1_temperatureOf 0 = .ok (.iload_n 1, 1) := by decide +kernel
theorem dX1_temperatureOf_1 : decode cX1_temperatureOf 1 = .ok (.ifCond .lt 29, 3) := by decide +kernel
theorem dX1_temperatureOf_4 : decode cX1_temperatureOf 4 = .ok (.iload_n 1, 1) := by decide +kernel
theorem dX1_temperatureOf_5 : decode cX1_temperatureOf 5 = .ok (.aload_n 0, 1) := by decide +kernel
theorem dX1_temperatureOf_6 : decode cX1_temperatureOf 6 = .ok (.getfield 11, 3) := by decide +kernel
theorem dX1_temperatureOf_9 : decode cX1_temperatureOf 9 = .ok (.arraylength, 1) := by decide +kernel
theorem dX1_temperatureOf_10 : decode cX1_temperatureOf 10 = .ok (.if_icmp .ge 20, 3) := by decide +kernel
theorem dX1_temperatureOf_13 : decode cX1_temperatureOf 13 = .ok (.aload_n 0, 1) := by decide +kernel
theorem dX1_temperatureOf_14 : decode cX1_temperatureOf 14 = .ok (.getfield 11, 3) := by decide +kernel
theorem dX1_temperatureOf_17 : decode cX1_temperatureOf 17 = .ok (.iload_n 1, 1) := by decide +kernel
theorem dX1_temperatureOf_18 : decode cX1_temperatureOf 18 = .ok (.laload, 1) := by decide +kernel
theorem dX1_temperatureOf_19 : decode cX1_temperatureOf 19 = .ok (.aload_n 0, 1) := by decide +kernel
theorem dX1_temperatureOf_20 : decode cX1_temperatureOf 20 = .ok (.getfield 19, 3) := by decide +kernel
theorem dX1_temperatureOf_23 : decode cX1_temperatureOf 23 = .ok (.i2l, 1) := by decide +kernel
theorem dX1_temperatureOf_24 : decode cX1_temperatureOf 24 = .ok (.invokestatic 23, 3) := by decide +kernel
theorem dX1_temperatureOf_27 : decode cX1_temperatureOf 27 = .ok (.goto 6, 3) := by decide +kernel
theorem dX1_temperatureOf_30 : decode cX1_temperatureOf 30 = .ok (.ldc2_w 27, 3) := by decide +kernel
theorem dX1_temperatureOf_33 : decode cX1_temperatureOf 33 = .ok (.lreturn, 1) := by decide +kernel
theorem dX1_energyOfAll_0 : decode cX1_energyOfAll 0 = .ok (.lconst 0, 1) := by decide +kernel
theorem dX1_energyOfAll_1 : decode cX1_energyOfAll 1 = .ok (.lstore_n 1, 1) := by decide +kernel
theorem dX1_energyOfAll_2 : decode cX1_energyOfAll 2 = .ok (.iconst 0, 1) := by decide +kernel
theorem dX1_energyOfAll_3 : decode cX1_energyOfAll 3 = .ok (.istore_n 3, 1) := by decide +kernel
theorem dX1_energyOfAll_4 : decode cX1_energyOfAll 4 = .ok (.iload_n 3, 1) := by decide +kernel
theorem dX1_energyOfAll_5 : decode cX1_energyOfAll 5 = .ok (.aload_n 0, 1) := by decide +kernel
theorem dX1_energyOfAll_6 : decode cX1_energyOfAll 6 = .ok (.getfield 11, 3) := by decide +kernel
theorem dX1_energyOfAll_9 : decode cX1_energyOfAll 9 = .ok (.arraylength, 1) := by decide +kernel
theorem dX1_energyOfAll_10 : decode cX1_energyOfAll 10 = .ok (.if_icmp .ge 18, 3) := by decide +kernel
theorem dX1_energyOfAll_13 : decode cX1_energyOfAll 13 = .ok (.lload_n 1, 1) := by decide +kernel
theorem dX1_energyOfAll_14 : decode cX1_energyOfAll 14 = .ok (.aload_n 0, 1) := by decide +kernel
theorem dX1_energyOfAll_15 : decode cX1_energyOfAll 15 = .ok (.getfield 11, 3) := by decide +kernel
theorem dX1_energyOfAll_18 : decode cX1_energyOfAll 18 = .ok (.iload_n 3, 1) := by decide +kernel
theorem dX1_energyOfAll_19 : decode cX1_energyOfAll 19 = .ok (.laload, 1) := by decide +kernel
theorem dX1_energyOfAll_20 : decode cX1_energyOfAll 20 = .ok (.ladd, 1) := by decide +kernel
theorem dX1_energyOfAll_21 : decode cX1_energyOfAll 21 = .ok (.lstore_n 1, 1) := by decide +kernel
theorem dX1_energyOfAll_22 : decode cX1_energyOfAll 22 = .ok (.iinc 3 1, 3) := by decide +kernel
theorem dX1_energyOfAll_25 : decode cX1_energyOfAll 25 = .ok (.goto (-21), 3) := by decide +kernel
theorem dX1_energyOfAll_28 : decode cX1_energyOfAll 28 = .ok (.lload_n 1, 1) := by decide +kernel
theorem dX1_energyOfAll_29 : decode cX1_energyOfAll 29 = .ok (.lreturn, 1) := by decide +kernel
theorem dX1_add_0 : decode cX1_add 0 = .ok (.iload_n 1, 1) := by decide +kernel
theorem dX1_add_1 : decode cX1_add 1 = .ok (.ifCond .lt 22, 3) := by decide +kernel
theorem dX1_add_4 : decode cX1_add 4 = .ok (.iload_n 1, 1) := by decide +kernel
theorem dX1_add_5 : decode cX1_add 5 = .ok (.aload_n 0, 1) := by decide +kernel
theorem dX1_add_6 : decode cX1_add 6 = .ok (.getfield 11, 3) := by decide +kernel
theorem dX1_add_9 : decode cX1_add 9 = .ok (.arraylength, 1) := by decide +kernel
theorem dX1_add_10 : decode cX1_add 10 = .ok (.if_icmp .ge 13, 3) := by decide +kernel
theorem dX1_add_13 : decode cX1_add 13 = .ok (.aload_n 0, 1) := by decide +kernel
theorem dX1_add_14 : decode cX1_add 14 = .ok (.getfield 11, 3) := by decide +kernel
theorem dX1_add_17 : decode cX1_add 17 = .ok (.iload_n 1, 1) := by decide +kernel
theorem dX1_add_18 : decode cX1_add 18 = .ok (.dup2, 1) := by decide +kernel
theorem dX1_add_19 : decode cX1_add 19 = .ok (.laload, 1) := by decide +kernel
theorem dX1_add_20 : decode cX1_add 20 = .ok (.lload_n 2, 1) := by decide +kernel
theorem dX1_add_21 : decode cX1_add 21 = .ok (.ladd, 1) := by decide +kernel
theorem dX1_add_22 : decode cX1_add 22 = .ok (.lastore, 1) := by decide +kernel
theorem dX1_add_23 : decode cX1_add 23 = .ok (.return_, 1) := by decide +kernel
theorem dX1_draw_0 : decode cX1_draw 0 = .ok (.iconst 0, 1) := by decide +kernel
theorem dX1_draw_1 : decode cX1_draw 1 = .ok (.aload_n 0, 1) := by decide +kernel
theorem dX1_draw_2 : decode cX1_draw 2 = .ok (.getfield 11, 3) := by decide +kernel
theorem dX1_draw_5 : decode cX1_draw 5 = .ok (.arraylength, 1) := by decide +kernel
theorem dX1_draw_6 : decode cX1_draw 6 = .ok (.if_icmp .lt 5, 3) := by decide +kernel
theorem dX1_draw_9 : decode cX1_draw 9 = .ok (.lconst 0, 1) := by decide +kernel
theorem dX1_draw_10 : decode cX1_draw 10 = .ok (.lreturn, 1) := by decide +kernel
theorem dX1_draw_11 : decode cX1_draw 11 = .ok (.aload_n 0, 1) := by decide +kernel
theorem dX1_draw_12 : decode cX1_draw 12 = .ok (.getfield 11, 3) := by decide +kernel
theorem dX1_draw_15 : decode cX1_draw 15 = .ok (.iconst 0, 1) := by decide +kernel
theorem dX1_draw_16 : decode cX1_draw 16 = .ok (.laload, 1) := by decide +kernel
theorem dX1_draw_17 : decode cX1_draw 17 = .ok (.ldc2_w 29, 3) := by decide +kernel
theorem dX1_draw_20 : decode cX1_draw 20 = .ok (.aload_n 0, 1) := by decide +kernel
theorem dX1_draw_21 : decode cX1_draw 21 = .ok (.getfield 19, 3) := by decide +kernel
theorem dX1_draw_24 : decode cX1_draw 24 = .ok (.i2l, 1) := by decide +kernel
theorem dX1_draw_25 : decode cX1_draw 25 = .ok (.lmul, 1) := by decide +kernel
theorem dX1_draw_26 : decode cX1_draw 26 = .ok (.lsub, 1) := by decide +kernel
theorem dX1_draw_27 : decode cX1_draw 27 = .ok (.lstore_n 3, 1) := by decide +kernel
theorem dX1_draw_28 : decode cX1_draw 28 = .ok (.lconst 0, 1) := by decide +kernel
theorem dX1_draw_29 : decode cX1_draw 29 = .ok (.lload_n 1, 1) := by decide +kernel
theorem dX1_draw_30 : decode cX1_draw 30 = .ok (.lload_n 3, 1) := by decide +kernel
theorem dX1_draw_31 : decode cX1_draw 31 = .ok (.invokestatic 31, 3) := by decide +kernel
theorem dX1_draw_34 : decode cX1_draw 34 = .ok (.invokestatic 36, 3) := by decide +kernel
theorem dX1_draw_37 : decode cX1_draw 37 = .ok (.lstore 5, 2) := by decide +kernel
theorem dX1_draw_39 : decode cX1_draw 39 = .ok (.aload_n 0, 1) := by decide +kernel
theorem dX1_draw_40 : decode cX1_draw 40 = .ok (.getfield 11, 3) := by decide +kernel
theorem dX1_draw_43 : decode cX1_draw 43 = .ok (.iconst 0, 1) := by decide +kernel
theorem dX1_draw_44 : decode cX1_draw 44 = .ok (.dup2, 1) := by decide +kernel
theorem dX1_draw_45 : decode cX1_draw 45 = .ok (.laload, 1) := by decide +kernel
theorem dX1_draw_46 : decode cX1_draw 46 = .ok (.lload 5, 2) := by decide +kernel
theorem dX1_draw_48 : decode cX1_draw 48 = .ok (.lsub, 1) := by decide +kernel
theorem dX1_draw_49 : decode cX1_draw 49 = .ok (.lastore, 1) := by decide +kernel
theorem dX1_draw_50 : decode cX1_draw 50 = .ok (.lload 5, 2) := by decide +kernel
theorem dX1_draw_52 : decode cX1_draw 52 = .ok (.lreturn, 1) := by decide +kernel
set_option maxRecDepth 20000 in
theorem ggX1_lose_X1_temperatureOf : GoodIn wsX1_lose wsX1_temperatureOf := goodIn_r _ [12, 1, 13, 14, 15, 16, 17, 18, 19] (by decide +kernel) (by decide +kernel)
set_option maxRecDepth 20000 in
theorem gX1_lose_X1_temperatureOf : GoodIn wsX1_lose (wsV RX1 39 RX1 yX1_temperatureOf wsX1_temperatureOf) := goodIn_app (goodIn_of _ (by decide +kernel)) ggX1_lose_X1_temperatureOf
set_option maxRecDepth 20000 in
theorem ggX1_lose_X10_div : GoodIn wsX1_lose wsX10_div := goodIn_r _ [17] (by decide +kernel) (by decide +kernel)
set_option maxRecDepth 20000 in
theorem gX1_lose_X10_div_n23 : GoodIn wsX1_lose (wsX10_div) := ggX1_lose_X10_div
theorem dX1_lose_0 : decode cX1_lose 0 = .ok (.lconst 0, 1) := by decide +kernel
theorem dX1_lose_1 : decode cX1_lose 1 = .ok (.lstore_n 2, 1) := by decide +kernel
theorem dX1_lose_2 : decode cX1_lose 2 = .ok (.iconst 0, 1) := by decide +kernel
theorem dX1_lose_3 : decode cX1_lose 3 = .ok (.istore 4, 2) := by decide +kernel
theorem dX1_lose_5 : decode cX1_lose 5 = .ok (.iload 4, 2) := by decide +kernel
theorem dX1_lose_7 : decode cX1_lose 7 = .ok (.aload_n 0, 1) := by decide +kernel
theorem dX1_lose_8 : decode cX1_lose 8 = .ok (.getfield 11, 3) := by decide +kernel
theorem dX1_lose_11 : decode cX1_lose 11 = .ok (.arraylength, 1) := by decide +kernel
theorem dX1_lose_12 : decode cX1_lose 12 = .ok (.if_icmp .ge 51, 3) := by decide +kernel
theorem dX1_lose_15 : decode cX1_lose 15 = .ok (.lconst 0, 1) := by decide +kernel
theorem dX1_lose_16 : decode cX1_lose 16 = .ok (.aload_n 0, 1) := by decide +kernel
theorem dX1_lose_17 : decode cX1_lose 17 = .ok (.iload 4, 2) := by decide +kernel
theorem dX1_lose_19 : decode cX1_lose 19 = .ok (.invokevirtual 39, 3) := by decide +kernel
theorem dX1_lose_22 : decode cX1_lose 22 = .ok (.ldc2_w 29, 3) := by decide +kernel
theorem dX1_lose_25 : decode cX1_lose 25 = .ok (.lsub, 1) := by decide +kernel
theorem dX1_lose_26 : decode cX1_lose 26 = .ok (.iload_n 1, 1) := by decide +kernel
theorem dX1_lose_27 : decode cX1_lose 27 = .ok (.i2l, 1) := by decide +kernel
theorem dX1_lose_28 : decode cX1_lose 28 = .ok (.lmul, 1) := by decide +kernel
theorem dX1_lose_29 : decode cX1_lose 29 = .ok (.ldc2_w 43, 3) := by decide +kernel
theorem dX1_lose_32 : decode cX1_lose 32 = .ok (.invokestatic 23, 3) := by decide +kernel
theorem dX1_lose_35 : decode cX1_lose 35 = .ok (.invokestatic 36, 3) := by decide +kernel
theorem dX1_lose_38 : decode cX1_lose 38 = .ok (.lstore 5, 2) := by decide +kernel
theorem dX1_lose_40 : decode cX1_lose 40 = .ok (.aload_n 0, 1) := by decide +kernel
theorem dX1_lose_41 : decode cX1_lose 41 = .ok (.getfield 11, 3) := by decide +kernel
theorem dX1_lose_44 : decode cX1_lose 44 = .ok (.iload 4, 2) := by decide +kernel
theorem dX1_lose_46 : decode cX1_lose 46 = .ok (.dup2, 1) := by decide +kernel
theorem dX1_lose_47 : decode cX1_lose 47 = .ok (.laload, 1) := by decide +kernel
theorem dX1_lose_48 : decode cX1_lose 48 = .ok (.lload 5, 2) := by decide +kernel
theorem dX1_lose_50 : decode cX1_lose 50 = .ok (.lsub, 1) := by decide +kernel
theorem dX1_lose_51 : decode cX1_lose 51 = .ok (.lastore, 1) := by decide +kernel
theorem dX1_lose_52 : decode cX1_lose 52 = .ok (.lload_n 2, 1) := by decide +kernel
theorem dX1_lose_53 : decode cX1_lose 53 = .ok (.lload 5, 2) := by decide +kernel
theorem dX1_lose_55 : decode cX1_lose 55 = .ok (.ladd, 1) := by decide +kernel
theorem dX1_lose_56 : decode cX1_lose 56 = .ok (.lstore_n 2, 1) := by decide +kernel
theorem dX1_lose_57 : decode cX1_lose 57 = .ok (.iinc 4 1, 3) := by decide +kernel
theorem dX1_lose_60 : decode cX1_lose 60 = .ok (.goto (-55), 3) := by decide +kernel
theorem dX1_lose_63 : decode cX1_lose 63 = .ok (.lload_n 2, 1) := by decide +kernel
theorem dX1_lose_64 : decode cX1_lose 64 = .ok (.lreturn, 1) := by decide +kernel
set_option maxRecDepth 20000 in
theorem ggX1_rise_X1_temperatureOf : GoodIn wsX1_rise wsX1_temperatureOf := goodIn_r _ [7, 1, 8, 9, 10, 11, 12, 13, 14] (by decide +kernel) (by decide +kernel)
set_option maxRecDepth 20000 in
theorem gX1_rise_X1_temperatureOf : GoodIn wsX1_rise (wsV RX1 39 RX1 yX1_temperatureOf wsX1_temperatureOf) := goodIn_app (goodIn_of _ (by decide +kernel)) ggX1_rise_X1_temperatureOf
set_option maxRecDepth 20000 in
theorem ggX1_rise_X10_div : GoodIn wsX1_rise wsX10_div := goodIn_r _ [12] (by decide +kernel) (by decide +kernel)
set_option maxRecDepth 20000 in
theorem gX1_rise_X10_div_n23 : GoodIn wsX1_rise (wsX10_div) := ggX1_rise_X10_div
theorem dX1_rise_0 : decode cX1_rise 0 = .ok (.aload_n 0, 1) := by decide +kernel
theorem dX1_rise_1 : decode cX1_rise 1 = .ok (.getfield 11, 3) := by decide +kernel
theorem dX1_rise_4 : decode cX1_rise 4 = .ok (.arraylength, 1) := by decide +kernel
theorem dX1_rise_5 : decode cX1_rise 5 = .ok (.iconst 2, 1) := by decide +kernel
theorem dX1_rise_6 : decode cX1_rise 6 = .ok (.isub, 1) := by decide +kernel
theorem dX1_rise_7 : decode cX1_rise 7 = .ok (.istore_n 1, 1) := by decide +kernel
theorem dX1_rise_8 : decode cX1_rise 8 = .ok (.iload_n 1, 1) := by decide +kernel
theorem dX1_rise_9 : decode cX1_rise 9 = .ok (.ifCond .lt 72, 3) := by decide +kernel
theorem dX1_rise_12 : decode cX1_rise 12 = .ok (.aload_n 0, 1) := by decide +kernel
theorem dX1_rise_13 : decode cX1_rise 13 = .ok (.iload_n 1, 1) := by decide +kernel
theorem dX1_rise_14 : decode cX1_rise 14 = .ok (.invokevirtual 39, 3) := by decide +kernel
theorem dX1_rise_17 : decode cX1_rise 17 = .ok (.aload_n 0, 1) := by decide +kernel
theorem dX1_rise_18 : decode cX1_rise 18 = .ok (.iload_n 1, 1) := by decide +kernel
theorem dX1_rise_19 : decode cX1_rise 19 = .ok (.iconst 1, 1) := by decide +kernel
theorem dX1_rise_20 : decode cX1_rise 20 = .ok (.iadd, 1) := by decide +kernel
theorem dX1_rise_21 : decode cX1_rise 21 = .ok (.invokevirtual 39, 3) := by decide +kernel
theorem dX1_rise_24 : decode cX1_rise 24 = .ok (.lcmp, 1) := by decide +kernel
theorem dX1_rise_25 : decode cX1_rise 25 = .ok (.ifCond .ge 50, 3) := by decide +kernel
theorem dX1_rise_28 : decode cX1_rise 28 = .ok (.aload_n 0, 1) := by decide +kernel
theorem dX1_rise_29 : decode cX1_rise 29 = .ok (.getfield 11, 3) := by decide +kernel
theorem dX1_rise_32 : decode cX1_rise 32 = .ok (.iload_n 1, 1) := by decide +kernel
theorem dX1_rise_33 : decode cX1_rise 33 = .ok (.laload, 1) := by decide +kernel
theorem dX1_rise_34 : decode cX1_rise 34 = .ok (.aload_n 0, 1) := by decide +kernel
theorem dX1_rise_35 : decode cX1_rise 35 = .ok (.getfield 11, 3) := by decide +kernel
theorem dX1_rise_38 : decode cX1_rise 38 = .ok (.iload_n 1, 1) := by decide +kernel
theorem dX1_rise_39 : decode cX1_rise 39 = .ok (.iconst 1, 1) := by decide +kernel
theorem dX1_rise_40 : decode cX1_rise 40 = .ok (.iadd, 1) := by decide +kernel
theorem dX1_rise_41 : decode cX1_rise 41 = .ok (.laload, 1) := by decide +kernel
theorem dX1_rise_42 : decode cX1_rise 42 = .ok (.ladd, 1) := by decide +kernel
theorem dX1_rise_43 : decode cX1_rise 43 = .ok (.lstore_n 2, 1) := by decide +kernel
theorem dX1_rise_44 : decode cX1_rise 44 = .ok (.aload_n 0, 1) := by decide +kernel
theorem dX1_rise_45 : decode cX1_rise 45 = .ok (.getfield 11, 3) := by decide +kernel
theorem dX1_rise_48 : decode cX1_rise 48 = .ok (.iload_n 1, 1) := by decide +kernel
theorem dX1_rise_49 : decode cX1_rise 49 = .ok (.iconst 1, 1) := by decide +kernel
theorem dX1_rise_50 : decode cX1_rise 50 = .ok (.iadd, 1) := by decide +kernel
theorem dX1_rise_51 : decode cX1_rise 51 = .ok (.lload_n 2, 1) := by decide +kernel
theorem dX1_rise_52 : decode cX1_rise 52 = .ok (.ldc2_w 45, 3) := by decide +kernel
theorem dX1_rise_55 : decode cX1_rise 55 = .ok (.invokestatic 23, 3) := by decide +kernel
theorem dX1_rise_58 : decode cX1_rise 58 = .ok (.lastore, 1) := by decide +kernel
theorem dX1_rise_59 : decode cX1_rise 59 = .ok (.aload_n 0, 1) := by decide +kernel
theorem dX1_rise_60 : decode cX1_rise 60 = .ok (.getfield 11, 3) := by decide +kernel
theorem dX1_rise_63 : decode cX1_rise 63 = .ok (.iload_n 1, 1) := by decide +kernel
theorem dX1_rise_64 : decode cX1_rise 64 = .ok (.lload_n 2, 1) := by decide +kernel
theorem dX1_rise_65 : decode cX1_rise 65 = .ok (.aload_n 0, 1) := by decide +kernel
theorem dX1_rise_66 : decode cX1_rise 66 = .ok (.getfield 11, 3) := by decide +kernel
theorem dX1_rise_69 : decode cX1_rise 69 = .ok (.iload_n 1, 1) := by decide +kernel
theorem dX1_rise_70 : decode cX1_rise 70 = .ok (.iconst 1, 1) := by decide +kernel
theorem dX1_rise_71 : decode cX1_rise 71 = .ok (.iadd, 1) := by decide +kernel
theorem dX1_rise_72 : decode cX1_rise 72 = .ok (.laload, 1) := by decide +kernel
theorem dX1_rise_73 : decode cX1_rise 73 = .ok (.lsub, 1) := by decide +kernel
theorem dX1_rise_74 : decode cX1_rise 74 = .ok (.lastore, 1) := by decide +kernel
theorem dX1_rise_75 : decode cX1_rise 75 = .ok (.iinc 1 (-1), 3) := by decide +kernel
theorem dX1_rise_78 : decode cX1_rise 78 = .ok (.goto (-70), 3) := by decide +kernel
theorem dX1_rise_81 : decode cX1_rise 81 = .ok (.return_, 1) := by decide +kernel
set_option maxRecDepth 20000 in
theorem ggX1_conduct_X1_temperatureOf : GoodIn wsX1_conduct wsX1_temperatureOf := goodIn_r _ [7, 1, 8, 9, 10, 11, 12, 13, 14] (by decide +kernel) (by decide +kernel)
set_option maxRecDepth 20000 in
theorem gX1_conduct_X1_temperatureOf : GoodIn wsX1_conduct (wsV RX1 39 RX1 yX1_temperatureOf wsX1_temperatureOf) := goodIn_app (goodIn_of _ (by decide +kernel)) ggX1_conduct_X1_temperatureOf
set_option maxRecDepth 20000 in
theorem ggX1_conduct_X10_div : GoodIn wsX1_conduct wsX10_div := goodIn_r _ [12] (by decide +kernel) (by decide +kernel)
set_option maxRecDepth 20000 in
theorem gX1_conduct_X10_div_n23 : GoodIn wsX1_conduct (wsX10_div) := ggX1_conduct_X10_div
theorem dX1_conduct_0 : decode cX1_conduct 0 = .ok (.iconst 0, 1) := by decide +kernel
theorem dX1_conduct_1 : decode cX1_conduct 1 = .ok (.istore_n 2, 1) := by decide +kernel
theorem dX1_conduct_2 : decode cX1_conduct 2 = .ok (.iload_n 2, 1) := by decide +kernel
theorem dX1_conduct_3 : decode cX1_conduct 3 = .ok (.aload_n 0, 1) := by decide +kernel
theorem dX1_conduct_4 : decode cX1_conduct 4 = .ok (.getfield 11, 3) := by decide +kernel
theorem dX1_conduct_7 : decode cX1_conduct 7 = .ok (.arraylength, 1) := by decide +kernel
theorem dX1_conduct_8 : decode cX1_conduct 8 = .ok (.iconst 1, 1) := by decide +kernel
theorem dX1_conduct_9 : decode cX1_conduct 9 = .ok (.isub, 1) := by decide +kernel
theorem dX1_conduct_10 : decode cX1_conduct 10 = .ok (.if_icmp .ge 65, 3) := by decide +kernel
theorem dX1_conduct_13 : decode cX1_conduct 13 = .ok (.aload_n 0, 1) := by decide +kernel
theorem dX1_conduct_14 : decode cX1_conduct 14 = .ok (.iload_n 2, 1) := by decide +kernel
theorem dX1_conduct_15 : decode cX1_conduct 15 = .ok (.invokevirtual 39, 3) := by decide +kernel
theorem dX1_conduct_18 : decode cX1_conduct 18 = .ok (.aload_n 0, 1) := by decide +kernel
theorem dX1_conduct_19 : decode cX1_conduct 19 = .ok (.iload_n 2, 1) := by decide +kernel
theorem dX1_conduct_20 : decode cX1_conduct 20 = .ok (.iconst 1, 1) := by decide +kernel
theorem dX1_conduct_21 : decode cX1_conduct 21 = .ok (.iadd, 1) := by decide +kernel
theorem dX1_conduct_22 : decode cX1_conduct 22 = .ok (.invokevirtual 39, 3) := by decide +kernel
theorem dX1_conduct_25 : decode cX1_conduct 25 = .ok (.lsub, 1) := by decide +kernel
theorem dX1_conduct_26 : decode cX1_conduct 26 = .ok (.lstore_n 3, 1) := by decide +kernel
theorem dX1_conduct_27 : decode cX1_conduct 27 = .ok (.lload_n 3, 1) := by decide +kernel
theorem dX1_conduct_28 : decode cX1_conduct 28 = .ok (.lconst 0, 1) := by decide +kernel
theorem dX1_conduct_29 : decode cX1_conduct 29 = .ok (.lcmp, 1) := by decide +kernel
theorem dX1_conduct_30 : decode cX1_conduct 30 = .ok (.ifCond .le 39, 3) := by decide +kernel
theorem dX1_conduct_33 : decode cX1_conduct 33 = .ok (.lload_n 3, 1) := by decide +kernel
theorem dX1_conduct_34 : decode cX1_conduct 34 = .ok (.iload_n 1, 1) := by decide +kernel
theorem dX1_conduct_35 : decode cX1_conduct 35 = .ok (.i2l, 1) := by decide +kernel
theorem dX1_conduct_36 : decode cX1_conduct 36 = .ok (.lmul, 1) := by decide +kernel
theorem dX1_conduct_37 : decode cX1_conduct 37 = .ok (.ldc2_w 43, 3) := by decide +kernel
theorem dX1_conduct_40 : decode cX1_conduct 40 = .ok (.invokestatic 23, 3) := by decide +kernel
theorem dX1_conduct_43 : decode cX1_conduct 43 = .ok (.lstore 5, 2) := by decide +kernel
theorem dX1_conduct_45 : decode cX1_conduct 45 = .ok (.aload_n 0, 1) := by decide +kernel
theorem dX1_conduct_46 : decode cX1_conduct 46 = .ok (.getfield 11, 3) := by decide +kernel
theorem dX1_conduct_49 : decode cX1_conduct 49 = .ok (.iload_n 2, 1) := by decide +kernel
theorem dX1_conduct_50 : decode cX1_conduct 50 = .ok (.dup2, 1) := by decide +kernel
theorem dX1_conduct_51 : decode cX1_conduct 51 = .ok (.laload, 1) := by decide +kernel
theorem dX1_conduct_52 : decode cX1_conduct 52 = .ok (.lload 5, 2) := by decide +kernel
theorem dX1_conduct_54 : decode cX1_conduct 54 = .ok (.lsub, 1) := by decide +kernel
theorem dX1_conduct_55 : decode cX1_conduct 55 = .ok (.lastore, 1) := by decide +kernel
theorem dX1_conduct_56 : decode cX1_conduct 56 = .ok (.aload_n 0, 1) := by decide +kernel
theorem dX1_conduct_57 : decode cX1_conduct 57 = .ok (.getfield 11, 3) := by decide +kernel
theorem dX1_conduct_60 : decode cX1_conduct 60 = .ok (.iload_n 2, 1) := by decide +kernel
theorem dX1_conduct_61 : decode cX1_conduct 61 = .ok (.iconst 1, 1) := by decide +kernel
theorem dX1_conduct_62 : decode cX1_conduct 62 = .ok (.iadd, 1) := by decide +kernel
theorem dX1_conduct_63 : decode cX1_conduct 63 = .ok (.dup2, 1) := by decide +kernel
theorem dX1_conduct_64 : decode cX1_conduct 64 = .ok (.laload, 1) := by decide +kernel
theorem dX1_conduct_65 : decode cX1_conduct 65 = .ok (.lload 5, 2) := by decide +kernel
theorem dX1_conduct_67 : decode cX1_conduct 67 = .ok (.ladd, 1) := by decide +kernel
theorem dX1_conduct_68 : decode cX1_conduct 68 = .ok (.lastore, 1) := by decide +kernel
theorem dX1_conduct_69 : decode cX1_conduct 69 = .ok (.iinc 2 1, 3) := by decide +kernel
theorem dX1_conduct_72 : decode cX1_conduct 72 = .ok (.goto (-70), 3) := by decide +kernel
theorem dX1_conduct_75 : decode cX1_conduct 75 = .ok (.return_, 1) := by decide +kernel
theorem dX2_init_0 : decode cX2_init 0 = .ok (.aload_n 0, 1) := by decide +kernel
theorem dX2_init_1 : decode cX2_init 1 = .ok (.invokespecial 1, 3) := by decide +kernel
theorem dX2_init_4 : decode cX2_init 4 = .ok (.return_, 1) := by decide +kernel
set_option maxRecDepth 20000 in
theorem ggX3_init_X10_replace : GoodIn wsX3_init wsX10_replace := goodIn_r _ [10] (by decide +kernel) (by decide +kernel)
set_option maxRecDepth 20000 in
theorem gX3_init_X10_replace_n22 : GoodIn wsX3_init (wsX10_replace) := ggX3_init_X10_replace
theorem dX3_init_0 : decode cX3_init 0 = .ok (.aload_n 0, 1) := by decide +kernel
theorem dX3_init_1 : decode cX3_init 1 = .ok (.invokespecial 3, 3) := by decide +kernel
theorem dX3_init_4 : decode cX3_init 4 = .ok (.aload_n 0, 1) := by decide +kernel
theorem dX3_init_5 : decode cX3_init 5 = .ok (.bipush 6, 2) := by decide +kernel
theorem dX3_init_7 : decode cX3_init 7 = .ok (.newarray .int, 2) := by decide +kernel
theorem dX3_init_9 : decode cX3_init 9 = .ok (.putfield 11, 3) := by decide +kernel
theorem dX3_init_12 : decode cX3_init 12 = .ok (.aload_n 0, 1) := by decide +kernel
theorem dX3_init_13 : decode cX3_init 13 = .ok (.bipush 6, 2) := by decide +kernel
theorem dX3_init_15 : decode cX3_init 15 = .ok (.newarray .int, 2) := by decide +kernel
theorem dX3_init_17 : decode cX3_init 17 = .ok (.putfield 15, 3) := by decide +kernel
theorem dX3_init_20 : decode cX3_init 20 = .ok (.aload_n 0, 1) := by decide +kernel
theorem dX3_init_21 : decode cX3_init 21 = .ok (.iconst 2, 1) := by decide +kernel
theorem dX3_init_22 : decode cX3_init 22 = .ok (.putfield 18, 3) := by decide +kernel
theorem dX3_init_25 : decode cX3_init 25 = .ok (.aload_n 0, 1) := by decide +kernel
theorem dX3_init_26 : decode cX3_init 26 = .ok (.getfield 11, 3) := by decide +kernel
theorem dX3_init_29 : decode cX3_init 29 = .ok (.iconst 0, 1) := by decide +kernel
theorem dX3_init_30 : decode cX3_init 30 = .ok (.sipush (-150), 3) := by decide +kernel
theorem dX3_init_33 : decode cX3_init 33 = .ok (.invokestatic 22, 3) := by decide +kernel
theorem dX3_init_36 : decode cX3_init 36 = .ok (.aload_n 0, 1) := by decide +kernel
theorem dX3_init_37 : decode cX3_init 37 = .ok (.getfield 15, 3) := by decide +kernel
theorem dX3_init_40 : decode cX3_init 40 = .ok (.iconst 0, 1) := by decide +kernel
theorem dX3_init_41 : decode cX3_init 41 = .ok (.sipush 450, 3) := by decide +kernel
theorem dX3_init_44 : decode cX3_init 44 = .ok (.invokestatic 22, 3) := by decide +kernel
theorem dX3_init_47 : decode cX3_init 47 = .ok (.aload_n 0, 1) := by decide +kernel
theorem dX3_init_48 : decode cX3_init 48 = .ok (.getfield 11, 3) := by decide +kernel
theorem dX3_init_51 : decode cX3_init 51 = .ok (.iconst 1, 1) := by decide +kernel
theorem dX3_init_52 : decode cX3_init 52 = .ok (.sipush 200, 3) := by decide +kernel
theorem dX3_init_55 : decode cX3_init 55 = .ok (.invokestatic 22, 3) := by decide +kernel
theorem dX3_init_58 : decode cX3_init 58 = .ok (.aload_n 0, 1) := by decide +kernel
theorem dX3_init_59 : decode cX3_init 59 = .ok (.getfield 15, 3) := by decide +kernel
theorem dX3_init_62 : decode cX3_init 62 = .ok (.iconst 1, 1) := by decide +kernel
theorem dX3_init_63 : decode cX3_init 63 = .ok (.sipush 250, 3) := by decide +kernel
theorem dX3_init_66 : decode cX3_init 66 = .ok (.invokestatic 22, 3) := by decide +kernel
theorem dX3_init_69 : decode cX3_init 69 = .ok (.return_, 1) := by decide +kernel
theorem dX3_isSupply_0 : decode cX3_isSupply 0 = .ok (.iload_n 0, 1) := by decide +kernel
theorem dX3_isSupply_1 : decode cX3_isSupply 1 = .ok (.sipush 150, 3) := by decide +kernel
theorem dX3_isSupply_4 : decode cX3_isSupply 4 = .ok (.if_icmp .lt 14, 3) := by decide +kernel
theorem dX3_isSupply_7 : decode cX3_isSupply 7 = .ok (.iload_n 0, 1) := by decide +kernel
theorem dX3_isSupply_8 : decode cX3_isSupply 8 = .ok (.sipush 600, 3) := by decide +kernel
theorem dX3_isSupply_11 : decode cX3_isSupply 11 = .ok (.if_icmp .gt 7, 3) := by decide +kernel
theorem dX3_isSupply_14 : decode cX3_isSupply 14 = .ok (.iconst 1, 1) := by decide +kernel
theorem dX3_isSupply_15 : decode cX3_isSupply 15 = .ok (.goto 4, 3) := by decide +kernel
theorem dX3_isSupply_18 : decode cX3_isSupply 18 = .ok (.iconst 0, 1) := by decide +kernel
theorem dX3_isSupply_19 : decode cX3_isSupply 19 = .ok (.ireturn, 1) := by decide +kernel
set_option maxRecDepth 20000 in
theorem ggX3_copyFrom_X10_copyRow : GoodIn wsX3_copyFrom wsX10_copyRow := goodIn_r _ [6] (by decide +kernel) (by decide +kernel)
set_option maxRecDepth 20000 in
theorem gX3_copyFrom_X10_copyRow_n26 : GoodIn wsX3_copyFrom (wsX10_copyRow) := ggX3_copyFrom_X10_copyRow
theorem dX3_copyFrom_0 : decode cX3_copyFrom 0 = .ok (.aload_n 1, 1) := by decide +kernel
theorem dX3_copyFrom_1 : decode cX3_copyFrom 1 = .ok (.getfield 11, 3) := by decide +kernel
theorem dX3_copyFrom_4 : decode cX3_copyFrom 4 = .ok (.aload_n 0, 1) := by decide +kernel
theorem dX3_copyFrom_5 : decode cX3_copyFrom 5 = .ok (.getfield 11, 3) := by decide +kernel
theorem dX3_copyFrom_8 : decode cX3_copyFrom 8 = .ok (.invokestatic 26, 3) := by decide +kernel
theorem dX3_copyFrom_11 : decode cX3_copyFrom 11 = .ok (.aload_n 1, 1) := by decide +kernel
theorem dX3_copyFrom_12 : decode cX3_copyFrom 12 = .ok (.getfield 15, 3) := by decide +kernel
theorem dX3_copyFrom_15 : decode cX3_copyFrom 15 = .ok (.aload_n 0, 1) := by decide +kernel
theorem dX3_copyFrom_16 : decode cX3_copyFrom 16 = .ok (.getfield 15, 3) := by decide +kernel
theorem dX3_copyFrom_19 : decode cX3_copyFrom 19 = .ok (.invokestatic 26, 3) := by decide +kernel
theorem dX3_copyFrom_22 : decode cX3_copyFrom 22 = .ok (.aload_n 0, 1) := by decide +kernel
theorem dX3_copyFrom_23 : decode cX3_copyFrom 23 = .ok (.aload_n 1, 1) := by decide +kernel
theorem dX3_copyFrom_24 : decode cX3_copyFrom 24 = .ok (.getfield 18, 3) := by decide +kernel
theorem dX3_copyFrom_27 : decode cX3_copyFrom 27 = .ok (.putfield 18, 3) := by decide +kernel
theorem dX3_copyFrom_30 : decode cX3_copyFrom 30 = .ok (.return_, 1) := by decide +kernel
set_option maxRecDepth 20000 in
theorem ggX3_has_X3_placeFor : GoodIn wsX3_has wsX3_placeFor := goodIn_r _ [7, 1, 2, 11, 12, 13] (by decide +kernel) (by decide +kernel)
set_option maxRecDepth 20000 in
theorem gX3_has_X3_placeFor : GoodIn wsX3_has (wsV RX3 30 RX3 yX3_placeFor wsX3_placeFor) := goodIn_app (goodIn_of _ (by decide +kernel)) ggX3_has_X3_placeFor
set_option maxRecDepth 20000 in
theorem ggX3_has_X10_elementOr : GoodIn wsX3_has wsX10_elementOr := goodIn_r _ [10] (by decide +kernel) (by decide +kernel)
set_option maxRecDepth 20000 in
theorem gX3_has_X10_elementOr_n34 : GoodIn wsX3_has (wsX10_elementOr) := ggX3_has_X10_elementOr
theorem dX3_has_0 : decode cX3_has 0 = .ok (.aload_n 0, 1) := by decide +kernel
theorem dX3_has_1 : decode cX3_has 1 = .ok (.iload_n 1, 1) := by decide +kernel
theorem dX3_has_2 : decode cX3_has 2 = .ok (.invokevirtual 30, 3) := by decide +kernel
theorem dX3_has_5 : decode cX3_has 5 = .ok (.istore_n 2, 1) := by decide +kernel
theorem dX3_has_6 : decode cX3_has 6 = .ok (.iload_n 2, 1) := by decide +kernel
theorem dX3_has_7 : decode cX3_has 7 = .ok (.aload_n 0, 1) := by decide +kernel
theorem dX3_has_8 : decode cX3_has 8 = .ok (.getfield 18, 3) := by decide +kernel
theorem dX3_has_11 : decode cX3_has 11 = .ok (.if_icmp .ge 22, 3) := by decide +kernel
theorem dX3_has_14 : decode cX3_has 14 = .ok (.aload_n 0, 1) := by decide +kernel
theorem dX3_has_15 : decode cX3_has 15 = .ok (.getfield 11, 3) := by decide +kernel
theorem dX3_has_18 : decode cX3_has 18 = .ok (.iload_n 2, 1) := by decide +kernel
theorem dX3_has_19 : decode cX3_has 19 = .ok (.sipush (-9999), 3) := by decide +kernel
theorem dX3_has_22 : decode cX3_has 22 = .ok (.invokestatic 34, 3) := by decide +kernel
theorem dX3_has_25 : decode cX3_has 25 = .ok (.iload_n 1, 1) := by decide +kernel
theorem dX3_has_26 : decode cX3_has 26 = .ok (.if_icmp .ne 7, 3) := by decide +kernel
theorem dX3_has_29 : decode cX3_has 29 = .ok (.iconst 1, 1) := by decide +kernel
theorem dX3_has_30 : decode cX3_has 30 = .ok (.goto 4, 3) := by decide +kernel
theorem dX3_has_33 : decode cX3_has 33 = .ok (.iconst 0, 1) := by decide +kernel
theorem dX3_has_34 : decode cX3_has 34 = .ok (.ireturn, 1) := by decide +kernel
set_option maxRecDepth 20000 in
theorem ggX3_hasRoomFor_X3_has : GoodIn wsX3_hasRoomFor wsX3_has := goodIn_r _ [6, 1, 7, 8, 9, 10, 5, 11, 12, 13, 14, 15, 16, 17] (by decide +kernel) (by decide +kernel)
set_option maxRecDepth 20000 in
theorem gX3_hasRoomFor_X3_has : GoodIn wsX3_hasRoomFor (wsV RX3 38 RX3 yX3_has wsX3_has) := goodIn_app (goodIn_of _ (by decide +kernel)) ggX3_hasRoomFor_X3_has
theorem dX3_hasRoomFor_0 : decode cX3_hasRoomFor 0 = .ok (.aload_n 0, 1) := by decide +kernel
theorem dX3_hasRoomFor_1 : decode cX3_hasRoomFor 1 = .ok (.getfield 18, 3) := by decide +kernel
theorem dX3_hasRoomFor_4 : decode cX3_hasRoomFor 4 = .ok (.bipush 6, 2) := by decide +kernel
theorem dX3_hasRoomFor_6 : decode cX3_hasRoomFor 6 = .ok (.if_icmp .lt 11, 3) := by decide +kernel
theorem dX3_hasRoomFor_9 : decode cX3_hasRoomFor 9 = .ok (.aload_n 0, 1) := by decide +kernel
theorem dX3_hasRoomFor_10 : decode cX3_hasRoomFor 10 = .ok (.iload_n 1, 1) := by decide +kernel
theorem dX3_hasRoomFor_11 : decode cX3_hasRoomFor 11 = .ok (.invokevirtual 38, 3) := by decide +kernel
theorem dX3_hasRoomFor_14 : decode cX3_hasRoomFor 14 = .ok (.ifCond .eq 7, 3) := by decide +kernel
theorem dX3_hasRoomFor_17 : decode cX3_hasRoomFor 17 = .ok (.iconst 1, 1) := by decide +kernel
theorem dX3_hasRoomFor_18 : decode cX3_hasRoomFor 18 = .ok (.goto 4, 3) := by decide +kernel
theorem dX3_hasRoomFor_21 : decode cX3_hasRoomFor 21 = .ok (.iconst 0, 1) := by decide +kernel
theorem dX3_hasRoomFor_22 : decode cX3_hasRoomFor 22 = .ok (.ireturn, 1) := by decide +kernel
set_option maxRecDepth 20000 in
theorem ggX3_put_X3_placeFor : GoodIn wsX3_put wsX3_placeFor := goodIn_r _ [8, 2, 1, 22, 23, 24] (by decide +kernel) (by decide +kernel)
set_option maxRecDepth 20000 in
theorem gX3_put_X3_placeFor : GoodIn wsX3_put (wsV RX3 30 RX3 yX3_placeFor wsX3_placeFor) := goodIn_app (goodIn_of _ (by decide +kernel)) ggX3_put_X3_placeFor
set_option maxRecDepth 20000 in
theorem ggX3_put_X3_has : GoodIn wsX3_put wsX3_has := goodIn_r _ [12, 2, 1, 4, 5, 6, 7, 8, 13, 14, 15, 22, 23, 24] (by decide +kernel) (by decide +kernel)
set_option maxRecDepth 20000 in
theorem gX3_put_X3_has : GoodIn wsX3_put (wsV RX3 38 RX3 yX3_has wsX3_has) := goodIn_app (goodIn_of _ (by decide +kernel)) ggX3_put_X3_has
set_option maxRecDepth 20000 in
theorem ggX3_put_X3_moveUpFrom : GoodIn wsX3_put wsX3_moveUpFrom := goodIn_r _ [19, 2, 1, 3, 13, 14, 15, 20, 21, 22, 23, 24] (by decide +kernel) (by decide +kernel)
set_option maxRecDepth 20000 in
theorem gX3_put_X3_moveUpFrom : GoodIn wsX3_put (wsV RX3 42 RX3 yX3_moveUpFrom wsX3_moveUpFrom) := goodIn_app (goodIn_of _ (by decide +kernel)) ggX3_put_X3_moveUpFrom
set_option maxRecDepth 20000 in
theorem ggX3_put_X10_replace : GoodIn wsX3_put wsX10_replace := goodIn_r _ [21] (by decide +kernel) (by decide +kernel)
set_option maxRecDepth 20000 in
theorem gX3_put_X10_replace_n22 : GoodIn wsX3_put (wsX10_replace) := ggX3_put_X10_replace
theorem dX3_put_0 : decode cX3_put 0 = .ok (.aload_n 0, 1) := by decide +kernel
theorem dX3_put_1 : decode cX3_put 1 = .ok (.iload_n 1, 1) := by decide +kernel
theorem dX3_put_2 : decode cX3_put 2 = .ok (.invokevirtual 30, 3) := by decide +kernel
theorem dX3_put_5 : decode cX3_put 5 = .ok (.istore_n 3, 1) := by decide +kernel
theorem dX3_put_6 : decode cX3_put 6 = .ok (.aload_n 0, 1) := by decide +kernel
theorem dX3_put_7 : decode cX3_put 7 = .ok (.iload_n 1, 1) := by decide +kernel
theorem dX3_put_8 : decode cX3_put 8 = .ok (.invokevirtual 38, 3) := by decide +kernel
theorem dX3_put_11 : decode cX3_put 11 = .ok (.ifCond .ne 27, 3) := by decide +kernel
theorem dX3_put_14 : decode cX3_put 14 = .ok (.aload_n 0, 1) := by decide +kernel
theorem dX3_put_15 : decode cX3_put 15 = .ok (.iload_n 3, 1) := by decide +kernel
theorem dX3_put_16 : decode cX3_put 16 = .ok (.invokevirtual 42, 3) := by decide +kernel
theorem dX3_put_19 : decode cX3_put 19 = .ok (.aload_n 0, 1) := by decide +kernel
theorem dX3_put_20 : decode cX3_put 20 = .ok (.getfield 11, 3) := by decide +kernel
theorem dX3_put_23 : decode cX3_put 23 = .ok (.iload_n 3, 1) := by decide +kernel
theorem dX3_put_24 : decode cX3_put 24 = .ok (.iload_n 1, 1) := by decide +kernel
theorem dX3_put_25 : decode cX3_put 25 = .ok (.invokestatic 22, 3) := by decide +kernel
theorem dX3_put_28 : decode cX3_put 28 = .ok (.aload_n 0, 1) := by decide +kernel
theorem dX3_put_29 : decode cX3_put 29 = .ok (.dup, 1) := by decide +kernel
theorem dX3_put_30 : decode cX3_put 30 = .ok (.getfield 18, 3) := by decide +kernel
theorem dX3_put_33 : decode cX3_put 33 = .ok (.iconst 1, 1) := by decide +kernel
theorem dX3_put_34 : decode cX3_put 34 = .ok (.iadd, 1) := by decide +kernel
theorem dX3_put_35 : decode cX3_put 35 = .ok (.putfield 18, 3) := by decide +kernel
theorem dX3_put_38 : decode cX3_put 38 = .ok (.aload_n 0, 1) := by decide +kernel
theorem dX3_put_39 : decode cX3_put 39 = .ok (.getfield 15, 3) := by decide +kernel
theorem dX3_put_42 : decode cX3_put 42 = .ok (.iload_n 3, 1) := by decide +kernel
theorem dX3_put_43 : decode cX3_put 43 = .ok (.iload_n 2, 1) := by decide +kernel
theorem dX3_put_44 : decode cX3_put 44 = .ok (.invokestatic 22, 3) := by decide +kernel
theorem dX3_put_47 : decode cX3_put 47 = .ok (.return_, 1) := by decide +kernel
set_option maxRecDepth 20000 in
theorem ggX3_drop_X3_placeFor : GoodIn wsX3_drop wsX3_placeFor := goodIn_r _ [8, 1, 2, 14, 15, 16] (by decide +kernel) (by decide +kernel)
set_option maxRecDepth 20000 in
theorem gX3_drop_X3_placeFor : GoodIn wsX3_drop (wsV RX3 30 RX3 yX3_placeFor wsX3_placeFor) := goodIn_app (goodIn_of _ (by decide +kernel)) ggX3_drop_X3_placeFor
set_option maxRecDepth 20000 in
theorem ggX3_drop_X10_elementOr : GoodIn wsX3_drop wsX10_elementOr := goodIn_r _ [11] (by decide +kernel) (by decide +kernel)
set_option maxRecDepth 20000 in
theorem gX3_drop_X10_elementOr_n34 : GoodIn wsX3_drop (wsX10_elementOr) := ggX3_drop_X10_elementOr
set_option maxRecDepth 20000 in
theorem ggX3_drop_X10_replace : GoodIn wsX3_drop wsX10_replace := goodIn_r _ [13] (by decide +kernel) (by decide +kernel)
set_option maxRecDepth 20000 in
theorem gX3_drop_X10_replace_n22 : GoodIn wsX3_drop (wsX10_replace) := ggX3_drop_X10_replace
theorem dX3_drop_0 : decode cX3_drop 0 = .ok (.aload_n 0, 1) := by decide +kernel
theorem dX3_drop_1 : decode cX3_drop 1 = .ok (.iload_n 1, 1) := by decide +kernel
theorem dX3_drop_2 : decode cX3_drop 2 = .ok (.invokevirtual 30, 3) := by decide +kernel
theorem dX3_drop_5 : decode cX3_drop 5 = .ok (.istore_n 2, 1) := by decide +kernel
theorem dX3_drop_6 : decode cX3_drop 6 = .ok (.iload_n 2, 1) := by decide +kernel
theorem dX3_drop_7 : decode cX3_drop 7 = .ok (.aload_n 0, 1) := by decide +kernel
theorem dX3_drop_8 : decode cX3_drop 8 = .ok (.getfield 18, 3) := by decide +kernel
theorem dX3_drop_11 : decode cX3_drop 11 = .ok (.iconst 1, 1) := by decide +kernel
theorem dX3_drop_12 : decode cX3_drop 12 = .ok (.isub, 1) := by decide +kernel
theorem dX3_drop_13 : decode cX3_drop 13 = .ok (.if_icmp .ge 47, 3) := by decide +kernel
theorem dX3_drop_16 : decode cX3_drop 16 = .ok (.aload_n 0, 1) := by decide +kernel
theorem dX3_drop_17 : decode cX3_drop 17 = .ok (.getfield 11, 3) := by decide +kernel
theorem dX3_drop_20 : decode cX3_drop 20 = .ok (.iload_n 2, 1) := by decide +kernel
theorem dX3_drop_21 : decode cX3_drop 21 = .ok (.aload_n 0, 1) := by decide +kernel
theorem dX3_drop_22 : decode cX3_drop 22 = .ok (.getfield 11, 3) := by decide +kernel
theorem dX3_drop_25 : decode cX3_drop 25 = .ok (.iload_n 2, 1) := by decide +kernel
theorem dX3_drop_26 : decode cX3_drop 26 = .ok (.iconst 1, 1) := by decide +kernel
theorem dX3_drop_27 : decode cX3_drop 27 = .ok (.iadd, 1) := by decide +kernel
theorem dX3_drop_28 : decode cX3_drop 28 = .ok (.iconst 0, 1) := by decide +kernel
theorem dX3_drop_29 : decode cX3_drop 29 = .ok (.invokestatic 34, 3) := by decide +kernel
theorem dX3_drop_32 : decode cX3_drop 32 = .ok (.invokestatic 22, 3) := by decide +kernel
theorem dX3_drop_35 : decode cX3_drop 35 = .ok (.aload_n 0, 1) := by decide +kernel
theorem dX3_drop_36 : decode cX3_drop 36 = .ok (.getfield 15, 3) := by decide +kernel
theorem dX3_drop_39 : decode cX3_drop 39 = .ok (.iload_n 2, 1) := by decide +kernel
theorem dX3_drop_40 : decode cX3_drop 40 = .ok (.aload_n 0, 1) := by decide +kernel
theorem dX3_drop_41 : decode cX3_drop 41 = .ok (.getfield 15, 3) := by decide +kernel
theorem dX3_drop_44 : decode cX3_drop 44 = .ok (.iload_n 2, 1) := by decide +kernel
theorem dX3_drop_45 : decode cX3_drop 45 = .ok (.iconst 1, 1) := by decide +kernel
theorem dX3_drop_46 : decode cX3_drop 46 = .ok (.iadd, 1) := by decide +kernel
theorem dX3_drop_47 : decode cX3_drop 47 = .ok (.iconst 0, 1) := by decide +kernel
theorem dX3_drop_48 : decode cX3_drop 48 = .ok (.invokestatic 34, 3) := by decide +kernel
theorem dX3_drop_51 : decode cX3_drop 51 = .ok (.invokestatic 22, 3) := by decide +kernel
theorem dX3_drop_54 : decode cX3_drop 54 = .ok (.iinc 2 1, 3) := by decide +kernel
theorem dX3_drop_57 : decode cX3_drop 57 = .ok (.goto (-51), 3) := by decide +kernel
theorem dX3_drop_60 : decode cX3_drop 60 = .ok (.aload_n 0, 1) := by decide +kernel
theorem dX3_drop_61 : decode cX3_drop 61 = .ok (.dup, 1) := by decide +kernel
theorem dX3_drop_62 : decode cX3_drop 62 = .ok (.getfield 18, 3) := by decide +kernel
theorem dX3_drop_65 : decode cX3_drop 65 = .ok (.iconst 1, 1) := by decide +kernel
theorem dX3_drop_66 : decode cX3_drop 66 = .ok (.isub, 1) := by decide +kernel
theorem dX3_drop_67 : decode cX3_drop 67 = .ok (.putfield 18, 3) := by decide +kernel
theorem dX3_drop_70 : decode cX3_drop 70 = .ok (.return_, 1) := by decide +kernel
set_option maxRecDepth 20000 in
theorem ggX3_supplyAt_X3_placeFor : GoodIn wsX3_supplyAt wsX3_placeFor := goodIn_r _ [8, 1, 3, 14, 15, 16] (by decide +kernel) (by decide +kernel)
set_option maxRecDepth 20000 in
theorem gX3_supplyAt_X3_placeFor : GoodIn wsX3_supplyAt (wsV RX3 30 RX3 yX3_placeFor wsX3_placeFor) := goodIn_app (goodIn_of _ (by decide +kernel)) ggX3_supplyAt_X3_placeFor
set_option maxRecDepth 20000 in
theorem ggX3_supplyAt_X10_elementOr : GoodIn wsX3_supplyAt wsX10_elementOr := goodIn_r _ [11] (by decide +kernel) (by decide +kernel)
set_option maxRecDepth 20000 in
theorem gX3_supplyAt_X10_elementOr_n34 : GoodIn wsX3_supplyAt (wsX10_elementOr) := ggX3_supplyAt_X10_elementOr
set_option maxRecDepth 20000 in
theorem ggX3_supplyAt_X10_div : GoodIn wsX3_supplyAt wsX10_div := goodIn_r _ [13] (by decide +kernel) (by decide +kernel)
set_option maxRecDepth 20000 in
theorem gX3_supplyAt_X10_div_n46 : GoodIn wsX3_supplyAt (wsX10_div) := ggX3_supplyAt_X10_div
theorem dX3_supplyAt_0 : decode cX3_supplyAt 0 = .ok (.aload_n 0, 1) := by decide +kernel
theorem dX3_supplyAt_1 : decode cX3_supplyAt 1 = .ok (.iload_n 1, 1) := by decide +kernel
theorem dX3_supplyAt_2 : decode cX3_supplyAt 2 = .ok (.invokevirtual 30, 3) := by decide +kernel
theorem dX3_supplyAt_5 : decode cX3_supplyAt 5 = .ok (.istore_n 2, 1) := by decide +kernel
theorem dX3_supplyAt_6 : decode cX3_supplyAt 6 = .ok (.iload_n 2, 1) := by decide +kernel
theorem dX3_supplyAt_7 : decode cX3_supplyAt 7 = .ok (.aload_n 0, 1) := by decide +kernel
theorem dX3_supplyAt_8 : decode cX3_supplyAt 8 = .ok (.getfield 18, 3) := by decide +kernel
theorem dX3_supplyAt_11 : decode cX3_supplyAt 11 = .ok (.if_icmp .ne 20, 3) := by decide +kernel
theorem dX3_supplyAt_14 : decode cX3_supplyAt 14 = .ok (.aload_n 0, 1) := by decide +kernel
theorem dX3_supplyAt_15 : decode cX3_supplyAt 15 = .ok (.getfield 15, 3) := by decide +kernel
theorem dX3_supplyAt_18 : decode cX3_supplyAt 18 = .ok (.aload_n 0, 1) := by decide +kernel
theorem dX3_supplyAt_19 : decode cX3_supplyAt 19 = .ok (.getfield 18, 3) := by decide +kernel
theorem dX3_supplyAt_22 : decode cX3_supplyAt 22 = .ok (.iconst 1, 1) := by decide +kernel
theorem dX3_supplyAt_23 : decode cX3_supplyAt 23 = .ok (.isub, 1) := by decide +kernel
theorem dX3_supplyAt_24 : decode cX3_supplyAt 24 = .ok (.sipush (-9999), 3) := by decide +kernel
theorem dX3_supplyAt_27 : decode cX3_supplyAt 27 = .ok (.invokestatic 34, 3) := by decide +kernel
theorem dX3_supplyAt_30 : decode cX3_supplyAt 30 = .ok (.ireturn, 1) := by decide +kernel
theorem dX3_supplyAt_31 : decode cX3_supplyAt 31 = .ok (.aload_n 0, 1) := by decide +kernel
theorem dX3_supplyAt_32 : decode cX3_supplyAt 32 = .ok (.getfield 11, 3) := by decide +kernel
theorem dX3_supplyAt_35 : decode cX3_supplyAt 35 = .ok (.iload_n 2, 1) := by decide +kernel
theorem dX3_supplyAt_36 : decode cX3_supplyAt 36 = .ok (.sipush (-9999), 3) := by decide +kernel
theorem dX3_supplyAt_39 : decode cX3_supplyAt 39 = .ok (.invokestatic 34, 3) := by decide +kernel
theorem dX3_supplyAt_42 : decode cX3_supplyAt 42 = .ok (.istore_n 3, 1) := by decide +kernel
theorem dX3_supplyAt_43 : decode cX3_supplyAt 43 = .ok (.aload_n 0, 1) := by decide +kernel
theorem dX3_supplyAt_44 : decode cX3_supplyAt 44 = .ok (.getfield 15, 3) := by decide +kernel
theorem dX3_supplyAt_47 : decode cX3_supplyAt 47 = .ok (.iload_n 2, 1) := by decide +kernel
theorem dX3_supplyAt_48 : decode cX3_supplyAt 48 = .ok (.sipush (-9999), 3) := by decide +kernel
theorem dX3_supplyAt_51 : decode cX3_supplyAt 51 = .ok (.invokestatic 34, 3) := by decide +kernel
theorem dX3_supplyAt_54 : decode cX3_supplyAt 54 = .ok (.istore 4, 2) := by decide +kernel
theorem dX3_supplyAt_56 : decode cX3_supplyAt 56 = .ok (.iload_n 2, 1) := by decide +kernel
theorem dX3_supplyAt_57 : decode cX3_supplyAt 57 = .ok (.ifCond .eq 8, 3) := by decide +kernel
theorem dX3_supplyAt_60 : decode cX3_supplyAt 60 = .ok (.iload_n 3, 1) := by decide +kernel
theorem dX3_supplyAt_61 : decode cX3_supplyAt 61 = .ok (.iload_n 1, 1) := by decide +kernel
theorem dX3_supplyAt_62 : decode cX3_supplyAt 62 = .ok (.if_icmp .ne 6, 3) := by decide +kernel
theorem dX3_supplyAt_65 : decode cX3_supplyAt 65 = .ok (.iload 4, 2) := by decide +kernel
theorem dX3_supplyAt_67 : decode cX3_supplyAt 67 = .ok (.ireturn, 1) := by decide +kernel
theorem dX3_supplyAt_68 : decode cX3_supplyAt 68 = .ok (.aload_n 0, 1) := by decide +kernel
theorem dX3_supplyAt_69 : decode cX3_supplyAt 69 = .ok (.getfield 11, 3) := by decide +kernel
theorem dX3_supplyAt_72 : decode cX3_supplyAt 72 = .ok (.iload_n 2, 1) := by decide +kernel
theorem dX3_supplyAt_73 : decode cX3_supplyAt 73 = .ok (.iconst 1, 1) := by decide +kernel
theorem dX3_supplyAt_74 : decode cX3_supplyAt 74 = .ok (.isub, 1) := by decide +kernel
theorem dX3_supplyAt_75 : decode cX3_supplyAt 75 = .ok (.sipush (-9999), 3) := by decide +kernel
theorem dX3_supplyAt_78 : decode cX3_supplyAt 78 = .ok (.invokestatic 34, 3) := by decide +kernel
theorem dX3_supplyAt_81 : decode cX3_supplyAt 81 = .ok (.istore 5, 2) := by decide +kernel
theorem dX3_supplyAt_83 : decode cX3_supplyAt 83 = .ok (.aload_n 0, 1) := by decide +kernel
theorem dX3_supplyAt_84 : decode cX3_supplyAt 84 = .ok (.getfield 15, 3) := by decide +kernel
theorem dX3_supplyAt_87 : decode cX3_supplyAt 87 = .ok (.iload_n 2, 1) := by decide +kernel
theorem dX3_supplyAt_88 : decode cX3_supplyAt 88 = .ok (.iconst 1, 1) := by decide +kernel
theorem dX3_supplyAt_89 : decode cX3_supplyAt 89 = .ok (.isub, 1) := by decide +kernel
theorem dX3_supplyAt_90 : decode cX3_supplyAt 90 = .ok (.sipush (-9999), 3) := by decide +kernel
theorem dX3_supplyAt_93 : decode cX3_supplyAt 93 = .ok (.invokestatic 34, 3) := by decide +kernel
theorem dX3_supplyAt_96 : decode cX3_supplyAt 96 = .ok (.istore 6, 2) := by decide +kernel
