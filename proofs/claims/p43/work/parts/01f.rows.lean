theorem dX9_readEntry_8 : decode cX9_readEntry 8 = .ok (.aload_n 0, 1) := by decide +kernel
theorem dX9_readEntry_9 : decode cX9_readEntry 9 = .ok (.getfield 39, 3) := by decide +kernel
theorem dX9_readEntry_12 : decode cX9_readEntry 12 = .ok (.ifCond .ge 5, 3) := by decide +kernel
theorem dX9_readEntry_15 : decode cX9_readEntry 15 = .ok (.iconst 0, 1) := by decide +kernel
theorem dX9_readEntry_16 : decode cX9_readEntry 16 = .ok (.ireturn, 1) := by decide +kernel
theorem dX9_readEntry_17 : decode cX9_readEntry 17 = .ok (.aload_n 0, 1) := by decide +kernel
theorem dX9_readEntry_18 : decode cX9_readEntry 18 = .ok (.aload_n 0, 1) := by decide +kernel
theorem dX9_readEntry_19 : decode cX9_readEntry 19 = .ok (.getfield 39, 3) := by decide +kernel
theorem dX9_readEntry_22 : decode cX9_readEntry 22 = .ok (.putfield 42, 3) := by decide +kernel
theorem dX9_readEntry_25 : decode cX9_readEntry 25 = .ok (.aload_n 0, 1) := by decide +kernel
theorem dX9_readEntry_26 : decode cX9_readEntry 26 = .ok (.bipush 45, 2) := by decide +kernel
theorem dX9_readEntry_28 : decode cX9_readEntry 28 = .ok (.invokevirtual 58, 3) := by decide +kernel
theorem dX9_readEntry_31 : decode cX9_readEntry 31 = .ok (.ifCond .eq 11, 3) := by decide +kernel
theorem dX9_readEntry_34 : decode cX9_readEntry 34 = .ok (.aload_n 0, 1) := by decide +kernel
theorem dX9_readEntry_35 : decode cX9_readEntry 35 = .ok (.aload_n 0, 1) := by decide +kernel
theorem dX9_readEntry_36 : decode cX9_readEntry 36 = .ok (.invokevirtual 54, 3) := by decide +kernel
theorem dX9_readEntry_39 : decode cX9_readEntry 39 = .ok (.putfield 42, 3) := by decide +kernel
theorem dX9_readEntry_42 : decode cX9_readEntry 42 = .ok (.aload_n 0, 1) := by decide +kernel
theorem dX9_readEntry_43 : decode cX9_readEntry 43 = .ok (.getfield 42, 3) := by decide +kernel
theorem dX9_readEntry_46 : decode cX9_readEntry 46 = .ok (.ifCond .lt 12, 3) := by decide +kernel
theorem dX9_readEntry_49 : decode cX9_readEntry 49 = .ok (.aload_n 0, 1) := by decide +kernel
theorem dX9_readEntry_50 : decode cX9_readEntry 50 = .ok (.bipush 58, 2) := by decide +kernel
theorem dX9_readEntry_52 : decode cX9_readEntry 52 = .ok (.invokevirtual 58, 3) := by decide +kernel
theorem dX9_readEntry_55 : decode cX9_readEntry 55 = .ok (.ifCond .ne 5, 3) := by decide +kernel
theorem dX9_readEntry_58 : decode cX9_readEntry 58 = .ok (.iconst 0, 1) := by decide +kernel
theorem dX9_readEntry_59 : decode cX9_readEntry 59 = .ok (.ireturn, 1) := by decide +kernel
theorem dX9_readEntry_60 : decode cX9_readEntry 60 = .ok (.aload_n 0, 1) := by decide +kernel
theorem dX9_readEntry_61 : decode cX9_readEntry 61 = .ok (.bipush 45, 2) := by decide +kernel
theorem dX9_readEntry_63 : decode cX9_readEntry 63 = .ok (.invokevirtual 58, 3) := by decide +kernel
theorem dX9_readEntry_66 : decode cX9_readEntry 66 = .ok (.istore_n 1, 1) := by decide +kernel
theorem dX9_readEntry_67 : decode cX9_readEntry 67 = .ok (.aload_n 0, 1) := by decide +kernel
theorem dX9_readEntry_68 : decode cX9_readEntry 68 = .ok (.invokevirtual 61, 3) := by decide +kernel
theorem dX9_readEntry_71 : decode cX9_readEntry 71 = .ok (.istore_n 2, 1) := by decide +kernel
theorem dX9_readEntry_72 : decode cX9_readEntry 72 = .ok (.iload_n 2, 1) := by decide +kernel
theorem dX9_readEntry_73 : decode cX9_readEntry 73 = .ok (.ifCond .ge 5, 3) := by decide +kernel
theorem dX9_readEntry_76 : decode cX9_readEntry 76 = .ok (.iconst 0, 1) := by decide +kernel
theorem dX9_readEntry_77 : decode cX9_readEntry 77 = .ok (.ireturn, 1) := by decide +kernel
theorem dX9_readEntry_78 : decode cX9_readEntry 78 = .ok (.aload_n 0, 1) := by decide +kernel
theorem dX9_readEntry_79 : decode cX9_readEntry 79 = .ok (.iload_n 1, 1) := by decide +kernel
theorem dX9_readEntry_80 : decode cX9_readEntry 80 = .ok (.ifCond .eq 8, 3) := by decide +kernel
theorem dX9_readEntry_83 : decode cX9_readEntry 83 = .ok (.iload_n 2, 1) := by decide +kernel
theorem dX9_readEntry_84 : decode cX9_readEntry 84 = .ok (.ineg, 1) := by decide +kernel
theorem dX9_readEntry_85 : decode cX9_readEntry 85 = .ok (.goto 4, 3) := by decide +kernel
theorem dX9_readEntry_88 : decode cX9_readEntry 88 = .ok (.iload_n 2, 1) := by decide +kernel
theorem dX9_readEntry_89 : decode cX9_readEntry 89 = .ok (.putfield 30, 3) := by decide +kernel
theorem dX9_readEntry_92 : decode cX9_readEntry 92 = .ok (.aload_n 0, 1) := by decide +kernel
theorem dX9_readEntry_93 : decode cX9_readEntry 93 = .ok (.aload_n 0, 1) := by decide +kernel
theorem dX9_readEntry_94 : decode cX9_readEntry 94 = .ok (.invokevirtual 64, 3) := by decide +kernel
theorem dX9_readEntry_97 : decode cX9_readEntry 97 = .ok (.putfield 48, 3) := by decide +kernel
theorem dX9_readEntry_100 : decode cX9_readEntry 100 = .ok (.aload_n 0, 1) := by decide +kernel
theorem dX9_readEntry_101 : decode cX9_readEntry 101 = .ok (.bipush 59, 2) := by decide +kernel
theorem dX9_readEntry_103 : decode cX9_readEntry 103 = .ok (.invokevirtual 58, 3) := by decide +kernel
theorem dX9_readEntry_106 : decode cX9_readEntry 106 = .ok (.ireturn, 1) := by decide +kernel
set_option maxRecDepth 20000 in
theorem ggX9_readHour_X9_readDigit : GoodIn wsX9_readHour wsX9_readDigit := goodIn_r _ [5, 6, 7, 8, 9, 4, 10, 11, 12, 13, 14, 15, 16, 17, 18, 19, 20, 21, 22] (by decide +kernel) (by decide +kernel)
set_option maxRecDepth 20000 in
theorem gX9_readHour_X9_readDigit : GoodIn wsX9_readHour (wsV RX9 67 RX9 yX9_readDigit wsX9_readDigit) := goodIn_app (goodIn_of _ (by decide +kernel)) ggX9_readHour_X9_readDigit
theorem dX9_readHour_0 : decode cX9_readHour 0 = .ok (.aload_n 0, 1) := by decide +kernel
theorem dX9_readHour_1 : decode cX9_readHour 1 = .ok (.bipush 9, 2) := by decide +kernel
theorem dX9_readHour_3 : decode cX9_readHour 3 = .ok (.invokevirtual 67, 3) := by decide +kernel
theorem dX9_readHour_6 : decode cX9_readHour 6 = .ok (.istore_n 1, 1) := by decide +kernel
theorem dX9_readHour_7 : decode cX9_readHour 7 = .ok (.iload_n 1, 1) := by decide +kernel
theorem dX9_readHour_8 : decode cX9_readHour 8 = .ok (.iconst 1, 1) := by decide +kernel
theorem dX9_readHour_9 : decode cX9_readHour 9 = .ok (.if_icmp .eq 10, 3) := by decide +kernel
theorem dX9_readHour_12 : decode cX9_readHour 12 = .ok (.iload_n 1, 1) := by decide +kernel
theorem dX9_readHour_13 : decode cX9_readHour 13 = .ok (.iconst 2, 1) := by decide +kernel
theorem dX9_readHour_14 : decode cX9_readHour 14 = .ok (.if_icmp .eq 5, 3) := by decide +kernel
theorem dX9_readHour_17 : decode cX9_readHour 17 = .ok (.iload_n 1, 1) := by decide +kernel
theorem dX9_readHour_18 : decode cX9_readHour 18 = .ok (.ireturn, 1) := by decide +kernel
theorem dX9_readHour_19 : decode cX9_readHour 19 = .ok (.aload_n 0, 1) := by decide +kernel
theorem dX9_readHour_20 : decode cX9_readHour 20 = .ok (.iload_n 1, 1) := by decide +kernel
theorem dX9_readHour_21 : decode cX9_readHour 21 = .ok (.iconst 1, 1) := by decide +kernel
theorem dX9_readHour_22 : decode cX9_readHour 22 = .ok (.if_icmp .ne 8, 3) := by decide +kernel
theorem dX9_readHour_25 : decode cX9_readHour 25 = .ok (.bipush 9, 2) := by decide +kernel
theorem dX9_readHour_27 : decode cX9_readHour 27 = .ok (.goto 4, 3) := by decide +kernel
theorem dX9_readHour_30 : decode cX9_readHour 30 = .ok (.iconst 3, 1) := by decide +kernel
theorem dX9_readHour_31 : decode cX9_readHour 31 = .ok (.invokevirtual 67, 3) := by decide +kernel
theorem dX9_readHour_34 : decode cX9_readHour 34 = .ok (.istore_n 2, 1) := by decide +kernel
theorem dX9_readHour_35 : decode cX9_readHour 35 = .ok (.iload_n 2, 1) := by decide +kernel
theorem dX9_readHour_36 : decode cX9_readHour 36 = .ok (.ifCond .ge 7, 3) := by decide +kernel
theorem dX9_readHour_39 : decode cX9_readHour 39 = .ok (.iload_n 1, 1) := by decide +kernel
theorem dX9_readHour_40 : decode cX9_readHour 40 = .ok (.goto 9, 3) := by decide +kernel
theorem dX9_readHour_43 : decode cX9_readHour 43 = .ok (.bipush 10, 2) := by decide +kernel
theorem dX9_readHour_45 : decode cX9_readHour 45 = .ok (.iload_n 1, 1) := by decide +kernel
theorem dX9_readHour_46 : decode cX9_readHour 46 = .ok (.imul, 1) := by decide +kernel
theorem dX9_readHour_47 : decode cX9_readHour 47 = .ok (.iload_n 2, 1) := by decide +kernel
theorem dX9_readHour_48 : decode cX9_readHour 48 = .ok (.iadd, 1) := by decide +kernel
theorem dX9_readHour_49 : decode cX9_readHour 49 = .ok (.ireturn, 1) := by decide +kernel
set_option maxRecDepth 20000 in
theorem ggX9_readNumber_X9_readDigit : GoodIn wsX9_readNumber wsX9_readDigit := goodIn_r _ [5, 6, 7, 8, 9, 4, 10, 11, 12, 13, 14, 15, 16, 17, 18, 19, 20, 21, 22] (by decide +kernel) (by decide +kernel)
set_option maxRecDepth 20000 in
theorem gX9_readNumber_X9_readDigit : GoodIn wsX9_readNumber (wsV RX9 67 RX9 yX9_readDigit wsX9_readDigit) := goodIn_app (goodIn_of _ (by decide +kernel)) ggX9_readNumber_X9_readDigit
theorem dX9_readNumber_0 : decode cX9_readNumber 0 = .ok (.aload_n 0, 1) := by decide +kernel
theorem dX9_readNumber_1 : decode cX9_readNumber 1 = .ok (.bipush 9, 2) := by decide +kernel
theorem dX9_readNumber_3 : decode cX9_readNumber 3 = .ok (.invokevirtual 67, 3) := by decide +kernel
theorem dX9_readNumber_6 : decode cX9_readNumber 6 = .ok (.istore_n 1, 1) := by decide +kernel
theorem dX9_readNumber_7 : decode cX9_readNumber 7 = .ok (.iload_n 1, 1) := by decide +kernel
theorem dX9_readNumber_8 : decode cX9_readNumber 8 = .ok (.ifCond .gt 5, 3) := by decide +kernel
theorem dX9_readNumber_11 : decode cX9_readNumber 11 = .ok (.iload_n 1, 1) := by decide +kernel
theorem dX9_readNumber_12 : decode cX9_readNumber 12 = .ok (.ireturn, 1) := by decide +kernel
theorem dX9_readNumber_13 : decode cX9_readNumber 13 = .ok (.iconst 0, 1) := by decide +kernel
theorem dX9_readNumber_14 : decode cX9_readNumber 14 = .ok (.istore_n 2, 1) := by decide +kernel
theorem dX9_readNumber_15 : decode cX9_readNumber 15 = .ok (.iload_n 2, 1) := by decide +kernel
theorem dX9_readNumber_16 : decode cX9_readNumber 16 = .ok (.iconst 2, 1) := by decide +kernel
theorem dX9_readNumber_17 : decode cX9_readNumber 17 = .ok (.if_icmp .ge 29, 3) := by decide +kernel
theorem dX9_readNumber_20 : decode cX9_readNumber 20 = .ok (.aload_n 0, 1) := by decide +kernel
theorem dX9_readNumber_21 : decode cX9_readNumber 21 = .ok (.bipush 9, 2) := by decide +kernel
theorem dX9_readNumber_23 : decode cX9_readNumber 23 = .ok (.invokevirtual 67, 3) := by decide +kernel
theorem dX9_readNumber_26 : decode cX9_readNumber 26 = .ok (.istore_n 3, 1) := by decide +kernel
theorem dX9_readNumber_27 : decode cX9_readNumber 27 = .ok (.iload_n 3, 1) := by decide +kernel
theorem dX9_readNumber_28 : decode cX9_readNumber 28 = .ok (.ifCond .ge 5, 3) := by decide +kernel
theorem dX9_readNumber_31 : decode cX9_readNumber 31 = .ok (.iload_n 1, 1) := by decide +kernel
theorem dX9_readNumber_32 : decode cX9_readNumber 32 = .ok (.ireturn, 1) := by decide +kernel
theorem dX9_readNumber_33 : decode cX9_readNumber 33 = .ok (.bipush 10, 2) := by decide +kernel
theorem dX9_readNumber_35 : decode cX9_readNumber 35 = .ok (.iload_n 1, 1) := by decide +kernel
theorem dX9_readNumber_36 : decode cX9_readNumber 36 = .ok (.imul, 1) := by decide +kernel
theorem dX9_readNumber_37 : decode cX9_readNumber 37 = .ok (.iload_n 3, 1) := by decide +kernel
theorem dX9_readNumber_38 : decode cX9_readNumber 38 = .ok (.iadd, 1) := by decide +kernel
theorem dX9_readNumber_39 : decode cX9_readNumber 39 = .ok (.istore_n 1, 1) := by decide +kernel
theorem dX9_readNumber_40 : decode cX9_readNumber 40 = .ok (.iinc 2 1, 3) := by decide +kernel
theorem dX9_readNumber_43 : decode cX9_readNumber 43 = .ok (.goto (-28), 3) := by decide +kernel
theorem dX9_readNumber_46 : decode cX9_readNumber 46 = .ok (.iload_n 1, 1) := by decide +kernel
theorem dX9_readNumber_47 : decode cX9_readNumber 47 = .ok (.ireturn, 1) := by decide +kernel
set_option maxRecDepth 20000 in
theorem ggX9_readTariff_X9_accept : GoodIn wsX9_readTariff wsX9_accept := goodIn_r _ [5, 6, 7, 8, 9, 4, 10, 11, 12, 13, 14, 15, 16, 17, 18, 19, 20, 21, 22] (by decide +kernel) (by decide +kernel)
set_option maxRecDepth 20000 in
theorem gX9_readTariff_X9_accept : GoodIn wsX9_readTariff (wsV RX9 58 RX9 yX9_accept wsX9_accept) := goodIn_app (goodIn_of _ (by decide +kernel)) ggX9_readTariff_X9_accept
theorem dX9_readTariff_0 : decode cX9_readTariff 0 = .ok (.aload_n 0, 1) := by decide +kernel
theorem dX9_readTariff_1 : decode cX9_readTariff 1 = .ok (.bipush 99, 2) := by decide +kernel
theorem dX9_readTariff_3 : decode cX9_readTariff 3 = .ok (.invokevirtual 58, 3) := by decide +kernel
theorem dX9_readTariff_6 : decode cX9_readTariff 6 = .ok (.ifCond .eq 5, 3) := by decide +kernel
theorem dX9_readTariff_9 : decode cX9_readTariff 9 = .ok (.iconst 0, 1) := by decide +kernel
theorem dX9_readTariff_10 : decode cX9_readTariff 10 = .ok (.ireturn, 1) := by decide +kernel
theorem dX9_readTariff_11 : decode cX9_readTariff 11 = .ok (.aload_n 0, 1) := by decide +kernel
theorem dX9_readTariff_12 : decode cX9_readTariff 12 = .ok (.bipush 110, 2) := by decide +kernel
theorem dX9_readTariff_14 : decode cX9_readTariff 14 = .ok (.invokevirtual 58, 3) := by decide +kernel
theorem dX9_readTariff_17 : decode cX9_readTariff 17 = .ok (.ifCond .eq 5, 3) := by decide +kernel
theorem dX9_readTariff_20 : decode cX9_readTariff 20 = .ok (.iconst 1, 1) := by decide +kernel
theorem dX9_readTariff_21 : decode cX9_readTariff 21 = .ok (.ireturn, 1) := by decide +kernel
theorem dX9_readTariff_22 : decode cX9_readTariff 22 = .ok (.aload_n 0, 1) := by decide +kernel
theorem dX9_readTariff_23 : decode cX9_readTariff 23 = .ok (.bipush 112, 2) := by decide +kernel
theorem dX9_readTariff_25 : decode cX9_readTariff 25 = .ok (.invokevirtual 58, 3) := by decide +kernel
theorem dX9_readTariff_28 : decode cX9_readTariff 28 = .ok (.ifCond .eq 7, 3) := by decide +kernel
theorem dX9_readTariff_31 : decode cX9_readTariff 31 = .ok (.iconst 2, 1) := by decide +kernel
theorem dX9_readTariff_32 : decode cX9_readTariff 32 = .ok (.goto 4, 3) := by decide +kernel
theorem dX9_readTariff_35 : decode cX9_readTariff 35 = .ok (.iconst (-1), 1) := by decide +kernel
theorem dX9_readTariff_36 : decode cX9_readTariff 36 = .ok (.ireturn, 1) := by decide +kernel
set_option maxRecDepth 20000 in
theorem ggX9_readDigit_X9_codeHere : GoodIn wsX9_readDigit wsX9_codeHere := goodIn_r _ [6, 1, 7, 8, 9, 10, 11, 12, 13, 14, 15, 16, 17, 18] (by decide +kernel) (by decide +kernel)
set_option maxRecDepth 20000 in
theorem gX9_readDigit_X9_codeHere : GoodIn wsX9_readDigit (wsV RX9 71 RX9 yX9_codeHere wsX9_codeHere) := goodIn_app (goodIn_of _ (by decide +kernel)) ggX9_readDigit_X9_codeHere
theorem dX9_readDigit_0 : decode cX9_readDigit 0 = .ok (.aload_n 0, 1) := by decide +kernel
theorem dX9_readDigit_1 : decode cX9_readDigit 1 = .ok (.invokevirtual 71, 3) := by decide +kernel
theorem dX9_readDigit_4 : decode cX9_readDigit 4 = .ok (.bipush 48, 2) := by decide +kernel
theorem dX9_readDigit_6 : decode cX9_readDigit 6 = .ok (.isub, 1) := by decide +kernel
theorem dX9_readDigit_7 : decode cX9_readDigit 7 = .ok (.istore_n 2, 1) := by decide +kernel
theorem dX9_readDigit_8 : decode cX9_readDigit 8 = .ok (.iload_n 2, 1) := by decide +kernel
theorem dX9_readDigit_9 : decode cX9_readDigit 9 = .ok (.ifCond .lt 8, 3) := by decide +kernel
theorem dX9_readDigit_12 : decode cX9_readDigit 12 = .ok (.iload_n 2, 1) := by decide +kernel
theorem dX9_readDigit_13 : decode cX9_readDigit 13 = .ok (.iload_n 1, 1) := by decide +kernel
theorem dX9_readDigit_14 : decode cX9_readDigit 14 = .ok (.if_icmp .le 5, 3) := by decide +kernel
theorem dX9_readDigit_17 : decode cX9_readDigit 17 = .ok (.iconst (-1), 1) := by decide +kernel
theorem dX9_readDigit_18 : decode cX9_readDigit 18 = .ok (.ireturn, 1) := by decide +kernel
theorem dX9_readDigit_19 : decode cX9_readDigit 19 = .ok (.aload_n 0, 1) := by decide +kernel
theorem dX9_readDigit_20 : decode cX9_readDigit 20 = .ok (.dup, 1) := by decide +kernel
theorem dX9_readDigit_21 : decode cX9_readDigit 21 = .ok (.getfield 23, 3) := by decide +kernel
theorem dX9_readDigit_24 : decode cX9_readDigit 24 = .ok (.iconst 1, 1) := by decide +kernel
theorem dX9_readDigit_25 : decode cX9_readDigit 25 = .ok (.iadd, 1) := by decide +kernel
theorem dX9_readDigit_26 : decode cX9_readDigit 26 = .ok (.putfield 23, 3) := by decide +kernel
theorem dX9_readDigit_29 : decode cX9_readDigit 29 = .ok (.iload_n 2, 1) := by decide +kernel
theorem dX9_readDigit_30 : decode cX9_readDigit 30 = .ok (.ireturn, 1) := by decide +kernel
set_option maxRecDepth 20000 in
theorem ggX9_accept_X9_codeHere : GoodIn wsX9_accept wsX9_codeHere := goodIn_r _ [6, 1, 7, 8, 9, 10, 11, 12, 13, 14, 15, 16, 17, 18] (by decide +kernel) (by decide +kernel)
set_option maxRecDepth 20000 in
theorem gX9_accept_X9_codeHere : GoodIn wsX9_accept (wsV RX9 71 RX9 yX9_codeHere wsX9_codeHere) := goodIn_app (goodIn_of _ (by decide +kernel)) ggX9_accept_X9_codeHere
theorem dX9_accept_0 : decode cX9_accept 0 = .ok (.aload_n 0, 1) := by decide +kernel
theorem dX9_accept_1 : decode cX9_accept 1 = .ok (.invokevirtual 71, 3) := by decide +kernel
theorem dX9_accept_4 : decode cX9_accept 4 = .ok (.iload_n 1, 1) := by decide +kernel
theorem dX9_accept_5 : decode cX9_accept 5 = .ok (.if_icmp .eq 5, 3) := by decide +kernel
theorem dX9_accept_8 : decode cX9_accept 8 = .ok (.iconst 0, 1) := by decide +kernel
theorem dX9_accept_9 : decode cX9_accept 9 = .ok (.ireturn, 1) := by decide +kernel
theorem dX9_accept_10 : decode cX9_accept 10 = .ok (.aload_n 0, 1) := by decide +kernel
theorem dX9_accept_11 : decode cX9_accept 11 = .ok (.dup, 1) := by decide +kernel
theorem dX9_accept_12 : decode cX9_accept 12 = .ok (.getfield 23, 3) := by decide +kernel
theorem dX9_accept_15 : decode cX9_accept 15 = .ok (.iconst 1, 1) := by decide +kernel
theorem dX9_accept_16 : decode cX9_accept 16 = .ok (.iadd, 1) := by decide +kernel
theorem dX9_accept_17 : decode cX9_accept 17 = .ok (.putfield 23, 3) := by decide +kernel
theorem dX9_accept_20 : decode cX9_accept 20 = .ok (.iconst 1, 1) := by decide +kernel
theorem dX9_accept_21 : decode cX9_accept 21 = .ok (.ireturn, 1) := by decide +kernel
set_option maxRecDepth 20000 in
theorem ggX9_codeHere_X10_elementOr : GoodIn wsX9_codeHere wsX10_elementOr := goodIn_r _ [6] (by decide +kernel) (by decide +kernel)
set_option maxRecDepth 20000 in
theorem gX9_codeHere_X10_elementOr_n74 : GoodIn wsX9_codeHere (wsX10_elementOr) := ggX9_codeHere_X10_elementOr
theorem dX9_codeHere_0 : decode cX9_codeHere 0 = .ok (.aload_n 0, 1) := by decide +kernel
theorem dX9_codeHere_1 : decode cX9_codeHere 1 = .ok (.getfield 23, 3) := by decide +kernel
theorem dX9_codeHere_4 : decode cX9_codeHere 4 = .ok (.aload_n 0, 1) := by decide +kernel
theorem dX9_codeHere_5 : decode cX9_codeHere 5 = .ok (.getfield 15, 3) := by decide +kernel
theorem dX9_codeHere_8 : decode cX9_codeHere 8 = .ok (.if_icmp .ge 18, 3) := by decide +kernel
theorem dX9_codeHere_11 : decode cX9_codeHere 11 = .ok (.aload_n 0, 1) := by decide +kernel
theorem dX9_codeHere_12 : decode cX9_codeHere 12 = .ok (.getfield 11, 3) := by decide +kernel
theorem dX9_codeHere_15 : decode cX9_codeHere 15 = .ok (.aload_n 0, 1) := by decide +kernel
theorem dX9_codeHere_16 : decode cX9_codeHere 16 = .ok (.getfield 23, 3) := by decide +kernel
theorem dX9_codeHere_19 : decode cX9_codeHere 19 = .ok (.iconst 0, 1) := by decide +kernel
theorem dX9_codeHere_20 : decode cX9_codeHere 20 = .ok (.invokestatic 74, 3) := by decide +kernel
theorem dX9_codeHere_23 : decode cX9_codeHere 23 = .ok (.goto 4, 3) := by decide +kernel
theorem dX9_codeHere_26 : decode cX9_codeHere 26 = .ok (.iconst 0, 1) := by decide +kernel
theorem dX9_codeHere_27 : decode cX9_codeHere 27 = .ok (.ireturn, 1) := by decide +kernel
set_option maxRecDepth 20000 in
theorem ggX10_init_X5_init : GoodIn wsX10_init wsX5_init := goodIn_r _ [19, 20, 2, 3, 21, 22, 23, 24, 25, 26, 27, 28, 29, 30, 31, 32, 33, 34, 35, 36, 37, 38, 39, 40, 41, 42, 43, 44, 45, 46, 47, 48, 49, 50, 51, 52, 53, 54, 55, 56, 57, 58, 59, 60, 61, 62, 63, 64, 65, 66, 67, 68, 69, 70, 71, 72, 73, 74, 75, 76, 77, 78, 79, 80, 81, 82, 83, 84, 85, 86, 87, 88, 89, 90, 91, 92, 93, 94, 95, 96, 97, 98, 99, 100, 101, 136, 114, 115, 116, 117, 118, 119, 120, 121, 137, 138, 139, 140, 141, 142, 143, 144, 145, 146, 147, 148, 149, 150, 151, 152, 153, 154, 155, 156, 157, 158, 159, 160, 161, 162, 163, 164, 165, 166, 167] (by decide +kernel) (by decide +kernel)
set_option maxRecDepth 20000 in
theorem gX10_init_X5_init : GoodIn wsX10_init (wsX5_init) := ggX10_init_X5_init
set_option maxRecDepth 20000 in
theorem ggX10_init_X4_init : GoodIn wsX10_init wsX4_init := goodIn_r _ [104, 105, 2, 3, 106, 107, 5, 6, 108, 18, 19, 20, 21, 22, 23, 24, 25, 26, 27, 28, 29, 30, 31, 32, 33, 34, 35, 36, 37, 38, 39, 40, 41, 42, 43, 44, 45, 46, 47, 48, 49, 50, 51, 52, 53, 54, 55, 56, 57, 58, 59, 60, 61, 62, 63, 64, 65, 66, 67, 68, 69, 70, 71, 72, 73, 74, 75, 76, 77, 78, 79, 80, 81, 82, 83, 84, 85, 86, 87, 88, 89, 90, 91, 92, 93, 94, 95, 96, 97, 98, 99, 100, 101, 126, 127, 128, 114, 115, 116, 117, 118, 119, 120, 121, 136, 137, 138, 139, 140, 141, 142, 143, 144, 145, 146, 147, 148, 149, 150, 151, 152, 153, 154, 155, 156, 157, 158, 159, 160, 161, 162, 163, 164, 165, 166, 167] (by decide +kernel) (by decide +kernel)
set_option maxRecDepth 20000 in
theorem gX10_init_X4_init : GoodIn wsX10_init (wsX4_init) := ggX10_init_X4_init
set_option maxRecDepth 20000 in
theorem ggX10_init_X9_init : GoodIn wsX10_init wsX9_init := goodIn_r _ [111, 112, 2, 3, 53, 113, 129, 130, 131, 132, 133, 134, 135] (by decide +kernel) (by decide +kernel)
set_option maxRecDepth 20000 in
theorem gX10_init_X9_init : GoodIn wsX10_init (wsX9_init) := ggX10_init_X9_init
theorem dX10_init_0 : decode cX10_init 0 = .ok (.aload_n 0, 1) := by decide +kernel
theorem dX10_init_1 : decode cX10_init 1 = .ok (.invokespecial 1, 3) := by decide +kernel
theorem dX10_init_4 : decode cX10_init 4 = .ok (.aload_n 0, 1) := by decide +kernel
theorem dX10_init_5 : decode cX10_init 5 = .ok (.new 7, 3) := by decide +kernel
theorem dX10_init_8 : decode cX10_init 8 = .ok (.dup, 1) := by decide +kernel
theorem dX10_init_9 : decode cX10_init 9 = .ok (.invokespecial 9, 3) := by decide +kernel
theorem dX10_init_12 : decode cX10_init 12 = .ok (.putfield 10, 3) := by decide +kernel
theorem dX10_init_15 : decode cX10_init 15 = .ok (.aload_n 0, 1) := by decide +kernel
theorem dX10_init_16 : decode cX10_init 16 = .ok (.new 7, 3) := by decide +kernel
theorem dX10_init_19 : decode cX10_init 19 = .ok (.dup, 1) := by decide +kernel
theorem dX10_init_20 : decode cX10_init 20 = .ok (.invokespecial 9, 3) := by decide +kernel
theorem dX10_init_23 : decode cX10_init 23 = .ok (.putfield 16, 3) := by decide +kernel
theorem dX10_init_26 : decode cX10_init 26 = .ok (.aload_n 0, 1) := by decide +kernel
theorem dX10_init_27 : decode cX10_init 27 = .ok (.new 19, 3) := by decide +kernel
theorem dX10_init_30 : decode cX10_init 30 = .ok (.dup, 1) := by decide +kernel
theorem dX10_init_31 : decode cX10_init 31 = .ok (.invokespecial 21, 3) := by decide +kernel
theorem dX10_init_34 : decode cX10_init 34 = .ok (.putfield 22, 3) := by decide +kernel
theorem dX10_init_37 : decode cX10_init 37 = .ok (.aload_n 0, 1) := by decide +kernel
theorem dX10_init_38 : decode cX10_init 38 = .ok (.new 26, 3) := by decide +kernel
theorem dX10_init_41 : decode cX10_init 41 = .ok (.dup, 1) := by decide +kernel
theorem dX10_init_42 : decode cX10_init 42 = .ok (.invokespecial 28, 3) := by decide +kernel
theorem dX10_init_45 : decode cX10_init 45 = .ok (.putfield 29, 3) := by decide +kernel
theorem dX10_init_48 : decode cX10_init 48 = .ok (.return_, 1) := by decide +kernel
set_option maxRecDepth 20000 in
theorem ggX10_set_X7_allows : GoodIn wsX10_set wsX7_allows := goodIn_r _ [7, 8, 9] (by decide +kernel) (by decide +kernel)
set_option maxRecDepth 20000 in
theorem gX10_set_X7_allows : GoodIn wsX10_set (va_wsS RX10 33 yX7_allows wsX7_allows) := goodIn_app (goodIn_of _ (by decide +kernel)) ggX10_set_X7_allows
set_option maxRecDepth 20000 in
theorem ggX10_set_X4_record : GoodIn wsX10_set wsX4_record := goodIn_r _ [14, 15, 16, 17, 18, 19, 13, 20, 21, 22, 23, 24, 25, 26, 27, 28, 29, 30, 31, 32, 33, 34, 35, 36, 37, 38, 39, 40, 41, 42, 43, 44, 45, 46, 47, 48, 49, 50, 51, 52, 53, 54, 55, 56, 57, 58, 59, 60, 61, 62, 63, 64, 65, 66, 67, 68, 69, 70, 71, 72, 73, 74, 75, 76, 77, 78, 79, 80, 81, 82, 83, 84, 85, 86, 87, 88, 108, 109, 110, 100, 101, 102, 103, 104, 105, 106, 107, 111, 112, 113, 114, 115, 116, 117, 118, 119, 120, 121, 122, 123, 124, 125, 126, 127, 128, 129, 130, 131, 132, 133, 134, 135, 136, 137] (by decide +kernel) (by decide +kernel)
set_option maxRecDepth 20000 in
theorem gX10_set_X4_record : GoodIn wsX10_set (wsV RX10 39 RX4 yX4_record wsX4_record) := goodIn_app (goodIn_of _ (by decide +kernel)) ggX10_set_X4_record
set_option maxRecDepth 20000 in
theorem ggX10_set_X7_change : GoodIn wsX10_set wsX7_change := goodIn_r _ [92, 93, 94, 36, 95, 111] (by decide +kernel) (by decide +kernel)
set_option maxRecDepth 20000 in
theorem gX10_set_X7_change : GoodIn wsX10_set (wsV RX10 47 RX7 yX7_change wsX7_change) := goodIn_app (goodIn_of _ (by decide +kernel)) ggX10_set_X7_change
theorem dX10_set_0 : decode cX10_set 0 = .ok (.iload_n 1, 1) := by decide +kernel
theorem dX10_set_1 : decode cX10_set 1 = .ok (.iload_n 2, 1) := by decide +kernel
theorem dX10_set_2 : decode cX10_set 2 = .ok (.invokestatic 33, 3) := by decide +kernel
theorem dX10_set_5 : decode cX10_set 5 = .ok (.ifCond .ne 5, 3) := by decide +kernel
theorem dX10_set_8 : decode cX10_set 8 = .ok (.iconst (-1), 1) := by decide +kernel
theorem dX10_set_9 : decode cX10_set 9 = .ok (.ireturn, 1) := by decide +kernel
theorem dX10_set_10 : decode cX10_set 10 = .ok (.aload_n 0, 1) := by decide +kernel
theorem dX10_set_11 : decode cX10_set 11 = .ok (.getfield 22, 3) := by decide +kernel
theorem dX10_set_14 : decode cX10_set 14 = .ok (.aload_n 0, 1) := by decide +kernel
theorem dX10_set_15 : decode cX10_set 15 = .ok (.getfield 10, 3) := by decide +kernel
theorem dX10_set_18 : decode cX10_set 18 = .ok (.invokevirtual 39, 3) := by decide +kernel
theorem dX10_set_21 : decode cX10_set 21 = .ok (.istore_n 3, 1) := by decide +kernel
theorem dX10_set_22 : decode cX10_set 22 = .ok (.aload_n 0, 1) := by decide +kernel
theorem dX10_set_23 : decode cX10_set 23 = .ok (.getfield 10, 3) := by decide +kernel
theorem dX10_set_26 : decode cX10_set 26 = .ok (.getfield 43, 3) := by decide +kernel
theorem dX10_set_29 : decode cX10_set 29 = .ok (.iload_n 1, 1) := by decide +kernel
theorem dX10_set_30 : decode cX10_set 30 = .ok (.iload_n 2, 1) := by decide +kernel
theorem dX10_set_31 : decode cX10_set 31 = .ok (.invokevirtual 47, 3) := by decide +kernel
theorem dX10_set_34 : decode cX10_set 34 = .ok (.iload_n 3, 1) := by decide +kernel
theorem dX10_set_35 : decode cX10_set 35 = .ok (.ireturn, 1) := by decide +kernel
set_option maxRecDepth 20000 in
theorem ggX10_setting_X10_elementOr : GoodIn wsX10_setting wsX10_elementOr := goodIn_r _ [7] (by decide +kernel) (by decide +kernel)
set_option maxRecDepth 20000 in
theorem gX10_setting_X10_elementOr : GoodIn wsX10_setting (va_wsS RX10 55 yX10_elementOr wsX10_elementOr) := goodIn_app (goodIn_of _ (by decide +kernel)) ggX10_setting_X10_elementOr
theorem dX10_setting_0 : decode cX10_setting 0 = .ok (.aload_n 0, 1) := by decide +kernel
theorem dX10_setting_1 : decode cX10_setting 1 = .ok (.getfield 10, 3) := by decide +kernel
theorem dX10_setting_4 : decode cX10_setting 4 = .ok (.getfield 43, 3) := by decide +kernel
theorem dX10_setting_7 : decode cX10_setting 7 = .ok (.getfield 51, 3) := by decide +kernel
theorem dX10_setting_10 : decode cX10_setting 10 = .ok (.iload_n 1, 1) := by decide +kernel
theorem dX10_setting_11 : decode cX10_setting 11 = .ok (.sipush (-9999), 3) := by decide +kernel
theorem dX10_setting_14 : decode cX10_setting 14 = .ok (.invokestatic 55, 3) := by decide +kernel
theorem dX10_setting_17 : decode cX10_setting 17 = .ok (.ireturn, 1) := by decide +kernel
set_option maxRecDepth 20000 in
theorem ggX10_setOutdoor_X8_isHour : GoodIn wsX10_setOutdoor wsX8_isHour := goodIn_r _ [8] (by decide +kernel) (by decide +kernel)
set_option maxRecDepth 20000 in
theorem gX10_setOutdoor_X8_isHour : GoodIn wsX10_setOutdoor (va_wsS RX10 59 yX8_isHour wsX8_isHour) := goodIn_app (goodIn_of _ (by decide +kernel)) ggX10_setOutdoor_X8_isHour
set_option maxRecDepth 20000 in
theorem ggX10_setOutdoor_X8_isOutdoor : GoodIn wsX10_setOutdoor wsX8_isOutdoor := goodIn_r _ [11] (by decide +kernel) (by decide +kernel)
set_option maxRecDepth 20000 in
theorem gX10_setOutdoor_X8_isOutdoor : GoodIn wsX10_setOutdoor (va_wsS RX10 65 yX8_isOutdoor wsX8_isOutdoor) := goodIn_app (goodIn_of _ (by decide +kernel)) ggX10_setOutdoor_X8_isOutdoor
set_option maxRecDepth 20000 in
theorem ggX10_setOutdoor_X4_record : GoodIn wsX10_setOutdoor wsX4_record := goodIn_r _ [16, 17, 18, 19, 20, 21, 15, 22, 23, 24, 25, 26, 27, 28, 29, 30, 31, 32, 33, 34, 35, 36, 37, 38, 39, 40, 41, 42, 7, 43, 44, 45, 46, 47, 48, 49, 50, 51, 52, 53, 54, 55, 56, 57, 58, 59, 60, 61, 62, 63, 64, 65, 66, 67, 68, 69, 70, 71, 72, 73, 74, 75, 76, 77, 78, 79, 80, 81, 82, 83, 84, 85, 86, 87, 88, 89, 108, 109, 110, 97, 98, 99, 100, 101, 102, 103, 104, 111, 105, 106, 107, 112, 113, 114, 115, 116, 117, 118, 119, 120, 121, 122, 123, 124, 125, 126, 127, 128, 129, 130, 131, 132, 133, 134] (by decide +kernel) (by decide +kernel)
set_option maxRecDepth 20000 in
theorem gX10_setOutdoor_X4_record : GoodIn wsX10_setOutdoor (wsV RX10 39 RX4 yX4_record wsX4_record) := goodIn_app (goodIn_of _ (by decide +kernel)) ggX10_setOutdoor_X4_record
set_option maxRecDepth 20000 in
theorem ggX10_setOutdoor_X10_replace : GoodIn wsX10_setOutdoor wsX10_replace := goodIn_r _ [92] (by decide +kernel) (by decide +kernel)
set_option maxRecDepth 20000 in
theorem gX10_setOutdoor_X10_replace : GoodIn wsX10_setOutdoor (va_wsS RX10 75 yX10_replace wsX10_replace) := goodIn_app (goodIn_of _ (by decide +kernel)) ggX10_setOutdoor_X10_replace
theorem dX10_setOutdoor_0 : decode cX10_setOutdoor 0 = .ok (.iload_n 1, 1) := by decide +kernel
theorem dX10_setOutdoor_1 : decode cX10_setOutdoor 1 = .ok (.invokestatic 59, 3) := by decide +kernel
theorem dX10_setOutdoor_4 : decode cX10_setOutdoor 4 = .ok (.ifCond .eq 10, 3) := by decide +kernel
theorem dX10_setOutdoor_7 : decode cX10_setOutdoor 7 = .ok (.iload_n 2, 1) := by decide +kernel
theorem dX10_setOutdoor_8 : decode cX10_setOutdoor 8 = .ok (.invokestatic 65, 3) := by decide +kernel
theorem dX10_setOutdoor_11 : decode cX10_setOutdoor 11 = .ok (.ifCond .ne 5, 3) := by decide +kernel
theorem dX10_setOutdoor_14 : decode cX10_setOutdoor 14 = .ok (.iconst (-1), 1) := by decide +kernel
theorem dX10_setOutdoor_15 : decode cX10_setOutdoor 15 = .ok (.ireturn, 1) := by decide +kernel
theorem dX10_setOutdoor_16 : decode cX10_setOutdoor 16 = .ok (.aload_n 0, 1) := by decide +kernel
theorem dX10_setOutdoor_17 : decode cX10_setOutdoor 17 = .ok (.getfield 22, 3) := by decide +kernel
theorem dX10_setOutdoor_20 : decode cX10_setOutdoor 20 = .ok (.aload_n 0, 1) := by decide +kernel
theorem dX10_setOutdoor_21 : decode cX10_setOutdoor 21 = .ok (.getfield 10, 3) := by decide +kernel
theorem dX10_setOutdoor_24 : decode cX10_setOutdoor 24 = .ok (.invokevirtual 39, 3) := by decide +kernel
theorem dX10_setOutdoor_27 : decode cX10_setOutdoor 27 = .ok (.istore_n 3, 1) := by decide +kernel
theorem dX10_setOutdoor_28 : decode cX10_setOutdoor 28 = .ok (.aload_n 0, 1) := by decide +kernel
theorem dX10_setOutdoor_29 : decode cX10_setOutdoor 29 = .ok (.getfield 10, 3) := by decide +kernel
theorem dX10_setOutdoor_32 : decode cX10_setOutdoor 32 = .ok (.getfield 68, 3) := by decide +kernel
theorem dX10_setOutdoor_35 : decode cX10_setOutdoor 35 = .ok (.getfield 72, 3) := by decide +kernel
theorem dX10_setOutdoor_38 : decode cX10_setOutdoor 38 = .ok (.iload_n 1, 1) := by decide +kernel
theorem dX10_setOutdoor_39 : decode cX10_setOutdoor 39 = .ok (.iload_n 2, 1) := by decide +kernel
theorem dX10_setOutdoor_40 : decode cX10_setOutdoor 40 = .ok (.invokestatic 75, 3) := by decide +kernel
theorem dX10_setOutdoor_43 : decode cX10_setOutdoor 43 = .ok (.iload_n 3, 1) := by decide +kernel
theorem dX10_setOutdoor_44 : decode cX10_setOutdoor 44 = .ok (.ireturn, 1) := by decide +kernel
set_option maxRecDepth 20000 in
theorem ggX10_outdoor_X10_elementOr : GoodIn wsX10_outdoor wsX10_elementOr := goodIn_r _ [7] (by decide +kernel) (by decide +kernel)
set_option maxRecDepth 20000 in
theorem gX10_outdoor_X10_elementOr : GoodIn wsX10_outdoor (va_wsS RX10 55 yX10_elementOr wsX10_elementOr) := goodIn_app (goodIn_of _ (by decide +kernel)) ggX10_outdoor_X10_elementOr
theorem dX10_outdoor_0 : decode cX10_outdoor 0 = .ok (.aload_n 0, 1) := by decide +kernel
theorem dX10_outdoor_1 : decode cX10_outdoor 1 = .ok (.getfield 10, 3) := by decide +kernel
theorem dX10_outdoor_4 : decode cX10_outdoor 4 = .ok (.getfield 68, 3) := by decide +kernel
theorem dX10_outdoor_7 : decode cX10_outdoor 7 = .ok (.getfield 72, 3) := by decide +kernel
theorem dX10_outdoor_10 : decode cX10_outdoor 10 = .ok (.iload_n 1, 1) := by decide +kernel
theorem dX10_outdoor_11 : decode cX10_outdoor 11 = .ok (.sipush (-9999), 3) := by decide +kernel
theorem dX10_outdoor_14 : decode cX10_outdoor 14 = .ok (.invokestatic 55, 3) := by decide +kernel
theorem dX10_outdoor_17 : decode cX10_outdoor 17 = .ok (.ireturn, 1) := by decide +kernel
set_option maxRecDepth 20000 in
theorem ggX10_setTariff_X8_isHour : GoodIn wsX10_setTariff wsX8_isHour := goodIn_r _ [8] (by decide +kernel) (by decide +kernel)
set_option maxRecDepth 20000 in
theorem gX10_setTariff_X8_isHour : GoodIn wsX10_setTariff (va_wsS RX10 59 yX8_isHour wsX8_isHour) := goodIn_app (goodIn_of _ (by decide +kernel)) ggX10_setTariff_X8_isHour
set_option maxRecDepth 20000 in
theorem ggX10_setTariff_X8_isTariff : GoodIn wsX10_setTariff wsX8_isTariff := goodIn_r _ [11] (by decide +kernel) (by decide +kernel)
set_option maxRecDepth 20000 in
theorem gX10_setTariff_X8_isTariff : GoodIn wsX10_setTariff (va_wsS RX10 79 yX8_isTariff wsX8_isTariff) := goodIn_app (goodIn_of _ (by decide +kernel)) ggX10_setTariff_X8_isTariff
set_option maxRecDepth 20000 in
theorem ggX10_setTariff_X4_record : GoodIn wsX10_setTariff wsX4_record := goodIn_r _ [16, 17, 18, 19, 20, 21, 15, 22, 23, 24, 25, 26, 27, 28, 29, 30, 31, 32, 33, 34, 35, 36, 37, 38, 39, 40, 41, 42, 7, 43, 44, 45, 46, 47, 48, 49, 50, 51, 52, 53, 54, 55, 56, 57, 58, 59, 60, 61, 62, 63, 64, 65, 66, 67, 68, 69, 70, 71, 72, 73, 74, 75, 76, 77, 78, 79, 80, 81, 82, 83, 84, 85, 86, 87, 88, 89, 108, 109, 110, 97, 98, 99, 100, 101, 102, 103, 104, 111, 105, 106, 107, 112, 113, 114, 115, 116, 117, 118, 119, 120, 121, 122, 123, 124, 125, 126, 127, 128, 129, 130, 131, 132, 133, 134] (by decide +kernel) (by decide +kernel)
set_option maxRecDepth 20000 in
theorem gX10_setTariff_X4_record : GoodIn wsX10_setTariff (wsV RX10 39 RX4 yX4_record wsX4_record) := goodIn_app (goodIn_of _ (by decide +kernel)) ggX10_setTariff_X4_record
set_option maxRecDepth 20000 in
theorem ggX10_setTariff_X10_replace : GoodIn wsX10_setTariff wsX10_replace := goodIn_r _ [92] (by decide +kernel) (by decide +kernel)
set_option maxRecDepth 20000 in
theorem gX10_setTariff_X10_replace : GoodIn wsX10_setTariff (va_wsS RX10 75 yX10_replace wsX10_replace) := goodIn_app (goodIn_of _ (by decide +kernel)) ggX10_setTariff_X10_replace
theorem dX10_setTariff_0 : decode cX10_setTariff 0 = .ok (.iload_n 1, 1) := by decide +kernel
theorem dX10_setTariff_1 : decode cX10_setTariff 1 = .ok (.invokestatic 59, 3) := by decide +kernel
theorem dX10_setTariff_4 : decode cX10_setTariff 4 = .ok (.ifCond .eq 10, 3) := by decide +kernel
theorem dX10_setTariff_7 : decode cX10_setTariff 7 = .ok (.iload_n 2, 1) := by decide +kernel
theorem dX10_setTariff_8 : decode cX10_setTariff 8 = .ok (.invokestatic 79, 3) := by decide +kernel
theorem dX10_setTariff_11 : decode cX10_setTariff 11 = .ok (.ifCond .ne 5, 3) := by decide +kernel
theorem dX10_setTariff_14 : decode cX10_setTariff 14 = .ok (.iconst (-1), 1) := by decide +kernel
theorem dX10_setTariff_15 : decode cX10_setTariff 15 = .ok (.ireturn, 1) := by decide +kernel
theorem dX10_setTariff_16 : decode cX10_setTariff 16 = .ok (.aload_n 0, 1) := by decide +kernel
theorem dX10_setTariff_17 : decode cX10_setTariff 17 = .ok (.getfield 22, 3) := by decide +kernel
theorem dX10_setTariff_20 : decode cX10_setTariff 20 = .ok (.aload_n 0, 1) := by decide +kernel
theorem dX10_setTariff_21 : decode cX10_setTariff 21 = .ok (.getfield 10, 3) := by decide +kernel
theorem dX10_setTariff_24 : decode cX10_setTariff 24 = .ok (.invokevirtual 39, 3) := by decide +kernel
theorem dX10_setTariff_27 : decode cX10_setTariff 27 = .ok (.istore_n 3, 1) := by decide +kernel
theorem dX10_setTariff_28 : decode cX10_setTariff 28 = .ok (.aload_n 0, 1) := by decide +kernel
theorem dX10_setTariff_29 : decode cX10_setTariff 29 = .ok (.getfield 10, 3) := by decide +kernel
theorem dX10_setTariff_32 : decode cX10_setTariff 32 = .ok (.getfield 68, 3) := by decide +kernel
theorem dX10_setTariff_35 : decode cX10_setTariff 35 = .ok (.getfield 82, 3) := by decide +kernel
theorem dX10_setTariff_38 : decode cX10_setTariff 38 = .ok (.iload_n 1, 1) := by decide +kernel
theorem dX10_setTariff_39 : decode cX10_setTariff 39 = .ok (.iload_n 2, 1) := by decide +kernel
theorem dX10_setTariff_40 : decode cX10_setTariff 40 = .ok (.invokestatic 75, 3) := by decide +kernel
theorem dX10_setTariff_43 : decode cX10_setTariff 43 = .ok (.iload_n 3, 1) := by decide +kernel
theorem dX10_setTariff_44 : decode cX10_setTariff 44 = .ok (.ireturn, 1) := by decide +kernel
set_option maxRecDepth 20000 in
theorem ggX10_tariff_X10_elementOr : GoodIn wsX10_tariff wsX10_elementOr := goodIn_r _ [7] (by decide +kernel) (by decide +kernel)
set_option maxRecDepth 20000 in
theorem gX10_tariff_X10_elementOr : GoodIn wsX10_tariff (va_wsS RX10 55 yX10_elementOr wsX10_elementOr) := goodIn_app (goodIn_of _ (by decide +kernel)) ggX10_tariff_X10_elementOr
theorem dX10_tariff_0 : decode cX10_tariff 0 = .ok (.aload_n 0, 1) := by decide +kernel
theorem dX10_tariff_1 : decode cX10_tariff 1 = .ok (.getfield 10, 3) := by decide +kernel
theorem dX10_tariff_4 : decode cX10_tariff 4 = .ok (.getfield 68, 3) := by decide +kernel
theorem dX10_tariff_7 : decode cX10_tariff 7 = .ok (.getfield 82, 3) := by decide +kernel
theorem dX10_tariff_10 : decode cX10_tariff 10 = .ok (.iload_n 1, 1) := by decide +kernel
theorem dX10_tariff_11 : decode cX10_tariff 11 = .ok (.sipush (-9999), 3) := by decide +kernel
theorem dX10_tariff_14 : decode cX10_tariff 14 = .ok (.invokestatic 55, 3) := by decide +kernel
theorem dX10_tariff_17 : decode cX10_tariff 17 = .ok (.ireturn, 1) := by decide +kernel
set_option maxRecDepth 20000 in
theorem ggX10_setPrice_X8_isTariff : GoodIn wsX10_setPrice wsX8_isTariff := goodIn_r _ [8] (by decide +kernel) (by decide +kernel)
set_option maxRecDepth 20000 in
theorem gX10_setPrice_X8_isTariff : GoodIn wsX10_setPrice (va_wsS RX10 79 yX8_isTariff wsX8_isTariff) := goodIn_app (goodIn_of _ (by decide +kernel)) ggX10_setPrice_X8_isTariff
set_option maxRecDepth 20000 in
theorem ggX10_setPrice_X8_isPrice : GoodIn wsX10_setPrice wsX8_isPrice := goodIn_r _ [11] (by decide +kernel) (by decide +kernel)
set_option maxRecDepth 20000 in
theorem gX10_setPrice_X8_isPrice : GoodIn wsX10_setPrice (va_wsS RX10 85 yX8_isPrice wsX8_isPrice) := goodIn_app (goodIn_of _ (by decide +kernel)) ggX10_setPrice_X8_isPrice
set_option maxRecDepth 20000 in
theorem ggX10_setPrice_X4_record : GoodIn wsX10_setPrice wsX4_record := goodIn_r _ [16, 17, 18, 19, 20, 21, 15, 22, 23, 24, 25, 26, 27, 28, 29, 30, 31, 32, 33, 34, 35, 36, 37, 38, 39, 40, 41, 42, 7, 43, 44, 45, 46, 47, 48, 49, 50, 51, 52, 53, 54, 55, 56, 57, 58, 59, 60, 61, 62, 63, 64, 65, 66, 67, 68, 69, 70, 71, 72, 73, 74, 75, 76, 77, 78, 79, 80, 81, 82, 83, 84, 85, 86, 87, 88, 89, 108, 109, 110, 97, 98, 99, 100, 101, 102, 103, 104, 111, 105, 106, 107, 112, 113, 114, 115, 116, 117, 118, 119, 120, 121, 122, 123, 124, 125, 126, 127, 128, 129, 130, 131, 132, 133, 134] (by decide +kernel) (by decide +kernel)
set_option maxRecDepth 20000 in
theorem gX10_setPrice_X4_record : GoodIn wsX10_setPrice (wsV RX10 39 RX4 yX4_record wsX4_record) := goodIn_app (goodIn_of _ (by decide +kernel)) ggX10_setPrice_X4_record
set_option maxRecDepth 20000 in
theorem ggX10_setPrice_X10_replace : GoodIn wsX10_setPrice wsX10_replace := goodIn_r _ [92] (by decide +kernel) (by decide +kernel)
set_option maxRecDepth 20000 in
theorem gX10_setPrice_X10_replace : GoodIn wsX10_setPrice (va_wsS RX10 75 yX10_replace wsX10_replace) := goodIn_app (goodIn_of _ (by decide +kernel)) ggX10_setPrice_X10_replace
theorem dX10_setPrice_0 : decode cX10_setPrice 0 = .ok (.iload_n 1, 1) := by decide +kernel
theorem dX10_setPrice_1 : decode cX10_setPrice 1 = .ok (.invokestatic 79, 3) := by decide +kernel
theorem dX10_setPrice_4 : decode cX10_setPrice 4 = .ok (.ifCond .eq 10, 3) := by decide +kernel
theorem dX10_setPrice_7 : decode cX10_setPrice 7 = .ok (.iload_n 2, 1) := by decide +kernel
theorem dX10_setPrice_8 : decode cX10_setPrice 8 = .ok (.invokestatic 85, 3) := by decide +kernel
theorem dX10_setPrice_11 : decode cX10_setPrice 11 = .ok (.ifCond .ne 5, 3) := by decide +kernel
theorem dX10_setPrice_14 : decode cX10_setPrice 14 = .ok (.iconst (-1), 1) := by decide +kernel
theorem dX10_setPrice_15 : decode cX10_setPrice 15 = .ok (.ireturn, 1) := by decide +kernel
theorem dX10_setPrice_16 : decode cX10_setPrice 16 = .ok (.aload_n 0, 1) := by decide +kernel
theorem dX10_setPrice_17 : decode cX10_setPrice 17 = .ok (.getfield 22, 3) := by decide +kernel
theorem dX10_setPrice_20 : decode cX10_setPrice 20 = .ok (.aload_n 0, 1) := by decide +kernel
theorem dX10_setPrice_21 : decode cX10_setPrice 21 = .ok (.getfield 10, 3) := by decide +kernel
theorem dX10_setPrice_24 : decode cX10_setPrice 24 = .ok (.invokevirtual 39, 3) := by decide +kernel
theorem dX10_setPrice_27 : decode cX10_setPrice 27 = .ok (.istore_n 3, 1) := by decide +kernel
theorem dX10_setPrice_28 : decode cX10_setPrice 28 = .ok (.aload_n 0, 1) := by decide +kernel
theorem dX10_setPrice_29 : decode cX10_setPrice 29 = .ok (.getfield 10, 3) := by decide +kernel
theorem dX10_setPrice_32 : decode cX10_setPrice 32 = .ok (.getfield 68, 3) := by decide +kernel
theorem dX10_setPrice_35 : decode cX10_setPrice 35 = .ok (.getfield 88, 3) := by decide +kernel
theorem dX10_setPrice_38 : decode cX10_setPrice 38 = .ok (.iload_n 1, 1) := by decide +kernel
theorem dX10_setPrice_39 : decode cX10_setPrice 39 = .ok (.iload_n 2, 1) := by decide +kernel
theorem dX10_setPrice_40 : decode cX10_setPrice 40 = .ok (.invokestatic 75, 3) := by decide +kernel
theorem dX10_setPrice_43 : decode cX10_setPrice 43 = .ok (.iload_n 3, 1) := by decide +kernel
theorem dX10_setPrice_44 : decode cX10_setPrice 44 = .ok (.ireturn, 1) := by decide +kernel
set_option maxRecDepth 20000 in
theorem ggX10_demand_X8_isHour : GoodIn wsX10_demand wsX8_isHour := goodIn_r _ [5] (by decide +kernel) (by decide +kernel)
set_option maxRecDepth 20000 in
theorem gX10_demand_X8_isHour : GoodIn wsX10_demand (va_wsS RX10 59 yX8_isHour wsX8_isHour) := goodIn_app (goodIn_of _ (by decide +kernel)) ggX10_demand_X8_isHour
set_option maxRecDepth 20000 in
theorem ggX10_demand_X5_demandIn : GoodIn wsX10_demand wsX5_demandIn := goodIn_r _ [10, 11, 12, 13, 14, 15, 16, 17, 18, 19, 20, 21, 22, 23, 24, 25, 26, 27, 28, 29, 34, 35, 36, 37, 38, 39, 40, 41, 42, 43, 44, 45] (by decide +kernel) (by decide +kernel)
set_option maxRecDepth 20000 in
theorem gX10_demand_X5_demandIn : GoodIn wsX10_demand (wsV RX10 91 RX5 yX5_demandIn wsX5_demandIn) := goodIn_app (goodIn_of _ (by decide +kernel)) ggX10_demand_X5_demandIn
theorem dX10_demand_0 : decode cX10_demand 0 = .ok (.iload_n 1, 1) := by decide +kernel
theorem dX10_demand_1 : decode cX10_demand 1 = .ok (.invokestatic 59, 3) := by decide +kernel
theorem dX10_demand_4 : decode cX10_demand 4 = .ok (.ifCond .eq 14, 3) := by decide +kernel
theorem dX10_demand_7 : decode cX10_demand 7 = .ok (.aload_n 0, 1) := by decide +kernel
theorem dX10_demand_8 : decode cX10_demand 8 = .ok (.getfield 10, 3) := by decide +kernel
theorem dX10_demand_11 : decode cX10_demand 11 = .ok (.iload_n 1, 1) := by decide +kernel
theorem dX10_demand_12 : decode cX10_demand 12 = .ok (.invokevirtual 91, 3) := by decide +kernel
theorem dX10_demand_15 : decode cX10_demand 15 = .ok (.goto 6, 3) := by decide +kernel
theorem dX10_demand_18 : decode cX10_demand 18 = .ok (.sipush (-9999), 3) := by decide +kernel
theorem dX10_demand_21 : decode cX10_demand 21 = .ok (.ireturn, 1) := by decide +kernel
set_option maxRecDepth 20000 in
theorem ggX10_addPoint_X8_isOutdoor : GoodIn wsX10_addPoint wsX8_isOutdoor := goodIn_r _ [8] (by decide +kernel) (by decide +kernel)
set_option maxRecDepth 20000 in
theorem gX10_addPoint_X8_isOutdoor : GoodIn wsX10_addPoint (va_wsS RX10 65 yX8_isOutdoor wsX8_isOutdoor) := goodIn_app (goodIn_of _ (by decide +kernel)) ggX10_addPoint_X8_isOutdoor
set_option maxRecDepth 20000 in
theorem ggX10_addPoint_X3_isSupply : GoodIn wsX10_addPoint wsX3_isSupply := goodIn_r _ [12] (by decide +kernel) (by decide +kernel)
set_option maxRecDepth 20000 in
theorem gX10_addPoint_X3_isSupply : GoodIn wsX10_addPoint (va_wsS RX10 95 yX3_isSupply wsX3_isSupply) := goodIn_app (goodIn_of _ (by decide +kernel)) ggX10_addPoint_X3_isSupply
set_option maxRecDepth 20000 in
theorem ggX10_addPoint_X3_hasRoomFor : GoodIn wsX10_addPoint wsX3_hasRoomFor := goodIn_r _ [16, 17, 18, 19, 20, 11, 21, 22, 23, 24, 25, 26, 27, 28, 29, 126, 127, 128] (by decide +kernel) (by decide +kernel)
set_option maxRecDepth 20000 in
theorem gX10_addPoint_X3_hasRoomFor : GoodIn wsX10_addPoint (wsV RX10 104 RX3 yX3_hasRoomFor wsX3_hasRoomFor) := goodIn_app (goodIn_of _ (by decide +kernel)) ggX10_addPoint_X3_hasRoomFor
set_option maxRecDepth 20000 in
theorem ggX10_addPoint_X4_record : GoodIn wsX10_addPoint wsX4_record := goodIn_r _ [34, 35, 36, 37, 38, 39, 33, 40, 41, 42, 43, 44, 45, 46, 47, 48, 49, 50, 51, 52, 53, 54, 55, 28, 56, 57, 58, 59, 7, 60, 61, 62, 63, 64, 65, 66, 11, 67, 22, 68, 17, 69, 70, 71, 72, 73, 74, 75, 76, 77, 78, 79, 80, 81, 82, 83, 84, 85, 86, 87, 88, 89, 90, 91, 92, 93, 94, 95, 96, 97, 98, 99, 100, 101, 102, 103, 129, 130, 131, 118, 119, 120, 121, 122, 123, 124, 125, 132, 133, 134, 135, 126, 127, 128, 136, 137, 138, 139, 140, 141, 142, 143, 144, 145, 146, 147, 148, 149, 150, 151, 152, 153, 154, 155] (by decide +kernel) (by decide +kernel)
set_option maxRecDepth 20000 in
theorem gX10_addPoint_X4_record : GoodIn wsX10_addPoint (wsV RX10 39 RX4 yX4_record wsX4_record) := goodIn_app (goodIn_of _ (by decide +kernel)) ggX10_addPoint_X4_record
set_option maxRecDepth 20000 in
theorem ggX10_addPoint_X3_put : GoodIn wsX10_addPoint wsX3_put := goodIn_r _ [107, 22, 17, 68, 23, 24, 25, 11, 26, 18, 19, 20, 21, 27, 28, 29, 108, 109, 110, 111, 112, 113, 126, 127, 128] (by decide +kernel) (by decide +kernel)
set_option maxRecDepth 20000 in
theorem gX10_addPoint_X3_put : GoodIn wsX10_addPoint (wsV RX10 107 RX3 yX3_put wsX3_put) := goodIn_app (goodIn_of _ (by decide +kernel)) ggX10_addPoint_X3_put
theorem dX10_addPoint_0 : decode cX10_addPoint 0 = .ok (.iload_n 1, 1) := by decide +kernel
theorem dX10_addPoint_1 : decode cX10_addPoint 1 = .ok (.invokestatic 65, 3) := by decide +kernel
theorem dX10_addPoint_4 : decode cX10_addPoint 4 = .ok (.ifCond .eq 10, 3) := by decide +kernel
theorem dX10_addPoint_7 : decode cX10_addPoint 7 = .ok (.iload_n 2, 1) := by decide +kernel
theorem dX10_addPoint_8 : decode cX10_addPoint 8 = .ok (.invokestatic 95, 3) := by decide +kernel
theorem dX10_addPoint_11 : decode cX10_addPoint 11 = .ok (.ifCond .ne 5, 3) := by decide +kernel
theorem dX10_addPoint_14 : decode cX10_addPoint 14 = .ok (.iconst (-1), 1) := by decide +kernel
theorem dX10_addPoint_15 : decode cX10_addPoint 15 = .ok (.ireturn, 1) := by decide +kernel
theorem dX10_addPoint_16 : decode cX10_addPoint 16 = .ok (.aload_n 0, 1) := by decide +kernel
theorem dX10_addPoint_17 : decode cX10_addPoint 17 = .ok (.getfield 10, 3) := by decide +kernel
theorem dX10_addPoint_20 : decode cX10_addPoint 20 = .ok (.getfield 100, 3) := by decide +kernel
theorem dX10_addPoint_23 : decode cX10_addPoint 23 = .ok (.iload_n 1, 1) := by decide +kernel
theorem dX10_addPoint_24 : decode cX10_addPoint 24 = .ok (.invokevirtual 104, 3) := by decide +kernel
theorem dX10_addPoint_27 : decode cX10_addPoint 27 = .ok (.ifCond .ne 6, 3) := by decide +kernel
theorem dX10_addPoint_30 : decode cX10_addPoint 30 = .ok (.bipush (-3), 2) := by decide +kernel
theorem dX10_addPoint_32 : decode cX10_addPoint 32 = .ok (.ireturn, 1) := by decide +kernel
theorem dX10_addPoint_33 : decode cX10_addPoint 33 = .ok (.aload_n 0, 1) := by decide +kernel
theorem dX10_addPoint_34 : decode cX10_addPoint 34 = .ok (.getfield 22, 3) := by decide +kernel
theorem dX10_addPoint_37 : decode cX10_addPoint 37 = .ok (.aload_n 0, 1) := by decide +kernel
theorem dX10_addPoint_38 : decode cX10_addPoint 38 = .ok (.getfield 10, 3) := by decide +kernel
theorem dX10_addPoint_41 : decode cX10_addPoint 41 = .ok (.invokevirtual 39, 3) := by decide +kernel
theorem dX10_addPoint_44 : decode cX10_addPoint 44 = .ok (.pop, 1) := by decide +kernel
theorem dX10_addPoint_45 : decode cX10_addPoint 45 = .ok (.aload_n 0, 1) := by decide +kernel
theorem dX10_addPoint_46 : decode cX10_addPoint 46 = .ok (.getfield 10, 3) := by decide +kernel
theorem dX10_addPoint_49 : decode cX10_addPoint 49 = .ok (.getfield 100, 3) := by decide +kernel
theorem dX10_addPoint_52 : decode cX10_addPoint 52 = .ok (.iload_n 1, 1) := by decide +kernel
theorem dX10_addPoint_53 : decode cX10_addPoint 53 = .ok (.iload_n 2, 1) := by decide +kernel
theorem dX10_addPoint_54 : decode cX10_addPoint 54 = .ok (.invokevirtual 107, 3) := by decide +kernel
theorem dX10_addPoint_57 : decode cX10_addPoint 57 = .ok (.aload_n 0, 1) := by decide +kernel
theorem dX10_addPoint_58 : decode cX10_addPoint 58 = .ok (.getfield 10, 3) := by decide +kernel
theorem dX10_addPoint_61 : decode cX10_addPoint 61 = .ok (.getfield 100, 3) := by decide +kernel
theorem dX10_addPoint_64 : decode cX10_addPoint 64 = .ok (.getfield 110, 3) := by decide +kernel
theorem dX10_addPoint_67 : decode cX10_addPoint 67 = .ok (.ireturn, 1) := by decide +kernel
set_option maxRecDepth 20000 in
theorem ggX10_removePoint_X3_has : GoodIn wsX10_removePoint wsX3_has := goodIn_r _ [9, 10, 11, 12, 13, 14, 8, 15, 16, 17, 18, 112, 113, 114] (by decide +kernel) (by decide +kernel)
set_option maxRecDepth 20000 in
theorem gX10_removePoint_X3_has : GoodIn wsX10_removePoint (wsV RX10 114 RX3 yX3_has wsX3_has) := goodIn_app (goodIn_of _ (by decide +kernel)) ggX10_removePoint_X3_has
set_option maxRecDepth 20000 in
theorem ggX10_removePoint_X4_record : GoodIn wsX10_removePoint wsX4_record := goodIn_r _ [23, 24, 25, 26, 27, 28, 22, 29, 30, 31, 32, 33, 34, 35, 36, 37, 38, 39, 40, 41, 42, 43, 44, 17, 45, 46, 47, 48, 49, 50, 51, 52, 53, 54, 55, 56, 8, 57, 11, 58, 10, 59, 60, 61, 62, 63, 64, 65, 66, 67, 68, 69, 70, 71, 72, 73, 74, 75, 76, 77, 78, 79, 80, 81, 82, 83, 84, 85, 86, 87, 88, 89, 90, 91, 92, 93, 115, 116, 117, 104, 105, 106, 107, 108, 109, 110, 111, 118, 119, 120, 121, 112, 113, 114, 122, 123, 124, 125, 126, 127, 128, 129, 130, 131, 132, 133, 134, 135, 136, 137, 138, 139, 140, 141] (by decide +kernel) (by decide +kernel)
set_option maxRecDepth 20000 in
theorem gX10_removePoint_X4_record : GoodIn wsX10_removePoint (wsV RX10 39 RX4 yX4_record wsX4_record) := goodIn_app (goodIn_of _ (by decide +kernel)) ggX10_removePoint_X4_record
set_option maxRecDepth 20000 in
theorem ggX10_removePoint_X3_drop : GoodIn wsX10_removePoint wsX3_drop := goodIn_r _ [97, 10, 11, 58, 12, 13, 14, 8, 15, 16, 17, 18, 98, 99, 112, 113, 114] (by decide +kernel) (by decide +kernel)
set_option maxRecDepth 20000 in
theorem gX10_removePoint_X3_drop : GoodIn wsX10_removePoint (wsV RX10 117 RX3 yX3_drop wsX3_drop) := goodIn_app (goodIn_of _ (by decide +kernel)) ggX10_removePoint_X3_drop
theorem dX10_removePoint_0 : decode cX10_removePoint 0 = .ok (.aload_n 0, 1) := by decide +kernel
theorem dX10_removePoint_1 : decode cX10_removePoint 1 = .ok (.getfield 10, 3) := by decide +kernel
theorem dX10_removePoint_4 : decode cX10_removePoint 4 = .ok (.getfield 100, 3) := by decide +kernel
theorem dX10_removePoint_7 : decode cX10_removePoint 7 = .ok (.iload_n 1, 1) := by decide +kernel
theorem dX10_removePoint_8 : decode cX10_removePoint 8 = .ok (.invokevirtual 114, 3) := by decide +kernel
theorem dX10_removePoint_11 : decode cX10_removePoint 11 = .ok (.ifCond .ne 5, 3) := by decide +kernel
theorem dX10_removePoint_14 : decode cX10_removePoint 14 = .ok (.iconst (-1), 1) := by decide +kernel
theorem dX10_removePoint_15 : decode cX10_removePoint 15 = .ok (.ireturn, 1) := by decide +kernel
theorem dX10_removePoint_16 : decode cX10_removePoint 16 = .ok (.aload_n 0, 1) := by decide +kernel
theorem dX10_removePoint_17 : decode cX10_removePoint 17 = .ok (.getfield 10, 3) := by decide +kernel
theorem dX10_removePoint_20 : decode cX10_removePoint 20 = .ok (.getfield 100, 3) := by decide +kernel
theorem dX10_removePoint_23 : decode cX10_removePoint 23 = .ok (.getfield 110, 3) := by decide +kernel
theorem dX10_removePoint_26 : decode cX10_removePoint 26 = .ok (.iconst 1, 1) := by decide +kernel
theorem dX10_removePoint_27 : decode cX10_removePoint 27 = .ok (.if_icmp .ne 6, 3) := by decide +kernel
theorem dX10_removePoint_30 : decode cX10_removePoint 30 = .ok (.bipush (-2), 2) := by decide +kernel
theorem dX10_removePoint_32 : decode cX10_removePoint 32 = .ok (.ireturn, 1) := by decide +kernel
theorem dX10_removePoint_33 : decode cX10_removePoint 33 = .ok (.aload_n 0, 1) := by decide +kernel
theorem dX10_removePoint_34 : decode cX10_removePoint 34 = .ok (.getfield 22, 3) := by decide +kernel
theorem dX10_removePoint_37 : decode cX10_removePoint 37 = .ok (.aload_n 0, 1) := by decide +kernel
theorem dX10_removePoint_38 : decode cX10_removePoint 38 = .ok (.getfield 10, 3) := by decide +kernel
theorem dX10_removePoint_41 : decode cX10_removePoint 41 = .ok (.invokevirtual 39, 3) := by decide +kernel
theorem dX10_removePoint_44 : decode cX10_removePoint 44 = .ok (.pop, 1) := by decide +kernel
theorem dX10_removePoint_45 : decode cX10_removePoint 45 = .ok (.aload_n 0, 1) := by decide +kernel
theorem dX10_removePoint_46 : decode cX10_removePoint 46 = .ok (.getfield 10, 3) := by decide +kernel
theorem dX10_removePoint_49 : decode cX10_removePoint 49 = .ok (.getfield 100, 3) := by decide +kernel
theorem dX10_removePoint_52 : decode cX10_removePoint 52 = .ok (.iload_n 1, 1) := by decide +kernel
theorem dX10_removePoint_53 : decode cX10_removePoint 53 = .ok (.invokevirtual 117, 3) := by decide +kernel
theorem dX10_removePoint_56 : decode cX10_removePoint 56 = .ok (.aload_n 0, 1) := by decide +kernel
theorem dX10_removePoint_57 : decode cX10_removePoint 57 = .ok (.getfield 10, 3) := by decide +kernel
theorem dX10_removePoint_60 : decode cX10_removePoint 60 = .ok (.getfield 100, 3) := by decide +kernel
theorem dX10_removePoint_63 : decode cX10_removePoint 63 = .ok (.getfield 110, 3) := by decide +kernel
theorem dX10_removePoint_66 : decode cX10_removePoint 66 = .ok (.ireturn, 1) := by decide +kernel
set_option maxRecDepth 20000 in
theorem ggX10_supply_X8_isOutdoor : GoodIn wsX10_supply wsX8_isOutdoor := goodIn_r _ [6] (by decide +kernel) (by decide +kernel)
set_option maxRecDepth 20000 in
theorem gX10_supply_X8_isOutdoor : GoodIn wsX10_supply (va_wsS RX10 65 yX8_isOutdoor wsX8_isOutdoor) := goodIn_app (goodIn_of _ (by decide +kernel)) ggX10_supply_X8_isOutdoor
set_option maxRecDepth 20000 in
theorem ggX10_supply_X3_supplyAt : GoodIn wsX10_supply wsX3_supplyAt := goodIn_r _ [11, 12, 13, 14, 15, 16, 17, 10, 18, 19, 20, 21, 22, 23, 36, 37, 38] (by decide +kernel) (by decide +kernel)
set_option maxRecDepth 20000 in
theorem gX10_supply_X3_supplyAt : GoodIn wsX10_supply (wsV RX10 121 RX3 yX3_supplyAt wsX3_supplyAt) := goodIn_app (goodIn_of _ (by decide +kernel)) ggX10_supply_X3_supplyAt
theorem dX10_supply_0 : decode cX10_supply 0 = .ok (.iload_n 1, 1) := by decide +kernel
theorem dX10_supply_1 : decode cX10_supply 1 = .ok (.invokestatic 65, 3) := by decide +kernel
theorem dX10_supply_4 : decode cX10_supply 4 = .ok (.ifCond .eq 17, 3) := by decide +kernel
theorem dX10_supply_7 : decode cX10_supply 7 = .ok (.aload_n 0, 1) := by decide +kernel
theorem dX10_supply_8 : decode cX10_supply 8 = .ok (.getfield 10, 3) := by decide +kernel
theorem dX10_supply_11 : decode cX10_supply 11 = .ok (.getfield 100, 3) := by decide +kernel
theorem dX10_supply_14 : decode cX10_supply 14 = .ok (.iload_n 1, 1) := by decide +kernel
theorem dX10_supply_15 : decode cX10_supply 15 = .ok (.invokevirtual 121, 3) := by decide +kernel
theorem dX10_supply_18 : decode cX10_supply 18 = .ok (.goto 6, 3) := by decide +kernel
theorem dX10_supply_21 : decode cX10_supply 21 = .ok (.sipush (-9999), 3) := by decide +kernel
theorem dX10_supply_24 : decode cX10_supply 24 = .ok (.ireturn, 1) := by decide +kernel
set_option maxRecDepth 20000 in
theorem ggX10_target_X8_isHour : GoodIn wsX10_target wsX8_isHour := goodIn_r _ [5] (by decide +kernel) (by decide +kernel)
set_option maxRecDepth 20000 in
theorem gX10_target_X8_isHour : GoodIn wsX10_target (va_wsS RX10 59 yX8_isHour wsX8_isHour) := goodIn_app (goodIn_of _ (by decide +kernel)) ggX10_target_X8_isHour
set_option maxRecDepth 20000 in
theorem ggX10_target_X5_targetIn : GoodIn wsX10_target wsX5_targetIn := goodIn_r _ [10, 11, 12, 13, 14, 15, 16, 17, 18, 19, 20, 21, 22, 23, 24, 25, 26, 27, 28, 29, 30, 31, 32, 33, 34, 35, 36, 37, 38, 43, 44, 45, 46, 47, 48, 49, 50, 51, 52, 53, 54, 55, 56, 57] (by decide +kernel) (by decide +kernel)
set_option maxRecDepth 20000 in
theorem gX10_target_X5_targetIn : GoodIn wsX10_target (wsV RX10 124 RX5 yX5_targetIn wsX5_targetIn) := goodIn_app (goodIn_of _ (by decide +kernel)) ggX10_target_X5_targetIn
theorem dX10_target_0 : decode cX10_target 0 = .ok (.iload_n 1, 1) := by decide +kernel
theorem dX10_target_1 : decode cX10_target 1 = .ok (.invokestatic 59, 3) := by decide +kernel
theorem dX10_target_4 : decode cX10_target 4 = .ok (.ifCond .eq 14, 3) := by decide +kernel
theorem dX10_target_7 : decode cX10_target 7 = .ok (.aload_n 0, 1) := by decide +kernel
theorem dX10_target_8 : decode cX10_target 8 = .ok (.getfield 10, 3) := by decide +kernel
theorem dX10_target_11 : decode cX10_target 11 = .ok (.iload_n 1, 1) := by decide +kernel
theorem dX10_target_12 : decode cX10_target 12 = .ok (.invokevirtual 124, 3) := by decide +kernel
theorem dX10_target_15 : decode cX10_target 15 = .ok (.goto 6, 3) := by decide +kernel
theorem dX10_target_18 : decode cX10_target 18 = .ok (.sipush (-9999), 3) := by decide +kernel
theorem dX10_target_21 : decode cX10_target 21 = .ok (.ireturn, 1) := by decide +kernel
set_option maxRecDepth 20000 in
theorem ggX10_fill_X1_isCapacity : GoodIn wsX10_fill wsX1_isCapacity := goodIn_r _ [7] (by decide +kernel) (by decide +kernel)
set_option maxRecDepth 20000 in
theorem gX10_fill_X1_isCapacity : GoodIn wsX10_fill (va_wsS RX10 127 yX1_isCapacity wsX1_isCapacity) := goodIn_app (goodIn_of _ (by decide +kernel)) ggX10_fill_X1_isCapacity
set_option maxRecDepth 20000 in
theorem ggX10_fill_X1_isFilling : GoodIn wsX10_fill wsX1_isFilling := goodIn_r _ [10] (by decide +kernel) (by decide +kernel)
set_option maxRecDepth 20000 in
theorem gX10_fill_X1_isFilling : GoodIn wsX10_fill (va_wsS RX10 132 yX1_isFilling wsX1_isFilling) := goodIn_app (goodIn_of _ (by decide +kernel)) ggX10_fill_X1_isFilling
set_option maxRecDepth 20000 in
theorem ggX10_fill_X4_record : GoodIn wsX10_fill wsX4_record := goodIn_r _ [15, 16, 17, 18, 19, 20, 14, 21, 22, 23, 24, 25, 26, 27, 28, 29, 30, 31, 32, 33, 34, 35, 36, 37, 38, 39, 40, 41, 42, 43, 44, 45, 46, 47, 48, 49, 50, 51, 52, 53, 54, 55, 56, 57, 6, 58, 59, 60, 61, 62, 63, 64, 65, 66, 67, 68, 69, 70, 71, 72, 73, 74, 75, 76, 77, 78, 79, 80, 81, 82, 83, 84, 85, 86, 87, 88, 105, 106, 107, 97, 98, 99, 100, 101, 102, 103, 104, 108, 109, 110, 111, 112, 113, 114, 115, 116, 117, 118, 119, 120, 121, 122, 123, 124, 125, 126, 127, 128, 129, 130, 131, 132, 133, 134] (by decide +kernel) (by decide +kernel)
set_option maxRecDepth 20000 in
theorem gX10_fill_X4_record : GoodIn wsX10_fill (wsV RX10 39 RX4 yX4_record wsX4_record) := goodIn_app (goodIn_of _ (by decide +kernel)) ggX10_fill_X4_record
set_option maxRecDepth 20000 in
theorem ggX10_fill_X1_refill : GoodIn wsX10_fill wsX1_refill := goodIn_r _ [92, 60, 59, 115, 116] (by decide +kernel) (by decide +kernel)
set_option maxRecDepth 20000 in
theorem gX10_fill_X1_refill : GoodIn wsX10_fill (wsV RX10 139 RX1 yX1_refill wsX1_refill) := goodIn_app (goodIn_of _ (by decide +kernel)) ggX10_fill_X1_refill
theorem dX10_fill_0 : decode cX10_fill 0 = .ok (.iload_n 1, 1) := by decide +kernel
theorem dX10_fill_1 : decode cX10_fill 1 = .ok (.invokestatic 127, 3) := by decide +kernel
theorem dX10_fill_4 : decode cX10_fill 4 = .ok (.ifCond .eq 10, 3) := by decide +kernel
theorem dX10_fill_7 : decode cX10_fill 7 = .ok (.iload_n 2, 1) := by decide +kernel
theorem dX10_fill_8 : decode cX10_fill 8 = .ok (.invokestatic 132, 3) := by decide +kernel
theorem dX10_fill_11 : decode cX10_fill 11 = .ok (.ifCond .ne 5, 3) := by decide +kernel
theorem dX10_fill_14 : decode cX10_fill 14 = .ok (.iconst (-1), 1) := by decide +kernel
theorem dX10_fill_15 : decode cX10_fill 15 = .ok (.ireturn, 1) := by decide +kernel
theorem dX10_fill_16 : decode cX10_fill 16 = .ok (.aload_n 0, 1) := by decide +kernel
theorem dX10_fill_17 : decode cX10_fill 17 = .ok (.getfield 22, 3) := by decide +kernel
theorem dX10_fill_20 : decode cX10_fill 20 = .ok (.aload_n 0, 1) := by decide +kernel
theorem dX10_fill_21 : decode cX10_fill 21 = .ok (.getfield 10, 3) := by decide +kernel
theorem dX10_fill_24 : decode cX10_fill 24 = .ok (.invokevirtual 39, 3) := by decide +kernel
theorem dX10_fill_27 : decode cX10_fill 27 = .ok (.istore_n 3, 1) := by decide +kernel
theorem dX10_fill_28 : decode cX10_fill 28 = .ok (.aload_n 0, 1) := by decide +kernel
theorem dX10_fill_29 : decode cX10_fill 29 = .ok (.getfield 10, 3) := by decide +kernel
theorem dX10_fill_32 : decode cX10_fill 32 = .ok (.getfield 135, 3) := by decide +kernel
theorem dX10_fill_35 : decode cX10_fill 35 = .ok (.iload_n 1, 1) := by decide +kernel
theorem dX10_fill_36 : decode cX10_fill 36 = .ok (.iload_n 2, 1) := by decide +kernel
theorem dX10_fill_37 : decode cX10_fill 37 = .ok (.invokevirtual 139, 3) := by decide +kernel
theorem dX10_fill_40 : decode cX10_fill 40 = .ok (.iload_n 3, 1) := by decide +kernel
theorem dX10_fill_41 : decode cX10_fill 41 = .ok (.ireturn, 1) := by decide +kernel
set_option maxRecDepth 20000 in
theorem ggX10_temperature_X1_temperatureOf : GoodIn wsX10_temperature wsX1_temperatureOf := goodIn_r _ [7, 8, 9, 10, 11, 12, 13, 26, 27] (by decide +kernel) (by decide +kernel)
set_option maxRecDepth 20000 in
theorem gX10_temperature_X1_temperatureOf : GoodIn wsX10_temperature (wsV RX10 142 RX1 yX1_temperatureOf wsX1_temperatureOf) := goodIn_app (goodIn_of _ (by decide +kernel)) ggX10_temperature_X1_temperatureOf
theorem dX10_temperature_0 : decode cX10_temperature 0 = .ok (.aload_n 0, 1) := by decide +kernel
theorem dX10_temperature_1 : decode cX10_temperature 1 = .ok (.getfield 10, 3) := by decide +kernel
theorem dX10_temperature_4 : decode cX10_temperature 4 = .ok (.getfield 135, 3) := by decide +kernel
theorem dX10_temperature_7 : decode cX10_temperature 7 = .ok (.iload_n 1, 1) := by decide +kernel
theorem dX10_temperature_8 : decode cX10_temperature 8 = .ok (.invokevirtual 142, 3) := by decide +kernel
theorem dX10_temperature_11 : decode cX10_temperature 11 = .ok (.l2i, 1) := by decide +kernel
theorem dX10_temperature_12 : decode cX10_temperature 12 = .ok (.ireturn, 1) := by decide +kernel
set_option maxRecDepth 20000 in
theorem ggX10_stored_X1_energyOfAll : GoodIn wsX10_stored wsX1_energyOfAll := goodIn_r _ [7, 8, 21, 22] (by decide +kernel) (by decide +kernel)
set_option maxRecDepth 20000 in
theorem gX10_stored_X1_energyOfAll : GoodIn wsX10_stored (wsV RX10 146 RX1 yX1_energyOfAll wsX1_energyOfAll) := goodIn_app (goodIn_of _ (by decide +kernel)) ggX10_stored_X1_energyOfAll
theorem dX10_stored_0 : decode cX10_stored 0 = .ok (.aload_n 0, 1) := by decide +kernel
theorem dX10_stored_1 : decode cX10_stored 1 = .ok (.getfield 10, 3) := by decide +kernel
theorem dX10_stored_4 : decode cX10_stored 4 = .ok (.getfield 135, 3) := by decide +kernel
theorem dX10_stored_7 : decode cX10_stored 7 = .ok (.invokevirtual 146, 3) := by decide +kernel
theorem dX10_stored_10 : decode cX10_stored 10 = .ok (.lreturn, 1) := by decide +kernel
set_option maxRecDepth 20000 in
theorem ggX10_run_X4_record : GoodIn wsX10_run wsX4_record := goodIn_r _ [11, 12, 13, 14, 15, 16, 10, 17, 18, 19, 20, 21, 22, 23, 24, 25, 26, 27, 28, 29, 30, 31, 32, 33, 34, 35, 36, 37, 38, 39, 40, 41, 42, 43, 44, 45, 46, 47, 48, 49, 50, 51, 52, 53, 54, 55, 56, 57, 58, 59, 60, 61, 62, 63, 64, 65, 66, 67, 68, 69, 70, 71, 72, 73, 74, 75, 76, 77, 78, 79, 80, 81, 82, 83, 84, 85, 265, 266, 267, 246, 247, 248, 249, 250, 251, 252, 253, 268, 269, 270, 271, 272, 273, 274, 275, 276, 277, 278, 279, 280, 281, 282, 283, 254, 255, 256, 257, 258, 259, 260, 261, 262, 263, 264] (by decide +kernel) (by decide +kernel)
set_option maxRecDepth 20000 in
theorem gX10_run_X4_record : GoodIn wsX10_run (wsV RX10 39 RX4 yX4_record wsX4_record) := goodIn_app (goodIn_of _ (by decide +kernel)) ggX10_run_X4_record
set_option maxRecDepth 20000 in
theorem ggX10_run_X5_advance : GoodIn wsX10_run wsX5_advance := goodIn_r _ [89, 31, 90, 91, 92, 22, 93, 94, 26, 95, 96, 97, 98, 99, 100, 101, 102, 103, 33, 104, 105, 106, 107, 108, 24, 109, 110, 111, 112, 113, 114, 115, 116, 117, 118, 119, 120, 121, 122, 123, 124, 125, 27, 126, 127, 128, 46, 129, 50, 49, 48, 130, 131, 132, 133, 134, 135, 136, 137, 29, 28, 30, 138, 139, 140, 141, 142, 143, 144, 61, 145, 63, 66, 67, 146, 147, 148, 149, 150, 151, 152, 153, 154, 54, 155, 56, 57, 156, 157, 158, 159, 160, 161, 64, 162, 163, 164, 165, 65, 68, 166, 167, 168, 169, 170, 171, 172, 173, 69, 174, 175, 176, 177, 178, 73, 179, 76, 75, 77, 78, 180, 181, 182, 183, 184, 185, 186, 187, 188, 189, 190, 191, 192, 193, 194, 195, 196, 197, 198, 199, 200, 201, 202, 203, 204, 205, 206, 207, 208, 209, 210, 211, 212, 213, 214, 215, 216, 217, 218, 219, 220, 221, 222, 223, 224, 225, 226, 227, 228, 229, 230, 231, 232, 233, 234, 235, 236, 237, 238, 239, 240, 241, 246, 247, 248, 249, 250, 251, 252, 253, 269, 270, 271, 284, 285, 286, 287, 288, 268, 272, 273, 274, 277, 278, 279, 280, 281, 282, 283, 254, 255, 256, 257, 258, 259, 260, 261, 262, 263, 264, 275, 276] (by decide +kernel) (by decide +kernel)
set_option maxRecDepth 20000 in
theorem gX10_run_X5_advance : GoodIn wsX10_run (wsV RX10 163 RX5 yX5_advance wsX5_advance) := goodIn_app (goodIn_of _ (by decide +kernel)) ggX10_run_X5_advance
theorem dX10_run_0 : decode cX10_run 0 = .ok (.iload_n 1, 1) := by decide +kernel
theorem dX10_run_1 : decode cX10_run 1 = .ok (.iconst 1, 1) := by decide +kernel
theorem dX10_run_2 : decode cX10_run 2 = .ok (.if_icmp .lt 10, 3) := by decide +kernel
theorem dX10_run_5 : decode cX10_run 5 = .ok (.iload_n 1, 1) := by decide +kernel
theorem dX10_run_6 : decode cX10_run 6 = .ok (.sipush 1440, 3) := by decide +kernel
theorem dX10_run_9 : decode cX10_run 9 = .ok (.if_icmp .le 5, 3) := by decide +kernel
theorem dX10_run_12 : decode cX10_run 12 = .ok (.iconst (-1), 1) := by decide +kernel
theorem dX10_run_13 : decode cX10_run 13 = .ok (.ireturn, 1) := by decide +kernel
theorem dX10_run_14 : decode cX10_run 14 = .ok (.aload_n 0, 1) := by decide +kernel
theorem dX10_run_15 : decode cX10_run 15 = .ok (.getfield 10, 3) := by decide +kernel
theorem dX10_run_18 : decode cX10_run 18 = .ok (.getfield 150, 3) := by decide +kernel
theorem dX10_run_21 : decode cX10_run 21 = .ok (.iload_n 1, 1) := by decide +kernel
theorem dX10_run_22 : decode cX10_run 22 = .ok (.iadd, 1) := by decide +kernel
theorem dX10_run_23 : decode cX10_run 23 = .ok (.ldc 153, 2) := by decide +kernel
theorem dX10_run_25 : decode cX10_run 25 = .ok (.if_icmp .le 6, 3) := by decide +kernel
theorem dX10_run_28 : decode cX10_run 28 = .ok (.bipush (-3), 2) := by decide +kernel
theorem dX10_run_30 : decode cX10_run 30 = .ok (.ireturn, 1) := by decide +kernel
theorem dX10_run_31 : decode cX10_run 31 = .ok (.aload_n 0, 1) := by decide +kernel
theorem dX10_run_32 : decode cX10_run 32 = .ok (.getfield 22, 3) := by decide +kernel
theorem dX10_run_35 : decode cX10_run 35 = .ok (.aload_n 0, 1) := by decide +kernel
theorem dX10_run_36 : decode cX10_run 36 = .ok (.getfield 10, 3) := by decide +kernel
theorem dX10_run_39 : decode cX10_run 39 = .ok (.invokevirtual 39, 3) := by decide +kernel
theorem dX10_run_42 : decode cX10_run 42 = .ok (.pop, 1) := by decide +kernel
theorem dX10_run_43 : decode cX10_run 43 = .ok (.aload_n 0, 1) := by decide +kernel
theorem dX10_run_44 : decode cX10_run 44 = .ok (.getfield 10, 3) := by decide +kernel
theorem dX10_run_47 : decode cX10_run 47 = .ok (.getfield 154, 3) := by decide +kernel
theorem dX10_run_50 : decode cX10_run 50 = .ok (.getfield 158, 3) := by decide +kernel
theorem dX10_run_53 : decode cX10_run 53 = .ok (.istore_n 2, 1) := by decide +kernel
theorem dX10_run_54 : decode cX10_run 54 = .ok (.aload_n 0, 1) := by decide +kernel
theorem dX10_run_55 : decode cX10_run 55 = .ok (.getfield 10, 3) := by decide +kernel
theorem dX10_run_58 : decode cX10_run 58 = .ok (.iload_n 1, 1) := by decide +kernel
theorem dX10_run_59 : decode cX10_run 59 = .ok (.invokevirtual 163, 3) := by decide +kernel
theorem dX10_run_62 : decode cX10_run 62 = .ok (.aload_n 0, 1) := by decide +kernel
theorem dX10_run_63 : decode cX10_run 63 = .ok (.getfield 10, 3) := by decide +kernel
theorem dX10_run_66 : decode cX10_run 66 = .ok (.getfield 154, 3) := by decide +kernel
theorem dX10_run_69 : decode cX10_run 69 = .ok (.getfield 158, 3) := by decide +kernel
theorem dX10_run_72 : decode cX10_run 72 = .ok (.iload_n 2, 1) := by decide +kernel
theorem dX10_run_73 : decode cX10_run 73 = .ok (.isub, 1) := by decide +kernel
theorem dX10_run_74 : decode cX10_run 74 = .ok (.ireturn, 1) := by decide +kernel
theorem dX10_time_0 : decode cX10_time 0 = .ok (.aload_n 0, 1) := by decide +kernel
theorem dX10_time_1 : decode cX10_time 1 = .ok (.getfield 10, 3) := by decide +kernel
theorem dX10_time_4 : decode cX10_time 4 = .ok (.getfield 150, 3) := by decide +kernel
theorem dX10_time_7 : decode cX10_time 7 = .ok (.ireturn, 1) := by decide +kernel
theorem dX10_pump_0 : decode cX10_pump 0 = .ok (.aload_n 0, 1) := by decide +kernel
theorem dX10_pump_1 : decode cX10_pump 1 = .ok (.getfield 10, 3) := by decide +kernel
theorem dX10_pump_4 : decode cX10_pump 4 = .ok (.getfield 166, 3) := by decide +kernel
theorem dX10_pump_7 : decode cX10_pump 7 = .ok (.getfield 170, 3) := by decide +kernel
theorem dX10_pump_10 : decode cX10_pump 10 = .ok (.ireturn, 1) := by decide +kernel
theorem dX10_reason_0 : decode cX10_reason 0 = .ok (.aload_n 0, 1) := by decide +kernel
theorem dX10_reason_1 : decode cX10_reason 1 = .ok (.getfield 10, 3) := by decide +kernel
theorem dX10_reason_4 : decode cX10_reason 4 = .ok (.getfield 154, 3) := by decide +kernel
theorem dX10_reason_7 : decode cX10_reason 7 = .ok (.getfield 175, 3) := by decide +kernel
theorem dX10_reason_10 : decode cX10_reason 10 = .ok (.ireturn, 1) := by decide +kernel
set_option maxRecDepth 20000 in
theorem ggX10_minutesWith_X10_elementOr : GoodIn wsX10_minutesWith wsX10_elementOr := goodIn_r _ [7] (by decide +kernel) (by decide +kernel)
set_option maxRecDepth 20000 in
theorem gX10_minutesWith_X10_elementOr : GoodIn wsX10_minutesWith (va_wsS RX10 55 yX10_elementOr wsX10_elementOr) := goodIn_app (goodIn_of _ (by decide +kernel)) ggX10_minutesWith_X10_elementOr
theorem dX10_minutesWith_0 : decode cX10_minutesWith 0 = .ok (.aload_n 0, 1) := by decide +kernel
theorem dX10_minutesWith_1 : decode cX10_minutesWith 1 = .ok (.getfield 10, 3) := by decide +kernel
theorem dX10_minutesWith_4 : decode cX10_minutesWith 4 = .ok (.getfield 154, 3) := by decide +kernel
theorem dX10_minutesWith_7 : decode cX10_minutesWith 7 = .ok (.getfield 178, 3) := by decide +kernel
theorem dX10_minutesWith_10 : decode cX10_minutesWith 10 = .ok (.iload_n 1, 1) := by decide +kernel
theorem dX10_minutesWith_11 : decode cX10_minutesWith 11 = .ok (.iconst (-1), 1) := by decide +kernel
theorem dX10_minutesWith_12 : decode cX10_minutesWith 12 = .ok (.invokestatic 55, 3) := by decide +kernel
theorem dX10_minutesWith_15 : decode cX10_minutesWith 15 = .ok (.ireturn, 1) := by decide +kernel
theorem dX10_startsLastHour_0 : decode cX10_startsLastHour 0 = .ok (.aload_n 0, 1) := by decide +kernel
theorem dX10_startsLastHour_1 : decode cX10_startsLastHour 1 = .ok (.getfield 10, 3) := by decide +kernel
theorem dX10_startsLastHour_4 : decode cX10_startsLastHour 4 = .ok (.getfield 166, 3) := by decide +kernel
theorem dX10_startsLastHour_7 : decode cX10_startsLastHour 7 = .ok (.getfield 181, 3) := by decide +kernel
theorem dX10_startsLastHour_10 : decode cX10_startsLastHour 10 = .ok (.ireturn, 1) := by decide +kernel
theorem dX10_starts_0 : decode cX10_starts 0 = .ok (.aload_n 0, 1) := by decide +kernel
theorem dX10_starts_1 : decode cX10_starts 1 = .ok (.getfield 10, 3) := by decide +kernel
theorem dX10_starts_4 : decode cX10_starts 4 = .ok (.getfield 154, 3) := by decide +kernel
