set_option maxRecDepth 20000 in
theorem ggX11_init_X11_first : GoodIn wsX11_init wsX11_first := goodIn_r _ [22] (by decide +kernel) (by decide +kernel)
set_option maxRecDepth 20000 in
theorem gX11_init_X11_first : GoodIn wsX11_init (va_wsS RX11 17 yX11_first wsX11_first) := goodIn_app (goodIn_of _ (by decide +kernel)) ggX11_init_X11_first
set_option maxRecDepth 20000 in
theorem ggX11_init_X11_layEnergies : GoodIn wsX11_init wsX11_layEnergies := goodIn_r _ [26, 5, 27, 28, 29, 30, 31, 32, 33, 34, 35, 36] (by decide +kernel) (by decide +kernel)
set_option maxRecDepth 20000 in
theorem gX11_init_X11_layEnergies : GoodIn wsX11_init (wsV RX11 39 RX11 yX11_layEnergies wsX11_layEnergies) := goodIn_app (goodIn_of _ (by decide +kernel)) ggX11_init_X11_layEnergies
theorem dX11_init_0 : decode cX11_init 0 = .ok (.aload_n 0, 1) := by decide +kernel
theorem dX11_init_1 : decode cX11_init 1 = .ok (.invokespecial 1, 3) := by decide +kernel
theorem dX11_init_4 : decode cX11_init 4 = .ok (.aload_n 0, 1) := by decide +kernel
theorem dX11_init_5 : decode cX11_init 5 = .ok (.sipush 1044, 3) := by decide +kernel
theorem dX11_init_8 : decode cX11_init 8 = .ok (.newarray .long, 2) := by decide +kernel
theorem dX11_init_10 : decode cX11_init 10 = .ok (.putfield 7, 3) := by decide +kernel
theorem dX11_init_13 : decode cX11_init 13 = .ok (.aload_n 0, 1) := by decide +kernel
theorem dX11_init_14 : decode cX11_init 14 = .ok (.bipush 100, 2) := by decide +kernel
theorem dX11_init_16 : decode cX11_init 16 = .ok (.newarray .int, 2) := by decide +kernel
theorem dX11_init_18 : decode cX11_init 18 = .ok (.putfield 13, 3) := by decide +kernel
theorem dX11_init_21 : decode cX11_init 21 = .ok (.iconst 0, 1) := by decide +kernel
theorem dX11_init_22 : decode cX11_init 22 = .ok (.istore_n 1, 1) := by decide +kernel
theorem dX11_init_23 : decode cX11_init 23 = .ok (.iload_n 1, 1) := by decide +kernel
theorem dX11_init_24 : decode cX11_init 24 = .ok (.bipush 17, 2) := by decide +kernel
theorem dX11_init_26 : decode cX11_init 26 = .ok (.if_icmp .ge 22, 3) := by decide +kernel
theorem dX11_init_29 : decode cX11_init 29 = .ok (.aload_n 0, 1) := by decide +kernel
theorem dX11_init_30 : decode cX11_init 30 = .ok (.getfield 7, 3) := by decide +kernel
theorem dX11_init_33 : decode cX11_init 33 = .ok (.iconst 0, 1) := by decide +kernel
theorem dX11_init_34 : decode cX11_init 34 = .ok (.iload_n 1, 1) := by decide +kernel
theorem dX11_init_35 : decode cX11_init 35 = .ok (.iadd, 1) := by decide +kernel
theorem dX11_init_36 : decode cX11_init 36 = .ok (.iload_n 1, 1) := by decide +kernel
theorem dX11_init_37 : decode cX11_init 37 = .ok (.invokestatic 17, 3) := by decide +kernel
theorem dX11_init_40 : decode cX11_init 40 = .ok (.i2l, 1) := by decide +kernel
theorem dX11_init_41 : decode cX11_init 41 = .ok (.lastore, 1) := by decide +kernel
theorem dX11_init_42 : decode cX11_init 42 = .ok (.iinc 1 1, 3) := by decide +kernel
theorem dX11_init_45 : decode cX11_init 45 = .ok (.goto (-22), 3) := by decide +kernel
theorem dX11_init_48 : decode cX11_init 48 = .ok (.iconst 0, 1) := by decide +kernel
theorem dX11_init_49 : decode cX11_init 49 = .ok (.istore_n 1, 1) := by decide +kernel
theorem dX11_init_50 : decode cX11_init 50 = .ok (.iload_n 1, 1) := by decide +kernel
theorem dX11_init_51 : decode cX11_init 51 = .ok (.bipush 24, 2) := by decide +kernel
theorem dX11_init_53 : decode cX11_init 53 = .ok (.if_icmp .ge 31, 3) := by decide +kernel
theorem dX11_init_56 : decode cX11_init 56 = .ok (.aload_n 0, 1) := by decide +kernel
theorem dX11_init_57 : decode cX11_init 57 = .ok (.getfield 7, 3) := by decide +kernel
theorem dX11_init_60 : decode cX11_init 60 = .ok (.bipush 17, 2) := by decide +kernel
theorem dX11_init_62 : decode cX11_init 62 = .ok (.iload_n 1, 1) := by decide +kernel
theorem dX11_init_63 : decode cX11_init 63 = .ok (.iadd, 1) := by decide +kernel
theorem dX11_init_64 : decode cX11_init 64 = .ok (.ldc2_w 21, 3) := by decide +kernel
theorem dX11_init_67 : decode cX11_init 67 = .ok (.lastore, 1) := by decide +kernel
theorem dX11_init_68 : decode cX11_init 68 = .ok (.aload_n 0, 1) := by decide +kernel
theorem dX11_init_69 : decode cX11_init 69 = .ok (.getfield 7, 3) := by decide +kernel
theorem dX11_init_72 : decode cX11_init 72 = .ok (.bipush 41, 2) := by decide +kernel
theorem dX11_init_74 : decode cX11_init 74 = .ok (.iload_n 1, 1) := by decide +kernel
theorem dX11_init_75 : decode cX11_init 75 = .ok (.iadd, 1) := by decide +kernel
theorem dX11_init_76 : decode cX11_init 76 = .ok (.lconst 1, 1) := by decide +kernel
theorem dX11_init_77 : decode cX11_init 77 = .ok (.lastore, 1) := by decide +kernel
theorem dX11_init_78 : decode cX11_init 78 = .ok (.iinc 1 1, 3) := by decide +kernel
theorem dX11_init_81 : decode cX11_init 81 = .ok (.goto (-31), 3) := by decide +kernel
theorem dX11_init_84 : decode cX11_init 84 = .ok (.aload_n 0, 1) := by decide +kernel
theorem dX11_init_85 : decode cX11_init 85 = .ok (.getfield 7, 3) := by decide +kernel
theorem dX11_init_88 : decode cX11_init 88 = .ok (.bipush 65, 2) := by decide +kernel
theorem dX11_init_90 : decode cX11_init 90 = .ok (.ldc2_w 23, 3) := by decide +kernel
theorem dX11_init_93 : decode cX11_init 93 = .ok (.lastore, 1) := by decide +kernel
theorem dX11_init_94 : decode cX11_init 94 = .ok (.aload_n 0, 1) := by decide +kernel
theorem dX11_init_95 : decode cX11_init 95 = .ok (.getfield 7, 3) := by decide +kernel
theorem dX11_init_98 : decode cX11_init 98 = .ok (.bipush 66, 2) := by decide +kernel
theorem dX11_init_100 : decode cX11_init 100 = .ok (.ldc2_w 25, 3) := by decide +kernel
theorem dX11_init_103 : decode cX11_init 103 = .ok (.lastore, 1) := by decide +kernel
theorem dX11_init_104 : decode cX11_init 104 = .ok (.aload_n 0, 1) := by decide +kernel
theorem dX11_init_105 : decode cX11_init 105 = .ok (.getfield 7, 3) := by decide +kernel
theorem dX11_init_108 : decode cX11_init 108 = .ok (.bipush 67, 2) := by decide +kernel
theorem dX11_init_110 : decode cX11_init 110 = .ok (.ldc2_w 27, 3) := by decide +kernel
theorem dX11_init_113 : decode cX11_init 113 = .ok (.lastore, 1) := by decide +kernel
theorem dX11_init_114 : decode cX11_init 114 = .ok (.aload_n 0, 1) := by decide +kernel
theorem dX11_init_115 : decode cX11_init 115 = .ok (.getfield 7, 3) := by decide +kernel
theorem dX11_init_118 : decode cX11_init 118 = .ok (.bipush 68, 2) := by decide +kernel
theorem dX11_init_120 : decode cX11_init 120 = .ok (.ldc2_w 29, 3) := by decide +kernel
theorem dX11_init_123 : decode cX11_init 123 = .ok (.lastore, 1) := by decide +kernel
theorem dX11_init_124 : decode cX11_init 124 = .ok (.aload_n 0, 1) := by decide +kernel
theorem dX11_init_125 : decode cX11_init 125 = .ok (.getfield 7, 3) := by decide +kernel
theorem dX11_init_128 : decode cX11_init 128 = .ok (.bipush 69, 2) := by decide +kernel
theorem dX11_init_130 : decode cX11_init 130 = .ok (.ldc2_w 31, 3) := by decide +kernel
theorem dX11_init_133 : decode cX11_init 133 = .ok (.lastore, 1) := by decide +kernel
theorem dX11_init_134 : decode cX11_init 134 = .ok (.aload_n 0, 1) := by decide +kernel
theorem dX11_init_135 : decode cX11_init 135 = .ok (.getfield 7, 3) := by decide +kernel
theorem dX11_init_138 : decode cX11_init 138 = .ok (.bipush 70, 2) := by decide +kernel
theorem dX11_init_140 : decode cX11_init 140 = .ok (.ldc2_w 33, 3) := by decide +kernel
theorem dX11_init_143 : decode cX11_init 143 = .ok (.lastore, 1) := by decide +kernel
theorem dX11_init_144 : decode cX11_init 144 = .ok (.aload_n 0, 1) := by decide +kernel
theorem dX11_init_145 : decode cX11_init 145 = .ok (.getfield 7, 3) := by decide +kernel
theorem dX11_init_148 : decode cX11_init 148 = .ok (.bipush 71, 2) := by decide +kernel
theorem dX11_init_150 : decode cX11_init 150 = .ok (.ldc2_w 35, 3) := by decide +kernel
theorem dX11_init_153 : decode cX11_init 153 = .ok (.lastore, 1) := by decide +kernel
theorem dX11_init_154 : decode cX11_init 154 = .ok (.aload_n 0, 1) := by decide +kernel
theorem dX11_init_155 : decode cX11_init 155 = .ok (.getfield 7, 3) := by decide +kernel
theorem dX11_init_158 : decode cX11_init 158 = .ok (.bipush 72, 2) := by decide +kernel
theorem dX11_init_160 : decode cX11_init 160 = .ok (.ldc2_w 37, 3) := by decide +kernel
theorem dX11_init_163 : decode cX11_init 163 = .ok (.lastore, 1) := by decide +kernel
theorem dX11_init_164 : decode cX11_init 164 = .ok (.aload_n 0, 1) := by decide +kernel
theorem dX11_init_165 : decode cX11_init 165 = .ok (.sipush 700, 3) := by decide +kernel
theorem dX11_init_168 : decode cX11_init 168 = .ok (.sipush 300, 3) := by decide +kernel
theorem dX11_init_171 : decode cX11_init 171 = .ok (.invokevirtual 39, 3) := by decide +kernel
theorem dX11_init_174 : decode cX11_init 174 = .ok (.aload_n 0, 1) := by decide +kernel
theorem dX11_init_175 : decode cX11_init 175 = .ok (.getfield 7, 3) := by decide +kernel
theorem dX11_init_178 : decode cX11_init 178 = .ok (.bipush 88, 2) := by decide +kernel
theorem dX11_init_180 : decode cX11_init 180 = .ok (.ldc2_w 43, 3) := by decide +kernel
theorem dX11_init_183 : decode cX11_init 183 = .ok (.lastore, 1) := by decide +kernel
theorem dX11_init_184 : decode cX11_init 184 = .ok (.aload_n 0, 1) := by decide +kernel
theorem dX11_init_185 : decode cX11_init 185 = .ok (.getfield 7, 3) := by decide +kernel
theorem dX11_init_188 : decode cX11_init 188 = .ok (.bipush 92, 2) := by decide +kernel
theorem dX11_init_190 : decode cX11_init 190 = .ok (.ldc2_w 45, 3) := by decide +kernel
theorem dX11_init_193 : decode cX11_init 193 = .ok (.lastore, 1) := by decide +kernel
theorem dX11_init_194 : decode cX11_init 194 = .ok (.return_, 1) := by decide +kernel
theorem dX11_in_0 : decode cX11_in 0 = .ok (.lload_n 0, 1) := by decide +kernel
theorem dX11_in_1 : decode cX11_in 1 = .ok (.lload_n 2, 1) := by decide +kernel
theorem dX11_in_2 : decode cX11_in 2 = .ok (.lcmp, 1) := by decide +kernel
theorem dX11_in_3 : decode cX11_in 3 = .ok (.ifCond .lt 14, 3) := by decide +kernel
theorem dX11_in_6 : decode cX11_in 6 = .ok (.lload_n 0, 1) := by decide +kernel
theorem dX11_in_7 : decode cX11_in 7 = .ok (.lload 4, 2) := by decide +kernel
theorem dX11_in_9 : decode cX11_in 9 = .ok (.lcmp, 1) := by decide +kernel
theorem dX11_in_10 : decode cX11_in 10 = .ok (.ifCond .gt 7, 3) := by decide +kernel
theorem dX11_in_13 : decode cX11_in 13 = .ok (.iconst 1, 1) := by decide +kernel
theorem dX11_in_14 : decode cX11_in 14 = .ok (.goto 4, 3) := by decide +kernel
theorem dX11_in_17 : decode cX11_in 17 = .ok (.iconst 0, 1) := by decide +kernel
theorem dX11_in_18 : decode cX11_in 18 = .ok (.ireturn, 1) := by decide +kernel
theorem dX11_div_0 : decode cX11_div 0 = .ok (.lload_n 0, 1) := by decide +kernel
theorem dX11_div_1 : decode cX11_div 1 = .ok (.lload_n 2, 1) := by decide +kernel
theorem dX11_div_2 : decode cX11_div 2 = .ok (.ldiv, 1) := by decide +kernel
theorem dX11_div_3 : decode cX11_div 3 = .ok (.lstore 4, 2) := by decide +kernel
theorem dX11_div_5 : decode cX11_div 5 = .ok (.lload_n 0, 1) := by decide +kernel
theorem dX11_div_6 : decode cX11_div 6 = .ok (.lload_n 2, 1) := by decide +kernel
theorem dX11_div_7 : decode cX11_div 7 = .ok (.lrem, 1) := by decide +kernel
theorem dX11_div_8 : decode cX11_div 8 = .ok (.lconst 0, 1) := by decide +kernel
theorem dX11_div_9 : decode cX11_div 9 = .ok (.lcmp, 1) := by decide +kernel
theorem dX11_div_10 : decode cX11_div 10 = .ok (.ifCond .eq 35, 3) := by decide +kernel
theorem dX11_div_13 : decode cX11_div 13 = .ok (.lload_n 0, 1) := by decide +kernel
theorem dX11_div_14 : decode cX11_div 14 = .ok (.lconst 0, 1) := by decide +kernel
theorem dX11_div_15 : decode cX11_div 15 = .ok (.lcmp, 1) := by decide +kernel
theorem dX11_div_16 : decode cX11_div 16 = .ok (.ifCond .ge 7, 3) := by decide +kernel
theorem dX11_div_19 : decode cX11_div 19 = .ok (.iconst 1, 1) := by decide +kernel
theorem dX11_div_20 : decode cX11_div 20 = .ok (.goto 4, 3) := by decide +kernel
theorem dX11_div_23 : decode cX11_div 23 = .ok (.iconst 0, 1) := by decide +kernel
theorem dX11_div_24 : decode cX11_div 24 = .ok (.lload_n 2, 1) := by decide +kernel
theorem dX11_div_25 : decode cX11_div 25 = .ok (.lconst 0, 1) := by decide +kernel
theorem dX11_div_26 : decode cX11_div 26 = .ok (.lcmp, 1) := by decide +kernel
theorem dX11_div_27 : decode cX11_div 27 = .ok (.ifCond .ge 7, 3) := by decide +kernel
theorem dX11_div_30 : decode cX11_div 30 = .ok (.iconst 1, 1) := by decide +kernel
theorem dX11_div_31 : decode cX11_div 31 = .ok (.goto 4, 3) := by decide +kernel
theorem dX11_div_34 : decode cX11_div 34 = .ok (.iconst 0, 1) := by decide +kernel
theorem dX11_div_35 : decode cX11_div 35 = .ok (.if_icmp .eq 10, 3) := by decide +kernel
theorem dX11_div_38 : decode cX11_div 38 = .ok (.lload 4, 2) := by decide +kernel
theorem dX11_div_40 : decode cX11_div 40 = .ok (.lconst 1, 1) := by decide +kernel
theorem dX11_div_41 : decode cX11_div 41 = .ok (.lsub, 1) := by decide +kernel
theorem dX11_div_42 : decode cX11_div 42 = .ok (.goto 5, 3) := by decide +kernel
theorem dX11_div_45 : decode cX11_div 45 = .ok (.lload 4, 2) := by decide +kernel
theorem dX11_div_47 : decode cX11_div 47 = .ok (.lreturn, 1) := by decide +kernel
theorem dX11_least_0 : decode cX11_least 0 = .ok (.iload_n 0, 1) := by decide +kernel
theorem dX11_least_1 : decode cX11_least 1 = .ok (.tableswitch 95 2 16 #[75, 75, 77, 95, 81, 85, 95, 89, 75, 75, 95, 95, 95, 92, 75], 75) := by decide +kernel
theorem dX11_least_76 : decode cX11_least 76 = .ok (.iconst 1, 1) := by decide +kernel
theorem dX11_least_77 : decode cX11_least 77 = .ok (.ireturn, 1) := by decide +kernel
theorem dX11_least_78 : decode cX11_least 78 = .ok (.sipush 300, 3) := by decide +kernel
theorem dX11_least_81 : decode cX11_least 81 = .ok (.ireturn, 1) := by decide +kernel
theorem dX11_least_82 : decode cX11_least 82 = .ok (.sipush 150, 3) := by decide +kernel
theorem dX11_least_85 : decode cX11_least 85 = .ok (.ireturn, 1) := by decide +kernel
theorem dX11_least_86 : decode cX11_least 86 = .ok (.sipush 500, 3) := by decide +kernel
theorem dX11_least_89 : decode cX11_least 89 = .ok (.ireturn, 1) := by decide +kernel
theorem dX11_least_90 : decode cX11_least 90 = .ok (.bipush (-50), 2) := by decide +kernel
theorem dX11_least_92 : decode cX11_least 92 = .ok (.ireturn, 1) := by decide +kernel
theorem dX11_least_93 : decode cX11_least 93 = .ok (.bipush 100, 2) := by decide +kernel
theorem dX11_least_95 : decode cX11_least 95 = .ok (.ireturn, 1) := by decide +kernel
theorem dX11_least_96 : decode cX11_least 96 = .ok (.iconst 0, 1) := by decide +kernel
theorem dX11_least_97 : decode cX11_least 97 = .ok (.ireturn, 1) := by decide +kernel
theorem dX11_most_0 : decode cX11_most 0 = .ok (.iload_n 0, 1) := by decide +kernel
theorem dX11_most_1 : decode cX11_most 1 = .ok (.tableswitch 122 0 15 #[79, 79, 82, 85, 88, 92, 96, 100, 104, 85, 108, 112, 100, 115, 85, 118], 79) := by decide +kernel
theorem dX11_most_80 : decode cX11_most 80 = .ok (.bipush 60, 2) := by decide +kernel
theorem dX11_most_82 : decode cX11_most 82 = .ok (.ireturn, 1) := by decide +kernel
theorem dX11_most_83 : decode cX11_most 83 = .ok (.bipush 10, 2) := by decide +kernel
theorem dX11_most_85 : decode cX11_most 85 = .ok (.ireturn, 1) := by decide +kernel
theorem dX11_most_86 : decode cX11_most 86 = .ok (.bipush 100, 2) := by decide +kernel
theorem dX11_most_88 : decode cX11_most 88 = .ok (.ireturn, 1) := by decide +kernel
theorem dX11_most_89 : decode cX11_most 89 = .ok (.sipush 700, 3) := by decide +kernel
theorem dX11_most_92 : decode cX11_most 92 = .ok (.ireturn, 1) := by decide +kernel
theorem dX11_most_93 : decode cX11_most 93 = .ok (.sipush 150, 3) := by decide +kernel
theorem dX11_most_96 : decode cX11_most 96 = .ok (.ireturn, 1) := by decide +kernel
theorem dX11_most_97 : decode cX11_most 97 = .ok (.sipush 500, 3) := by decide +kernel
theorem dX11_most_100 : decode cX11_most 100 = .ok (.ireturn, 1) := by decide +kernel
theorem dX11_most_101 : decode cX11_most 101 = .ok (.sipush 20000, 3) := by decide +kernel
theorem dX11_most_104 : decode cX11_most 104 = .ok (.ireturn, 1) := by decide +kernel
theorem dX11_most_105 : decode cX11_most 105 = .ok (.sipush 200, 3) := by decide +kernel
theorem dX11_most_108 : decode cX11_most 108 = .ok (.ireturn, 1) := by decide +kernel
theorem dX11_most_109 : decode cX11_most 109 = .ok (.sipush 600, 3) := by decide +kernel
theorem dX11_most_112 : decode cX11_most 112 = .ok (.ireturn, 1) := by decide +kernel
theorem dX11_most_113 : decode cX11_most 113 = .ok (.bipush 20, 2) := by decide +kernel
theorem dX11_most_115 : decode cX11_most 115 = .ok (.ireturn, 1) := by decide +kernel
theorem dX11_most_116 : decode cX11_most 116 = .ok (.bipush 50, 2) := by decide +kernel
theorem dX11_most_118 : decode cX11_most 118 = .ok (.ireturn, 1) := by decide +kernel
theorem dX11_most_119 : decode cX11_most 119 = .ok (.sipush 300, 3) := by decide +kernel
theorem dX11_most_122 : decode cX11_most 122 = .ok (.ireturn, 1) := by decide +kernel
theorem dX11_most_123 : decode cX11_most 123 = .ok (.sipush 1000, 3) := by decide +kernel
theorem dX11_most_126 : decode cX11_most 126 = .ok (.ireturn, 1) := by decide +kernel
theorem dX11_first_0 : decode cX11_first 0 = .ok (.iload_n 0, 1) := by decide +kernel
theorem dX11_first_1 : decode cX11_first 1 = .ok (.tableswitch 126 0 15 #[79, 82, 84, 86, 89, 93, 96, 100, 104, 107, 110, 113, 116, 120, 86, 122], 79) := by decide +kernel
theorem dX11_first_80 : decode cX11_first 80 = .ok (.bipush 10, 2) := by decide +kernel
theorem dX11_first_82 : decode cX11_first 82 = .ok (.ireturn, 1) := by decide +kernel
theorem dX11_first_83 : decode cX11_first 83 = .ok (.iconst 5, 1) := by decide +kernel
theorem dX11_first_84 : decode cX11_first 84 = .ok (.ireturn, 1) := by decide +kernel
theorem dX11_first_85 : decode cX11_first 85 = .ok (.iconst 3, 1) := by decide +kernel
theorem dX11_first_86 : decode cX11_first 86 = .ok (.ireturn, 1) := by decide +kernel
theorem dX11_first_87 : decode cX11_first 87 = .ok (.bipush 20, 2) := by decide +kernel
theorem dX11_first_89 : decode cX11_first 89 = .ok (.ireturn, 1) := by decide +kernel
theorem dX11_first_90 : decode cX11_first 90 = .ok (.sipush 550, 3) := by decide +kernel
theorem dX11_first_93 : decode cX11_first 93 = .ok (.ireturn, 1) := by decide +kernel
theorem dX11_first_94 : decode cX11_first 94 = .ok (.bipush 30, 2) := by decide +kernel
theorem dX11_first_96 : decode cX11_first 96 = .ok (.ireturn, 1) := by decide +kernel
theorem dX11_first_97 : decode cX11_first 97 = .ok (.sipush 280, 3) := by decide +kernel
theorem dX11_first_100 : decode cX11_first 100 = .ok (.ireturn, 1) := by decide +kernel
theorem dX11_first_101 : decode cX11_first 101 = .ok (.sipush 6000, 3) := by decide +kernel
theorem dX11_first_104 : decode cX11_first 104 = .ok (.ireturn, 1) := by decide +kernel
theorem dX11_first_105 : decode cX11_first 105 = .ok (.bipush 100, 2) := by decide +kernel
theorem dX11_first_107 : decode cX11_first 107 = .ok (.ireturn, 1) := by decide +kernel
theorem dX11_first_108 : decode cX11_first 108 = .ok (.bipush 50, 2) := by decide +kernel
theorem dX11_first_110 : decode cX11_first 110 = .ok (.ireturn, 1) := by decide +kernel
theorem dX11_first_111 : decode cX11_first 111 = .ok (.bipush 45, 2) := by decide +kernel
theorem dX11_first_113 : decode cX11_first 113 = .ok (.ireturn, 1) := by decide +kernel
theorem dX11_first_114 : decode cX11_first 114 = .ok (.bipush 6, 2) := by decide +kernel
theorem dX11_first_116 : decode cX11_first 116 = .ok (.ireturn, 1) := by decide +kernel
theorem dX11_first_117 : decode cX11_first 117 = .ok (.sipush 3000, 3) := by decide +kernel
theorem dX11_first_120 : decode cX11_first 120 = .ok (.ireturn, 1) := by decide +kernel
theorem dX11_first_121 : decode cX11_first 121 = .ok (.iconst 2, 1) := by decide +kernel
theorem dX11_first_122 : decode cX11_first 122 = .ok (.ireturn, 1) := by decide +kernel
theorem dX11_first_123 : decode cX11_first 123 = .ok (.sipush 200, 3) := by decide +kernel
theorem dX11_first_126 : decode cX11_first 126 = .ok (.ireturn, 1) := by decide +kernel
theorem dX11_first_127 : decode cX11_first 127 = .ok (.sipush 150, 3) := by decide +kernel
theorem dX11_first_130 : decode cX11_first 130 = .ok (.ireturn, 1) := by decide +kernel
theorem dX11_copies_0 : decode cX11_copies 0 = .ok (.iconst 0, 1) := by decide +kernel
theorem dX11_copies_1 : decode cX11_copies 1 = .ok (.istore_n 3, 1) := by decide +kernel
theorem dX11_copies_2 : decode cX11_copies 2 = .ok (.iload_n 3, 1) := by decide +kernel
theorem dX11_copies_3 : decode cX11_copies 3 = .ok (.sipush 174, 3) := by decide +kernel
theorem dX11_copies_6 : decode cX11_copies 6 = .ok (.if_icmp .ge 25, 3) := by decide +kernel
theorem dX11_copies_9 : decode cX11_copies 9 = .ok (.aload_n 0, 1) := by decide +kernel
theorem dX11_copies_10 : decode cX11_copies 10 = .ok (.getfield 7, 3) := by decide +kernel
theorem dX11_copies_13 : decode cX11_copies 13 = .ok (.iload_n 2, 1) := by decide +kernel
theorem dX11_copies_14 : decode cX11_copies 14 = .ok (.iload_n 3, 1) := by decide +kernel
theorem dX11_copies_15 : decode cX11_copies 15 = .ok (.iadd, 1) := by decide +kernel
theorem dX11_copies_16 : decode cX11_copies 16 = .ok (.aload_n 0, 1) := by decide +kernel
theorem dX11_copies_17 : decode cX11_copies 17 = .ok (.getfield 7, 3) := by decide +kernel
theorem dX11_copies_20 : decode cX11_copies 20 = .ok (.iload_n 1, 1) := by decide +kernel
theorem dX11_copies_21 : decode cX11_copies 21 = .ok (.iload_n 3, 1) := by decide +kernel
theorem dX11_copies_22 : decode cX11_copies 22 = .ok (.iadd, 1) := by decide +kernel
theorem dX11_copies_23 : decode cX11_copies 23 = .ok (.laload, 1) := by decide +kernel
theorem dX11_copies_24 : decode cX11_copies 24 = .ok (.lastore, 1) := by decide +kernel
theorem dX11_copies_25 : decode cX11_copies 25 = .ok (.iinc 3 1, 3) := by decide +kernel
theorem dX11_copies_28 : decode cX11_copies 28 = .ok (.goto (-26), 3) := by decide +kernel
theorem dX11_copies_31 : decode cX11_copies 31 = .ok (.return_, 1) := by decide +kernel
set_option maxRecDepth 20000 in
theorem ggX11_records_X11_copies : GoodIn wsX11_records wsX11_copies := goodIn_r _ [6, 7, 8, 9, 10, 11, 12, 13, 14, 15, 16, 17] (by decide +kernel) (by decide +kernel)
set_option maxRecDepth 20000 in
theorem gX11_records_X11_copies : GoodIn wsX11_records (wsV RX11 51 RX11 yX11_copies wsX11_copies) := goodIn_app (goodIn_of _ (by decide +kernel)) ggX11_records_X11_copies
theorem dX11_records_0 : decode cX11_records 0 = .ok (.aload_n 0, 1) := by decide +kernel
theorem dX11_records_1 : decode cX11_records 1 = .ok (.getfield 47, 3) := by decide +kernel
theorem dX11_records_4 : decode cX11_records 4 = .ok (.iconst 4, 1) := by decide +kernel
theorem dX11_records_5 : decode cX11_records 5 = .ok (.if_icmp .ne 42, 3) := by decide +kernel
theorem dX11_records_8 : decode cX11_records 8 = .ok (.iconst 1, 1) := by decide +kernel
theorem dX11_records_9 : decode cX11_records 9 = .ok (.istore_n 1, 1) := by decide +kernel
theorem dX11_records_10 : decode cX11_records 10 = .ok (.iload_n 1, 1) := by decide +kernel
theorem dX11_records_11 : decode cX11_records 11 = .ok (.iconst 4, 1) := by decide +kernel
theorem dX11_records_12 : decode cX11_records 12 = .ok (.if_icmp .ge 25, 3) := by decide +kernel
theorem dX11_records_15 : decode cX11_records 15 = .ok (.aload_n 0, 1) := by decide +kernel
theorem dX11_records_16 : decode cX11_records 16 = .ok (.sipush 174, 3) := by decide +kernel
theorem dX11_records_19 : decode cX11_records 19 = .ok (.iload_n 1, 1) := by decide +kernel
theorem dX11_records_20 : decode cX11_records 20 = .ok (.iconst 1, 1) := by decide +kernel
theorem dX11_records_21 : decode cX11_records 21 = .ok (.iadd, 1) := by decide +kernel
theorem dX11_records_22 : decode cX11_records 22 = .ok (.imul, 1) := by decide +kernel
theorem dX11_records_23 : decode cX11_records 23 = .ok (.sipush 174, 3) := by decide +kernel
theorem dX11_records_26 : decode cX11_records 26 = .ok (.iload_n 1, 1) := by decide +kernel
theorem dX11_records_27 : decode cX11_records 27 = .ok (.imul, 1) := by decide +kernel
theorem dX11_records_28 : decode cX11_records 28 = .ok (.invokevirtual 51, 3) := by decide +kernel
theorem dX11_records_31 : decode cX11_records 31 = .ok (.iinc 1 1, 3) := by decide +kernel
theorem dX11_records_34 : decode cX11_records 34 = .ok (.goto (-24), 3) := by decide +kernel
theorem dX11_records_37 : decode cX11_records 37 = .ok (.aload_n 0, 1) := by decide +kernel
theorem dX11_records_38 : decode cX11_records 38 = .ok (.dup, 1) := by decide +kernel
theorem dX11_records_39 : decode cX11_records 39 = .ok (.getfield 47, 3) := by decide +kernel
theorem dX11_records_42 : decode cX11_records 42 = .ok (.iconst 1, 1) := by decide +kernel
theorem dX11_records_43 : decode cX11_records 43 = .ok (.isub, 1) := by decide +kernel
theorem dX11_records_44 : decode cX11_records 44 = .ok (.putfield 47, 3) := by decide +kernel
theorem dX11_records_47 : decode cX11_records 47 = .ok (.aload_n 0, 1) := by decide +kernel
theorem dX11_records_48 : decode cX11_records 48 = .ok (.dup, 1) := by decide +kernel
theorem dX11_records_49 : decode cX11_records 49 = .ok (.getfield 47, 3) := by decide +kernel
theorem dX11_records_52 : decode cX11_records 52 = .ok (.iconst 1, 1) := by decide +kernel
theorem dX11_records_53 : decode cX11_records 53 = .ok (.iadd, 1) := by decide +kernel
theorem dX11_records_54 : decode cX11_records 54 = .ok (.putfield 47, 3) := by decide +kernel
theorem dX11_records_57 : decode cX11_records 57 = .ok (.aload_n 0, 1) := by decide +kernel
theorem dX11_records_58 : decode cX11_records 58 = .ok (.iconst 0, 1) := by decide +kernel
theorem dX11_records_59 : decode cX11_records 59 = .ok (.sipush 174, 3) := by decide +kernel
theorem dX11_records_62 : decode cX11_records 62 = .ok (.aload_n 0, 1) := by decide +kernel
theorem dX11_records_63 : decode cX11_records 63 = .ok (.getfield 47, 3) := by decide +kernel
theorem dX11_records_66 : decode cX11_records 66 = .ok (.imul, 1) := by decide +kernel
theorem dX11_records_67 : decode cX11_records 67 = .ok (.invokevirtual 51, 3) := by decide +kernel
theorem dX11_records_70 : decode cX11_records 70 = .ok (.aload_n 0, 1) := by decide +kernel
theorem dX11_records_71 : decode cX11_records 71 = .ok (.getfield 47, 3) := by decide +kernel
theorem dX11_records_74 : decode cX11_records 74 = .ok (.ireturn, 1) := by decide +kernel
theorem dX11_set1_0 : decode cX11_set1 0 = .ok (.aload_n 0, 1) := by decide +kernel
theorem dX11_set1_1 : decode cX11_set1 1 = .ok (.getfield 7, 3) := by decide +kernel
theorem dX11_set1_4 : decode cX11_set1 4 = .ok (.iconst 0, 1) := by decide +kernel
theorem dX11_set1_5 : decode cX11_set1 5 = .ok (.iload_n 1, 1) := by decide +kernel
theorem dX11_set1_6 : decode cX11_set1 6 = .ok (.iadd, 1) := by decide +kernel
theorem dX11_set1_7 : decode cX11_set1 7 = .ok (.laload, 1) := by decide +kernel
theorem dX11_set1_8 : decode cX11_set1 8 = .ok (.lreturn, 1) := by decide +kernel
set_option maxRecDepth 20000 in
theorem ggX11_isHour_X11_in : GoodIn wsX11_isHour wsX11_in := goodIn_r _ [5] (by decide +kernel) (by decide +kernel)
set_option maxRecDepth 20000 in
theorem gX11_isHour_X11_in : GoodIn wsX11_isHour (va_wsS RX11 56 yX11_in wsX11_in) := goodIn_app (goodIn_of _ (by decide +kernel)) ggX11_isHour_X11_in
theorem dX11_isHour_0 : decode cX11_isHour 0 = .ok (.iload_n 0, 1) := by decide +kernel
theorem dX11_isHour_1 : decode cX11_isHour 1 = .ok (.i2l, 1) := by decide +kernel
theorem dX11_isHour_2 : decode cX11_isHour 2 = .ok (.lconst 0, 1) := by decide +kernel
theorem dX11_isHour_3 : decode cX11_isHour 3 = .ok (.ldc2_w 54, 3) := by decide +kernel
theorem dX11_isHour_6 : decode cX11_isHour 6 = .ok (.invokestatic 56, 3) := by decide +kernel
theorem dX11_isHour_9 : decode cX11_isHour 9 = .ok (.ireturn, 1) := by decide +kernel
set_option maxRecDepth 20000 in
theorem ggX11_set_X11_in : GoodIn wsX11_set wsX11_in := goodIn_r _ [7] (by decide +kernel) (by decide +kernel)
set_option maxRecDepth 20000 in
theorem gX11_set_X11_in : GoodIn wsX11_set (va_wsS RX11 56 yX11_in wsX11_in) := goodIn_app (goodIn_of _ (by decide +kernel)) ggX11_set_X11_in
set_option maxRecDepth 20000 in
theorem ggX11_set_X11_least : GoodIn wsX11_set wsX11_least := goodIn_r _ [10] (by decide +kernel) (by decide +kernel)
set_option maxRecDepth 20000 in
theorem gX11_set_X11_least : GoodIn wsX11_set (va_wsS RX11 62 yX11_least wsX11_least) := goodIn_app (goodIn_of _ (by decide +kernel)) ggX11_set_X11_least
set_option maxRecDepth 20000 in
theorem ggX11_set_X11_most : GoodIn wsX11_set wsX11_most := goodIn_r _ [13] (by decide +kernel) (by decide +kernel)
set_option maxRecDepth 20000 in
theorem gX11_set_X11_most : GoodIn wsX11_set (va_wsS RX11 65 yX11_most wsX11_most) := goodIn_app (goodIn_of _ (by decide +kernel)) ggX11_set_X11_most
set_option maxRecDepth 20000 in
theorem ggX11_set_X11_records : GoodIn wsX11_set wsX11_records := goodIn_r _ [17, 3, 18, 19, 20, 6, 21, 2, 22, 23, 24, 25, 26, 27, 28, 29, 30, 31] (by decide +kernel) (by decide +kernel)
set_option maxRecDepth 20000 in
theorem gX11_set_X11_records : GoodIn wsX11_set (wsV RX11 68 RX11 yX11_records wsX11_records) := goodIn_app (goodIn_of _ (by decide +kernel)) ggX11_set_X11_records
theorem dX11_set_0 : decode cX11_set 0 = .ok (.iload_n 1, 1) := by decide +kernel
theorem dX11_set_1 : decode cX11_set 1 = .ok (.i2l, 1) := by decide +kernel
theorem dX11_set_2 : decode cX11_set 2 = .ok (.lconst 0, 1) := by decide +kernel
theorem dX11_set_3 : decode cX11_set 3 = .ok (.ldc2_w 60, 3) := by decide +kernel
theorem dX11_set_6 : decode cX11_set 6 = .ok (.invokestatic 56, 3) := by decide +kernel
theorem dX11_set_9 : decode cX11_set 9 = .ok (.ifCond .eq 21, 3) := by decide +kernel
theorem dX11_set_12 : decode cX11_set 12 = .ok (.iload_n 2, 1) := by decide +kernel
theorem dX11_set_13 : decode cX11_set 13 = .ok (.i2l, 1) := by decide +kernel
theorem dX11_set_14 : decode cX11_set 14 = .ok (.iload_n 1, 1) := by decide +kernel
theorem dX11_set_15 : decode cX11_set 15 = .ok (.invokestatic 62, 3) := by decide +kernel
theorem dX11_set_18 : decode cX11_set 18 = .ok (.i2l, 1) := by decide +kernel
theorem dX11_set_19 : decode cX11_set 19 = .ok (.iload_n 1, 1) := by decide +kernel
theorem dX11_set_20 : decode cX11_set 20 = .ok (.invokestatic 65, 3) := by decide +kernel
theorem dX11_set_23 : decode cX11_set 23 = .ok (.i2l, 1) := by decide +kernel
theorem dX11_set_24 : decode cX11_set 24 = .ok (.invokestatic 56, 3) := by decide +kernel
theorem dX11_set_27 : decode cX11_set 27 = .ok (.ifCond .ne 5, 3) := by decide +kernel
theorem dX11_set_30 : decode cX11_set 30 = .ok (.iconst (-1), 1) := by decide +kernel
theorem dX11_set_31 : decode cX11_set 31 = .ok (.ireturn, 1) := by decide +kernel
theorem dX11_set_32 : decode cX11_set 32 = .ok (.aload_n 0, 1) := by decide +kernel
theorem dX11_set_33 : decode cX11_set 33 = .ok (.invokevirtual 68, 3) := by decide +kernel
theorem dX11_set_36 : decode cX11_set 36 = .ok (.pop, 1) := by decide +kernel
theorem dX11_set_37 : decode cX11_set 37 = .ok (.aload_n 0, 1) := by decide +kernel
theorem dX11_set_38 : decode cX11_set 38 = .ok (.getfield 7, 3) := by decide +kernel
theorem dX11_set_41 : decode cX11_set 41 = .ok (.iconst 0, 1) := by decide +kernel
theorem dX11_set_42 : decode cX11_set 42 = .ok (.iload_n 1, 1) := by decide +kernel
theorem dX11_set_43 : decode cX11_set 43 = .ok (.iadd, 1) := by decide +kernel
theorem dX11_set_44 : decode cX11_set 44 = .ok (.iload_n 2, 1) := by decide +kernel
theorem dX11_set_45 : decode cX11_set 45 = .ok (.i2l, 1) := by decide +kernel
theorem dX11_set_46 : decode cX11_set 46 = .ok (.lastore, 1) := by decide +kernel
theorem dX11_set_47 : decode cX11_set 47 = .ok (.aload_n 0, 1) := by decide +kernel
theorem dX11_set_48 : decode cX11_set 48 = .ok (.getfield 47, 3) := by decide +kernel
theorem dX11_set_51 : decode cX11_set 51 = .ok (.ireturn, 1) := by decide +kernel
set_option maxRecDepth 20000 in
theorem ggX11_setting_X11_in : GoodIn wsX11_setting wsX11_in := goodIn_r _ [5] (by decide +kernel) (by decide +kernel)
set_option maxRecDepth 20000 in
theorem gX11_setting_X11_in : GoodIn wsX11_setting (va_wsS RX11 56 yX11_in wsX11_in) := goodIn_app (goodIn_of _ (by decide +kernel)) ggX11_setting_X11_in
set_option maxRecDepth 20000 in
theorem ggX11_setting_X11_set1 : GoodIn wsX11_setting wsX11_set1 := goodIn_r _ [9, 10, 11, 12, 13, 14, 15, 16, 17, 18, 19, 20] (by decide +kernel) (by decide +kernel)
set_option maxRecDepth 20000 in
theorem gX11_setting_X11_set1 : GoodIn wsX11_setting (wsV RX11 72 RX11 yX11_set1 wsX11_set1) := goodIn_app (goodIn_of _ (by decide +kernel)) ggX11_setting_X11_set1
theorem dX11_setting_0 : decode cX11_setting 0 = .ok (.iload_n 1, 1) := by decide +kernel
theorem dX11_setting_1 : decode cX11_setting 1 = .ok (.i2l, 1) := by decide +kernel
theorem dX11_setting_2 : decode cX11_setting 2 = .ok (.lconst 0, 1) := by decide +kernel
theorem dX11_setting_3 : decode cX11_setting 3 = .ok (.ldc2_w 60, 3) := by decide +kernel
theorem dX11_setting_6 : decode cX11_setting 6 = .ok (.invokestatic 56, 3) := by decide +kernel
theorem dX11_setting_9 : decode cX11_setting 9 = .ok (.ifCond .eq 12, 3) := by decide +kernel
theorem dX11_setting_12 : decode cX11_setting 12 = .ok (.aload_n 0, 1) := by decide +kernel
theorem dX11_setting_13 : decode cX11_setting 13 = .ok (.iload_n 1, 1) := by decide +kernel
theorem dX11_setting_14 : decode cX11_setting 14 = .ok (.invokevirtual 72, 3) := by decide +kernel
theorem dX11_setting_17 : decode cX11_setting 17 = .ok (.l2i, 1) := by decide +kernel
theorem dX11_setting_18 : decode cX11_setting 18 = .ok (.goto 6, 3) := by decide +kernel
theorem dX11_setting_21 : decode cX11_setting 21 = .ok (.sipush (-9999), 3) := by decide +kernel
theorem dX11_setting_24 : decode cX11_setting 24 = .ok (.ireturn, 1) := by decide +kernel
set_option maxRecDepth 20000 in
theorem ggX11_setOutdoor_X11_isHour : GoodIn wsX11_setOutdoor wsX11_isHour := goodIn_r _ [8, 9, 10, 11, 7, 12] (by decide +kernel) (by decide +kernel)
set_option maxRecDepth 20000 in
theorem gX11_setOutdoor_X11_isHour : GoodIn wsX11_setOutdoor (va_wsS RX11 76 yX11_isHour wsX11_isHour) := goodIn_app (goodIn_of _ (by decide +kernel)) ggX11_setOutdoor_X11_isHour
set_option maxRecDepth 20000 in
theorem ggX11_setOutdoor_X11_in : GoodIn wsX11_setOutdoor wsX11_in := goodIn_r _ [12] (by decide +kernel) (by decide +kernel)
set_option maxRecDepth 20000 in
theorem gX11_setOutdoor_X11_in : GoodIn wsX11_setOutdoor (va_wsS RX11 56 yX11_in wsX11_in) := goodIn_app (goodIn_of _ (by decide +kernel)) ggX11_setOutdoor_X11_in
set_option maxRecDepth 20000 in
theorem ggX11_setOutdoor_X11_records : GoodIn wsX11_setOutdoor wsX11_records := goodIn_r _ [16, 4, 17, 18, 19, 7, 20, 3, 21, 22, 23, 24, 25, 26, 27, 28, 29, 30] (by decide +kernel) (by decide +kernel)
set_option maxRecDepth 20000 in
theorem gX11_setOutdoor_X11_records : GoodIn wsX11_setOutdoor (wsV RX11 68 RX11 yX11_records wsX11_records) := goodIn_app (goodIn_of _ (by decide +kernel)) ggX11_setOutdoor_X11_records
theorem dX11_setOutdoor_0 : decode cX11_setOutdoor 0 = .ok (.iload_n 1, 1) := by decide +kernel
theorem dX11_setOutdoor_1 : decode cX11_setOutdoor 1 = .ok (.invokestatic 76, 3) := by decide +kernel
theorem dX11_setOutdoor_4 : decode cX11_setOutdoor 4 = .ok (.ifCond .eq 17, 3) := by decide +kernel
theorem dX11_setOutdoor_7 : decode cX11_setOutdoor 7 = .ok (.iload_n 2, 1) := by decide +kernel
theorem dX11_setOutdoor_8 : decode cX11_setOutdoor 8 = .ok (.i2l, 1) := by decide +kernel
theorem dX11_setOutdoor_9 : decode cX11_setOutdoor 9 = .ok (.ldc2_w 80, 3) := by decide +kernel
theorem dX11_setOutdoor_12 : decode cX11_setOutdoor 12 = .ok (.ldc2_w 82, 3) := by decide +kernel
theorem dX11_setOutdoor_15 : decode cX11_setOutdoor 15 = .ok (.invokestatic 56, 3) := by decide +kernel
theorem dX11_setOutdoor_18 : decode cX11_setOutdoor 18 = .ok (.ifCond .ne 5, 3) := by decide +kernel
theorem dX11_setOutdoor_21 : decode cX11_setOutdoor 21 = .ok (.iconst (-1), 1) := by decide +kernel
theorem dX11_setOutdoor_22 : decode cX11_setOutdoor 22 = .ok (.ireturn, 1) := by decide +kernel
theorem dX11_setOutdoor_23 : decode cX11_setOutdoor 23 = .ok (.aload_n 0, 1) := by decide +kernel
theorem dX11_setOutdoor_24 : decode cX11_setOutdoor 24 = .ok (.invokevirtual 68, 3) := by decide +kernel
theorem dX11_setOutdoor_27 : decode cX11_setOutdoor 27 = .ok (.pop, 1) := by decide +kernel
theorem dX11_setOutdoor_28 : decode cX11_setOutdoor 28 = .ok (.aload_n 0, 1) := by decide +kernel
theorem dX11_setOutdoor_29 : decode cX11_setOutdoor 29 = .ok (.getfield 7, 3) := by decide +kernel
theorem dX11_setOutdoor_32 : decode cX11_setOutdoor 32 = .ok (.bipush 17, 2) := by decide +kernel
theorem dX11_setOutdoor_34 : decode cX11_setOutdoor 34 = .ok (.iload_n 1, 1) := by decide +kernel
theorem dX11_setOutdoor_35 : decode cX11_setOutdoor 35 = .ok (.iadd, 1) := by decide +kernel
theorem dX11_setOutdoor_36 : decode cX11_setOutdoor 36 = .ok (.iload_n 2, 1) := by decide +kernel
theorem dX11_setOutdoor_37 : decode cX11_setOutdoor 37 = .ok (.i2l, 1) := by decide +kernel
theorem dX11_setOutdoor_38 : decode cX11_setOutdoor 38 = .ok (.lastore, 1) := by decide +kernel
theorem dX11_setOutdoor_39 : decode cX11_setOutdoor 39 = .ok (.aload_n 0, 1) := by decide +kernel
theorem dX11_setOutdoor_40 : decode cX11_setOutdoor 40 = .ok (.getfield 47, 3) := by decide +kernel
theorem dX11_setOutdoor_43 : decode cX11_setOutdoor 43 = .ok (.ireturn, 1) := by decide +kernel
set_option maxRecDepth 20000 in
theorem ggX11_outdoor_X11_isHour : GoodIn wsX11_outdoor wsX11_isHour := goodIn_r _ [5, 6, 7, 8, 4, 9] (by decide +kernel) (by decide +kernel)
set_option maxRecDepth 20000 in
theorem gX11_outdoor_X11_isHour : GoodIn wsX11_outdoor (va_wsS RX11 76 yX11_isHour wsX11_isHour) := goodIn_app (goodIn_of _ (by decide +kernel)) ggX11_outdoor_X11_isHour
theorem dX11_outdoor_0 : decode cX11_outdoor 0 = .ok (.iload_n 1, 1) := by decide +kernel
theorem dX11_outdoor_1 : decode cX11_outdoor 1 = .ok (.invokestatic 76, 3) := by decide +kernel
theorem dX11_outdoor_4 : decode cX11_outdoor 4 = .ok (.ifCond .eq 16, 3) := by decide +kernel
theorem dX11_outdoor_7 : decode cX11_outdoor 7 = .ok (.aload_n 0, 1) := by decide +kernel
theorem dX11_outdoor_8 : decode cX11_outdoor 8 = .ok (.getfield 7, 3) := by decide +kernel
theorem dX11_outdoor_11 : decode cX11_outdoor 11 = .ok (.bipush 17, 2) := by decide +kernel
theorem dX11_outdoor_13 : decode cX11_outdoor 13 = .ok (.iload_n 1, 1) := by decide +kernel
theorem dX11_outdoor_14 : decode cX11_outdoor 14 = .ok (.iadd, 1) := by decide +kernel
theorem dX11_outdoor_15 : decode cX11_outdoor 15 = .ok (.laload, 1) := by decide +kernel
theorem dX11_outdoor_16 : decode cX11_outdoor 16 = .ok (.l2i, 1) := by decide +kernel
theorem dX11_outdoor_17 : decode cX11_outdoor 17 = .ok (.goto 6, 3) := by decide +kernel
theorem dX11_outdoor_20 : decode cX11_outdoor 20 = .ok (.sipush (-9999), 3) := by decide +kernel
theorem dX11_outdoor_23 : decode cX11_outdoor 23 = .ok (.ireturn, 1) := by decide +kernel
set_option maxRecDepth 20000 in
theorem ggX11_setTariff_X11_isHour : GoodIn wsX11_setTariff wsX11_isHour := goodIn_r _ [7, 8, 9, 10, 6, 11] (by decide +kernel) (by decide +kernel)
set_option maxRecDepth 20000 in
theorem gX11_setTariff_X11_isHour : GoodIn wsX11_setTariff (va_wsS RX11 76 yX11_isHour wsX11_isHour) := goodIn_app (goodIn_of _ (by decide +kernel)) ggX11_setTariff_X11_isHour
set_option maxRecDepth 20000 in
theorem ggX11_setTariff_X11_in : GoodIn wsX11_setTariff wsX11_in := goodIn_r _ [11] (by decide +kernel) (by decide +kernel)
set_option maxRecDepth 20000 in
theorem gX11_setTariff_X11_in : GoodIn wsX11_setTariff (va_wsS RX11 56 yX11_in wsX11_in) := goodIn_app (goodIn_of _ (by decide +kernel)) ggX11_setTariff_X11_in
set_option maxRecDepth 20000 in
theorem ggX11_setTariff_X11_records : GoodIn wsX11_setTariff wsX11_records := goodIn_r _ [15, 3, 16, 17, 18, 6, 19, 2, 20, 21, 22, 23, 24, 25, 26, 27, 28, 29] (by decide +kernel) (by decide +kernel)
set_option maxRecDepth 20000 in
theorem gX11_setTariff_X11_records : GoodIn wsX11_setTariff (wsV RX11 68 RX11 yX11_records wsX11_records) := goodIn_app (goodIn_of _ (by decide +kernel)) ggX11_setTariff_X11_records
theorem dX11_setTariff_0 : decode cX11_setTariff 0 = .ok (.iload_n 1, 1) := by decide +kernel
theorem dX11_setTariff_1 : decode cX11_setTariff 1 = .ok (.invokestatic 76, 3) := by decide +kernel
theorem dX11_setTariff_4 : decode cX11_setTariff 4 = .ok (.ifCond .eq 15, 3) := by decide +kernel
theorem dX11_setTariff_7 : decode cX11_setTariff 7 = .ok (.iload_n 2, 1) := by decide +kernel
theorem dX11_setTariff_8 : decode cX11_setTariff 8 = .ok (.i2l, 1) := by decide +kernel
theorem dX11_setTariff_9 : decode cX11_setTariff 9 = .ok (.lconst 0, 1) := by decide +kernel
theorem dX11_setTariff_10 : decode cX11_setTariff 10 = .ok (.ldc2_w 29, 3) := by decide +kernel
theorem dX11_setTariff_13 : decode cX11_setTariff 13 = .ok (.invokestatic 56, 3) := by decide +kernel
theorem dX11_setTariff_16 : decode cX11_setTariff 16 = .ok (.ifCond .ne 5, 3) := by decide +kernel
theorem dX11_setTariff_19 : decode cX11_setTariff 19 = .ok (.iconst (-1), 1) := by decide +kernel
theorem dX11_setTariff_20 : decode cX11_setTariff 20 = .ok (.ireturn, 1) := by decide +kernel
theorem dX11_setTariff_21 : decode cX11_setTariff 21 = .ok (.aload_n 0, 1) := by decide +kernel
theorem dX11_setTariff_22 : decode cX11_setTariff 22 = .ok (.invokevirtual 68, 3) := by decide +kernel
theorem dX11_setTariff_25 : decode cX11_setTariff 25 = .ok (.pop, 1) := by decide +kernel
theorem dX11_setTariff_26 : decode cX11_setTariff 26 = .ok (.aload_n 0, 1) := by decide +kernel
theorem dX11_setTariff_27 : decode cX11_setTariff 27 = .ok (.getfield 7, 3) := by decide +kernel
theorem dX11_setTariff_30 : decode cX11_setTariff 30 = .ok (.bipush 41, 2) := by decide +kernel
theorem dX11_setTariff_32 : decode cX11_setTariff 32 = .ok (.iload_n 1, 1) := by decide +kernel
theorem dX11_setTariff_33 : decode cX11_setTariff 33 = .ok (.iadd, 1) := by decide +kernel
theorem dX11_setTariff_34 : decode cX11_setTariff 34 = .ok (.iload_n 2, 1) := by decide +kernel
theorem dX11_setTariff_35 : decode cX11_setTariff 35 = .ok (.i2l, 1) := by decide +kernel
theorem dX11_setTariff_36 : decode cX11_setTariff 36 = .ok (.lastore, 1) := by decide +kernel
theorem dX11_setTariff_37 : decode cX11_setTariff 37 = .ok (.aload_n 0, 1) := by decide +kernel
theorem dX11_setTariff_38 : decode cX11_setTariff 38 = .ok (.getfield 47, 3) := by decide +kernel
theorem dX11_setTariff_41 : decode cX11_setTariff 41 = .ok (.ireturn, 1) := by decide +kernel
set_option maxRecDepth 20000 in
theorem ggX11_tariff_X11_isHour : GoodIn wsX11_tariff wsX11_isHour := goodIn_r _ [5, 6, 7, 8, 4, 9] (by decide +kernel) (by decide +kernel)
set_option maxRecDepth 20000 in
theorem gX11_tariff_X11_isHour : GoodIn wsX11_tariff (va_wsS RX11 76 yX11_isHour wsX11_isHour) := goodIn_app (goodIn_of _ (by decide +kernel)) ggX11_tariff_X11_isHour
theorem dX11_tariff_0 : decode cX11_tariff 0 = .ok (.iload_n 1, 1) := by decide +kernel
theorem dX11_tariff_1 : decode cX11_tariff 1 = .ok (.invokestatic 76, 3) := by decide +kernel
theorem dX11_tariff_4 : decode cX11_tariff 4 = .ok (.ifCond .eq 16, 3) := by decide +kernel
theorem dX11_tariff_7 : decode cX11_tariff 7 = .ok (.aload_n 0, 1) := by decide +kernel
theorem dX11_tariff_8 : decode cX11_tariff 8 = .ok (.getfield 7, 3) := by decide +kernel
theorem dX11_tariff_11 : decode cX11_tariff 11 = .ok (.bipush 41, 2) := by decide +kernel
theorem dX11_tariff_13 : decode cX11_tariff 13 = .ok (.iload_n 1, 1) := by decide +kernel
theorem dX11_tariff_14 : decode cX11_tariff 14 = .ok (.iadd, 1) := by decide +kernel
theorem dX11_tariff_15 : decode cX11_tariff 15 = .ok (.laload, 1) := by decide +kernel
theorem dX11_tariff_16 : decode cX11_tariff 16 = .ok (.l2i, 1) := by decide +kernel
theorem dX11_tariff_17 : decode cX11_tariff 17 = .ok (.goto 6, 3) := by decide +kernel
theorem dX11_tariff_20 : decode cX11_tariff 20 = .ok (.sipush (-9999), 3) := by decide +kernel
theorem dX11_tariff_23 : decode cX11_tariff 23 = .ok (.ireturn, 1) := by decide +kernel
set_option maxRecDepth 20000 in
theorem ggX11_setPrice_X11_in : GoodIn wsX11_setPrice wsX11_in := goodIn_r _ [8] (by decide +kernel) (by decide +kernel)
set_option maxRecDepth 20000 in
theorem gX11_setPrice_X11_in : GoodIn wsX11_setPrice (va_wsS RX11 56 yX11_in wsX11_in) := goodIn_app (goodIn_of _ (by decide +kernel)) ggX11_setPrice_X11_in
set_option maxRecDepth 20000 in
theorem ggX11_setPrice_X11_records : GoodIn wsX11_setPrice wsX11_records := goodIn_r _ [12, 4, 13, 14, 15, 7, 16, 3, 17, 18, 19, 20, 21, 22, 23, 24, 25, 26] (by decide +kernel) (by decide +kernel)
set_option maxRecDepth 20000 in
theorem gX11_setPrice_X11_records : GoodIn wsX11_setPrice (wsV RX11 68 RX11 yX11_records wsX11_records) := goodIn_app (goodIn_of _ (by decide +kernel)) ggX11_setPrice_X11_records
theorem dX11_setPrice_0 : decode cX11_setPrice 0 = .ok (.iload_n 1, 1) := by decide +kernel
theorem dX11_setPrice_1 : decode cX11_setPrice 1 = .ok (.i2l, 1) := by decide +kernel
theorem dX11_setPrice_2 : decode cX11_setPrice 2 = .ok (.lconst 0, 1) := by decide +kernel
theorem dX11_setPrice_3 : decode cX11_setPrice 3 = .ok (.ldc2_w 29, 3) := by decide +kernel
theorem dX11_setPrice_6 : decode cX11_setPrice 6 = .ok (.invokestatic 56, 3) := by decide +kernel
theorem dX11_setPrice_9 : decode cX11_setPrice 9 = .ok (.ifCond .eq 15, 3) := by decide +kernel
theorem dX11_setPrice_12 : decode cX11_setPrice 12 = .ok (.iload_n 2, 1) := by decide +kernel
theorem dX11_setPrice_13 : decode cX11_setPrice 13 = .ok (.i2l, 1) := by decide +kernel
theorem dX11_setPrice_14 : decode cX11_setPrice 14 = .ok (.lconst 0, 1) := by decide +kernel
theorem dX11_setPrice_15 : decode cX11_setPrice 15 = .ok (.ldc2_w 43, 3) := by decide +kernel
theorem dX11_setPrice_18 : decode cX11_setPrice 18 = .ok (.invokestatic 56, 3) := by decide +kernel
theorem dX11_setPrice_21 : decode cX11_setPrice 21 = .ok (.ifCond .ne 5, 3) := by decide +kernel
theorem dX11_setPrice_24 : decode cX11_setPrice 24 = .ok (.iconst (-1), 1) := by decide +kernel
theorem dX11_setPrice_25 : decode cX11_setPrice 25 = .ok (.ireturn, 1) := by decide +kernel
theorem dX11_setPrice_26 : decode cX11_setPrice 26 = .ok (.aload_n 0, 1) := by decide +kernel
theorem dX11_setPrice_27 : decode cX11_setPrice 27 = .ok (.invokevirtual 68, 3) := by decide +kernel
theorem dX11_setPrice_30 : decode cX11_setPrice 30 = .ok (.pop, 1) := by decide +kernel
theorem dX11_setPrice_31 : decode cX11_setPrice 31 = .ok (.aload_n 0, 1) := by decide +kernel
theorem dX11_setPrice_32 : decode cX11_setPrice 32 = .ok (.getfield 7, 3) := by decide +kernel
theorem dX11_setPrice_35 : decode cX11_setPrice 35 = .ok (.bipush 65, 2) := by decide +kernel
theorem dX11_setPrice_37 : decode cX11_setPrice 37 = .ok (.iload_n 1, 1) := by decide +kernel
theorem dX11_setPrice_38 : decode cX11_setPrice 38 = .ok (.iadd, 1) := by decide +kernel
theorem dX11_setPrice_39 : decode cX11_setPrice 39 = .ok (.iload_n 2, 1) := by decide +kernel
theorem dX11_setPrice_40 : decode cX11_setPrice 40 = .ok (.i2l, 1) := by decide +kernel
theorem dX11_setPrice_41 : decode cX11_setPrice 41 = .ok (.lastore, 1) := by decide +kernel
theorem dX11_setPrice_42 : decode cX11_setPrice 42 = .ok (.aload_n 0, 1) := by decide +kernel
theorem dX11_setPrice_43 : decode cX11_setPrice 43 = .ok (.getfield 47, 3) := by decide +kernel
theorem dX11_setPrice_46 : decode cX11_setPrice 46 = .ok (.ireturn, 1) := by decide +kernel
set_option maxRecDepth 20000 in
theorem ggX11_demandOf_X11_set1 : GoodIn wsX11_demandOf wsX11_set1 := goodIn_r _ [7, 1, 11, 12, 13, 14, 15, 16, 17, 18, 19, 20] (by decide +kernel) (by decide +kernel)
set_option maxRecDepth 20000 in
theorem gX11_demandOf_X11_set1 : GoodIn wsX11_demandOf (wsV RX11 72 RX11 yX11_set1 wsX11_set1) := goodIn_app (goodIn_of _ (by decide +kernel)) ggX11_demandOf_X11_set1
set_option maxRecDepth 20000 in
theorem ggX11_demandOf_X11_div : GoodIn wsX11_demandOf wsX11_div := goodIn_r _ [10] (by decide +kernel) (by decide +kernel)
set_option maxRecDepth 20000 in
theorem gX11_demandOf_X11_div : GoodIn wsX11_demandOf (va_wsS RX11 84 yX11_div wsX11_div) := goodIn_app (goodIn_of _ (by decide +kernel)) ggX11_demandOf_X11_div
theorem dX11_demandOf_0 : decode cX11_demandOf 0 = .ok (.aload_n 0, 1) := by decide +kernel
theorem dX11_demandOf_1 : decode cX11_demandOf 1 = .ok (.bipush 15, 2) := by decide +kernel
theorem dX11_demandOf_3 : decode cX11_demandOf 3 = .ok (.invokevirtual 72, 3) := by decide +kernel
theorem dX11_demandOf_6 : decode cX11_demandOf 6 = .ok (.aload_n 0, 1) := by decide +kernel
theorem dX11_demandOf_7 : decode cX11_demandOf 7 = .ok (.getfield 7, 3) := by decide +kernel
theorem dX11_demandOf_10 : decode cX11_demandOf 10 = .ok (.bipush 17, 2) := by decide +kernel
theorem dX11_demandOf_12 : decode cX11_demandOf 12 = .ok (.iload_n 1, 1) := by decide +kernel
theorem dX11_demandOf_13 : decode cX11_demandOf 13 = .ok (.iadd, 1) := by decide +kernel
theorem dX11_demandOf_14 : decode cX11_demandOf 14 = .ok (.laload, 1) := by decide +kernel
theorem dX11_demandOf_15 : decode cX11_demandOf 15 = .ok (.lsub, 1) := by decide +kernel
theorem dX11_demandOf_16 : decode cX11_demandOf 16 = .ok (.aload_n 0, 1) := by decide +kernel
theorem dX11_demandOf_17 : decode cX11_demandOf 17 = .ok (.bipush 16, 2) := by decide +kernel
theorem dX11_demandOf_19 : decode cX11_demandOf 19 = .ok (.invokevirtual 72, 3) := by decide +kernel
theorem dX11_demandOf_22 : decode cX11_demandOf 22 = .ok (.lmul, 1) := by decide +kernel
theorem dX11_demandOf_23 : decode cX11_demandOf 23 = .ok (.ldc2_w 23, 3) := by decide +kernel
theorem dX11_demandOf_26 : decode cX11_demandOf 26 = .ok (.invokestatic 84, 3) := by decide +kernel
theorem dX11_demandOf_29 : decode cX11_demandOf 29 = .ok (.lstore_n 2, 1) := by decide +kernel
theorem dX11_demandOf_30 : decode cX11_demandOf 30 = .ok (.lload_n 2, 1) := by decide +kernel
theorem dX11_demandOf_31 : decode cX11_demandOf 31 = .ok (.lconst 0, 1) := by decide +kernel
theorem dX11_demandOf_32 : decode cX11_demandOf 32 = .ok (.lcmp, 1) := by decide +kernel
theorem dX11_demandOf_33 : decode cX11_demandOf 33 = .ok (.ifCond .ge 7, 3) := by decide +kernel
theorem dX11_demandOf_36 : decode cX11_demandOf 36 = .ok (.lconst 0, 1) := by decide +kernel
theorem dX11_demandOf_37 : decode cX11_demandOf 37 = .ok (.goto 4, 3) := by decide +kernel
theorem dX11_demandOf_40 : decode cX11_demandOf 40 = .ok (.lload_n 2, 1) := by decide +kernel
theorem dX11_demandOf_41 : decode cX11_demandOf 41 = .ok (.lreturn, 1) := by decide +kernel
set_option maxRecDepth 20000 in
theorem ggX11_demand_X11_isHour : GoodIn wsX11_demand wsX11_isHour := goodIn_r _ [4, 5, 6, 7, 3, 8] (by decide +kernel) (by decide +kernel)
set_option maxRecDepth 20000 in
theorem gX11_demand_X11_isHour : GoodIn wsX11_demand (va_wsS RX11 76 yX11_isHour wsX11_isHour) := goodIn_app (goodIn_of _ (by decide +kernel)) ggX11_demand_X11_isHour
set_option maxRecDepth 20000 in
theorem ggX11_demand_X11_demandOf : GoodIn wsX11_demand wsX11_demandOf := goodIn_r _ [12, 13, 14, 15, 16, 17, 3, 18, 19, 20, 21, 22, 23, 24, 25, 26, 27, 28, 29, 30, 31] (by decide +kernel) (by decide +kernel)
set_option maxRecDepth 20000 in
theorem gX11_demand_X11_demandOf : GoodIn wsX11_demand (wsV RX11 88 RX11 yX11_demandOf wsX11_demandOf) := goodIn_app (goodIn_of _ (by decide +kernel)) ggX11_demand_X11_demandOf
theorem dX11_demand_0 : decode cX11_demand 0 = .ok (.iload_n 1, 1) := by decide +kernel
theorem dX11_demand_1 : decode cX11_demand 1 = .ok (.invokestatic 76, 3) := by decide +kernel
theorem dX11_demand_4 : decode cX11_demand 4 = .ok (.ifCond .eq 12, 3) := by decide +kernel
theorem dX11_demand_7 : decode cX11_demand 7 = .ok (.aload_n 0, 1) := by decide +kernel
theorem dX11_demand_8 : decode cX11_demand 8 = .ok (.iload_n 1, 1) := by decide +kernel
theorem dX11_demand_9 : decode cX11_demand 9 = .ok (.invokevirtual 88, 3) := by decide +kernel
theorem dX11_demand_12 : decode cX11_demand 12 = .ok (.l2i, 1) := by decide +kernel
theorem dX11_demand_13 : decode cX11_demand 13 = .ok (.goto 6, 3) := by decide +kernel
theorem dX11_demand_16 : decode cX11_demand 16 = .ok (.sipush (-9999), 3) := by decide +kernel
theorem dX11_demand_19 : decode cX11_demand 19 = .ok (.ireturn, 1) := by decide +kernel
theorem dX11_pointAt_0 : decode cX11_pointAt 0 = .ok (.iconst 0, 1) := by decide +kernel
theorem dX11_pointAt_1 : decode cX11_pointAt 1 = .ok (.istore_n 2, 1) := by decide +kernel
theorem dX11_pointAt_2 : decode cX11_pointAt 2 = .ok (.iload_n 2, 1) := by decide +kernel
theorem dX11_pointAt_3 : decode cX11_pointAt 3 = .ok (.i2l, 1) := by decide +kernel
theorem dX11_pointAt_4 : decode cX11_pointAt 4 = .ok (.aload_n 0, 1) := by decide +kernel
theorem dX11_pointAt_5 : decode cX11_pointAt 5 = .ok (.getfield 7, 3) := by decide +kernel
theorem dX11_pointAt_8 : decode cX11_pointAt 8 = .ok (.bipush 68, 2) := by decide +kernel
theorem dX11_pointAt_10 : decode cX11_pointAt 10 = .ok (.laload, 1) := by decide +kernel
theorem dX11_pointAt_11 : decode cX11_pointAt 11 = .ok (.lcmp, 1) := by decide +kernel
theorem dX11_pointAt_12 : decode cX11_pointAt 12 = .ok (.ifCond .ge 28, 3) := by decide +kernel
theorem dX11_pointAt_15 : decode cX11_pointAt 15 = .ok (.aload_n 0, 1) := by decide +kernel
theorem dX11_pointAt_16 : decode cX11_pointAt 16 = .ok (.getfield 7, 3) := by decide +kernel
theorem dX11_pointAt_19 : decode cX11_pointAt 19 = .ok (.bipush 69, 2) := by decide +kernel
theorem dX11_pointAt_21 : decode cX11_pointAt 21 = .ok (.iconst 2, 1) := by decide +kernel
theorem dX11_pointAt_22 : decode cX11_pointAt 22 = .ok (.iload_n 2, 1) := by decide +kernel
theorem dX11_pointAt_23 : decode cX11_pointAt 23 = .ok (.imul, 1) := by decide +kernel
theorem dX11_pointAt_24 : decode cX11_pointAt 24 = .ok (.iadd, 1) := by decide +kernel
theorem dX11_pointAt_25 : decode cX11_pointAt 25 = .ok (.laload, 1) := by decide +kernel
theorem dX11_pointAt_26 : decode cX11_pointAt 26 = .ok (.iload_n 1, 1) := by decide +kernel
theorem dX11_pointAt_27 : decode cX11_pointAt 27 = .ok (.i2l, 1) := by decide +kernel
theorem dX11_pointAt_28 : decode cX11_pointAt 28 = .ok (.lcmp, 1) := by decide +kernel
theorem dX11_pointAt_29 : decode cX11_pointAt 29 = .ok (.ifCond .ne 5, 3) := by decide +kernel
theorem dX11_pointAt_32 : decode cX11_pointAt 32 = .ok (.iload_n 2, 1) := by decide +kernel
theorem dX11_pointAt_33 : decode cX11_pointAt 33 = .ok (.ireturn, 1) := by decide +kernel
theorem dX11_pointAt_34 : decode cX11_pointAt 34 = .ok (.iinc 2 1, 3) := by decide +kernel
theorem dX11_pointAt_37 : decode cX11_pointAt 37 = .ok (.goto (-35), 3) := by decide +kernel
theorem dX11_pointAt_40 : decode cX11_pointAt 40 = .ok (.iconst (-1), 1) := by decide +kernel
theorem dX11_pointAt_41 : decode cX11_pointAt 41 = .ok (.ireturn, 1) := by decide +kernel
set_option maxRecDepth 20000 in
theorem ggX11_addPoint_X11_in : GoodIn wsX11_addPoint wsX11_in := goodIn_r _ [10] (by decide +kernel) (by decide +kernel)
set_option maxRecDepth 20000 in
theorem gX11_addPoint_X11_in : GoodIn wsX11_addPoint (va_wsS RX11 56 yX11_in wsX11_in) := goodIn_app (goodIn_of _ (by decide +kernel)) ggX11_addPoint_X11_in
set_option maxRecDepth 20000 in
theorem ggX11_addPoint_X11_pointAt : GoodIn wsX11_addPoint wsX11_pointAt := goodIn_r _ [14, 5, 24, 25, 26, 27, 28, 29, 30, 31, 32, 33] (by decide +kernel) (by decide +kernel)
set_option maxRecDepth 20000 in
theorem gX11_addPoint_X11_pointAt : GoodIn wsX11_addPoint (wsV RX11 95 RX11 yX11_pointAt wsX11_pointAt) := goodIn_app (goodIn_of _ (by decide +kernel)) ggX11_addPoint_X11_pointAt
set_option maxRecDepth 20000 in
theorem ggX11_addPoint_X11_records : GoodIn wsX11_addPoint wsX11_records := goodIn_r _ [18, 19, 20, 21, 22, 9, 23, 5, 24, 25, 26, 27, 28, 29, 30, 31, 32, 33] (by decide +kernel) (by decide +kernel)
set_option maxRecDepth 20000 in
theorem gX11_addPoint_X11_records : GoodIn wsX11_addPoint (wsV RX11 68 RX11 yX11_records wsX11_records) := goodIn_app (goodIn_of _ (by decide +kernel)) ggX11_addPoint_X11_records
theorem dX11_addPoint_0 : decode cX11_addPoint 0 = .ok (.iload_n 1, 1) := by decide +kernel
theorem dX11_addPoint_1 : decode cX11_addPoint 1 = .ok (.i2l, 1) := by decide +kernel
theorem dX11_addPoint_2 : decode cX11_addPoint 2 = .ok (.ldc2_w 80, 3) := by decide +kernel
theorem dX11_addPoint_5 : decode cX11_addPoint 5 = .ok (.ldc2_w 82, 3) := by decide +kernel
theorem dX11_addPoint_8 : decode cX11_addPoint 8 = .ok (.invokestatic 56, 3) := by decide +kernel
theorem dX11_addPoint_11 : decode cX11_addPoint 11 = .ok (.ifCond .eq 17, 3) := by decide +kernel
theorem dX11_addPoint_14 : decode cX11_addPoint 14 = .ok (.iload_n 2, 1) := by decide +kernel
theorem dX11_addPoint_15 : decode cX11_addPoint 15 = .ok (.i2l, 1) := by decide +kernel
theorem dX11_addPoint_16 : decode cX11_addPoint 16 = .ok (.ldc2_w 91, 3) := by decide +kernel
theorem dX11_addPoint_19 : decode cX11_addPoint 19 = .ok (.ldc2_w 93, 3) := by decide +kernel
theorem dX11_addPoint_22 : decode cX11_addPoint 22 = .ok (.invokestatic 56, 3) := by decide +kernel
theorem dX11_addPoint_25 : decode cX11_addPoint 25 = .ok (.ifCond .ne 5, 3) := by decide +kernel
theorem dX11_addPoint_28 : decode cX11_addPoint 28 = .ok (.iconst (-1), 1) := by decide +kernel
theorem dX11_addPoint_29 : decode cX11_addPoint 29 = .ok (.ireturn, 1) := by decide +kernel
theorem dX11_addPoint_30 : decode cX11_addPoint 30 = .ok (.aload_n 0, 1) := by decide +kernel
theorem dX11_addPoint_31 : decode cX11_addPoint 31 = .ok (.iload_n 1, 1) := by decide +kernel
theorem dX11_addPoint_32 : decode cX11_addPoint 32 = .ok (.invokevirtual 95, 3) := by decide +kernel
theorem dX11_addPoint_35 : decode cX11_addPoint 35 = .ok (.istore_n 3, 1) := by decide +kernel
theorem dX11_addPoint_36 : decode cX11_addPoint 36 = .ok (.iload_n 3, 1) := by decide +kernel
theorem dX11_addPoint_37 : decode cX11_addPoint 37 = .ok (.ifCond .ge 20, 3) := by decide +kernel
theorem dX11_addPoint_40 : decode cX11_addPoint 40 = .ok (.aload_n 0, 1) := by decide +kernel
theorem dX11_addPoint_41 : decode cX11_addPoint 41 = .ok (.getfield 7, 3) := by decide +kernel
theorem dX11_addPoint_44 : decode cX11_addPoint 44 = .ok (.bipush 68, 2) := by decide +kernel
theorem dX11_addPoint_46 : decode cX11_addPoint 46 = .ok (.laload, 1) := by decide +kernel
theorem dX11_addPoint_47 : decode cX11_addPoint 47 = .ok (.ldc2_w 98, 3) := by decide +kernel
theorem dX11_addPoint_50 : decode cX11_addPoint 50 = .ok (.lcmp, 1) := by decide +kernel
theorem dX11_addPoint_51 : decode cX11_addPoint 51 = .ok (.ifCond .ne 6, 3) := by decide +kernel
theorem dX11_addPoint_54 : decode cX11_addPoint 54 = .ok (.bipush (-3), 2) := by decide +kernel
theorem dX11_addPoint_56 : decode cX11_addPoint 56 = .ok (.ireturn, 1) := by decide +kernel
theorem dX11_addPoint_57 : decode cX11_addPoint 57 = .ok (.aload_n 0, 1) := by decide +kernel
theorem dX11_addPoint_58 : decode cX11_addPoint 58 = .ok (.invokevirtual 68, 3) := by decide +kernel
theorem dX11_addPoint_61 : decode cX11_addPoint 61 = .ok (.pop, 1) := by decide +kernel
theorem dX11_addPoint_62 : decode cX11_addPoint 62 = .ok (.iload_n 3, 1) := by decide +kernel
theorem dX11_addPoint_63 : decode cX11_addPoint 63 = .ok (.ifCond .ge 23, 3) := by decide +kernel
theorem dX11_addPoint_66 : decode cX11_addPoint 66 = .ok (.aload_n 0, 1) := by decide +kernel
theorem dX11_addPoint_67 : decode cX11_addPoint 67 = .ok (.getfield 7, 3) := by decide +kernel
theorem dX11_addPoint_70 : decode cX11_addPoint 70 = .ok (.bipush 68, 2) := by decide +kernel
theorem dX11_addPoint_72 : decode cX11_addPoint 72 = .ok (.laload, 1) := by decide +kernel
theorem dX11_addPoint_73 : decode cX11_addPoint 73 = .ok (.l2i, 1) := by decide +kernel
theorem dX11_addPoint_74 : decode cX11_addPoint 74 = .ok (.istore_n 3, 1) := by decide +kernel
theorem dX11_addPoint_75 : decode cX11_addPoint 75 = .ok (.aload_n 0, 1) := by decide +kernel
theorem dX11_addPoint_76 : decode cX11_addPoint 76 = .ok (.getfield 7, 3) := by decide +kernel
theorem dX11_addPoint_79 : decode cX11_addPoint 79 = .ok (.bipush 68, 2) := by decide +kernel
theorem dX11_addPoint_81 : decode cX11_addPoint 81 = .ok (.dup2, 1) := by decide +kernel
theorem dX11_addPoint_82 : decode cX11_addPoint 82 = .ok (.laload, 1) := by decide +kernel
theorem dX11_addPoint_83 : decode cX11_addPoint 83 = .ok (.lconst 1, 1) := by decide +kernel
theorem dX11_addPoint_84 : decode cX11_addPoint 84 = .ok (.ladd, 1) := by decide +kernel
theorem dX11_addPoint_85 : decode cX11_addPoint 85 = .ok (.lastore, 1) := by decide +kernel
theorem dX11_addPoint_86 : decode cX11_addPoint 86 = .ok (.aload_n 0, 1) := by decide +kernel
theorem dX11_addPoint_87 : decode cX11_addPoint 87 = .ok (.getfield 7, 3) := by decide +kernel
theorem dX11_addPoint_90 : decode cX11_addPoint 90 = .ok (.bipush 69, 2) := by decide +kernel
theorem dX11_addPoint_92 : decode cX11_addPoint 92 = .ok (.iconst 2, 1) := by decide +kernel
theorem dX11_addPoint_93 : decode cX11_addPoint 93 = .ok (.iload_n 3, 1) := by decide +kernel
theorem dX11_addPoint_94 : decode cX11_addPoint 94 = .ok (.imul, 1) := by decide +kernel
theorem dX11_addPoint_95 : decode cX11_addPoint 95 = .ok (.iadd, 1) := by decide +kernel
theorem dX11_addPoint_96 : decode cX11_addPoint 96 = .ok (.iload_n 1, 1) := by decide +kernel
theorem dX11_addPoint_97 : decode cX11_addPoint 97 = .ok (.i2l, 1) := by decide +kernel
theorem dX11_addPoint_98 : decode cX11_addPoint 98 = .ok (.lastore, 1) := by decide +kernel
theorem dX11_addPoint_99 : decode cX11_addPoint 99 = .ok (.aload_n 0, 1) := by decide +kernel
theorem dX11_addPoint_100 : decode cX11_addPoint 100 = .ok (.getfield 7, 3) := by decide +kernel
theorem dX11_addPoint_103 : decode cX11_addPoint 103 = .ok (.bipush 69, 2) := by decide +kernel
theorem dX11_addPoint_105 : decode cX11_addPoint 105 = .ok (.iconst 2, 1) := by decide +kernel
theorem dX11_addPoint_106 : decode cX11_addPoint 106 = .ok (.iload_n 3, 1) := by decide +kernel
theorem dX11_addPoint_107 : decode cX11_addPoint 107 = .ok (.imul, 1) := by decide +kernel
theorem dX11_addPoint_108 : decode cX11_addPoint 108 = .ok (.iadd, 1) := by decide +kernel
theorem dX11_addPoint_109 : decode cX11_addPoint 109 = .ok (.iconst 1, 1) := by decide +kernel
theorem dX11_addPoint_110 : decode cX11_addPoint 110 = .ok (.iadd, 1) := by decide +kernel
theorem dX11_addPoint_111 : decode cX11_addPoint 111 = .ok (.iload_n 2, 1) := by decide +kernel
theorem dX11_addPoint_112 : decode cX11_addPoint 112 = .ok (.i2l, 1) := by decide +kernel
theorem dX11_addPoint_113 : decode cX11_addPoint 113 = .ok (.lastore, 1) := by decide +kernel
theorem dX11_addPoint_114 : decode cX11_addPoint 114 = .ok (.aload_n 0, 1) := by decide +kernel
theorem dX11_addPoint_115 : decode cX11_addPoint 115 = .ok (.getfield 7, 3) := by decide +kernel
theorem dX11_addPoint_118 : decode cX11_addPoint 118 = .ok (.bipush 68, 2) := by decide +kernel
theorem dX11_addPoint_120 : decode cX11_addPoint 120 = .ok (.laload, 1) := by decide +kernel
theorem dX11_addPoint_121 : decode cX11_addPoint 121 = .ok (.l2i, 1) := by decide +kernel
theorem dX11_addPoint_122 : decode cX11_addPoint 122 = .ok (.ireturn, 1) := by decide +kernel
set_option maxRecDepth 20000 in
theorem ggX11_removePoint_X11_pointAt : GoodIn wsX11_removePoint wsX11_pointAt := goodIn_r _ [6, 1, 16, 17, 18, 19, 20, 21, 22, 23, 24, 25] (by decide +kernel) (by decide +kernel)
set_option maxRecDepth 20000 in
theorem gX11_removePoint_X11_pointAt : GoodIn wsX11_removePoint (wsV RX11 95 RX11 yX11_pointAt wsX11_pointAt) := goodIn_app (goodIn_of _ (by decide +kernel)) ggX11_removePoint_X11_pointAt
set_option maxRecDepth 20000 in
theorem ggX11_removePoint_X11_records : GoodIn wsX11_removePoint wsX11_records := goodIn_r _ [10, 11, 12, 13, 14, 5, 15, 1, 16, 17, 18, 19, 20, 21, 22, 23, 24, 25] (by decide +kernel) (by decide +kernel)
set_option maxRecDepth 20000 in
theorem gX11_removePoint_X11_records : GoodIn wsX11_removePoint (wsV RX11 68 RX11 yX11_records wsX11_records) := goodIn_app (goodIn_of _ (by decide +kernel)) ggX11_removePoint_X11_records
theorem dX11_removePoint_0 : decode cX11_removePoint 0 = .ok (.aload_n 0, 1) := by decide +kernel
theorem dX11_removePoint_1 : decode cX11_removePoint 1 = .ok (.iload_n 1, 1) := by decide +kernel
theorem dX11_removePoint_2 : decode cX11_removePoint 2 = .ok (.invokevirtual 95, 3) := by decide +kernel
theorem dX11_removePoint_5 : decode cX11_removePoint 5 = .ok (.istore_n 2, 1) := by decide +kernel
theorem dX11_removePoint_6 : decode cX11_removePoint 6 = .ok (.iload_n 2, 1) := by decide +kernel
theorem dX11_removePoint_7 : decode cX11_removePoint 7 = .ok (.ifCond .ge 5, 3) := by decide +kernel
theorem dX11_removePoint_10 : decode cX11_removePoint 10 = .ok (.iconst (-1), 1) := by decide +kernel
theorem dX11_removePoint_11 : decode cX11_removePoint 11 = .ok (.ireturn, 1) := by decide +kernel
theorem dX11_removePoint_12 : decode cX11_removePoint 12 = .ok (.aload_n 0, 1) := by decide +kernel
theorem dX11_removePoint_13 : decode cX11_removePoint 13 = .ok (.getfield 7, 3) := by decide +kernel
theorem dX11_removePoint_16 : decode cX11_removePoint 16 = .ok (.bipush 68, 2) := by decide +kernel
theorem dX11_removePoint_18 : decode cX11_removePoint 18 = .ok (.laload, 1) := by decide +kernel
theorem dX11_removePoint_19 : decode cX11_removePoint 19 = .ok (.lconst 1, 1) := by decide +kernel
theorem dX11_removePoint_20 : decode cX11_removePoint 20 = .ok (.lcmp, 1) := by decide +kernel
theorem dX11_removePoint_21 : decode cX11_removePoint 21 = .ok (.ifCond .ne 6, 3) := by decide +kernel
theorem dX11_removePoint_24 : decode cX11_removePoint 24 = .ok (.bipush (-2), 2) := by decide +kernel
theorem dX11_removePoint_26 : decode cX11_removePoint 26 = .ok (.ireturn, 1) := by decide +kernel
theorem dX11_removePoint_27 : decode cX11_removePoint 27 = .ok (.aload_n 0, 1) := by decide +kernel
theorem dX11_removePoint_28 : decode cX11_removePoint 28 = .ok (.invokevirtual 68, 3) := by decide +kernel
theorem dX11_removePoint_31 : decode cX11_removePoint 31 = .ok (.pop, 1) := by decide +kernel
theorem dX11_removePoint_32 : decode cX11_removePoint 32 = .ok (.aload_n 0, 1) := by decide +kernel
theorem dX11_removePoint_33 : decode cX11_removePoint 33 = .ok (.getfield 7, 3) := by decide +kernel
theorem dX11_removePoint_36 : decode cX11_removePoint 36 = .ok (.bipush 68, 2) := by decide +kernel
theorem dX11_removePoint_38 : decode cX11_removePoint 38 = .ok (.dup2, 1) := by decide +kernel
theorem dX11_removePoint_39 : decode cX11_removePoint 39 = .ok (.laload, 1) := by decide +kernel
theorem dX11_removePoint_40 : decode cX11_removePoint 40 = .ok (.lconst 1, 1) := by decide +kernel
theorem dX11_removePoint_41 : decode cX11_removePoint 41 = .ok (.lsub, 1) := by decide +kernel
theorem dX11_removePoint_42 : decode cX11_removePoint 42 = .ok (.lastore, 1) := by decide +kernel
theorem dX11_removePoint_43 : decode cX11_removePoint 43 = .ok (.aload_n 0, 1) := by decide +kernel
theorem dX11_removePoint_44 : decode cX11_removePoint 44 = .ok (.getfield 7, 3) := by decide +kernel
theorem dX11_removePoint_47 : decode cX11_removePoint 47 = .ok (.bipush 68, 2) := by decide +kernel
theorem dX11_removePoint_49 : decode cX11_removePoint 49 = .ok (.laload, 1) := by decide +kernel
theorem dX11_removePoint_50 : decode cX11_removePoint 50 = .ok (.l2i, 1) := by decide +kernel
theorem dX11_removePoint_51 : decode cX11_removePoint 51 = .ok (.istore_n 3, 1) := by decide +kernel
theorem dX11_removePoint_52 : decode cX11_removePoint 52 = .ok (.aload_n 0, 1) := by decide +kernel
theorem dX11_removePoint_53 : decode cX11_removePoint 53 = .ok (.getfield 7, 3) := by decide +kernel
theorem dX11_removePoint_56 : decode cX11_removePoint 56 = .ok (.bipush 69, 2) := by decide +kernel
theorem dX11_removePoint_58 : decode cX11_removePoint 58 = .ok (.iconst 2, 1) := by decide +kernel
theorem dX11_removePoint_59 : decode cX11_removePoint 59 = .ok (.iload_n 2, 1) := by decide +kernel
theorem dX11_removePoint_60 : decode cX11_removePoint 60 = .ok (.imul, 1) := by decide +kernel
theorem dX11_removePoint_61 : decode cX11_removePoint 61 = .ok (.iadd, 1) := by decide +kernel
theorem dX11_removePoint_62 : decode cX11_removePoint 62 = .ok (.aload_n 0, 1) := by decide +kernel
theorem dX11_removePoint_63 : decode cX11_removePoint 63 = .ok (.getfield 7, 3) := by decide +kernel
theorem dX11_removePoint_66 : decode cX11_removePoint 66 = .ok (.bipush 69, 2) := by decide +kernel
theorem dX11_removePoint_68 : decode cX11_removePoint 68 = .ok (.iconst 2, 1) := by decide +kernel
theorem dX11_removePoint_69 : decode cX11_removePoint 69 = .ok (.iload_n 3, 1) := by decide +kernel
theorem dX11_removePoint_70 : decode cX11_removePoint 70 = .ok (.imul, 1) := by decide +kernel
theorem dX11_removePoint_71 : decode cX11_removePoint 71 = .ok (.iadd, 1) := by decide +kernel
theorem dX11_removePoint_72 : decode cX11_removePoint 72 = .ok (.laload, 1) := by decide +kernel
theorem dX11_removePoint_73 : decode cX11_removePoint 73 = .ok (.lastore, 1) := by decide +kernel
theorem dX11_removePoint_74 : decode cX11_removePoint 74 = .ok (.aload_n 0, 1) := by decide +kernel
theorem dX11_removePoint_75 : decode cX11_removePoint 75 = .ok (.getfield 7, 3) := by decide +kernel
theorem dX11_removePoint_78 : decode cX11_removePoint 78 = .ok (.bipush 69, 2) := by decide +kernel
theorem dX11_removePoint_80 : decode cX11_removePoint 80 = .ok (.iconst 2, 1) := by decide +kernel
theorem dX11_removePoint_81 : decode cX11_removePoint 81 = .ok (.iload_n 2, 1) := by decide +kernel
theorem dX11_removePoint_82 : decode cX11_removePoint 82 = .ok (.imul, 1) := by decide +kernel
theorem dX11_removePoint_83 : decode cX11_removePoint 83 = .ok (.iadd, 1) := by decide +kernel
theorem dX11_removePoint_84 : decode cX11_removePoint 84 = .ok (.iconst 1, 1) := by decide +kernel
theorem dX11_removePoint_85 : decode cX11_removePoint 85 = .ok (.iadd, 1) := by decide +kernel
theorem dX11_removePoint_86 : decode cX11_removePoint 86 = .ok (.aload_n 0, 1) := by decide +kernel
theorem dX11_removePoint_87 : decode cX11_removePoint 87 = .ok (.getfield 7, 3) := by decide +kernel
theorem dX11_removePoint_90 : decode cX11_removePoint 90 = .ok (.bipush 69, 2) := by decide +kernel
theorem dX11_removePoint_92 : decode cX11_removePoint 92 = .ok (.iconst 2, 1) := by decide +kernel
theorem dX11_removePoint_93 : decode cX11_removePoint 93 = .ok (.iload_n 3, 1) := by decide +kernel
theorem dX11_removePoint_94 : decode cX11_removePoint 94 = .ok (.imul, 1) := by decide +kernel
theorem dX11_removePoint_95 : decode cX11_removePoint 95 = .ok (.iadd, 1) := by decide +kernel
theorem dX11_removePoint_96 : decode cX11_removePoint 96 = .ok (.iconst 1, 1) := by decide +kernel
theorem dX11_removePoint_97 : decode cX11_removePoint 97 = .ok (.iadd, 1) := by decide +kernel
theorem dX11_removePoint_98 : decode cX11_removePoint 98 = .ok (.laload, 1) := by decide +kernel
theorem dX11_removePoint_99 : decode cX11_removePoint 99 = .ok (.lastore, 1) := by decide +kernel
theorem dX11_removePoint_100 : decode cX11_removePoint 100 = .ok (.iload_n 3, 1) := by decide +kernel
theorem dX11_removePoint_101 : decode cX11_removePoint 101 = .ok (.ireturn, 1) := by decide +kernel
set_option maxRecDepth 20000 in
theorem ggX11_supplyAt_X11_div : GoodIn wsX11_supplyAt wsX11_div := goodIn_r _ [5] (by decide +kernel) (by decide +kernel)
set_option maxRecDepth 20000 in
theorem gX11_supplyAt_X11_div : GoodIn wsX11_supplyAt (va_wsS RX11 84 yX11_div wsX11_div) := goodIn_app (goodIn_of _ (by decide +kernel)) ggX11_supplyAt_X11_div
theorem dX11_supplyAt_0 : decode cX11_supplyAt 0 = .ok (.iconst (-1), 1) := by decide +kernel
theorem dX11_supplyAt_1 : decode cX11_supplyAt 1 = .ok (.istore_n 3, 1) := by decide +kernel
theorem dX11_supplyAt_2 : decode cX11_supplyAt 2 = .ok (.iconst (-1), 1) := by decide +kernel
theorem dX11_supplyAt_3 : decode cX11_supplyAt 3 = .ok (.istore 4, 2) := by decide +kernel
theorem dX11_supplyAt_5 : decode cX11_supplyAt 5 = .ok (.iconst 0, 1) := by decide +kernel
theorem dX11_supplyAt_6 : decode cX11_supplyAt 6 = .ok (.istore 5, 2) := by decide +kernel
theorem dX11_supplyAt_8 : decode cX11_supplyAt 8 = .ok (.iload 5, 2) := by decide +kernel
theorem dX11_supplyAt_10 : decode cX11_supplyAt 10 = .ok (.i2l, 1) := by decide +kernel
theorem dX11_supplyAt_11 : decode cX11_supplyAt 11 = .ok (.aload_n 0, 1) := by decide +kernel
theorem dX11_supplyAt_12 : decode cX11_supplyAt 12 = .ok (.getfield 7, 3) := by decide +kernel
theorem dX11_supplyAt_15 : decode cX11_supplyAt 15 = .ok (.bipush 68, 2) := by decide +kernel
theorem dX11_supplyAt_17 : decode cX11_supplyAt 17 = .ok (.laload, 1) := by decide +kernel
theorem dX11_supplyAt_18 : decode cX11_supplyAt 18 = .ok (.lcmp, 1) := by decide +kernel
theorem dX11_supplyAt_19 : decode cX11_supplyAt 19 = .ok (.ifCond .ge 97, 3) := by decide +kernel
theorem dX11_supplyAt_22 : decode cX11_supplyAt 22 = .ok (.aload_n 0, 1) := by decide +kernel
theorem dX11_supplyAt_23 : decode cX11_supplyAt 23 = .ok (.getfield 7, 3) := by decide +kernel
theorem dX11_supplyAt_26 : decode cX11_supplyAt 26 = .ok (.bipush 69, 2) := by decide +kernel
theorem dX11_supplyAt_28 : decode cX11_supplyAt 28 = .ok (.iconst 2, 1) := by decide +kernel
theorem dX11_supplyAt_29 : decode cX11_supplyAt 29 = .ok (.iload 5, 2) := by decide +kernel
theorem dX11_supplyAt_31 : decode cX11_supplyAt 31 = .ok (.imul, 1) := by decide +kernel
theorem dX11_supplyAt_32 : decode cX11_supplyAt 32 = .ok (.iadd, 1) := by decide +kernel
theorem dX11_supplyAt_33 : decode cX11_supplyAt 33 = .ok (.laload, 1) := by decide +kernel
theorem dX11_supplyAt_34 : decode cX11_supplyAt 34 = .ok (.lstore 6, 2) := by decide +kernel
theorem dX11_supplyAt_36 : decode cX11_supplyAt 36 = .ok (.lload 6, 2) := by decide +kernel
theorem dX11_supplyAt_38 : decode cX11_supplyAt 38 = .ok (.lload_n 1, 1) := by decide +kernel
theorem dX11_supplyAt_39 : decode cX11_supplyAt 39 = .ok (.lcmp, 1) := by decide +kernel
theorem dX11_supplyAt_40 : decode cX11_supplyAt 40 = .ok (.ifCond .gt 29, 3) := by decide +kernel
theorem dX11_supplyAt_43 : decode cX11_supplyAt 43 = .ok (.iload_n 3, 1) := by decide +kernel
theorem dX11_supplyAt_44 : decode cX11_supplyAt 44 = .ok (.ifCond .lt 20, 3) := by decide +kernel
theorem dX11_supplyAt_47 : decode cX11_supplyAt 47 = .ok (.lload 6, 2) := by decide +kernel
theorem dX11_supplyAt_49 : decode cX11_supplyAt 49 = .ok (.aload_n 0, 1) := by decide +kernel
theorem dX11_supplyAt_50 : decode cX11_supplyAt 50 = .ok (.getfield 7, 3) := by decide +kernel
theorem dX11_supplyAt_53 : decode cX11_supplyAt 53 = .ok (.bipush 69, 2) := by decide +kernel
theorem dX11_supplyAt_55 : decode cX11_supplyAt 55 = .ok (.iconst 2, 1) := by decide +kernel
theorem dX11_supplyAt_56 : decode cX11_supplyAt 56 = .ok (.iload_n 3, 1) := by decide +kernel
theorem dX11_supplyAt_57 : decode cX11_supplyAt 57 = .ok (.imul, 1) := by decide +kernel
theorem dX11_supplyAt_58 : decode cX11_supplyAt 58 = .ok (.iadd, 1) := by decide +kernel
theorem dX11_supplyAt_59 : decode cX11_supplyAt 59 = .ok (.laload, 1) := by decide +kernel
theorem dX11_supplyAt_60 : decode cX11_supplyAt 60 = .ok (.lcmp, 1) := by decide +kernel
theorem dX11_supplyAt_61 : decode cX11_supplyAt 61 = .ok (.ifCond .le 8, 3) := by decide +kernel
theorem dX11_supplyAt_64 : decode cX11_supplyAt 64 = .ok (.iload 5, 2) := by decide +kernel
theorem dX11_supplyAt_66 : decode cX11_supplyAt 66 = .ok (.goto 4, 3) := by decide +kernel
theorem dX11_supplyAt_69 : decode cX11_supplyAt 69 = .ok (.iload_n 3, 1) := by decide +kernel
theorem dX11_supplyAt_70 : decode cX11_supplyAt 70 = .ok (.istore_n 3, 1) := by decide +kernel
theorem dX11_supplyAt_71 : decode cX11_supplyAt 71 = .ok (.lload 6, 2) := by decide +kernel
theorem dX11_supplyAt_73 : decode cX11_supplyAt 73 = .ok (.lload_n 1, 1) := by decide +kernel
theorem dX11_supplyAt_74 : decode cX11_supplyAt 74 = .ok (.lcmp, 1) := by decide +kernel
theorem dX11_supplyAt_75 : decode cX11_supplyAt 75 = .ok (.ifCond .le 31, 3) := by decide +kernel
theorem dX11_supplyAt_78 : decode cX11_supplyAt 78 = .ok (.iload 4, 2) := by decide +kernel
theorem dX11_supplyAt_80 : decode cX11_supplyAt 80 = .ok (.ifCond .lt 21, 3) := by decide +kernel
theorem dX11_supplyAt_83 : decode cX11_supplyAt 83 = .ok (.lload 6, 2) := by decide +kernel
theorem dX11_supplyAt_85 : decode cX11_supplyAt 85 = .ok (.aload_n 0, 1) := by decide +kernel
theorem dX11_supplyAt_86 : decode cX11_supplyAt 86 = .ok (.getfield 7, 3) := by decide +kernel
theorem dX11_supplyAt_89 : decode cX11_supplyAt 89 = .ok (.bipush 69, 2) := by decide +kernel
theorem dX11_supplyAt_91 : decode cX11_supplyAt 91 = .ok (.iconst 2, 1) := by decide +kernel
theorem dX11_supplyAt_92 : decode cX11_supplyAt 92 = .ok (.iload 4, 2) := by decide +kernel
theorem dX11_supplyAt_94 : decode cX11_supplyAt 94 = .ok (.imul, 1) := by decide +kernel
theorem dX11_supplyAt_95 : decode cX11_supplyAt 95 = .ok (.iadd, 1) := by decide +kernel
theorem dX11_supplyAt_96 : decode cX11_supplyAt 96 = .ok (.laload, 1) := by decide +kernel
theorem dX11_supplyAt_97 : decode cX11_supplyAt 97 = .ok (.lcmp, 1) := by decide +kernel
theorem dX11_supplyAt_98 : decode cX11_supplyAt 98 = .ok (.ifCond .ge 8, 3) := by decide +kernel
theorem dX11_supplyAt_101 : decode cX11_supplyAt 101 = .ok (.iload 5, 2) := by decide +kernel
theorem dX11_supplyAt_103 : decode cX11_supplyAt 103 = .ok (.goto 5, 3) := by decide +kernel
theorem dX11_supplyAt_106 : decode cX11_supplyAt 106 = .ok (.iload 4, 2) := by decide +kernel
theorem dX11_supplyAt_108 : decode cX11_supplyAt 108 = .ok (.istore 4, 2) := by decide +kernel
theorem dX11_supplyAt_110 : decode cX11_supplyAt 110 = .ok (.iinc 5 1, 3) := by decide +kernel
theorem dX11_supplyAt_113 : decode cX11_supplyAt 113 = .ok (.goto (-105), 3) := by decide +kernel
theorem dX11_supplyAt_116 : decode cX11_supplyAt 116 = .ok (.iload_n 3, 1) := by decide +kernel
theorem dX11_supplyAt_117 : decode cX11_supplyAt 117 = .ok (.ifCond .lt 8, 3) := by decide +kernel
theorem dX11_supplyAt_120 : decode cX11_supplyAt 120 = .ok (.iload 4, 2) := by decide +kernel
theorem dX11_supplyAt_122 : decode cX11_supplyAt 122 = .ok (.ifCond .ge 26, 3) := by decide +kernel
theorem dX11_supplyAt_125 : decode cX11_supplyAt 125 = .ok (.aload_n 0, 1) := by decide +kernel
theorem dX11_supplyAt_126 : decode cX11_supplyAt 126 = .ok (.getfield 7, 3) := by decide +kernel
theorem dX11_supplyAt_129 : decode cX11_supplyAt 129 = .ok (.bipush 69, 2) := by decide +kernel
theorem dX11_supplyAt_131 : decode cX11_supplyAt 131 = .ok (.iconst 2, 1) := by decide +kernel
theorem dX11_supplyAt_132 : decode cX11_supplyAt 132 = .ok (.iload_n 3, 1) := by decide +kernel
theorem dX11_supplyAt_133 : decode cX11_supplyAt 133 = .ok (.ifCond .ge 8, 3) := by decide +kernel
theorem dX11_supplyAt_136 : decode cX11_supplyAt 136 = .ok (.iload 4, 2) := by decide +kernel
theorem dX11_supplyAt_138 : decode cX11_supplyAt 138 = .ok (.goto 4, 3) := by decide +kernel
theorem dX11_supplyAt_141 : decode cX11_supplyAt 141 = .ok (.iload_n 3, 1) := by decide +kernel
theorem dX11_supplyAt_142 : decode cX11_supplyAt 142 = .ok (.imul, 1) := by decide +kernel
theorem dX11_supplyAt_143 : decode cX11_supplyAt 143 = .ok (.iadd, 1) := by decide +kernel
theorem dX11_supplyAt_144 : decode cX11_supplyAt 144 = .ok (.iconst 1, 1) := by decide +kernel
theorem dX11_supplyAt_145 : decode cX11_supplyAt 145 = .ok (.iadd, 1) := by decide +kernel
theorem dX11_supplyAt_146 : decode cX11_supplyAt 146 = .ok (.laload, 1) := by decide +kernel
theorem dX11_supplyAt_147 : decode cX11_supplyAt 147 = .ok (.lreturn, 1) := by decide +kernel
theorem dX11_supplyAt_148 : decode cX11_supplyAt 148 = .ok (.aload_n 0, 1) := by decide +kernel
theorem dX11_supplyAt_149 : decode cX11_supplyAt 149 = .ok (.getfield 7, 3) := by decide +kernel
theorem dX11_supplyAt_152 : decode cX11_supplyAt 152 = .ok (.bipush 69, 2) := by decide +kernel
theorem dX11_supplyAt_154 : decode cX11_supplyAt 154 = .ok (.iconst 2, 1) := by decide +kernel
theorem dX11_supplyAt_155 : decode cX11_supplyAt 155 = .ok (.iload_n 3, 1) := by decide +kernel
theorem dX11_supplyAt_156 : decode cX11_supplyAt 156 = .ok (.imul, 1) := by decide +kernel
theorem dX11_supplyAt_157 : decode cX11_supplyAt 157 = .ok (.iadd, 1) := by decide +kernel
theorem dX11_supplyAt_158 : decode cX11_supplyAt 158 = .ok (.laload, 1) := by decide +kernel
theorem dX11_supplyAt_159 : decode cX11_supplyAt 159 = .ok (.lstore 5, 2) := by decide +kernel
theorem dX11_supplyAt_161 : decode cX11_supplyAt 161 = .ok (.aload_n 0, 1) := by decide +kernel
theorem dX11_supplyAt_162 : decode cX11_supplyAt 162 = .ok (.getfield 7, 3) := by decide +kernel
theorem dX11_supplyAt_165 : decode cX11_supplyAt 165 = .ok (.bipush 69, 2) := by decide +kernel
theorem dX11_supplyAt_167 : decode cX11_supplyAt 167 = .ok (.iconst 2, 1) := by decide +kernel
theorem dX11_supplyAt_168 : decode cX11_supplyAt 168 = .ok (.iload 4, 2) := by decide +kernel
theorem dX11_supplyAt_170 : decode cX11_supplyAt 170 = .ok (.imul, 1) := by decide +kernel
theorem dX11_supplyAt_171 : decode cX11_supplyAt 171 = .ok (.iadd, 1) := by decide +kernel
theorem dX11_supplyAt_172 : decode cX11_supplyAt 172 = .ok (.laload, 1) := by decide +kernel
theorem dX11_supplyAt_173 : decode cX11_supplyAt 173 = .ok (.lstore 7, 2) := by decide +kernel
theorem dX11_supplyAt_175 : decode cX11_supplyAt 175 = .ok (.aload_n 0, 1) := by decide +kernel
theorem dX11_supplyAt_176 : decode cX11_supplyAt 176 = .ok (.getfield 7, 3) := by decide +kernel
theorem dX11_supplyAt_179 : decode cX11_supplyAt 179 = .ok (.bipush 69, 2) := by decide +kernel
theorem dX11_supplyAt_181 : decode cX11_supplyAt 181 = .ok (.iconst 2, 1) := by decide +kernel
theorem dX11_supplyAt_182 : decode cX11_supplyAt 182 = .ok (.iload_n 3, 1) := by decide +kernel
theorem dX11_supplyAt_183 : decode cX11_supplyAt 183 = .ok (.imul, 1) := by decide +kernel
theorem dX11_supplyAt_184 : decode cX11_supplyAt 184 = .ok (.iadd, 1) := by decide +kernel
theorem dX11_supplyAt_185 : decode cX11_supplyAt 185 = .ok (.iconst 1, 1) := by decide +kernel
theorem dX11_supplyAt_186 : decode cX11_supplyAt 186 = .ok (.iadd, 1) := by decide +kernel
theorem dX11_supplyAt_187 : decode cX11_supplyAt 187 = .ok (.laload, 1) := by decide +kernel
theorem dX11_supplyAt_188 : decode cX11_supplyAt 188 = .ok (.lstore 9, 2) := by decide +kernel
theorem dX11_supplyAt_190 : decode cX11_supplyAt 190 = .ok (.aload_n 0, 1) := by decide +kernel
theorem dX11_supplyAt_191 : decode cX11_supplyAt 191 = .ok (.getfield 7, 3) := by decide +kernel
theorem dX11_supplyAt_194 : decode cX11_supplyAt 194 = .ok (.bipush 69, 2) := by decide +kernel
theorem dX11_supplyAt_196 : decode cX11_supplyAt 196 = .ok (.iconst 2, 1) := by decide +kernel
theorem dX11_supplyAt_197 : decode cX11_supplyAt 197 = .ok (.iload 4, 2) := by decide +kernel
theorem dX11_supplyAt_199 : decode cX11_supplyAt 199 = .ok (.imul, 1) := by decide +kernel
theorem dX11_supplyAt_200 : decode cX11_supplyAt 200 = .ok (.iadd, 1) := by decide +kernel
theorem dX11_supplyAt_201 : decode cX11_supplyAt 201 = .ok (.iconst 1, 1) := by decide +kernel
theorem dX11_supplyAt_202 : decode cX11_supplyAt 202 = .ok (.iadd, 1) := by decide +kernel
theorem dX11_supplyAt_203 : decode cX11_supplyAt 203 = .ok (.laload, 1) := by decide +kernel
theorem dX11_supplyAt_204 : decode cX11_supplyAt 204 = .ok (.lstore 11, 2) := by decide +kernel
theorem dX11_supplyAt_206 : decode cX11_supplyAt 206 = .ok (.lload 9, 2) := by decide +kernel
theorem dX11_supplyAt_208 : decode cX11_supplyAt 208 = .ok (.lload 11, 2) := by decide +kernel
theorem dX11_supplyAt_210 : decode cX11_supplyAt 210 = .ok (.lload 9, 2) := by decide +kernel
theorem dX11_supplyAt_212 : decode cX11_supplyAt 212 = .ok (.lsub, 1) := by decide +kernel
theorem dX11_supplyAt_213 : decode cX11_supplyAt 213 = .ok (.lload_n 1, 1) := by decide +kernel
theorem dX11_supplyAt_214 : decode cX11_supplyAt 214 = .ok (.lload 5, 2) := by decide +kernel
theorem dX11_supplyAt_216 : decode cX11_supplyAt 216 = .ok (.lsub, 1) := by decide +kernel
theorem dX11_supplyAt_217 : decode cX11_supplyAt 217 = .ok (.lmul, 1) := by decide +kernel
theorem dX11_supplyAt_218 : decode cX11_supplyAt 218 = .ok (.lload 7, 2) := by decide +kernel
theorem dX11_supplyAt_220 : decode cX11_supplyAt 220 = .ok (.lload 5, 2) := by decide +kernel
theorem dX11_supplyAt_222 : decode cX11_supplyAt 222 = .ok (.lsub, 1) := by decide +kernel
theorem dX11_supplyAt_223 : decode cX11_supplyAt 223 = .ok (.invokestatic 84, 3) := by decide +kernel
theorem dX11_supplyAt_226 : decode cX11_supplyAt 226 = .ok (.ladd, 1) := by decide +kernel
theorem dX11_supplyAt_227 : decode cX11_supplyAt 227 = .ok (.lreturn, 1) := by decide +kernel
set_option maxRecDepth 20000 in
theorem ggX11_supply_X11_in : GoodIn wsX11_supply wsX11_in := goodIn_r _ [6] (by decide +kernel) (by decide +kernel)
set_option maxRecDepth 20000 in
theorem gX11_supply_X11_in : GoodIn wsX11_supply (va_wsS RX11 56 yX11_in wsX11_in) := goodIn_app (goodIn_of _ (by decide +kernel)) ggX11_supply_X11_in
set_option maxRecDepth 20000 in
theorem ggX11_supply_X11_supplyAt : GoodIn wsX11_supply wsX11_supplyAt := goodIn_r _ [10, 11, 12, 13, 5, 14, 15, 16, 17, 18, 19, 20, 21, 22, 23, 24] (by decide +kernel) (by decide +kernel)
set_option maxRecDepth 20000 in
theorem gX11_supply_X11_supplyAt : GoodIn wsX11_supply (wsV RX11 100 RX11 yX11_supplyAt wsX11_supplyAt) := goodIn_app (goodIn_of _ (by decide +kernel)) ggX11_supply_X11_supplyAt
theorem dX11_supply_0 : decode cX11_supply 0 = .ok (.iload_n 1, 1) := by decide +kernel
theorem dX11_supply_1 : decode cX11_supply 1 = .ok (.i2l, 1) := by decide +kernel
theorem dX11_supply_2 : decode cX11_supply 2 = .ok (.ldc2_w 80, 3) := by decide +kernel
theorem dX11_supply_5 : decode cX11_supply 5 = .ok (.ldc2_w 82, 3) := by decide +kernel
theorem dX11_supply_8 : decode cX11_supply 8 = .ok (.invokestatic 56, 3) := by decide +kernel
theorem dX11_supply_11 : decode cX11_supply 11 = .ok (.ifCond .eq 13, 3) := by decide +kernel
theorem dX11_supply_14 : decode cX11_supply 14 = .ok (.aload_n 0, 1) := by decide +kernel
theorem dX11_supply_15 : decode cX11_supply 15 = .ok (.iload_n 1, 1) := by decide +kernel
theorem dX11_supply_16 : decode cX11_supply 16 = .ok (.i2l, 1) := by decide +kernel
theorem dX11_supply_17 : decode cX11_supply 17 = .ok (.invokevirtual 100, 3) := by decide +kernel
theorem dX11_supply_20 : decode cX11_supply 20 = .ok (.l2i, 1) := by decide +kernel
theorem dX11_supply_21 : decode cX11_supply 21 = .ok (.goto 6, 3) := by decide +kernel
theorem dX11_supply_24 : decode cX11_supply 24 = .ok (.sipush (-9999), 3) := by decide +kernel
theorem dX11_supply_27 : decode cX11_supply 27 = .ok (.ireturn, 1) := by decide +kernel
set_option maxRecDepth 20000 in
theorem ggX11_targetOf_X11_supplyAt : GoodIn wsX11_targetOf wsX11_supplyAt := goodIn_r _ [6, 1, 7, 8, 5, 9, 14, 15, 16, 17, 18, 19, 20, 21, 22, 23] (by decide +kernel) (by decide +kernel)
set_option maxRecDepth 20000 in
theorem gX11_targetOf_X11_supplyAt : GoodIn wsX11_targetOf (wsV RX11 100 RX11 yX11_supplyAt wsX11_supplyAt) := goodIn_app (goodIn_of _ (by decide +kernel)) ggX11_targetOf_X11_supplyAt
set_option maxRecDepth 20000 in
theorem ggX11_targetOf_X11_set1 : GoodIn wsX11_targetOf wsX11_set1 := goodIn_r _ [13, 1, 14, 15, 16, 17, 18, 19, 20, 21, 22, 23] (by decide +kernel) (by decide +kernel)
set_option maxRecDepth 20000 in
theorem gX11_targetOf_X11_set1 : GoodIn wsX11_targetOf (wsV RX11 72 RX11 yX11_set1 wsX11_set1) := goodIn_app (goodIn_of _ (by decide +kernel)) ggX11_targetOf_X11_set1
theorem dX11_targetOf_0 : decode cX11_targetOf 0 = .ok (.aload_n 0, 1) := by decide +kernel
theorem dX11_targetOf_1 : decode cX11_targetOf 1 = .ok (.aload_n 0, 1) := by decide +kernel
theorem dX11_targetOf_2 : decode cX11_targetOf 2 = .ok (.getfield 7, 3) := by decide +kernel
theorem dX11_targetOf_5 : decode cX11_targetOf 5 = .ok (.bipush 17, 2) := by decide +kernel
theorem dX11_targetOf_7 : decode cX11_targetOf 7 = .ok (.iload_n 1, 1) := by decide +kernel
theorem dX11_targetOf_8 : decode cX11_targetOf 8 = .ok (.iadd, 1) := by decide +kernel
theorem dX11_targetOf_9 : decode cX11_targetOf 9 = .ok (.laload, 1) := by decide +kernel
theorem dX11_targetOf_10 : decode cX11_targetOf 10 = .ok (.invokevirtual 100, 3) := by decide +kernel
theorem dX11_targetOf_13 : decode cX11_targetOf 13 = .ok (.aload_n 0, 1) := by decide +kernel
theorem dX11_targetOf_14 : decode cX11_targetOf 14 = .ok (.getfield 7, 3) := by decide +kernel
theorem dX11_targetOf_17 : decode cX11_targetOf 17 = .ok (.bipush 41, 2) := by decide +kernel
theorem dX11_targetOf_19 : decode cX11_targetOf 19 = .ok (.iload_n 1, 1) := by decide +kernel
theorem dX11_targetOf_20 : decode cX11_targetOf 20 = .ok (.iadd, 1) := by decide +kernel
theorem dX11_targetOf_21 : decode cX11_targetOf 21 = .ok (.laload, 1) := by decide +kernel
theorem dX11_targetOf_22 : decode cX11_targetOf 22 = .ok (.lconst 0, 1) := by decide +kernel
theorem dX11_targetOf_23 : decode cX11_targetOf 23 = .ok (.lcmp, 1) := by decide +kernel
theorem dX11_targetOf_24 : decode cX11_targetOf 24 = .ok (.ifCond .ne 11, 3) := by decide +kernel
theorem dX11_targetOf_27 : decode cX11_targetOf 27 = .ok (.aload_n 0, 1) := by decide +kernel
theorem dX11_targetOf_28 : decode cX11_targetOf 28 = .ok (.iconst 5, 1) := by decide +kernel
theorem dX11_targetOf_29 : decode cX11_targetOf 29 = .ok (.invokevirtual 72, 3) := by decide +kernel
theorem dX11_targetOf_32 : decode cX11_targetOf 32 = .ok (.goto 4, 3) := by decide +kernel
theorem dX11_targetOf_35 : decode cX11_targetOf 35 = .ok (.lconst 0, 1) := by decide +kernel
theorem dX11_targetOf_36 : decode cX11_targetOf 36 = .ok (.ladd, 1) := by decide +kernel
theorem dX11_targetOf_37 : decode cX11_targetOf 37 = .ok (.lreturn, 1) := by decide +kernel
set_option maxRecDepth 20000 in
theorem ggX11_target_X11_isHour : GoodIn wsX11_target wsX11_isHour := goodIn_r _ [4, 5, 6, 7, 3, 8] (by decide +kernel) (by decide +kernel)
set_option maxRecDepth 20000 in
theorem gX11_target_X11_isHour : GoodIn wsX11_target (va_wsS RX11 76 yX11_isHour wsX11_isHour) := goodIn_app (goodIn_of _ (by decide +kernel)) ggX11_target_X11_isHour
set_option maxRecDepth 20000 in
theorem ggX11_target_X11_targetOf : GoodIn wsX11_target wsX11_targetOf := goodIn_r _ [12, 13, 14, 15, 16, 3, 17, 18, 19, 20, 21, 22, 23, 24, 25, 26, 27, 28, 29, 30, 31, 32, 33, 34] (by decide +kernel) (by decide +kernel)
set_option maxRecDepth 20000 in
theorem gX11_target_X11_targetOf : GoodIn wsX11_target (wsV RX11 104 RX11 yX11_targetOf wsX11_targetOf) := goodIn_app (goodIn_of _ (by decide +kernel)) ggX11_target_X11_targetOf
theorem dX11_target_0 : decode cX11_target 0 = .ok (.iload_n 1, 1) := by decide +kernel
theorem dX11_target_1 : decode cX11_target 1 = .ok (.invokestatic 76, 3) := by decide +kernel
theorem dX11_target_4 : decode cX11_target 4 = .ok (.ifCond .eq 12, 3) := by decide +kernel
theorem dX11_target_7 : decode cX11_target 7 = .ok (.aload_n 0, 1) := by decide +kernel
theorem dX11_target_8 : decode cX11_target 8 = .ok (.iload_n 1, 1) := by decide +kernel
theorem dX11_target_9 : decode cX11_target 9 = .ok (.invokevirtual 104, 3) := by decide +kernel
theorem dX11_target_12 : decode cX11_target 12 = .ok (.l2i, 1) := by decide +kernel
theorem dX11_target_13 : decode cX11_target 13 = .ok (.goto 6, 3) := by decide +kernel
theorem dX11_target_16 : decode cX11_target 16 = .ok (.sipush (-9999), 3) := by decide +kernel
theorem dX11_target_19 : decode cX11_target 19 = .ok (.ireturn, 1) := by decide +kernel
theorem dX11_layEnergies_0 : decode cX11_layEnergies 0 = .ok (.aload_n 0, 1) := by decide +kernel
theorem dX11_layEnergies_1 : decode cX11_layEnergies 1 = .ok (.getfield 7, 3) := by decide +kernel
theorem dX11_layEnergies_4 : decode cX11_layEnergies 4 = .ok (.bipush 81, 2) := by decide +kernel
theorem dX11_layEnergies_6 : decode cX11_layEnergies 6 = .ok (.iload_n 1, 1) := by decide +kernel
theorem dX11_layEnergies_7 : decode cX11_layEnergies 7 = .ok (.i2l, 1) := by decide +kernel
theorem dX11_layEnergies_8 : decode cX11_layEnergies 8 = .ok (.lastore, 1) := by decide +kernel
theorem dX11_layEnergies_9 : decode cX11_layEnergies 9 = .ok (.iconst 0, 1) := by decide +kernel
theorem dX11_layEnergies_10 : decode cX11_layEnergies 10 = .ok (.istore_n 3, 1) := by decide +kernel
theorem dX11_layEnergies_11 : decode cX11_layEnergies 11 = .ok (.iload_n 3, 1) := by decide +kernel
theorem dX11_layEnergies_12 : decode cX11_layEnergies 12 = .ok (.iconst 4, 1) := by decide +kernel
theorem dX11_layEnergies_13 : decode cX11_layEnergies 13 = .ok (.if_icmp .ge 23, 3) := by decide +kernel
theorem dX11_layEnergies_16 : decode cX11_layEnergies 16 = .ok (.aload_n 0, 1) := by decide +kernel
theorem dX11_layEnergies_17 : decode cX11_layEnergies 17 = .ok (.getfield 7, 3) := by decide +kernel
theorem dX11_layEnergies_20 : decode cX11_layEnergies 20 = .ok (.bipush 82, 2) := by decide +kernel
theorem dX11_layEnergies_22 : decode cX11_layEnergies 22 = .ok (.iload_n 3, 1) := by decide +kernel
theorem dX11_layEnergies_23 : decode cX11_layEnergies 23 = .ok (.iadd, 1) := by decide +kernel
theorem dX11_layEnergies_24 : decode cX11_layEnergies 24 = .ok (.iload_n 1, 1) := by decide +kernel
theorem dX11_layEnergies_25 : decode cX11_layEnergies 25 = .ok (.i2l, 1) := by decide +kernel
theorem dX11_layEnergies_26 : decode cX11_layEnergies 26 = .ok (.iload_n 2, 1) := by decide +kernel
theorem dX11_layEnergies_27 : decode cX11_layEnergies 27 = .ok (.i2l, 1) := by decide +kernel
theorem dX11_layEnergies_28 : decode cX11_layEnergies 28 = .ok (.lmul, 1) := by decide +kernel
theorem dX11_layEnergies_29 : decode cX11_layEnergies 29 = .ok (.lastore, 1) := by decide +kernel
theorem dX11_layEnergies_30 : decode cX11_layEnergies 30 = .ok (.iinc 3 1, 3) := by decide +kernel
theorem dX11_layEnergies_33 : decode cX11_layEnergies 33 = .ok (.goto (-22), 3) := by decide +kernel
theorem dX11_layEnergies_36 : decode cX11_layEnergies 36 = .ok (.return_, 1) := by decide +kernel
set_option maxRecDepth 20000 in
theorem ggX11_fill_X11_in : GoodIn wsX11_fill wsX11_in := goodIn_r _ [8] (by decide +kernel) (by decide +kernel)
set_option maxRecDepth 20000 in
theorem gX11_fill_X11_in : GoodIn wsX11_fill (va_wsS RX11 56 yX11_in wsX11_in) := goodIn_app (goodIn_of _ (by decide +kernel)) ggX11_fill_X11_in
set_option maxRecDepth 20000 in
theorem ggX11_fill_X11_records : GoodIn wsX11_fill wsX11_records := goodIn_r _ [12, 4, 13, 14, 15, 7, 16, 17, 22, 23, 24, 25, 26, 27, 28, 29, 30, 31] (by decide +kernel) (by decide +kernel)
set_option maxRecDepth 20000 in
theorem gX11_fill_X11_records : GoodIn wsX11_fill (wsV RX11 68 RX11 yX11_records wsX11_records) := goodIn_app (goodIn_of _ (by decide +kernel)) ggX11_fill_X11_records
set_option maxRecDepth 20000 in
theorem ggX11_fill_X11_layEnergies : GoodIn wsX11_fill wsX11_layEnergies := goodIn_r _ [21, 17, 22, 23, 24, 25, 26, 27, 28, 29, 30, 31] (by decide +kernel) (by decide +kernel)
set_option maxRecDepth 20000 in
theorem gX11_fill_X11_layEnergies : GoodIn wsX11_fill (wsV RX11 39 RX11 yX11_layEnergies wsX11_layEnergies) := goodIn_app (goodIn_of _ (by decide +kernel)) ggX11_fill_X11_layEnergies
theorem dX11_fill_0 : decode cX11_fill 0 = .ok (.iload_n 1, 1) := by decide +kernel
theorem dX11_fill_1 : decode cX11_fill 1 = .ok (.i2l, 1) := by decide +kernel
theorem dX11_fill_2 : decode cX11_fill 2 = .ok (.ldc2_w 107, 3) := by decide +kernel
theorem dX11_fill_5 : decode cX11_fill 5 = .ok (.ldc2_w 109, 3) := by decide +kernel
theorem dX11_fill_8 : decode cX11_fill 8 = .ok (.invokestatic 56, 3) := by decide +kernel
theorem dX11_fill_11 : decode cX11_fill 11 = .ok (.ifCond .eq 15, 3) := by decide +kernel
theorem dX11_fill_14 : decode cX11_fill 14 = .ok (.iload_n 2, 1) := by decide +kernel
theorem dX11_fill_15 : decode cX11_fill 15 = .ok (.i2l, 1) := by decide +kernel
theorem dX11_fill_16 : decode cX11_fill 16 = .ok (.lconst 0, 1) := by decide +kernel
theorem dX11_fill_17 : decode cX11_fill 17 = .ok (.ldc2_w 111, 3) := by decide +kernel
theorem dX11_fill_20 : decode cX11_fill 20 = .ok (.invokestatic 56, 3) := by decide +kernel
theorem dX11_fill_23 : decode cX11_fill 23 = .ok (.ifCond .ne 5, 3) := by decide +kernel
theorem dX11_fill_26 : decode cX11_fill 26 = .ok (.iconst (-1), 1) := by decide +kernel
theorem dX11_fill_27 : decode cX11_fill 27 = .ok (.ireturn, 1) := by decide +kernel
theorem dX11_fill_28 : decode cX11_fill 28 = .ok (.aload_n 0, 1) := by decide +kernel
theorem dX11_fill_29 : decode cX11_fill 29 = .ok (.invokevirtual 68, 3) := by decide +kernel
theorem dX11_fill_32 : decode cX11_fill 32 = .ok (.pop, 1) := by decide +kernel
theorem dX11_fill_33 : decode cX11_fill 33 = .ok (.aload_n 0, 1) := by decide +kernel
theorem dX11_fill_34 : decode cX11_fill 34 = .ok (.iload_n 1, 1) := by decide +kernel
theorem dX11_fill_35 : decode cX11_fill 35 = .ok (.iload_n 2, 1) := by decide +kernel
theorem dX11_fill_36 : decode cX11_fill 36 = .ok (.invokevirtual 39, 3) := by decide +kernel
theorem dX11_fill_39 : decode cX11_fill 39 = .ok (.aload_n 0, 1) := by decide +kernel
theorem dX11_fill_40 : decode cX11_fill 40 = .ok (.getfield 47, 3) := by decide +kernel
theorem dX11_fill_43 : decode cX11_fill 43 = .ok (.ireturn, 1) := by decide +kernel
set_option maxRecDepth 20000 in
theorem ggX11_warmth_X11_div : GoodIn wsX11_warmth wsX11_div := goodIn_r _ [5] (by decide +kernel) (by decide +kernel)
set_option maxRecDepth 20000 in
theorem gX11_warmth_X11_div : GoodIn wsX11_warmth (va_wsS RX11 84 yX11_div wsX11_div) := goodIn_app (goodIn_of _ (by decide +kernel)) ggX11_warmth_X11_div
theorem dX11_warmth_0 : decode cX11_warmth 0 = .ok (.aload_n 0, 1) := by decide +kernel
theorem dX11_warmth_1 : decode cX11_warmth 1 = .ok (.getfield 7, 3) := by decide +kernel
theorem dX11_warmth_4 : decode cX11_warmth 4 = .ok (.bipush 82, 2) := by decide +kernel
theorem dX11_warmth_6 : decode cX11_warmth 6 = .ok (.iload_n 1, 1) := by decide +kernel
theorem dX11_warmth_7 : decode cX11_warmth 7 = .ok (.iadd, 1) := by decide +kernel
theorem dX11_warmth_8 : decode cX11_warmth 8 = .ok (.laload, 1) := by decide +kernel
theorem dX11_warmth_9 : decode cX11_warmth 9 = .ok (.aload_n 0, 1) := by decide +kernel
theorem dX11_warmth_10 : decode cX11_warmth 10 = .ok (.getfield 7, 3) := by decide +kernel
theorem dX11_warmth_13 : decode cX11_warmth 13 = .ok (.bipush 81, 2) := by decide +kernel
theorem dX11_warmth_15 : decode cX11_warmth 15 = .ok (.laload, 1) := by decide +kernel
theorem dX11_warmth_16 : decode cX11_warmth 16 = .ok (.invokestatic 84, 3) := by decide +kernel
theorem dX11_warmth_19 : decode cX11_warmth 19 = .ok (.lreturn, 1) := by decide +kernel
set_option maxRecDepth 20000 in
theorem ggX11_temperature_X11_in : GoodIn wsX11_temperature wsX11_in := goodIn_r _ [5] (by decide +kernel) (by decide +kernel)
set_option maxRecDepth 20000 in
theorem gX11_temperature_X11_in : GoodIn wsX11_temperature (va_wsS RX11 56 yX11_in wsX11_in) := goodIn_app (goodIn_of _ (by decide +kernel)) ggX11_temperature_X11_in
set_option maxRecDepth 20000 in
theorem ggX11_temperature_X11_warmth : GoodIn wsX11_temperature wsX11_warmth := goodIn_r _ [9, 10, 11, 12, 4, 13, 14, 15, 16, 17, 18, 19, 20, 21, 22, 23] (by decide +kernel) (by decide +kernel)
set_option maxRecDepth 20000 in
theorem gX11_temperature_X11_warmth : GoodIn wsX11_temperature (wsV RX11 115 RX11 yX11_warmth wsX11_warmth) := goodIn_app (goodIn_of _ (by decide +kernel)) ggX11_temperature_X11_warmth
theorem dX11_temperature_0 : decode cX11_temperature 0 = .ok (.iload_n 1, 1) := by decide +kernel
theorem dX11_temperature_1 : decode cX11_temperature 1 = .ok (.i2l, 1) := by decide +kernel
theorem dX11_temperature_2 : decode cX11_temperature 2 = .ok (.lconst 0, 1) := by decide +kernel
theorem dX11_temperature_3 : decode cX11_temperature 3 = .ok (.ldc2_w 113, 3) := by decide +kernel
theorem dX11_temperature_6 : decode cX11_temperature 6 = .ok (.invokestatic 56, 3) := by decide +kernel
theorem dX11_temperature_9 : decode cX11_temperature 9 = .ok (.ifCond .eq 12, 3) := by decide +kernel
theorem dX11_temperature_12 : decode cX11_temperature 12 = .ok (.aload_n 0, 1) := by decide +kernel
theorem dX11_temperature_13 : decode cX11_temperature 13 = .ok (.iload_n 1, 1) := by decide +kernel
theorem dX11_temperature_14 : decode cX11_temperature 14 = .ok (.invokevirtual 115, 3) := by decide +kernel
theorem dX11_temperature_17 : decode cX11_temperature 17 = .ok (.l2i, 1) := by decide +kernel
theorem dX11_temperature_18 : decode cX11_temperature 18 = .ok (.goto 6, 3) := by decide +kernel
theorem dX11_temperature_21 : decode cX11_temperature 21 = .ok (.sipush (-9999), 3) := by decide +kernel
theorem dX11_temperature_24 : decode cX11_temperature 24 = .ok (.ireturn, 1) := by decide +kernel
theorem dX11_stored_0 : decode cX11_stored 0 = .ok (.aload_n 0, 1) := by decide +kernel
theorem dX11_stored_1 : decode cX11_stored 1 = .ok (.getfield 7, 3) := by decide +kernel
theorem dX11_stored_4 : decode cX11_stored 4 = .ok (.bipush 82, 2) := by decide +kernel
theorem dX11_stored_6 : decode cX11_stored 6 = .ok (.laload, 1) := by decide +kernel
theorem dX11_stored_7 : decode cX11_stored 7 = .ok (.aload_n 0, 1) := by decide +kernel
theorem dX11_stored_8 : decode cX11_stored 8 = .ok (.getfield 7, 3) := by decide +kernel
theorem dX11_stored_11 : decode cX11_stored 11 = .ok (.bipush 83, 2) := by decide +kernel
theorem dX11_stored_13 : decode cX11_stored 13 = .ok (.laload, 1) := by decide +kernel
theorem dX11_stored_14 : decode cX11_stored 14 = .ok (.ladd, 1) := by decide +kernel
theorem dX11_stored_15 : decode cX11_stored 15 = .ok (.aload_n 0, 1) := by decide +kernel
theorem dX11_stored_16 : decode cX11_stored 16 = .ok (.getfield 7, 3) := by decide +kernel
theorem dX11_stored_19 : decode cX11_stored 19 = .ok (.bipush 84, 2) := by decide +kernel
theorem dX11_stored_21 : decode cX11_stored 21 = .ok (.laload, 1) := by decide +kernel
theorem dX11_stored_22 : decode cX11_stored 22 = .ok (.ladd, 1) := by decide +kernel
theorem dX11_stored_23 : decode cX11_stored 23 = .ok (.aload_n 0, 1) := by decide +kernel
theorem dX11_stored_24 : decode cX11_stored 24 = .ok (.getfield 7, 3) := by decide +kernel
theorem dX11_stored_27 : decode cX11_stored 27 = .ok (.bipush 85, 2) := by decide +kernel
theorem dX11_stored_29 : decode cX11_stored 29 = .ok (.laload, 1) := by decide +kernel
theorem dX11_stored_30 : decode cX11_stored 30 = .ok (.ladd, 1) := by decide +kernel
theorem dX11_stored_31 : decode cX11_stored 31 = .ok (.lreturn, 1) := by decide +kernel
theorem dX11_startsLately_0 : decode cX11_startsLately 0 = .ok (.iconst 0, 1) := by decide +kernel
theorem dX11_startsLately_1 : decode cX11_startsLately 1 = .ok (.istore_n 1, 1) := by decide +kernel
theorem dX11_startsLately_2 : decode cX11_startsLately 2 = .ok (.iconst 0, 1) := by decide +kernel
theorem dX11_startsLately_3 : decode cX11_startsLately 3 = .ok (.istore_n 2, 1) := by decide +kernel
theorem dX11_startsLately_4 : decode cX11_startsLately 4 = .ok (.iload_n 2, 1) := by decide +kernel
theorem dX11_startsLately_5 : decode cX11_startsLately 5 = .ok (.bipush 60, 2) := by decide +kernel
theorem dX11_startsLately_7 : decode cX11_startsLately 7 = .ok (.if_icmp .ge 22, 3) := by decide +kernel
theorem dX11_startsLately_10 : decode cX11_startsLately 10 = .ok (.iload_n 1, 1) := by decide +kernel
theorem dX11_startsLately_11 : decode cX11_startsLately 11 = .ok (.aload_n 0, 1) := by decide +kernel
theorem dX11_startsLately_12 : decode cX11_startsLately 12 = .ok (.getfield 7, 3) := by decide +kernel
theorem dX11_startsLately_15 : decode cX11_startsLately 15 = .ok (.bipush 114, 2) := by decide +kernel
theorem dX11_startsLately_17 : decode cX11_startsLately 17 = .ok (.iload_n 2, 1) := by decide +kernel
theorem dX11_startsLately_18 : decode cX11_startsLately 18 = .ok (.iadd, 1) := by decide +kernel
theorem dX11_startsLately_19 : decode cX11_startsLately 19 = .ok (.laload, 1) := by decide +kernel
theorem dX11_startsLately_20 : decode cX11_startsLately 20 = .ok (.l2i, 1) := by decide +kernel
theorem dX11_startsLately_21 : decode cX11_startsLately 21 = .ok (.iadd, 1) := by decide +kernel
theorem dX11_startsLately_22 : decode cX11_startsLately 22 = .ok (.istore_n 1, 1) := by decide +kernel
theorem dX11_startsLately_23 : decode cX11_startsLately 23 = .ok (.iinc 2 1, 3) := by decide +kernel
theorem dX11_startsLately_26 : decode cX11_startsLately 26 = .ok (.goto (-22), 3) := by decide +kernel
theorem dX11_startsLately_29 : decode cX11_startsLately 29 = .ok (.iload_n 1, 1) := by decide +kernel
theorem dX11_startsLately_30 : decode cX11_startsLately 30 = .ok (.ireturn, 1) := by decide +kernel
set_option maxRecDepth 20000 in
theorem ggX11_ruleOn_X11_warmth : GoodIn wsX11_ruleOn wsX11_warmth := goodIn_r _ [6, 1, 7, 8, 5, 9, 14, 15, 16, 17, 18, 19, 20, 21, 22, 23] (by decide +kernel) (by decide +kernel)
set_option maxRecDepth 20000 in
theorem gX11_ruleOn_X11_warmth : GoodIn wsX11_ruleOn (wsV RX11 115 RX11 yX11_warmth wsX11_warmth) := goodIn_app (goodIn_of _ (by decide +kernel)) ggX11_ruleOn_X11_warmth
set_option maxRecDepth 20000 in
theorem ggX11_ruleOn_X11_set1 : GoodIn wsX11_ruleOn wsX11_set1 := goodIn_r _ [13, 1, 14, 15, 16, 17, 18, 19, 20, 21, 22, 23] (by decide +kernel) (by decide +kernel)
set_option maxRecDepth 20000 in
theorem gX11_ruleOn_X11_set1 : GoodIn wsX11_ruleOn (wsV RX11 72 RX11 yX11_set1 wsX11_set1) := goodIn_app (goodIn_of _ (by decide +kernel)) ggX11_ruleOn_X11_set1
theorem dX11_ruleOn_0 : decode cX11_ruleOn 0 = .ok (.aload_n 0, 1) := by decide +kernel
theorem dX11_ruleOn_1 : decode cX11_ruleOn 1 = .ok (.iconst 3, 1) := by decide +kernel
theorem dX11_ruleOn_2 : decode cX11_ruleOn 2 = .ok (.invokevirtual 115, 3) := by decide +kernel
theorem dX11_ruleOn_5 : decode cX11_ruleOn 5 = .ok (.aload_n 0, 1) := by decide +kernel
theorem dX11_ruleOn_6 : decode cX11_ruleOn 6 = .ok (.iconst 4, 1) := by decide +kernel
theorem dX11_ruleOn_7 : decode cX11_ruleOn 7 = .ok (.invokevirtual 72, 3) := by decide +kernel
theorem dX11_ruleOn_10 : decode cX11_ruleOn 10 = .ok (.lcmp, 1) := by decide +kernel
theorem dX11_ruleOn_11 : decode cX11_ruleOn 11 = .ok (.ifCond .lt 5, 3) := by decide +kernel
theorem dX11_ruleOn_14 : decode cX11_ruleOn 14 = .ok (.iconst 1, 1) := by decide +kernel
theorem dX11_ruleOn_15 : decode cX11_ruleOn 15 = .ok (.ireturn, 1) := by decide +kernel
theorem dX11_ruleOn_16 : decode cX11_ruleOn 16 = .ok (.aload_n 0, 1) := by decide +kernel
theorem dX11_ruleOn_17 : decode cX11_ruleOn 17 = .ok (.getfield 7, 3) := by decide +kernel
theorem dX11_ruleOn_20 : decode cX11_ruleOn 20 = .ok (.bipush 87, 2) := by decide +kernel
theorem dX11_ruleOn_22 : decode cX11_ruleOn 22 = .ok (.laload, 1) := by decide +kernel
theorem dX11_ruleOn_23 : decode cX11_ruleOn 23 = .ok (.aload_n 0, 1) := by decide +kernel
theorem dX11_ruleOn_24 : decode cX11_ruleOn 24 = .ok (.iconst 0, 1) := by decide +kernel
theorem dX11_ruleOn_25 : decode cX11_ruleOn 25 = .ok (.invokevirtual 72, 3) := by decide +kernel
theorem dX11_ruleOn_28 : decode cX11_ruleOn 28 = .ok (.lcmp, 1) := by decide +kernel
theorem dX11_ruleOn_29 : decode cX11_ruleOn 29 = .ok (.ifCond .ge 5, 3) := by decide +kernel
theorem dX11_ruleOn_32 : decode cX11_ruleOn 32 = .ok (.iconst 2, 1) := by decide +kernel
theorem dX11_ruleOn_33 : decode cX11_ruleOn 33 = .ok (.ireturn, 1) := by decide +kernel
theorem dX11_ruleOn_34 : decode cX11_ruleOn 34 = .ok (.aload_n 0, 1) := by decide +kernel
theorem dX11_ruleOn_35 : decode cX11_ruleOn 35 = .ok (.iconst 0, 1) := by decide +kernel
theorem dX11_ruleOn_36 : decode cX11_ruleOn 36 = .ok (.invokevirtual 115, 3) := by decide +kernel
theorem dX11_ruleOn_39 : decode cX11_ruleOn 39 = .ok (.lload_n 1, 1) := by decide +kernel
theorem dX11_ruleOn_40 : decode cX11_ruleOn 40 = .ok (.aload_n 0, 1) := by decide +kernel
theorem dX11_ruleOn_41 : decode cX11_ruleOn 41 = .ok (.iconst 3, 1) := by decide +kernel
theorem dX11_ruleOn_42 : decode cX11_ruleOn 42 = .ok (.invokevirtual 72, 3) := by decide +kernel
theorem dX11_ruleOn_45 : decode cX11_ruleOn 45 = .ok (.ladd, 1) := by decide +kernel
theorem dX11_ruleOn_46 : decode cX11_ruleOn 46 = .ok (.lcmp, 1) := by decide +kernel
theorem dX11_ruleOn_47 : decode cX11_ruleOn 47 = .ok (.ifCond .lt 5, 3) := by decide +kernel
theorem dX11_ruleOn_50 : decode cX11_ruleOn 50 = .ok (.iconst 3, 1) := by decide +kernel
theorem dX11_ruleOn_51 : decode cX11_ruleOn 51 = .ok (.ireturn, 1) := by decide +kernel
theorem dX11_ruleOn_52 : decode cX11_ruleOn 52 = .ok (.aload_n 0, 1) := by decide +kernel
theorem dX11_ruleOn_53 : decode cX11_ruleOn 53 = .ok (.getfield 7, 3) := by decide +kernel
theorem dX11_ruleOn_56 : decode cX11_ruleOn 56 = .ok (.bipush 89, 2) := by decide +kernel
theorem dX11_ruleOn_58 : decode cX11_ruleOn 58 = .ok (.laload, 1) := by decide +kernel
theorem dX11_ruleOn_59 : decode cX11_ruleOn 59 = .ok (.aload_n 0, 1) := by decide +kernel
theorem dX11_ruleOn_60 : decode cX11_ruleOn 60 = .ok (.bipush 10, 2) := by decide +kernel
theorem dX11_ruleOn_62 : decode cX11_ruleOn 62 = .ok (.invokevirtual 72, 3) := by decide +kernel
theorem dX11_ruleOn_65 : decode cX11_ruleOn 65 = .ok (.lcmp, 1) := by decide +kernel
theorem dX11_ruleOn_66 : decode cX11_ruleOn 66 = .ok (.ifCond .lt 7, 3) := by decide +kernel
theorem dX11_ruleOn_69 : decode cX11_ruleOn 69 = .ok (.iconst 4, 1) := by decide +kernel
theorem dX11_ruleOn_70 : decode cX11_ruleOn 70 = .ok (.goto 4, 3) := by decide +kernel
theorem dX11_ruleOn_73 : decode cX11_ruleOn 73 = .ok (.iconst 5, 1) := by decide +kernel
theorem dX11_ruleOn_74 : decode cX11_ruleOn 74 = .ok (.ireturn, 1) := by decide +kernel
set_option maxRecDepth 20000 in
theorem ggX11_ruleOff_X11_warmth : GoodIn wsX11_ruleOff wsX11_warmth := goodIn_r _ [7, 1, 8, 9, 6, 10, 19, 20, 21, 22, 23, 24, 25, 26, 27, 28] (by decide +kernel) (by decide +kernel)
set_option maxRecDepth 20000 in
theorem gX11_ruleOff_X11_warmth : GoodIn wsX11_ruleOff (wsV RX11 115 RX11 yX11_warmth wsX11_warmth) := goodIn_app (goodIn_of _ (by decide +kernel)) ggX11_ruleOff_X11_warmth
set_option maxRecDepth 20000 in
theorem ggX11_ruleOff_X11_set1 : GoodIn wsX11_ruleOff wsX11_set1 := goodIn_r _ [14, 1, 19, 20, 21, 22, 23, 24, 25, 26, 27, 28] (by decide +kernel) (by decide +kernel)
set_option maxRecDepth 20000 in
theorem gX11_ruleOff_X11_set1 : GoodIn wsX11_ruleOff (wsV RX11 72 RX11 yX11_set1 wsX11_set1) := goodIn_app (goodIn_of _ (by decide +kernel)) ggX11_ruleOff_X11_set1
set_option maxRecDepth 20000 in
theorem ggX11_ruleOff_X11_startsLately : GoodIn wsX11_ruleOff wsX11_startsLately := goodIn_r _ [18, 1, 19, 20, 21, 22, 23, 24, 25, 26, 27, 28] (by decide +kernel) (by decide +kernel)
set_option maxRecDepth 20000 in
theorem gX11_ruleOff_X11_startsLately : GoodIn wsX11_ruleOff (wsV RX11 118 RX11 yX11_startsLately wsX11_startsLately) := goodIn_app (goodIn_of _ (by decide +kernel)) ggX11_ruleOff_X11_startsLately
theorem dX11_ruleOff_0 : decode cX11_ruleOff 0 = .ok (.aload_n 0, 1) := by decide +kernel
theorem dX11_ruleOff_1 : decode cX11_ruleOff 1 = .ok (.iconst 0, 1) := by decide +kernel
theorem dX11_ruleOff_2 : decode cX11_ruleOff 2 = .ok (.invokevirtual 115, 3) := by decide +kernel
theorem dX11_ruleOff_5 : decode cX11_ruleOff 5 = .ok (.lload_n 1, 1) := by decide +kernel
theorem dX11_ruleOff_6 : decode cX11_ruleOff 6 = .ok (.aload_n 0, 1) := by decide +kernel
theorem dX11_ruleOff_7 : decode cX11_ruleOff 7 = .ok (.iconst 3, 1) := by decide +kernel
theorem dX11_ruleOff_8 : decode cX11_ruleOff 8 = .ok (.invokevirtual 72, 3) := by decide +kernel
theorem dX11_ruleOff_11 : decode cX11_ruleOff 11 = .ok (.lsub, 1) := by decide +kernel
theorem dX11_ruleOff_12 : decode cX11_ruleOff 12 = .ok (.lcmp, 1) := by decide +kernel
theorem dX11_ruleOff_13 : decode cX11_ruleOff 13 = .ok (.ifCond .lt 6, 3) := by decide +kernel
theorem dX11_ruleOff_16 : decode cX11_ruleOff 16 = .ok (.bipush 6, 2) := by decide +kernel
theorem dX11_ruleOff_18 : decode cX11_ruleOff 18 = .ok (.ireturn, 1) := by decide +kernel
theorem dX11_ruleOff_19 : decode cX11_ruleOff 19 = .ok (.aload_n 0, 1) := by decide +kernel
theorem dX11_ruleOff_20 : decode cX11_ruleOff 20 = .ok (.iconst 3, 1) := by decide +kernel
theorem dX11_ruleOff_21 : decode cX11_ruleOff 21 = .ok (.invokevirtual 115, 3) := by decide +kernel
theorem dX11_ruleOff_24 : decode cX11_ruleOff 24 = .ok (.aload_n 0, 1) := by decide +kernel
theorem dX11_ruleOff_25 : decode cX11_ruleOff 25 = .ok (.iconst 4, 1) := by decide +kernel
theorem dX11_ruleOff_26 : decode cX11_ruleOff 26 = .ok (.invokevirtual 72, 3) := by decide +kernel
theorem dX11_ruleOff_29 : decode cX11_ruleOff 29 = .ok (.lcmp, 1) := by decide +kernel
theorem dX11_ruleOff_30 : decode cX11_ruleOff 30 = .ok (.ifCond .lt 6, 3) := by decide +kernel
theorem dX11_ruleOff_33 : decode cX11_ruleOff 33 = .ok (.bipush 7, 2) := by decide +kernel
theorem dX11_ruleOff_35 : decode cX11_ruleOff 35 = .ok (.ireturn, 1) := by decide +kernel
theorem dX11_ruleOff_36 : decode cX11_ruleOff 36 = .ok (.aload_n 0, 1) := by decide +kernel
theorem dX11_ruleOff_37 : decode cX11_ruleOff 37 = .ok (.getfield 7, 3) := by decide +kernel
theorem dX11_ruleOff_40 : decode cX11_ruleOff 40 = .ok (.bipush 88, 2) := by decide +kernel
theorem dX11_ruleOff_42 : decode cX11_ruleOff 42 = .ok (.laload, 1) := by decide +kernel
theorem dX11_ruleOff_43 : decode cX11_ruleOff 43 = .ok (.aload_n 0, 1) := by decide +kernel
theorem dX11_ruleOff_44 : decode cX11_ruleOff 44 = .ok (.iconst 1, 1) := by decide +kernel
theorem dX11_ruleOff_45 : decode cX11_ruleOff 45 = .ok (.invokevirtual 72, 3) := by decide +kernel
theorem dX11_ruleOff_48 : decode cX11_ruleOff 48 = .ok (.lcmp, 1) := by decide +kernel
theorem dX11_ruleOff_49 : decode cX11_ruleOff 49 = .ok (.ifCond .ge 6, 3) := by decide +kernel
theorem dX11_ruleOff_52 : decode cX11_ruleOff 52 = .ok (.bipush 8, 2) := by decide +kernel
theorem dX11_ruleOff_54 : decode cX11_ruleOff 54 = .ok (.ireturn, 1) := by decide +kernel
theorem dX11_ruleOff_55 : decode cX11_ruleOff 55 = .ok (.aload_n 0, 1) := by decide +kernel
theorem dX11_ruleOff_56 : decode cX11_ruleOff 56 = .ok (.invokevirtual 118, 3) := by decide +kernel
theorem dX11_ruleOff_59 : decode cX11_ruleOff 59 = .ok (.i2l, 1) := by decide +kernel
theorem dX11_ruleOff_60 : decode cX11_ruleOff 60 = .ok (.aload_n 0, 1) := by decide +kernel
theorem dX11_ruleOff_61 : decode cX11_ruleOff 61 = .ok (.iconst 2, 1) := by decide +kernel
theorem dX11_ruleOff_62 : decode cX11_ruleOff 62 = .ok (.invokevirtual 72, 3) := by decide +kernel
theorem dX11_ruleOff_65 : decode cX11_ruleOff 65 = .ok (.lcmp, 1) := by decide +kernel
theorem dX11_ruleOff_66 : decode cX11_ruleOff 66 = .ok (.ifCond .lt 6, 3) := by decide +kernel
theorem dX11_ruleOff_69 : decode cX11_ruleOff 69 = .ok (.bipush 9, 2) := by decide +kernel
theorem dX11_ruleOff_71 : decode cX11_ruleOff 71 = .ok (.ireturn, 1) := by decide +kernel
theorem dX11_ruleOff_72 : decode cX11_ruleOff 72 = .ok (.lload_n 3, 1) := by decide +kernel
theorem dX11_ruleOff_73 : decode cX11_ruleOff 73 = .ok (.ldc2_w 29, 3) := by decide +kernel
theorem dX11_ruleOff_76 : decode cX11_ruleOff 76 = .ok (.lcmp, 1) := by decide +kernel
theorem dX11_ruleOff_77 : decode cX11_ruleOff 77 = .ok (.ifCond .ne 23, 3) := by decide +kernel
theorem dX11_ruleOff_80 : decode cX11_ruleOff 80 = .ok (.aload_n 0, 1) := by decide +kernel
theorem dX11_ruleOff_81 : decode cX11_ruleOff 81 = .ok (.iconst 0, 1) := by decide +kernel
theorem dX11_ruleOff_82 : decode cX11_ruleOff 82 = .ok (.invokevirtual 115, 3) := by decide +kernel
theorem dX11_ruleOff_85 : decode cX11_ruleOff 85 = .ok (.aload_n 0, 1) := by decide +kernel
theorem dX11_ruleOff_86 : decode cX11_ruleOff 86 = .ok (.bipush 6, 2) := by decide +kernel
theorem dX11_ruleOff_88 : decode cX11_ruleOff 88 = .ok (.invokevirtual 72, 3) := by decide +kernel
theorem dX11_ruleOff_91 : decode cX11_ruleOff 91 = .ok (.lcmp, 1) := by decide +kernel
theorem dX11_ruleOff_92 : decode cX11_ruleOff 92 = .ok (.ifCond .lt 8, 3) := by decide +kernel
theorem dX11_ruleOff_95 : decode cX11_ruleOff 95 = .ok (.bipush 10, 2) := by decide +kernel
theorem dX11_ruleOff_97 : decode cX11_ruleOff 97 = .ok (.goto 5, 3) := by decide +kernel
theorem dX11_ruleOff_100 : decode cX11_ruleOff 100 = .ok (.bipush 11, 2) := by decide +kernel
theorem dX11_ruleOff_102 : decode cX11_ruleOff 102 = .ok (.ireturn, 1) := by decide +kernel
theorem dX11_decides_0 : decode cX11_decides 0 = .ok (.aload_n 0, 1) := by decide +kernel
theorem dX11_decides_1 : decode cX11_decides 1 = .ok (.getfield 7, 3) := by decide +kernel
theorem dX11_decides_4 : decode cX11_decides 4 = .ok (.bipush 92, 2) := by decide +kernel
theorem dX11_decides_6 : decode cX11_decides 6 = .ok (.iload_n 1, 1) := by decide +kernel
theorem dX11_decides_7 : decode cX11_decides 7 = .ok (.i2l, 1) := by decide +kernel
theorem dX11_decides_8 : decode cX11_decides 8 = .ok (.lastore, 1) := by decide +kernel
theorem dX11_decides_9 : decode cX11_decides 9 = .ok (.aload_n 0, 1) := by decide +kernel
theorem dX11_decides_10 : decode cX11_decides 10 = .ok (.getfield 7, 3) := by decide +kernel
theorem dX11_decides_13 : decode cX11_decides 13 = .ok (.bipush 93, 2) := by decide +kernel
theorem dX11_decides_15 : decode cX11_decides 15 = .ok (.iload_n 1, 1) := by decide +kernel
theorem dX11_decides_16 : decode cX11_decides 16 = .ok (.iadd, 1) := by decide +kernel
theorem dX11_decides_17 : decode cX11_decides 17 = .ok (.dup2, 1) := by decide +kernel
theorem dX11_decides_18 : decode cX11_decides 18 = .ok (.laload, 1) := by decide +kernel
theorem dX11_decides_19 : decode cX11_decides 19 = .ok (.lconst 1, 1) := by decide +kernel
theorem dX11_decides_20 : decode cX11_decides 20 = .ok (.ladd, 1) := by decide +kernel
theorem dX11_decides_21 : decode cX11_decides 21 = .ok (.lastore, 1) := by decide +kernel
theorem dX11_decides_22 : decode cX11_decides 22 = .ok (.aload_n 0, 1) := by decide +kernel
theorem dX11_decides_23 : decode cX11_decides 23 = .ok (.getfield 7, 3) := by decide +kernel
theorem dX11_decides_26 : decode cX11_decides 26 = .ok (.bipush 114, 2) := by decide +kernel
theorem dX11_decides_28 : decode cX11_decides 28 = .ok (.aload_n 0, 1) := by decide +kernel
theorem dX11_decides_29 : decode cX11_decides 29 = .ok (.getfield 7, 3) := by decide +kernel
theorem dX11_decides_32 : decode cX11_decides 32 = .ok (.bipush 91, 2) := by decide +kernel
theorem dX11_decides_34 : decode cX11_decides 34 = .ok (.laload, 1) := by decide +kernel
theorem dX11_decides_35 : decode cX11_decides 35 = .ok (.ldc2_w 121, 3) := by decide +kernel
theorem dX11_decides_38 : decode cX11_decides 38 = .ok (.lrem, 1) := by decide +kernel
theorem dX11_decides_39 : decode cX11_decides 39 = .ok (.l2i, 1) := by decide +kernel
theorem dX11_decides_40 : decode cX11_decides 40 = .ok (.iadd, 1) := by decide +kernel
theorem dX11_decides_41 : decode cX11_decides 41 = .ok (.iload_n 1, 1) := by decide +kernel
theorem dX11_decides_42 : decode cX11_decides 42 = .ok (.bipush 11, 2) := by decide +kernel
theorem dX11_decides_44 : decode cX11_decides 44 = .ok (.if_icmp .ne 7, 3) := by decide +kernel
theorem dX11_decides_47 : decode cX11_decides 47 = .ok (.lconst 1, 1) := by decide +kernel
theorem dX11_decides_48 : decode cX11_decides 48 = .ok (.goto 4, 3) := by decide +kernel
theorem dX11_decides_51 : decode cX11_decides 51 = .ok (.lconst 0, 1) := by decide +kernel
theorem dX11_decides_52 : decode cX11_decides 52 = .ok (.lastore, 1) := by decide +kernel
theorem dX11_decides_53 : decode cX11_decides 53 = .ok (.iload_n 1, 1) := by decide +kernel
theorem dX11_decides_54 : decode cX11_decides 54 = .ok (.iconst 1, 1) := by decide +kernel
theorem dX11_decides_55 : decode cX11_decides 55 = .ok (.if_icmp .eq 8, 3) := by decide +kernel
theorem dX11_decides_58 : decode cX11_decides 58 = .ok (.iload_n 1, 1) := by decide +kernel
theorem dX11_decides_59 : decode cX11_decides 59 = .ok (.iconst 3, 1) := by decide +kernel
theorem dX11_decides_60 : decode cX11_decides 60 = .ok (.if_icmp .ne 22, 3) := by decide +kernel
theorem dX11_decides_63 : decode cX11_decides 63 = .ok (.aload_n 0, 1) := by decide +kernel
theorem dX11_decides_64 : decode cX11_decides 64 = .ok (.getfield 7, 3) := by decide +kernel
theorem dX11_decides_67 : decode cX11_decides 67 = .ok (.bipush 86, 2) := by decide +kernel
theorem dX11_decides_69 : decode cX11_decides 69 = .ok (.lconst 0, 1) := by decide +kernel
theorem dX11_decides_70 : decode cX11_decides 70 = .ok (.lastore, 1) := by decide +kernel
theorem dX11_decides_71 : decode cX11_decides 71 = .ok (.aload_n 0, 1) := by decide +kernel
theorem dX11_decides_72 : decode cX11_decides 72 = .ok (.getfield 7, 3) := by decide +kernel
theorem dX11_decides_75 : decode cX11_decides 75 = .ok (.bipush 88, 2) := by decide +kernel
theorem dX11_decides_77 : decode cX11_decides 77 = .ok (.lconst 0, 1) := by decide +kernel
theorem dX11_decides_78 : decode cX11_decides 78 = .ok (.lastore, 1) := by decide +kernel
theorem dX11_decides_79 : decode cX11_decides 79 = .ok (.goto 79, 3) := by decide +kernel
theorem dX11_decides_82 : decode cX11_decides 82 = .ok (.iload_n 1, 1) := by decide +kernel
theorem dX11_decides_83 : decode cX11_decides 83 = .ok (.iconst 4, 1) := by decide +kernel
theorem dX11_decides_84 : decode cX11_decides 84 = .ok (.if_icmp .ne 41, 3) := by decide +kernel
theorem dX11_decides_87 : decode cX11_decides 87 = .ok (.aload_n 0, 1) := by decide +kernel
theorem dX11_decides_88 : decode cX11_decides 88 = .ok (.getfield 7, 3) := by decide +kernel
theorem dX11_decides_91 : decode cX11_decides 91 = .ok (.bipush 86, 2) := by decide +kernel
theorem dX11_decides_93 : decode cX11_decides 93 = .ok (.ldc2_w 29, 3) := by decide +kernel
theorem dX11_decides_96 : decode cX11_decides 96 = .ok (.lastore, 1) := by decide +kernel
theorem dX11_decides_97 : decode cX11_decides 97 = .ok (.aload_n 0, 1) := by decide +kernel
theorem dX11_decides_98 : decode cX11_decides 98 = .ok (.getfield 7, 3) := by decide +kernel
theorem dX11_decides_101 : decode cX11_decides 101 = .ok (.bipush 90, 2) := by decide +kernel
theorem dX11_decides_103 : decode cX11_decides 103 = .ok (.aload_n 0, 1) := by decide +kernel
theorem dX11_decides_104 : decode cX11_decides 104 = .ok (.getfield 7, 3) := by decide +kernel
theorem dX11_decides_107 : decode cX11_decides 107 = .ok (.bipush 91, 2) := by decide +kernel
theorem dX11_decides_109 : decode cX11_decides 109 = .ok (.laload, 1) := by decide +kernel
theorem dX11_decides_110 : decode cX11_decides 110 = .ok (.lastore, 1) := by decide +kernel
theorem dX11_decides_111 : decode cX11_decides 111 = .ok (.aload_n 0, 1) := by decide +kernel
theorem dX11_decides_112 : decode cX11_decides 112 = .ok (.getfield 7, 3) := by decide +kernel
theorem dX11_decides_115 : decode cX11_decides 115 = .ok (.bipush 106, 2) := by decide +kernel
theorem dX11_decides_117 : decode cX11_decides 117 = .ok (.dup2, 1) := by decide +kernel
theorem dX11_decides_118 : decode cX11_decides 118 = .ok (.laload, 1) := by decide +kernel
theorem dX11_decides_119 : decode cX11_decides 119 = .ok (.lconst 1, 1) := by decide +kernel
theorem dX11_decides_120 : decode cX11_decides 120 = .ok (.ladd, 1) := by decide +kernel
theorem dX11_decides_121 : decode cX11_decides 121 = .ok (.lastore, 1) := by decide +kernel
theorem dX11_decides_122 : decode cX11_decides 122 = .ok (.goto 36, 3) := by decide +kernel
theorem dX11_decides_125 : decode cX11_decides 125 = .ok (.iload_n 1, 1) := by decide +kernel
theorem dX11_decides_126 : decode cX11_decides 126 = .ok (.bipush 11, 2) := by decide +kernel
theorem dX11_decides_128 : decode cX11_decides 128 = .ok (.if_icmp .ne 30, 3) := by decide +kernel
theorem dX11_decides_131 : decode cX11_decides 131 = .ok (.aload_n 0, 1) := by decide +kernel
theorem dX11_decides_132 : decode cX11_decides 132 = .ok (.getfield 7, 3) := by decide +kernel
theorem dX11_decides_135 : decode cX11_decides 135 = .ok (.bipush 86, 2) := by decide +kernel
theorem dX11_decides_137 : decode cX11_decides 137 = .ok (.lconst 1, 1) := by decide +kernel
theorem dX11_decides_138 : decode cX11_decides 138 = .ok (.lastore, 1) := by decide +kernel
theorem dX11_decides_139 : decode cX11_decides 139 = .ok (.aload_n 0, 1) := by decide +kernel
theorem dX11_decides_140 : decode cX11_decides 140 = .ok (.getfield 7, 3) := by decide +kernel
theorem dX11_decides_143 : decode cX11_decides 143 = .ok (.bipush 87, 2) := by decide +kernel
theorem dX11_decides_145 : decode cX11_decides 145 = .ok (.lconst 0, 1) := by decide +kernel
theorem dX11_decides_146 : decode cX11_decides 146 = .ok (.lastore, 1) := by decide +kernel
theorem dX11_decides_147 : decode cX11_decides 147 = .ok (.aload_n 0, 1) := by decide +kernel
theorem dX11_decides_148 : decode cX11_decides 148 = .ok (.getfield 7, 3) := by decide +kernel
theorem dX11_decides_151 : decode cX11_decides 151 = .ok (.bipush 105, 2) := by decide +kernel
theorem dX11_decides_153 : decode cX11_decides 153 = .ok (.dup2, 1) := by decide +kernel
theorem dX11_decides_154 : decode cX11_decides 154 = .ok (.laload, 1) := by decide +kernel
theorem dX11_decides_155 : decode cX11_decides 155 = .ok (.lconst 1, 1) := by decide +kernel
theorem dX11_decides_156 : decode cX11_decides 156 = .ok (.ladd, 1) := by decide +kernel
theorem dX11_decides_157 : decode cX11_decides 157 = .ok (.lastore, 1) := by decide +kernel
theorem dX11_decides_158 : decode cX11_decides 158 = .ok (.return_, 1) := by decide +kernel
set_option maxRecDepth 20000 in
theorem ggX11_produces_X11_set1 : GoodIn wsX11_produces wsX11_set1 := goodIn_r _ [16, 1, 24, 25, 26, 27, 28, 29, 30, 31, 32, 33] (by decide +kernel) (by decide +kernel)
set_option maxRecDepth 20000 in
theorem gX11_produces_X11_set1 : GoodIn wsX11_produces (wsV RX11 72 RX11 yX11_set1 wsX11_set1) := goodIn_app (goodIn_of _ (by decide +kernel)) ggX11_produces_X11_set1
set_option maxRecDepth 20000 in
theorem ggX11_produces_X11_div : GoodIn wsX11_produces wsX11_div := goodIn_r _ [19] (by decide +kernel) (by decide +kernel)
set_option maxRecDepth 20000 in
theorem gX11_produces_X11_div : GoodIn wsX11_produces (va_wsS RX11 84 yX11_div wsX11_div) := goodIn_app (goodIn_of _ (by decide +kernel)) ggX11_produces_X11_div
set_option maxRecDepth 20000 in
theorem ggX11_produces_X11_warmth : GoodIn wsX11_produces wsX11_warmth := goodIn_r _ [23, 1, 17, 18, 15, 19, 24, 25, 26, 27, 28, 29, 30, 31, 32, 33] (by decide +kernel) (by decide +kernel)
set_option maxRecDepth 20000 in
theorem gX11_produces_X11_warmth : GoodIn wsX11_produces (wsV RX11 115 RX11 yX11_warmth wsX11_warmth) := goodIn_app (goodIn_of _ (by decide +kernel)) ggX11_produces_X11_warmth
theorem dX11_produces_0 : decode cX11_produces 0 = .ok (.lconst 0, 1) := by decide +kernel
theorem dX11_produces_1 : decode cX11_produces 1 = .ok (.lstore 5, 2) := by decide +kernel
theorem dX11_produces_3 : decode cX11_produces 3 = .ok (.aload_n 0, 1) := by decide +kernel
theorem dX11_produces_4 : decode cX11_produces 4 = .ok (.getfield 7, 3) := by decide +kernel
theorem dX11_produces_7 : decode cX11_produces 7 = .ok (.bipush 86, 2) := by decide +kernel
theorem dX11_produces_9 : decode cX11_produces 9 = .ok (.laload, 1) := by decide +kernel
theorem dX11_produces_10 : decode cX11_produces 10 = .ok (.lconst 1, 1) := by decide +kernel
theorem dX11_produces_11 : decode cX11_produces 11 = .ok (.lcmp, 1) := by decide +kernel
theorem dX11_produces_12 : decode cX11_produces 12 = .ok (.ifCond .ne 185, 3) := by decide +kernel
theorem dX11_produces_15 : decode cX11_produces 15 = .ok (.aload_n 0, 1) := by decide +kernel
theorem dX11_produces_16 : decode cX11_produces 16 = .ok (.bipush 7, 2) := by decide +kernel
theorem dX11_produces_18 : decode cX11_produces 18 = .ok (.invokevirtual 72, 3) := by decide +kernel
theorem dX11_produces_21 : decode cX11_produces 21 = .ok (.aload_n 0, 1) := by decide +kernel
theorem dX11_produces_22 : decode cX11_produces 22 = .ok (.bipush 8, 2) := by decide +kernel
theorem dX11_produces_24 : decode cX11_produces 24 = .ok (.invokevirtual 72, 3) := by decide +kernel
theorem dX11_produces_27 : decode cX11_produces 27 = .ok (.lload_n 1, 1) := by decide +kernel
theorem dX11_produces_28 : decode cX11_produces 28 = .ok (.lmul, 1) := by decide +kernel
theorem dX11_produces_29 : decode cX11_produces 29 = .ok (.ldc2_w 23, 3) := by decide +kernel
theorem dX11_produces_32 : decode cX11_produces 32 = .ok (.invokestatic 84, 3) := by decide +kernel
theorem dX11_produces_35 : decode cX11_produces 35 = .ok (.ladd, 1) := by decide +kernel
theorem dX11_produces_36 : decode cX11_produces 36 = .ok (.lstore 7, 2) := by decide +kernel
theorem dX11_produces_38 : decode cX11_produces 38 = .ok (.lload 7, 2) := by decide +kernel
theorem dX11_produces_40 : decode cX11_produces 40 = .ok (.ldc2_w 123, 3) := by decide +kernel
theorem dX11_produces_43 : decode cX11_produces 43 = .ok (.lcmp, 1) := by decide +kernel
theorem dX11_produces_44 : decode cX11_produces 44 = .ok (.ifCond .ge 9, 3) := by decide +kernel
theorem dX11_produces_47 : decode cX11_produces 47 = .ok (.ldc2_w 123, 3) := by decide +kernel
theorem dX11_produces_50 : decode cX11_produces 50 = .ok (.goto 5, 3) := by decide +kernel
theorem dX11_produces_53 : decode cX11_produces 53 = .ok (.lload 7, 2) := by decide +kernel
theorem dX11_produces_55 : decode cX11_produces 55 = .ok (.lstore 7, 2) := by decide +kernel
theorem dX11_produces_57 : decode cX11_produces 57 = .ok (.ldc2_w 125, 3) := by decide +kernel
theorem dX11_produces_60 : decode cX11_produces 60 = .ok (.ldc2_w 127, 3) := by decide +kernel
theorem dX11_produces_63 : decode cX11_produces 63 = .ok (.lload_n 1, 1) := by decide +kernel
theorem dX11_produces_64 : decode cX11_produces 64 = .ok (.ldc2_w 23, 3) := by decide +kernel
theorem dX11_produces_67 : decode cX11_produces 67 = .ok (.invokestatic 84, 3) := by decide +kernel
theorem dX11_produces_70 : decode cX11_produces 70 = .ok (.lmul, 1) := by decide +kernel
theorem dX11_produces_71 : decode cX11_produces 71 = .ok (.ladd, 1) := by decide +kernel
theorem dX11_produces_72 : decode cX11_produces 72 = .ok (.ldc2_w 129, 3) := by decide +kernel
theorem dX11_produces_75 : decode cX11_produces 75 = .ok (.aload_n 0, 1) := by decide +kernel
theorem dX11_produces_76 : decode cX11_produces 76 = .ok (.iconst 3, 1) := by decide +kernel
theorem dX11_produces_77 : decode cX11_produces 77 = .ok (.invokevirtual 115, 3) := by decide +kernel
theorem dX11_produces_80 : decode cX11_produces 80 = .ok (.ldc2_w 131, 3) := by decide +kernel
theorem dX11_produces_83 : decode cX11_produces 83 = .ok (.lsub, 1) := by decide +kernel
theorem dX11_produces_84 : decode cX11_produces 84 = .ok (.ldc2_w 23, 3) := by decide +kernel
theorem dX11_produces_87 : decode cX11_produces 87 = .ok (.invokestatic 84, 3) := by decide +kernel
theorem dX11_produces_90 : decode cX11_produces 90 = .ok (.lmul, 1) := by decide +kernel
theorem dX11_produces_91 : decode cX11_produces 91 = .ok (.lsub, 1) := by decide +kernel
theorem dX11_produces_92 : decode cX11_produces 92 = .ok (.lstore 9, 2) := by decide +kernel
theorem dX11_produces_94 : decode cX11_produces 94 = .ok (.lload 9, 2) := by decide +kernel
theorem dX11_produces_96 : decode cX11_produces 96 = .ok (.ldc2_w 107, 3) := by decide +kernel
theorem dX11_produces_99 : decode cX11_produces 99 = .ok (.lcmp, 1) := by decide +kernel
theorem dX11_produces_100 : decode cX11_produces 100 = .ok (.ifCond .ge 9, 3) := by decide +kernel
theorem dX11_produces_103 : decode cX11_produces 103 = .ok (.ldc2_w 107, 3) := by decide +kernel
theorem dX11_produces_106 : decode cX11_produces 106 = .ok (.goto 20, 3) := by decide +kernel
theorem dX11_produces_109 : decode cX11_produces 109 = .ok (.lload 9, 2) := by decide +kernel
theorem dX11_produces_111 : decode cX11_produces 111 = .ok (.ldc2_w 111, 3) := by decide +kernel
theorem dX11_produces_114 : decode cX11_produces 114 = .ok (.lcmp, 1) := by decide +kernel
theorem dX11_produces_115 : decode cX11_produces 115 = .ok (.ifCond .le 9, 3) := by decide +kernel
theorem dX11_produces_118 : decode cX11_produces 118 = .ok (.ldc2_w 111, 3) := by decide +kernel
theorem dX11_produces_121 : decode cX11_produces 121 = .ok (.goto 5, 3) := by decide +kernel
theorem dX11_produces_124 : decode cX11_produces 124 = .ok (.lload 9, 2) := by decide +kernel
theorem dX11_produces_126 : decode cX11_produces 126 = .ok (.lstore 9, 2) := by decide +kernel
theorem dX11_produces_128 : decode cX11_produces 128 = .ok (.lload 7, 2) := by decide +kernel
theorem dX11_produces_130 : decode cX11_produces 130 = .ok (.ldc2_w 107, 3) := by decide +kernel
theorem dX11_produces_133 : decode cX11_produces 133 = .ok (.lmul, 1) := by decide +kernel
theorem dX11_produces_134 : decode cX11_produces 134 = .ok (.lload 9, 2) := by decide +kernel
theorem dX11_produces_136 : decode cX11_produces 136 = .ok (.ladd, 1) := by decide +kernel
theorem dX11_produces_137 : decode cX11_produces 137 = .ok (.lconst 1, 1) := by decide +kernel
theorem dX11_produces_138 : decode cX11_produces 138 = .ok (.lsub, 1) := by decide +kernel
theorem dX11_produces_139 : decode cX11_produces 139 = .ok (.lload 9, 2) := by decide +kernel
theorem dX11_produces_141 : decode cX11_produces 141 = .ok (.ldiv, 1) := by decide +kernel
theorem dX11_produces_142 : decode cX11_produces 142 = .ok (.lstore 5, 2) := by decide +kernel
theorem dX11_produces_144 : decode cX11_produces 144 = .ok (.aload_n 0, 1) := by decide +kernel
theorem dX11_produces_145 : decode cX11_produces 145 = .ok (.getfield 7, 3) := by decide +kernel
theorem dX11_produces_148 : decode cX11_produces 148 = .ok (.bipush 85, 2) := by decide +kernel
theorem dX11_produces_150 : decode cX11_produces 150 = .ok (.dup2, 1) := by decide +kernel
theorem dX11_produces_151 : decode cX11_produces 151 = .ok (.laload, 1) := by decide +kernel
theorem dX11_produces_152 : decode cX11_produces 152 = .ok (.lload 7, 2) := by decide +kernel
theorem dX11_produces_154 : decode cX11_produces 154 = .ok (.ladd, 1) := by decide +kernel
theorem dX11_produces_155 : decode cX11_produces 155 = .ok (.lastore, 1) := by decide +kernel
theorem dX11_produces_156 : decode cX11_produces 156 = .ok (.aload_n 0, 1) := by decide +kernel
theorem dX11_produces_157 : decode cX11_produces 157 = .ok (.getfield 7, 3) := by decide +kernel
theorem dX11_produces_160 : decode cX11_produces 160 = .ok (.bipush 107, 2) := by decide +kernel
theorem dX11_produces_162 : decode cX11_produces 162 = .ok (.dup2, 1) := by decide +kernel
theorem dX11_produces_163 : decode cX11_produces 163 = .ok (.laload, 1) := by decide +kernel
theorem dX11_produces_164 : decode cX11_produces 164 = .ok (.lload 7, 2) := by decide +kernel
theorem dX11_produces_166 : decode cX11_produces 166 = .ok (.ladd, 1) := by decide +kernel
theorem dX11_produces_167 : decode cX11_produces 167 = .ok (.lastore, 1) := by decide +kernel
theorem dX11_produces_168 : decode cX11_produces 168 = .ok (.aload_n 0, 1) := by decide +kernel
theorem dX11_produces_169 : decode cX11_produces 169 = .ok (.getfield 7, 3) := by decide +kernel
theorem dX11_produces_172 : decode cX11_produces 172 = .ok (.bipush 89, 2) := by decide +kernel
theorem dX11_produces_174 : decode cX11_produces 174 = .ok (.dup2, 1) := by decide +kernel
theorem dX11_produces_175 : decode cX11_produces 175 = .ok (.laload, 1) := by decide +kernel
theorem dX11_produces_176 : decode cX11_produces 176 = .ok (.lload_n 1, 1) := by decide +kernel
theorem dX11_produces_177 : decode cX11_produces 177 = .ok (.aload_n 0, 1) := by decide +kernel
theorem dX11_produces_178 : decode cX11_produces 178 = .ok (.bipush 9, 2) := by decide +kernel
theorem dX11_produces_180 : decode cX11_produces 180 = .ok (.invokevirtual 72, 3) := by decide +kernel
theorem dX11_produces_183 : decode cX11_produces 183 = .ok (.lcmp, 1) := by decide +kernel
theorem dX11_produces_184 : decode cX11_produces 184 = .ok (.ifCond .ge 7, 3) := by decide +kernel
theorem dX11_produces_187 : decode cX11_produces 187 = .ok (.lconst 1, 1) := by decide +kernel
theorem dX11_produces_188 : decode cX11_produces 188 = .ok (.goto 4, 3) := by decide +kernel
theorem dX11_produces_191 : decode cX11_produces 191 = .ok (.lconst 0, 1) := by decide +kernel
theorem dX11_produces_192 : decode cX11_produces 192 = .ok (.ladd, 1) := by decide +kernel
theorem dX11_produces_193 : decode cX11_produces 193 = .ok (.lastore, 1) := by decide +kernel
theorem dX11_produces_194 : decode cX11_produces 194 = .ok (.goto 54, 3) := by decide +kernel
theorem dX11_produces_197 : decode cX11_produces 197 = .ok (.aload_n 0, 1) := by decide +kernel
theorem dX11_produces_198 : decode cX11_produces 198 = .ok (.getfield 7, 3) := by decide +kernel
theorem dX11_produces_201 : decode cX11_produces 201 = .ok (.bipush 86, 2) := by decide +kernel
theorem dX11_produces_203 : decode cX11_produces 203 = .ok (.laload, 1) := by decide +kernel
theorem dX11_produces_204 : decode cX11_produces 204 = .ok (.ldc2_w 29, 3) := by decide +kernel
theorem dX11_produces_207 : decode cX11_produces 207 = .ok (.lcmp, 1) := by decide +kernel
theorem dX11_produces_208 : decode cX11_produces 208 = .ok (.ifCond .ne 40, 3) := by decide +kernel
theorem dX11_produces_211 : decode cX11_produces 211 = .ok (.aload_n 0, 1) := by decide +kernel
theorem dX11_produces_212 : decode cX11_produces 212 = .ok (.getfield 7, 3) := by decide +kernel
theorem dX11_produces_215 : decode cX11_produces 215 = .ok (.bipush 85, 2) := by decide +kernel
theorem dX11_produces_217 : decode cX11_produces 217 = .ok (.dup2, 1) := by decide +kernel
